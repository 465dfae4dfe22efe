section
-- ===== PART A: goes FIRST, ahead of the names: the tables' words, and 'selects' of the private methods out of them =====
/-- a private method of a class that the tables say can be made, by its rows of tables_1 -/
def lw_okq (q : MethodName × Nat) : Prop := (q.1.cls ≠ "java/lang/invoke/MethodHandle" ∧ q.1.cls ≠ "java/lang/invoke/VarHandle") ∧ Cond.instantiable q.1.cls q.2 ∈ tables_1 ∧ Cond.privateMethod q.1 ∈ tables_1 ∧ Cond.instanceMethod q.1 ∈ tables_1
theorem lw_p0 : lw_okq (⟨"WheelMemory$Reader", "next", "()V"⟩, 8) := ⟨⟨by decide +kernel, by decide +kernel⟩, List.mem_of_getElem? (i := 29) (by decide +kernel), List.mem_of_getElem? (i := 415) (by decide +kernel), List.mem_of_getElem? (i := 416) (by decide +kernel)⟩
theorem lw_p1 : lw_okq (⟨"WheelMemory$Reader", "passLetters", "()V"⟩, 8) := ⟨⟨by decide +kernel, by decide +kernel⟩, List.mem_of_getElem? (i := 29) (by decide +kernel), List.mem_of_getElem? (i := 429) (by decide +kernel), List.mem_of_getElem? (i := 430) (by decide +kernel)⟩
theorem lw_p2 : lw_okq (⟨"WheelMemory$Reader", "passDigits", "()V"⟩, 8) := ⟨⟨by decide +kernel, by decide +kernel⟩, List.mem_of_getElem? (i := 29) (by decide +kernel), List.mem_of_getElem? (i := 436) (by decide +kernel), List.mem_of_getElem? (i := 437) (by decide +kernel)⟩
theorem lw_p3 : lw_okq (⟨"WheelMemory$Reader", "readLine", "()V"⟩, 8) := ⟨⟨by decide +kernel, by decide +kernel⟩, List.mem_of_getElem? (i := 29) (by decide +kernel), List.mem_of_getElem? (i := 444) (by decide +kernel), List.mem_of_getElem? (i := 445) (by decide +kernel)⟩
theorem lw_p4 : lw_okq (⟨"WheelMemory$Reader", "readLand", "()V"⟩, 8) := ⟨⟨by decide +kernel, by decide +kernel⟩, List.mem_of_getElem? (i := 29) (by decide +kernel), List.mem_of_getElem? (i := 448) (by decide +kernel), List.mem_of_getElem? (i := 449) (by decide +kernel)⟩
theorem lw_p5 : lw_okq (⟨"WheelMemory$Reader", "passWord", "(Ljava/lang/String;)V"⟩, 8) := ⟨⟨by decide +kernel, by decide +kernel⟩, List.mem_of_getElem? (i := 29) (by decide +kernel), List.mem_of_getElem? (i := 453) (by decide +kernel), List.mem_of_getElem? (i := 454) (by decide +kernel)⟩
theorem lw_p6 : lw_okq (⟨"WheelMemory$Reader", "isWord", "(Ljava/lang/String;)Z"⟩, 8) := ⟨⟨by decide +kernel, by decide +kernel⟩, List.mem_of_getElem? (i := 29) (by decide +kernel), List.mem_of_getElem? (i := 457) (by decide +kernel), List.mem_of_getElem? (i := 458) (by decide +kernel)⟩
theorem lw_p7 : lw_okq (⟨"WheelMemory$Reader", "fail", "(I)V"⟩, 8) := ⟨⟨by decide +kernel, by decide +kernel⟩, List.mem_of_getElem? (i := 29) (by decide +kernel), List.mem_of_getElem? (i := 509) (by decide +kernel), List.mem_of_getElem? (i := 510) (by decide +kernel)⟩
theorem lw_p8 : lw_okq (⟨"WheelMemory$Reader", "passNumber", "(II)I"⟩, 8) := ⟨⟨by decide +kernel, by decide +kernel⟩, List.mem_of_getElem? (i := 29) (by decide +kernel), List.mem_of_getElem? (i := 514) (by decide +kernel), List.mem_of_getElem? (i := 515) (by decide +kernel)⟩
theorem lw_p9 : lw_okq (⟨"WheelMemory$Reader", "readRoad", "()V"⟩, 8) := ⟨⟨by decide +kernel, by decide +kernel⟩, List.mem_of_getElem? (i := 29) (by decide +kernel), List.mem_of_getElem? (i := 520) (by decide +kernel), List.mem_of_getElem? (i := 521) (by decide +kernel)⟩
theorem lw_p10 : lw_okq (⟨"WheelMemory$Reader", "readWheel", "()V"⟩, 8) := ⟨⟨by decide +kernel, by decide +kernel⟩, List.mem_of_getElem? (i := 29) (by decide +kernel), List.mem_of_getElem? (i := 531) (by decide +kernel), List.mem_of_getElem? (i := 532) (by decide +kernel)⟩
theorem lw_p11 : lw_okq (⟨"WheelMemory$Reader", "readCart", "()V"⟩, 8) := ⟨⟨by decide +kernel, by decide +kernel⟩, List.mem_of_getElem? (i := 29) (by decide +kernel), List.mem_of_getElem? (i := 546) (by decide +kernel), List.mem_of_getElem? (i := 547) (by decide +kernel)⟩
theorem lw_p12 : lw_okq (⟨"WheelMemory$Reader", "readSeat", "(I)V"⟩, 8) := ⟨⟨by decide +kernel, by decide +kernel⟩, List.mem_of_getElem? (i := 29) (by decide +kernel), List.mem_of_getElem? (i := 556) (by decide +kernel), List.mem_of_getElem? (i := 557) (by decide +kernel)⟩
theorem lw_p13 : lw_okq (⟨"WheelMemory$Reader", "readErrand", "()V"⟩, 8) := ⟨⟨by decide +kernel, by decide +kernel⟩, List.mem_of_getElem? (i := 29) (by decide +kernel), List.mem_of_getElem? (i := 565) (by decide +kernel), List.mem_of_getElem? (i := 566) (by decide +kernel)⟩
theorem lw_p14 : lw_okq (⟨"WheelMemory", "canWant", "(II)Z"⟩, 11) := ⟨⟨by decide +kernel, by decide +kernel⟩, List.mem_of_getElem? (i := 21) (by decide +kernel), List.mem_of_getElem? (i := 668) (by decide +kernel), List.mem_of_getElem? (i := 669) (by decide +kernel)⟩
theorem lw_p15 : lw_okq (⟨"WheelMemory", "isByCart", "(II)Z"⟩, 11) := ⟨⟨by decide +kernel, by decide +kernel⟩, List.mem_of_getElem? (i := 21) (by decide +kernel), List.mem_of_getElem? (i := 672) (by decide +kernel), List.mem_of_getElem? (i := 673) (by decide +kernel)⟩
def lw_privs_1 : List (MethodName × Nat) := [(⟨"WheelMemory$Reader", "next", "()V"⟩, 8), (⟨"WheelMemory$Reader", "passLetters", "()V"⟩, 8), (⟨"WheelMemory$Reader", "passDigits", "()V"⟩, 8), (⟨"WheelMemory$Reader", "readLine", "()V"⟩, 8), (⟨"WheelMemory$Reader", "readLand", "()V"⟩, 8), (⟨"WheelMemory$Reader", "passWord", "(Ljava/lang/String;)V"⟩, 8), (⟨"WheelMemory$Reader", "isWord", "(Ljava/lang/String;)Z"⟩, 8), (⟨"WheelMemory$Reader", "fail", "(I)V"⟩, 8), (⟨"WheelMemory$Reader", "passNumber", "(II)I"⟩, 8), (⟨"WheelMemory$Reader", "readRoad", "()V"⟩, 8), (⟨"WheelMemory$Reader", "readWheel", "()V"⟩, 8), (⟨"WheelMemory$Reader", "readCart", "()V"⟩, 8), (⟨"WheelMemory$Reader", "readSeat", "(I)V"⟩, 8), (⟨"WheelMemory$Reader", "readErrand", "()V"⟩, 8), (⟨"WheelMemory", "canWant", "(II)Z"⟩, 11), (⟨"WheelMemory", "isByCart", "(II)Z"⟩, 11)]
theorem lw_r1 : ∀ q ∈ lw_privs_1, lw_okq q := List.forall_mem_cons.mpr ⟨lw_p0, List.forall_mem_cons.mpr ⟨lw_p1, List.forall_mem_cons.mpr ⟨lw_p2, List.forall_mem_cons.mpr ⟨lw_p3, List.forall_mem_cons.mpr ⟨lw_p4, List.forall_mem_cons.mpr ⟨lw_p5, List.forall_mem_cons.mpr ⟨lw_p6, List.forall_mem_cons.mpr ⟨lw_p7, List.forall_mem_cons.mpr ⟨lw_p8, List.forall_mem_cons.mpr ⟨lw_p9, List.forall_mem_cons.mpr ⟨lw_p10, List.forall_mem_cons.mpr ⟨lw_p11, List.forall_mem_cons.mpr ⟨lw_p12, List.forall_mem_cons.mpr ⟨lw_p13, List.forall_mem_cons.mpr ⟨lw_p14, List.forall_mem_cons.mpr ⟨lw_p15, fun _ h => absurd h List.not_mem_nil⟩⟩⟩⟩⟩⟩⟩⟩⟩⟩⟩⟩⟩⟩⟩⟩
theorem lw_p16 : lw_okq (⟨"WheelMemory$World", "perform", "(III)V"⟩, 6) := ⟨⟨by decide +kernel, by decide +kernel⟩, List.mem_of_getElem? (i := 199) (by decide +kernel), List.mem_of_getElem? (i := 715) (by decide +kernel), List.mem_of_getElem? (i := 716) (by decide +kernel)⟩
theorem lw_p17 : lw_okq (⟨"WheelMemory", "follow", "(II)I"⟩, 11) := ⟨⟨by decide +kernel, by decide +kernel⟩, List.mem_of_getElem? (i := 21) (by decide +kernel), List.mem_of_getElem? (i := 772) (by decide +kernel), List.mem_of_getElem? (i := 773) (by decide +kernel)⟩
theorem lw_p18 : lw_okq (⟨"WheelMemory", "leastMiles", "(II)I"⟩, 11) := ⟨⟨by decide +kernel, by decide +kernel⟩, List.mem_of_getElem? (i := 21) (by decide +kernel), List.mem_of_getElem? (i := 819) (by decide +kernel), List.mem_of_getElem? (i := 820) (by decide +kernel)⟩
theorem lw_p19 : lw_okq (⟨"WheelMemory$Search", "spread", "(III)V"⟩, 10) := ⟨⟨by decide +kernel, by decide +kernel⟩, List.mem_of_getElem? (i := 289) (by decide +kernel), List.mem_of_getElem? (i := 829) (by decide +kernel), List.mem_of_getElem? (i := 830) (by decide +kernel)⟩
theorem lw_p20 : lw_okq (⟨"WheelMemory$Search", "lookFrom", "(LWheelMemory$Land;II)V"⟩, 10) := ⟨⟨by decide +kernel, by decide +kernel⟩, List.mem_of_getElem? (i := 289) (by decide +kernel), List.mem_of_getElem? (i := 843) (by decide +kernel), List.mem_of_getElem? (i := 844) (by decide +kernel)⟩
theorem lw_p21 : lw_okq (⟨"WheelMemory$Search", "keepIfBetter", "(II)V"⟩, 10) := ⟨⟨by decide +kernel, by decide +kernel⟩, List.mem_of_getElem? (i := 289) (by decide +kernel), List.mem_of_getElem? (i := 847) (by decide +kernel), List.mem_of_getElem? (i := 848) (by decide +kernel)⟩
theorem lw_p22 : lw_okq (⟨"WheelMemory$Search", "lookBy", "(LWheelMemory$Land;III)V"⟩, 10) := ⟨⟨by decide +kernel, by decide +kernel⟩, List.mem_of_getElem? (i := 289) (by decide +kernel), List.mem_of_getElem? (i := 855) (by decide +kernel), List.mem_of_getElem? (i := 856) (by decide +kernel)⟩
theorem lw_p23 : lw_okq (⟨"WheelMemory", "chooseWheels", "(II)I"⟩, 11) := ⟨⟨by decide +kernel, by decide +kernel⟩, List.mem_of_getElem? (i := 21) (by decide +kernel), List.mem_of_getElem? (i := 887) (by decide +kernel), List.mem_of_getElem? (i := 888) (by decide +kernel)⟩
theorem lw_p24 : lw_okq (⟨"WheelMemory", "freeWheels", "()I"⟩, 11) := ⟨⟨by decide +kernel, by decide +kernel⟩, List.mem_of_getElem? (i := 21) (by decide +kernel), List.mem_of_getElem? (i := 891) (by decide +kernel), List.mem_of_getElem? (i := 892) (by decide +kernel)⟩
theorem lw_p25 : lw_okq (⟨"WheelMemory", "meetIn", "(II)I"⟩, 11) := ⟨⟨by decide +kernel, by decide +kernel⟩, List.mem_of_getElem? (i := 21) (by decide +kernel), List.mem_of_getElem? (i := 927) (by decide +kernel), List.mem_of_getElem? (i := 928) (by decide +kernel)⟩
theorem lw_p26 : lw_okq (⟨"WheelMemory", "fitting", "(I)I"⟩, 11) := ⟨⟨by decide +kernel, by decide +kernel⟩, List.mem_of_getElem? (i := 21) (by decide +kernel), List.mem_of_getElem? (i := 943) (by decide +kernel), List.mem_of_getElem? (i := 944) (by decide +kernel)⟩
theorem lw_p27 : lw_okq (⟨"WheelMemory", "votersOf", "(II)I"⟩, 11) := ⟨⟨by decide +kernel, by decide +kernel⟩, List.mem_of_getElem? (i := 21) (by decide +kernel), List.mem_of_getElem? (i := 947) (by decide +kernel), List.mem_of_getElem? (i := 948) (by decide +kernel)⟩
theorem lw_p28 : lw_okq (⟨"WheelMemory", "placeToAsk", "(I)I"⟩, 11) := ⟨⟨by decide +kernel, by decide +kernel⟩, List.mem_of_getElem? (i := 21) (by decide +kernel), List.mem_of_getElem? (i := 959) (by decide +kernel), List.mem_of_getElem? (i := 960) (by decide +kernel)⟩
theorem lw_p29 : lw_okq (⟨"WheelMemory", "worstAt", "(II)I"⟩, 11) := ⟨⟨by decide +kernel, by decide +kernel⟩, List.mem_of_getElem? (i := 21) (by decide +kernel), List.mem_of_getElem? (i := 963) (by decide +kernel), List.mem_of_getElem? (i := 964) (by decide +kernel)⟩
theorem lw_p30 : lw_okq (⟨"WheelMemory", "agreements", "(II)I"⟩, 11) := ⟨⟨by decide +kernel, by decide +kernel⟩, List.mem_of_getElem? (i := 21) (by decide +kernel), List.mem_of_getElem? (i := 990) (by decide +kernel), List.mem_of_getElem? (i := 991) (by decide +kernel)⟩
theorem lw_p31 : lw_okq (⟨"WheelMemory", "greasedSet", "(II)I"⟩, 11) := ⟨⟨by decide +kernel, by decide +kernel⟩, List.mem_of_getElem? (i := 21) (by decide +kernel), List.mem_of_getElem? (i := 1007) (by decide +kernel), List.mem_of_getElem? (i := 1008) (by decide +kernel)⟩
def lw_privs_2 : List (MethodName × Nat) := [(⟨"WheelMemory$World", "perform", "(III)V"⟩, 6), (⟨"WheelMemory", "follow", "(II)I"⟩, 11), (⟨"WheelMemory", "leastMiles", "(II)I"⟩, 11), (⟨"WheelMemory$Search", "spread", "(III)V"⟩, 10), (⟨"WheelMemory$Search", "lookFrom", "(LWheelMemory$Land;II)V"⟩, 10), (⟨"WheelMemory$Search", "keepIfBetter", "(II)V"⟩, 10), (⟨"WheelMemory$Search", "lookBy", "(LWheelMemory$Land;III)V"⟩, 10), (⟨"WheelMemory", "chooseWheels", "(II)I"⟩, 11), (⟨"WheelMemory", "freeWheels", "()I"⟩, 11), (⟨"WheelMemory", "meetIn", "(II)I"⟩, 11), (⟨"WheelMemory", "fitting", "(I)I"⟩, 11), (⟨"WheelMemory", "votersOf", "(II)I"⟩, 11), (⟨"WheelMemory", "placeToAsk", "(I)I"⟩, 11), (⟨"WheelMemory", "worstAt", "(II)I"⟩, 11), (⟨"WheelMemory", "agreements", "(II)I"⟩, 11), (⟨"WheelMemory", "greasedSet", "(II)I"⟩, 11)]
theorem lw_r2 : ∀ q ∈ lw_privs_2, lw_okq q := List.forall_mem_cons.mpr ⟨lw_p16, List.forall_mem_cons.mpr ⟨lw_p17, List.forall_mem_cons.mpr ⟨lw_p18, List.forall_mem_cons.mpr ⟨lw_p19, List.forall_mem_cons.mpr ⟨lw_p20, List.forall_mem_cons.mpr ⟨lw_p21, List.forall_mem_cons.mpr ⟨lw_p22, List.forall_mem_cons.mpr ⟨lw_p23, List.forall_mem_cons.mpr ⟨lw_p24, List.forall_mem_cons.mpr ⟨lw_p25, List.forall_mem_cons.mpr ⟨lw_p26, List.forall_mem_cons.mpr ⟨lw_p27, List.forall_mem_cons.mpr ⟨lw_p28, List.forall_mem_cons.mpr ⟨lw_p29, List.forall_mem_cons.mpr ⟨lw_p30, List.forall_mem_cons.mpr ⟨lw_p31, fun _ h => absurd h List.not_mem_nil⟩⟩⟩⟩⟩⟩⟩⟩⟩⟩⟩⟩⟩⟩⟩⟩
theorem lw_p32 : lw_okq (⟨"WheelMemory", "cutShare", "(IIII)I"⟩, 11) := ⟨⟨by decide +kernel, by decide +kernel⟩, List.mem_of_getElem? (i := 21) (by decide +kernel), List.mem_of_getElem? (i := 1023) (by decide +kernel), List.mem_of_getElem? (i := 1024) (by decide +kernel)⟩
theorem lw_p33 : lw_okq (⟨"WheelMemory$Game", "bestPick", "(IZ)I"⟩, 3) := ⟨⟨by decide +kernel, by decide +kernel⟩, List.mem_of_getElem? (i := 333) (by decide +kernel), List.mem_of_getElem? (i := 1046) (by decide +kernel), List.mem_of_getElem? (i := 1047) (by decide +kernel)⟩
theorem lw_p34 : lw_okq (⟨"WheelMemory$Game", "picked", "(IIZ)I"⟩, 3) := ⟨⟨by decide +kernel, by decide +kernel⟩, List.mem_of_getElem? (i := 333) (by decide +kernel), List.mem_of_getElem? (i := 1050) (by decide +kernel), List.mem_of_getElem? (i := 1051) (by decide +kernel)⟩
theorem lw_p35 : lw_okq (⟨"WheelMemory", "canDraw", "(III)Z"⟩, 11) := ⟨⟨by decide +kernel, by decide +kernel⟩, List.mem_of_getElem? (i := 21) (by decide +kernel), List.mem_of_getElem? (i := 1070) (by decide +kernel), List.mem_of_getElem? (i := 1071) (by decide +kernel)⟩
theorem lw_p36 : lw_okq (⟨"WheelMemory", "drawDrives", "(III)V"⟩, 11) := ⟨⟨by decide +kernel, by decide +kernel⟩, List.mem_of_getElem? (i := 21) (by decide +kernel), List.mem_of_getElem? (i := 1075) (by decide +kernel), List.mem_of_getElem? (i := 1076) (by decide +kernel)⟩
theorem lw_p37 : lw_okq (⟨"WheelMemoryModel", "advance", "()V"⟩, 38) := ⟨⟨by decide +kernel, by decide +kernel⟩, List.mem_of_getElem? (i := 1155) (by decide +kernel), List.mem_of_getElem? (i := 1303) (by decide +kernel), List.mem_of_getElem? (i := 1304) (by decide +kernel)⟩
theorem lw_p38 : lw_okq (⟨"WheelMemoryModel", "see", "(I)I"⟩, 38) := ⟨⟨by decide +kernel, by decide +kernel⟩, List.mem_of_getElem? (i := 1155) (by decide +kernel), List.mem_of_getElem? (i := 1307) (by decide +kernel), List.mem_of_getElem? (i := 1308) (by decide +kernel)⟩
theorem lw_p39 : lw_okq (⟨"WheelMemoryModel", "good", "()Z"⟩, 38) := ⟨⟨by decide +kernel, by decide +kernel⟩, List.mem_of_getElem? (i := 1155) (by decide +kernel), List.mem_of_getElem? (i := 1317) (by decide +kernel), List.mem_of_getElem? (i := 1318) (by decide +kernel)⟩
theorem lw_p40 : lw_okq (⟨"WheelMemoryModel", "readLine", "()V"⟩, 38) := ⟨⟨by decide +kernel, by decide +kernel⟩, List.mem_of_getElem? (i := 1155) (by decide +kernel), List.mem_of_getElem? (i := 1321) (by decide +kernel), List.mem_of_getElem? (i := 1322) (by decide +kernel)⟩
theorem lw_p41 : lw_okq (⟨"WheelMemoryModel", "needs", "(Ljava/lang/String;)V"⟩, 38) := ⟨⟨by decide +kernel, by decide +kernel⟩, List.mem_of_getElem? (i := 1155) (by decide +kernel), List.mem_of_getElem? (i := 1326) (by decide +kernel), List.mem_of_getElem? (i := 1327) (by decide +kernel)⟩
theorem lw_p42 : lw_okq (⟨"WheelMemoryModel", "takes", "(Ljava/lang/String;)Z"⟩, 38) := ⟨⟨by decide +kernel, by decide +kernel⟩, List.mem_of_getElem? (i := 1155) (by decide +kernel), List.mem_of_getElem? (i := 1330) (by decide +kernel), List.mem_of_getElem? (i := 1331) (by decide +kernel)⟩
theorem lw_p43 : lw_okq (⟨"WheelMemoryModel", "is", "(Ljava/lang/String;)Z"⟩, 38) := ⟨⟨by decide +kernel, by decide +kernel⟩, List.mem_of_getElem? (i := 1155) (by decide +kernel), List.mem_of_getElem? (i := 1334) (by decide +kernel), List.mem_of_getElem? (i := 1335) (by decide +kernel)⟩
theorem lw_p44 : lw_okq (⟨"WheelMemoryModel", "errs", "(I)V"⟩, 38) := ⟨⟨by decide +kernel, by decide +kernel⟩, List.mem_of_getElem? (i := 1155) (by decide +kernel), List.mem_of_getElem? (i := 1340) (by decide +kernel), List.mem_of_getElem? (i := 1341) (by decide +kernel)⟩
theorem lw_p45 : lw_okq (⟨"WheelMemoryModel", "told", "(Ljava/lang/String;II)I"⟩, 38) := ⟨⟨by decide +kernel, by decide +kernel⟩, List.mem_of_getElem? (i := 1155) (by decide +kernel), List.mem_of_getElem? (i := 1345) (by decide +kernel), List.mem_of_getElem? (i := 1346) (by decide +kernel)⟩
theorem lw_p46 : lw_okq (⟨"WheelMemoryModel", "number", "(II)I"⟩, 38) := ⟨⟨by decide +kernel, by decide +kernel⟩, List.mem_of_getElem? (i := 1155) (by decide +kernel), List.mem_of_getElem? (i := 1349) (by decide +kernel), List.mem_of_getElem? (i := 1350) (by decide +kernel)⟩
theorem lw_p47 : lw_okq (⟨"WheelMemoryModel", "readNext", "()V"⟩, 38) := ⟨⟨by decide +kernel, by decide +kernel⟩, List.mem_of_getElem? (i := 1155) (by decide +kernel), List.mem_of_getElem? (i := 1354) (by decide +kernel), List.mem_of_getElem? (i := 1355) (by decide +kernel)⟩
def lw_privs_3 : List (MethodName × Nat) := [(⟨"WheelMemory", "cutShare", "(IIII)I"⟩, 11), (⟨"WheelMemory$Game", "bestPick", "(IZ)I"⟩, 3), (⟨"WheelMemory$Game", "picked", "(IIZ)I"⟩, 3), (⟨"WheelMemory", "canDraw", "(III)Z"⟩, 11), (⟨"WheelMemory", "drawDrives", "(III)V"⟩, 11), (⟨"WheelMemoryModel", "advance", "()V"⟩, 38), (⟨"WheelMemoryModel", "see", "(I)I"⟩, 38), (⟨"WheelMemoryModel", "good", "()Z"⟩, 38), (⟨"WheelMemoryModel", "readLine", "()V"⟩, 38), (⟨"WheelMemoryModel", "needs", "(Ljava/lang/String;)V"⟩, 38), (⟨"WheelMemoryModel", "takes", "(Ljava/lang/String;)Z"⟩, 38), (⟨"WheelMemoryModel", "is", "(Ljava/lang/String;)Z"⟩, 38), (⟨"WheelMemoryModel", "errs", "(I)V"⟩, 38), (⟨"WheelMemoryModel", "told", "(Ljava/lang/String;II)I"⟩, 38), (⟨"WheelMemoryModel", "number", "(II)I"⟩, 38), (⟨"WheelMemoryModel", "readNext", "()V"⟩, 38)]
theorem lw_r3 : ∀ q ∈ lw_privs_3, lw_okq q := List.forall_mem_cons.mpr ⟨lw_p32, List.forall_mem_cons.mpr ⟨lw_p33, List.forall_mem_cons.mpr ⟨lw_p34, List.forall_mem_cons.mpr ⟨lw_p35, List.forall_mem_cons.mpr ⟨lw_p36, List.forall_mem_cons.mpr ⟨lw_p37, List.forall_mem_cons.mpr ⟨lw_p38, List.forall_mem_cons.mpr ⟨lw_p39, List.forall_mem_cons.mpr ⟨lw_p40, List.forall_mem_cons.mpr ⟨lw_p41, List.forall_mem_cons.mpr ⟨lw_p42, List.forall_mem_cons.mpr ⟨lw_p43, List.forall_mem_cons.mpr ⟨lw_p44, List.forall_mem_cons.mpr ⟨lw_p45, List.forall_mem_cons.mpr ⟨lw_p46, List.forall_mem_cons.mpr ⟨lw_p47, fun _ h => absurd h List.not_mem_nil⟩⟩⟩⟩⟩⟩⟩⟩⟩⟩⟩⟩⟩⟩⟩⟩
theorem lw_p48 : lw_okq (⟨"WheelMemoryModel", "readRoad", "()V"⟩, 38) := ⟨⟨by decide +kernel, by decide +kernel⟩, List.mem_of_getElem? (i := 1155) (by decide +kernel), List.mem_of_getElem? (i := 1362) (by decide +kernel), List.mem_of_getElem? (i := 1363) (by decide +kernel)⟩
theorem lw_p49 : lw_okq (⟨"WheelMemoryModel", "freshPlace", "()I"⟩, 38) := ⟨⟨by decide +kernel, by decide +kernel⟩, List.mem_of_getElem? (i := 1155) (by decide +kernel), List.mem_of_getElem? (i := 1366) (by decide +kernel), List.mem_of_getElem? (i := 1367) (by decide +kernel)⟩
theorem lw_p50 : lw_okq (⟨"WheelMemoryModel", "readWheel", "()V"⟩, 38) := ⟨⟨by decide +kernel, by decide +kernel⟩, List.mem_of_getElem? (i := 1155) (by decide +kernel), List.mem_of_getElem? (i := 1372) (by decide +kernel), List.mem_of_getElem? (i := 1373) (by decide +kernel)⟩
theorem lw_p51 : lw_okq (⟨"WheelMemoryModel", "readCart", "()V"⟩, 38) := ⟨⟨by decide +kernel, by decide +kernel⟩, List.mem_of_getElem? (i := 1155) (by decide +kernel), List.mem_of_getElem? (i := 1378) (by decide +kernel), List.mem_of_getElem? (i := 1379) (by decide +kernel)⟩
theorem lw_p52 : lw_okq (⟨"WheelMemoryModel", "freshSeated", "()I"⟩, 38) := ⟨⟨by decide +kernel, by decide +kernel⟩, List.mem_of_getElem? (i := 1155) (by decide +kernel), List.mem_of_getElem? (i := 1384) (by decide +kernel), List.mem_of_getElem? (i := 1385) (by decide +kernel)⟩
theorem lw_p53 : lw_okq (⟨"WheelMemoryModel", "readErrand", "()V"⟩, 38) := ⟨⟨by decide +kernel, by decide +kernel⟩, List.mem_of_getElem? (i := 1155) (by decide +kernel), List.mem_of_getElem? (i := 1394) (by decide +kernel), List.mem_of_getElem? (i := 1395) (by decide +kernel)⟩
theorem lw_p54 : lw_okq (⟨"WheelMemoryModel", "isRoad", "(J)Z"⟩, 38) := ⟨⟨by decide +kernel, by decide +kernel⟩, List.mem_of_getElem? (i := 1155) (by decide +kernel), List.mem_of_getElem? (i := 1403) (by decide +kernel), List.mem_of_getElem? (i := 1404) (by decide +kernel)⟩
theorem lw_p55 : lw_okq (⟨"WheelMemoryModel", "end", "(II)I"⟩, 38) := ⟨⟨by decide +kernel, by decide +kernel⟩, List.mem_of_getElem? (i := 1155) (by decide +kernel), List.mem_of_getElem? (i := 1407) (by decide +kernel), List.mem_of_getElem? (i := 1408) (by decide +kernel)⟩
theorem lw_p56 : lw_okq (⟨"WheelMemoryModel", "isWheel", "(I)Z"⟩, 38) := ⟨⟨by decide +kernel, by decide +kernel⟩, List.mem_of_getElem? (i := 1155) (by decide +kernel), List.mem_of_getElem? (i := 1415) (by decide +kernel), List.mem_of_getElem? (i := 1416) (by decide +kernel)⟩
theorem lw_p57 : lw_okq (⟨"WheelMemoryModel", "asItIs", "()V"⟩, 38) := ⟨⟨by decide +kernel, by decide +kernel⟩, List.mem_of_getElem? (i := 1155) (by decide +kernel), List.mem_of_getElem? (i := 1419) (by decide +kernel), List.mem_of_getElem? (i := 1420) (by decide +kernel)⟩
theorem lw_p58 : lw_okq (⟨"WheelMemoryModel", "act0", "(I)V"⟩, 38) := ⟨⟨by decide +kernel, by decide +kernel⟩, List.mem_of_getElem? (i := 1155) (by decide +kernel), List.mem_of_getElem? (i := 1423) (by decide +kernel), List.mem_of_getElem? (i := 1424) (by decide +kernel)⟩
theorem lw_p59 : lw_okq (⟨"WheelMemoryModel", "driveBy", "(II)I"⟩, 38) := ⟨⟨by decide +kernel, by decide +kernel⟩, List.mem_of_getElem? (i := 1155) (by decide +kernel), List.mem_of_getElem? (i := 1427) (by decide +kernel), List.mem_of_getElem? (i := 1428) (by decide +kernel)⟩
theorem lw_p60 : lw_okq (⟨"WheelMemoryModel", "turnOf", "(II)I"⟩, 38) := ⟨⟨by decide +kernel, by decide +kernel⟩, List.mem_of_getElem? (i := 1155) (by decide +kernel), List.mem_of_getElem? (i := 1431) (by decide +kernel), List.mem_of_getElem? (i := 1432) (by decide +kernel)⟩
theorem lw_p61 : lw_okq (⟨"WheelMemoryModel", "wheelsOf", "(I)I"⟩, 38) := ⟨⟨by decide +kernel, by decide +kernel⟩, List.mem_of_getElem? (i := 1155) (by decide +kernel), List.mem_of_getElem? (i := 1435) (by decide +kernel), List.mem_of_getElem? (i := 1436) (by decide +kernel)⟩
theorem lw_p62 : lw_okq (⟨"WheelMemoryModel", "turnBy", "(IIII)I"⟩, 38) := ⟨⟨by decide +kernel, by decide +kernel⟩, List.mem_of_getElem? (i := 1155) (by decide +kernel), List.mem_of_getElem? (i := 1439) (by decide +kernel), List.mem_of_getElem? (i := 1440) (by decide +kernel)⟩
theorem lw_p63 : lw_okq (⟨"WheelMemoryModel", "isOf", "(II)Z"⟩, 38) := ⟨⟨by decide +kernel, by decide +kernel⟩, List.mem_of_getElem? (i := 1155) (by decide +kernel), List.mem_of_getElem? (i := 1443) (by decide +kernel), List.mem_of_getElem? (i := 1444) (by decide +kernel)⟩
def lw_privs_4 : List (MethodName × Nat) := [(⟨"WheelMemoryModel", "readRoad", "()V"⟩, 38), (⟨"WheelMemoryModel", "freshPlace", "()I"⟩, 38), (⟨"WheelMemoryModel", "readWheel", "()V"⟩, 38), (⟨"WheelMemoryModel", "readCart", "()V"⟩, 38), (⟨"WheelMemoryModel", "freshSeated", "()I"⟩, 38), (⟨"WheelMemoryModel", "readErrand", "()V"⟩, 38), (⟨"WheelMemoryModel", "isRoad", "(J)Z"⟩, 38), (⟨"WheelMemoryModel", "end", "(II)I"⟩, 38), (⟨"WheelMemoryModel", "isWheel", "(I)Z"⟩, 38), (⟨"WheelMemoryModel", "asItIs", "()V"⟩, 38), (⟨"WheelMemoryModel", "act0", "(I)V"⟩, 38), (⟨"WheelMemoryModel", "driveBy", "(II)I"⟩, 38), (⟨"WheelMemoryModel", "turnOf", "(II)I"⟩, 38), (⟨"WheelMemoryModel", "wheelsOf", "(I)I"⟩, 38), (⟨"WheelMemoryModel", "turnBy", "(IIII)I"⟩, 38), (⟨"WheelMemoryModel", "isOf", "(II)Z"⟩, 38)]
theorem lw_r4 : ∀ q ∈ lw_privs_4, lw_okq q := List.forall_mem_cons.mpr ⟨lw_p48, List.forall_mem_cons.mpr ⟨lw_p49, List.forall_mem_cons.mpr ⟨lw_p50, List.forall_mem_cons.mpr ⟨lw_p51, List.forall_mem_cons.mpr ⟨lw_p52, List.forall_mem_cons.mpr ⟨lw_p53, List.forall_mem_cons.mpr ⟨lw_p54, List.forall_mem_cons.mpr ⟨lw_p55, List.forall_mem_cons.mpr ⟨lw_p56, List.forall_mem_cons.mpr ⟨lw_p57, List.forall_mem_cons.mpr ⟨lw_p58, List.forall_mem_cons.mpr ⟨lw_p59, List.forall_mem_cons.mpr ⟨lw_p60, List.forall_mem_cons.mpr ⟨lw_p61, List.forall_mem_cons.mpr ⟨lw_p62, List.forall_mem_cons.mpr ⟨lw_p63, fun _ h => absurd h List.not_mem_nil⟩⟩⟩⟩⟩⟩⟩⟩⟩⟩⟩⟩⟩⟩⟩⟩
theorem lw_p64 : lw_okq (⟨"WheelMemoryModel", "pullOf", "(II)I"⟩, 38) := ⟨⟨by decide +kernel, by decide +kernel⟩, List.mem_of_getElem? (i := 1155) (by decide +kernel), List.mem_of_getElem? (i := 1447) (by decide +kernel), List.mem_of_getElem? (i := 1448) (by decide +kernel)⟩
theorem lw_p65 : lw_okq (⟨"WheelMemoryModel", "run", "(II)V"⟩, 38) := ⟨⟨by decide +kernel, by decide +kernel⟩, List.mem_of_getElem? (i := 1155) (by decide +kernel), List.mem_of_getElem? (i := 1451) (by decide +kernel), List.mem_of_getElem? (i := 1452) (by decide +kernel)⟩
theorem lw_p66 : lw_okq (⟨"WheelMemoryModel", "milesOf", "(I)I"⟩, 38) := ⟨⟨by decide +kernel, by decide +kernel⟩, List.mem_of_getElem? (i := 1155) (by decide +kernel), List.mem_of_getElem? (i := 1455) (by decide +kernel), List.mem_of_getElem? (i := 1456) (by decide +kernel)⟩
theorem lw_p67 : lw_okq (⟨"WheelMemoryModel", "forget", "(I)V"⟩, 38) := ⟨⟨by decide +kernel, by decide +kernel⟩, List.mem_of_getElem? (i := 1155) (by decide +kernel), List.mem_of_getElem? (i := 1459) (by decide +kernel), List.mem_of_getElem? (i := 1460) (by decide +kernel)⟩
theorem lw_p68 : lw_okq (⟨"WheelMemoryModel", "over", "(II)I"⟩, 38) := ⟨⟨by decide +kernel, by decide +kernel⟩, List.mem_of_getElem? (i := 1155) (by decide +kernel), List.mem_of_getElem? (i := 1463) (by decide +kernel), List.mem_of_getElem? (i := 1464) (by decide +kernel)⟩
theorem lw_p69 : lw_okq (⟨"WheelMemoryModel", "swapSeats", "(II)V"⟩, 38) := ⟨⟨by decide +kernel, by decide +kernel⟩, List.mem_of_getElem? (i := 1155) (by decide +kernel), List.mem_of_getElem? (i := 1467) (by decide +kernel), List.mem_of_getElem? (i := 1468) (by decide +kernel)⟩
theorem lw_p70 : lw_okq (⟨"WheelMemoryModel", "likedOf", "(I)I"⟩, 38) := ⟨⟨by decide +kernel, by decide +kernel⟩, List.mem_of_getElem? (i := 1155) (by decide +kernel), List.mem_of_getElem? (i := 1475) (by decide +kernel), List.mem_of_getElem? (i := 1476) (by decide +kernel)⟩
theorem lw_p71 : lw_okq (⟨"WheelMemoryModel", "isCart", "(I)Z"⟩, 38) := ⟨⟨by decide +kernel, by decide +kernel⟩, List.mem_of_getElem? (i := 1155) (by decide +kernel), List.mem_of_getElem? (i := 1483) (by decide +kernel), List.mem_of_getElem? (i := 1484) (by decide +kernel)⟩
theorem lw_p72 : lw_okq (⟨"WheelMemoryModel", "isPlace", "(J)Z"⟩, 38) := ⟨⟨by decide +kernel, by decide +kernel⟩, List.mem_of_getElem? (i := 1155) (by decide +kernel), List.mem_of_getElem? (i := 1495) (by decide +kernel), List.mem_of_getElem? (i := 1496) (by decide +kernel)⟩
theorem lw_p73 : lw_okq (⟨"WheelMemoryModel", "roadsOf", "(I)I"⟩, 38) := ⟨⟨by decide +kernel, by decide +kernel⟩, List.mem_of_getElem? (i := 1155) (by decide +kernel), List.mem_of_getElem? (i := 1499) (by decide +kernel), List.mem_of_getElem? (i := 1500) (by decide +kernel)⟩
theorem lw_p74 : lw_okq (⟨"WheelMemoryModel", "canWant", "(IJ)Z"⟩, 38) := ⟨⟨by decide +kernel, by decide +kernel⟩, List.mem_of_getElem? (i := 1155) (by decide +kernel), List.mem_of_getElem? (i := 1511) (by decide +kernel), List.mem_of_getElem? (i := 1512) (by decide +kernel)⟩
theorem lw_p75 : lw_okq (⟨"WheelMemoryModel", "keepAct", "(I)V"⟩, 38) := ⟨⟨by decide +kernel, by decide +kernel⟩, List.mem_of_getElem? (i := 1155) (by decide +kernel), List.mem_of_getElem? (i := 1528) (by decide +kernel), List.mem_of_getElem? (i := 1529) (by decide +kernel)⟩
theorem lw_p76 : lw_okq (⟨"WheelMemoryModel", "isLand", "()Z"⟩, 38) := ⟨⟨by decide +kernel, by decide +kernel⟩, List.mem_of_getElem? (i := 1155) (by decide +kernel), List.mem_of_getElem? (i := 1544) (by decide +kernel), List.mem_of_getElem? (i := 1545) (by decide +kernel)⟩
theorem lw_p77 : lw_okq (⟨"WheelMemoryModel", "asksRow", "(II)I"⟩, 38) := ⟨⟨by decide +kernel, by decide +kernel⟩, List.mem_of_getElem? (i := 1155) (by decide +kernel), List.mem_of_getElem? (i := 1556) (by decide +kernel), List.mem_of_getElem? (i := 1557) (by decide +kernel)⟩
theorem lw_p78 : lw_okq (⟨"WheelMemoryModel", "numberAt", "(II)J"⟩, 38) := ⟨⟨by decide +kernel, by decide +kernel⟩, List.mem_of_getElem? (i := 1155) (by decide +kernel), List.mem_of_getElem? (i := 1564) (by decide +kernel), List.mem_of_getElem? (i := 1565) (by decide +kernel)⟩
theorem lw_p79 : lw_okq (⟨"WheelMemoryModel", "goRow", "(II)V"⟩, 38) := ⟨⟨by decide +kernel, by decide +kernel⟩, List.mem_of_getElem? (i := 1155) (by decide +kernel), List.mem_of_getElem? (i := 1568) (by decide +kernel), List.mem_of_getElem? (i := 1569) (by decide +kernel)⟩
def lw_privs_5 : List (MethodName × Nat) := [(⟨"WheelMemoryModel", "pullOf", "(II)I"⟩, 38), (⟨"WheelMemoryModel", "run", "(II)V"⟩, 38), (⟨"WheelMemoryModel", "milesOf", "(I)I"⟩, 38), (⟨"WheelMemoryModel", "forget", "(I)V"⟩, 38), (⟨"WheelMemoryModel", "over", "(II)I"⟩, 38), (⟨"WheelMemoryModel", "swapSeats", "(II)V"⟩, 38), (⟨"WheelMemoryModel", "likedOf", "(I)I"⟩, 38), (⟨"WheelMemoryModel", "isCart", "(I)Z"⟩, 38), (⟨"WheelMemoryModel", "isPlace", "(J)Z"⟩, 38), (⟨"WheelMemoryModel", "roadsOf", "(I)I"⟩, 38), (⟨"WheelMemoryModel", "canWant", "(IJ)Z"⟩, 38), (⟨"WheelMemoryModel", "keepAct", "(I)V"⟩, 38), (⟨"WheelMemoryModel", "isLand", "()Z"⟩, 38), (⟨"WheelMemoryModel", "asksRow", "(II)I"⟩, 38), (⟨"WheelMemoryModel", "numberAt", "(II)J"⟩, 38), (⟨"WheelMemoryModel", "goRow", "(II)V"⟩, 38)]
theorem lw_r5 : ∀ q ∈ lw_privs_5, lw_okq q := List.forall_mem_cons.mpr ⟨lw_p64, List.forall_mem_cons.mpr ⟨lw_p65, List.forall_mem_cons.mpr ⟨lw_p66, List.forall_mem_cons.mpr ⟨lw_p67, List.forall_mem_cons.mpr ⟨lw_p68, List.forall_mem_cons.mpr ⟨lw_p69, List.forall_mem_cons.mpr ⟨lw_p70, List.forall_mem_cons.mpr ⟨lw_p71, List.forall_mem_cons.mpr ⟨lw_p72, List.forall_mem_cons.mpr ⟨lw_p73, List.forall_mem_cons.mpr ⟨lw_p74, List.forall_mem_cons.mpr ⟨lw_p75, List.forall_mem_cons.mpr ⟨lw_p76, List.forall_mem_cons.mpr ⟨lw_p77, List.forall_mem_cons.mpr ⟨lw_p78, List.forall_mem_cons.mpr ⟨lw_p79, fun _ h => absurd h List.not_mem_nil⟩⟩⟩⟩⟩⟩⟩⟩⟩⟩⟩⟩⟩⟩⟩⟩
theorem lw_p80 : lw_okq (⟨"WheelMemoryModel", "isWorn", "(I)Z"⟩, 38) := ⟨⟨by decide +kernel, by decide +kernel⟩, List.mem_of_getElem? (i := 1155) (by decide +kernel), List.mem_of_getElem? (i := 1572) (by decide +kernel), List.mem_of_getElem? (i := 1573) (by decide +kernel)⟩
theorem lw_p81 : lw_okq (⟨"WheelMemoryModel", "wayOf", "(II)I"⟩, 38) := ⟨⟨by decide +kernel, by decide +kernel⟩, List.mem_of_getElem? (i := 1155) (by decide +kernel), List.mem_of_getElem? (i := 1596) (by decide +kernel), List.mem_of_getElem? (i := 1597) (by decide +kernel)⟩
theorem lw_p82 : lw_okq (⟨"WheelMemoryModel", "put", "(II)V"⟩, 38) := ⟨⟨by decide +kernel, by decide +kernel⟩, List.mem_of_getElem? (i := 1155) (by decide +kernel), List.mem_of_getElem? (i := 1601) (by decide +kernel), List.mem_of_getElem? (i := 1602) (by decide +kernel)⟩
theorem lw_p83 : lw_okq (⟨"WheelMemoryModel", "get", "(II)V"⟩, 38) := ⟨⟨by decide +kernel, by decide +kernel⟩, List.mem_of_getElem? (i := 1155) (by decide +kernel), List.mem_of_getElem? (i := 1605) (by decide +kernel), List.mem_of_getElem? (i := 1606) (by decide +kernel)⟩
theorem lw_p84 : lw_okq (⟨"WheelMemoryModel", "chooseOf", "(II)I"⟩, 38) := ⟨⟨by decide +kernel, by decide +kernel⟩, List.mem_of_getElem? (i := 1155) (by decide +kernel), List.mem_of_getElem? (i := 1629) (by decide +kernel), List.mem_of_getElem? (i := 1630) (by decide +kernel)⟩
theorem lw_p85 : lw_okq (⟨"WheelMemoryModel", "goRoam", "(I)V"⟩, 38) := ⟨⟨by decide +kernel, by decide +kernel⟩, List.mem_of_getElem? (i := 1155) (by decide +kernel), List.mem_of_getElem? (i := 1642) (by decide +kernel), List.mem_of_getElem? (i := 1643) (by decide +kernel)⟩
theorem lw_p86 : lw_okq (⟨"WheelMemoryModel", "meetOf", "(II)I"⟩, 38) := ⟨⟨by decide +kernel, by decide +kernel⟩, List.mem_of_getElem? (i := 1155) (by decide +kernel), List.mem_of_getElem? (i := 1658) (by decide +kernel), List.mem_of_getElem? (i := 1659) (by decide +kernel)⟩
theorem lw_p87 : lw_okq (⟨"WheelMemoryModel", "wider", "(I)I"⟩, 38) := ⟨⟨by decide +kernel, by decide +kernel⟩, List.mem_of_getElem? (i := 1155) (by decide +kernel), List.mem_of_getElem? (i := 1662) (by decide +kernel), List.mem_of_getElem? (i := 1663) (by decide +kernel)⟩
theorem lw_p88 : lw_okq (⟨"WheelMemoryModel", "asksSeen", "(I)I"⟩, 38) := ⟨⟨by decide +kernel, by decide +kernel⟩, List.mem_of_getElem? (i := 1155) (by decide +kernel), List.mem_of_getElem? (i := 1674) (by decide +kernel), List.mem_of_getElem? (i := 1675) (by decide +kernel)⟩
theorem lw_p89 : lw_okq (⟨"WheelMemoryModel", "fitsOf", "(I)I"⟩, 38) := ⟨⟨by decide +kernel, by decide +kernel⟩, List.mem_of_getElem? (i := 1155) (by decide +kernel), List.mem_of_getElem? (i := 1678) (by decide +kernel), List.mem_of_getElem? (i := 1679) (by decide +kernel)⟩
theorem lw_p90 : lw_okq (⟨"WheelMemoryModel", "aloneIn", "(II)I"⟩, 38) := ⟨⟨by decide +kernel, by decide +kernel⟩, List.mem_of_getElem? (i := 1155) (by decide +kernel), List.mem_of_getElem? (i := 1682) (by decide +kernel), List.mem_of_getElem? (i := 1683) (by decide +kernel)⟩
theorem lw_p91 : lw_okq (⟨"WheelMemoryModel", "askOf", "(I)I"⟩, 38) := ⟨⟨by decide +kernel, by decide +kernel⟩, List.mem_of_getElem? (i := 1155) (by decide +kernel), List.mem_of_getElem? (i := 1690) (by decide +kernel), List.mem_of_getElem? (i := 1691) (by decide +kernel)⟩
theorem lw_p92 : lw_okq (⟨"WheelMemoryModel", "worstIn", "(II)I"⟩, 38) := ⟨⟨by decide +kernel, by decide +kernel⟩, List.mem_of_getElem? (i := 1155) (by decide +kernel), List.mem_of_getElem? (i := 1694) (by decide +kernel), List.mem_of_getElem? (i := 1695) (by decide +kernel)⟩
theorem lw_p93 : lw_okq (⟨"WheelMemoryModel", "lovedOf", "(I)I"⟩, 38) := ⟨⟨by decide +kernel, by decide +kernel⟩, List.mem_of_getElem? (i := 1155) (by decide +kernel), List.mem_of_getElem? (i := 1711) (by decide +kernel), List.mem_of_getElem? (i := 1712) (by decide +kernel)⟩
theorem lw_p94 : lw_okq (⟨"WheelMemoryModel", "agreeOf", "(II)I"⟩, 38) := ⟨⟨by decide +kernel, by decide +kernel⟩, List.mem_of_getElem? (i := 1155) (by decide +kernel), List.mem_of_getElem? (i := 1723) (by decide +kernel), List.mem_of_getElem? (i := 1724) (by decide +kernel)⟩
theorem lw_p95 : lw_okq (⟨"WheelMemoryModel", "blindOf", "(II)I"⟩, 38) := ⟨⟨by decide +kernel, by decide +kernel⟩, List.mem_of_getElem? (i := 1155) (by decide +kernel), List.mem_of_getElem? (i := 1739) (by decide +kernel), List.mem_of_getElem? (i := 1740) (by decide +kernel)⟩
def lw_privs_6 : List (MethodName × Nat) := [(⟨"WheelMemoryModel", "isWorn", "(I)Z"⟩, 38), (⟨"WheelMemoryModel", "wayOf", "(II)I"⟩, 38), (⟨"WheelMemoryModel", "put", "(II)V"⟩, 38), (⟨"WheelMemoryModel", "get", "(II)V"⟩, 38), (⟨"WheelMemoryModel", "chooseOf", "(II)I"⟩, 38), (⟨"WheelMemoryModel", "goRoam", "(I)V"⟩, 38), (⟨"WheelMemoryModel", "meetOf", "(II)I"⟩, 38), (⟨"WheelMemoryModel", "wider", "(I)I"⟩, 38), (⟨"WheelMemoryModel", "asksSeen", "(I)I"⟩, 38), (⟨"WheelMemoryModel", "fitsOf", "(I)I"⟩, 38), (⟨"WheelMemoryModel", "aloneIn", "(II)I"⟩, 38), (⟨"WheelMemoryModel", "askOf", "(I)I"⟩, 38), (⟨"WheelMemoryModel", "worstIn", "(II)I"⟩, 38), (⟨"WheelMemoryModel", "lovedOf", "(I)I"⟩, 38), (⟨"WheelMemoryModel", "agreeOf", "(II)I"⟩, 38), (⟨"WheelMemoryModel", "blindOf", "(II)I"⟩, 38)]
theorem lw_r6 : ∀ q ∈ lw_privs_6, lw_okq q := List.forall_mem_cons.mpr ⟨lw_p80, List.forall_mem_cons.mpr ⟨lw_p81, List.forall_mem_cons.mpr ⟨lw_p82, List.forall_mem_cons.mpr ⟨lw_p83, List.forall_mem_cons.mpr ⟨lw_p84, List.forall_mem_cons.mpr ⟨lw_p85, List.forall_mem_cons.mpr ⟨lw_p86, List.forall_mem_cons.mpr ⟨lw_p87, List.forall_mem_cons.mpr ⟨lw_p88, List.forall_mem_cons.mpr ⟨lw_p89, List.forall_mem_cons.mpr ⟨lw_p90, List.forall_mem_cons.mpr ⟨lw_p91, List.forall_mem_cons.mpr ⟨lw_p92, List.forall_mem_cons.mpr ⟨lw_p93, List.forall_mem_cons.mpr ⟨lw_p94, List.forall_mem_cons.mpr ⟨lw_p95, fun _ h => absurd h List.not_mem_nil⟩⟩⟩⟩⟩⟩⟩⟩⟩⟩⟩⟩⟩⟩⟩⟩
theorem lw_p96 : lw_okq (⟨"WheelMemoryModel", "shareOf", "(IZ)I"⟩, 38) := ⟨⟨by decide +kernel, by decide +kernel⟩, List.mem_of_getElem? (i := 1155) (by decide +kernel), List.mem_of_getElem? (i := 1757) (by decide +kernel), List.mem_of_getElem? (i := 1758) (by decide +kernel)⟩
theorem lw_p97 : lw_okq (⟨"WheelMemoryModel", "worthOf", "(I)I"⟩, 38) := ⟨⟨by decide +kernel, by decide +kernel⟩, List.mem_of_getElem? (i := 1155) (by decide +kernel), List.mem_of_getElem? (i := 1765) (by decide +kernel), List.mem_of_getElem? (i := 1766) (by decide +kernel)⟩
theorem lw_p98 : lw_okq (⟨"WheelMemoryModel", "smithsOf", "(I)I"⟩, 38) := ⟨⟨by decide +kernel, by decide +kernel⟩, List.mem_of_getElem? (i := 1155) (by decide +kernel), List.mem_of_getElem? (i := 1774) (by decide +kernel), List.mem_of_getElem? (i := 1775) (by decide +kernel)⟩
theorem lw_p99 : lw_okq (⟨"WheelMemoryModel", "gainBy", "(IIZ)I"⟩, 38) := ⟨⟨by decide +kernel, by decide +kernel⟩, List.mem_of_getElem? (i := 1155) (by decide +kernel), List.mem_of_getElem? (i := 1779) (by decide +kernel), List.mem_of_getElem? (i := 1780) (by decide +kernel)⟩
theorem lw_p100 : lw_okq (⟨"WheelMemoryModel", "isDrawn", "(III)Z"⟩, 38) := ⟨⟨by decide +kernel, by decide +kernel⟩, List.mem_of_getElem? (i := 1155) (by decide +kernel), List.mem_of_getElem? (i := 1791) (by decide +kernel), List.mem_of_getElem? (i := 1792) (by decide +kernel)⟩
theorem lw_p101 : lw_okq (⟨"WheelMemoryModel", "goDrawn", "(JII)V"⟩, 38) := ⟨⟨by decide +kernel, by decide +kernel⟩, List.mem_of_getElem? (i := 1155) (by decide +kernel), List.mem_of_getElem? (i := 1796) (by decide +kernel), List.mem_of_getElem? (i := 1797) (by decide +kernel)⟩
theorem lw_p102 : lw_okq (⟨"WheelMemoryModel", "roadAt", "(II)I"⟩, 38) := ⟨⟨by decide +kernel, by decide +kernel⟩, List.mem_of_getElem? (i := 1155) (by decide +kernel), List.mem_of_getElem? (i := 1804) (by decide +kernel), List.mem_of_getElem? (i := 1805) (by decide +kernel)⟩
def lw_privs_7 : List (MethodName × Nat) := [(⟨"WheelMemoryModel", "shareOf", "(IZ)I"⟩, 38), (⟨"WheelMemoryModel", "worthOf", "(I)I"⟩, 38), (⟨"WheelMemoryModel", "smithsOf", "(I)I"⟩, 38), (⟨"WheelMemoryModel", "gainBy", "(IIZ)I"⟩, 38), (⟨"WheelMemoryModel", "isDrawn", "(III)Z"⟩, 38), (⟨"WheelMemoryModel", "goDrawn", "(JII)V"⟩, 38), (⟨"WheelMemoryModel", "roadAt", "(II)I"⟩, 38)]
theorem lw_r7 : ∀ q ∈ lw_privs_7, lw_okq q := List.forall_mem_cons.mpr ⟨lw_p96, List.forall_mem_cons.mpr ⟨lw_p97, List.forall_mem_cons.mpr ⟨lw_p98, List.forall_mem_cons.mpr ⟨lw_p99, List.forall_mem_cons.mpr ⟨lw_p100, List.forall_mem_cons.mpr ⟨lw_p101, List.forall_mem_cons.mpr ⟨lw_p102, fun _ h => absurd h List.not_mem_nil⟩⟩⟩⟩⟩⟩⟩
def lw_privs : List (MethodName × Nat) := lw_privs_1 ++ (lw_privs_2 ++ (lw_privs_3 ++ (lw_privs_4 ++ (lw_privs_5 ++ (lw_privs_6 ++ (lw_privs_7))))))
def lw_tbl : List Cond := k2_sels lw_privs ++ tables_1
theorem lw_privs_ok : ∀ q ∈ lw_privs, lw_okq q := by
  show ∀ q ∈ lw_privs_1 ++ (lw_privs_2 ++ (lw_privs_3 ++ (lw_privs_4 ++ (lw_privs_5 ++ (lw_privs_6 ++ (lw_privs_7)))))), lw_okq q
  exact List.forall_mem_append.mpr ⟨lw_r1, List.forall_mem_append.mpr ⟨lw_r2, List.forall_mem_append.mpr ⟨lw_r3, List.forall_mem_append.mpr ⟨lw_r4, List.forall_mem_append.mpr ⟨lw_r5, List.forall_mem_append.mpr ⟨lw_r6, lw_r7⟩⟩⟩⟩⟩⟩
end
section
def RX0 : String := "WheelMemory$Game"
def TX0 : u_T := fun k => match k with
  | 0 => ("WheelMemory$Game", "outcomes", "[I", true)
  | 1 => ("WheelMemory$Game", "worths", "[I", true)
  | _ => ("WheelMemory$Game", "rims", "[I", true)
def tyX0 : Nat → FieldType := fun k => match k with
  | 0 => .array .int
  | 1 => .array .int
  | _ => .array .int
abbrev wsX00 : List Cond := u_ws RX0 TX0 3
theorem nmX0 : ∀ a, a < 3 → ∀ b, b < 3 → a ≠ b → (TX0 a).2.1 ≠ (TX0 b).2.1 := by decide +kernel
theorem tyX0_ok : ∀ k, k < 3 → parseFieldDescriptor (TX0 k).2.2.1 = some (tyX0 k) := by decide +kernel
abbrev cX0_init : ByteArray := prog_2_method_1_code
def yX0_init : MethodName := ⟨RX0, "<init>", "()V"⟩
abbrev cX0_outcome : ByteArray := prog_2_method_2_code
def yX0_outcome : MethodName := ⟨RX0, "outcome", "(LWheelMemory$Land;LWheelMemory$State;I)I"⟩
abbrev cX0_firstPick : ByteArray := prog_2_method_3_code
def yX0_firstPick : MethodName := ⟨RX0, "firstPick", "(LWheelMemory$Land;LWheelMemory$State;I)I"⟩
abbrev cX0_bestPick : ByteArray := prog_2_method_4_code
def yX0_bestPick : MethodName := ⟨RX0, "bestPick", "(IZ)I"⟩
abbrev cX0_isBetter : ByteArray := prog_2_method_5_code
def yX0_isBetter : MethodName := ⟨RX0, "isBetter", "(IIZ)Z"⟩
abbrev cX0_picked : ByteArray := prog_2_method_6_code
def yX0_picked : MethodName := ⟨RX0, "picked", "(IIZ)I"⟩
def RX1 : String := "WheelMemory$Land"
def TX1 : u_T := fun k => match k with
  | 0 => ("WheelMemory$Land", "lines", "I", false)
  | 1 => ("WheelMemory$Land", "places", "I", false)
  | 2 => ("WheelMemory$Land", "handed", "I", false)
  | 3 => ("WheelMemory$Land", "roadCount", "I", false)
  | 4 => ("WheelMemory$Land", "wheelCount", "I", false)
  | 5 => ("WheelMemory$Land", "cartCount", "I", false)
  | 6 => ("WheelMemory$Land", "errandCount", "I", false)
  | 7 => ("WheelMemory$Land", "roadFrom", "[I", true)
  | 8 => ("WheelMemory$Land", "roadTo", "[I", true)
  | 9 => ("WheelMemory$Land", "roadMiles", "[I", true)
  | 10 => ("WheelMemory$Land", "errandCart", "[I", true)
  | 11 => ("WheelMemory$Land", "errandPlace", "[I", true)
  | 12 => ("WheelMemory$Land", "errandBy", "[I", true)
  | _ => ("WheelMemory$Land", "first", "LWheelMemory$State;", true)
def tyX1 : Nat → FieldType := fun k => match k with
  | 0 => .int
  | 1 => .int
  | 2 => .int
  | 3 => .int
  | 4 => .int
  | 5 => .int
  | 6 => .int
  | 7 => .array .int
  | 8 => .array .int
  | 9 => .array .int
  | 10 => .array .int
  | 11 => .array .int
  | 12 => .array .int
  | _ => .object "WheelMemory$State"
abbrev wsX10 : List Cond := u_ws RX1 TX1 14
theorem nmX1 : ∀ a, a < 14 → ∀ b, b < 14 → a ≠ b → (TX1 a).2.1 ≠ (TX1 b).2.1 := by decide +kernel
theorem tyX1_ok : ∀ k, k < 14 → parseFieldDescriptor (TX1 k).2.2.1 = some (tyX1 k) := by decide +kernel
abbrev cX1_init : ByteArray := prog_3_method_1_code
def yX1_init : MethodName := ⟨RX1, "<init>", "()V"⟩
abbrev cX1_clear : ByteArray := prog_3_method_2_code
def yX1_clear : MethodName := ⟨RX1, "clear", "()V"⟩
abbrev cX1_copy : ByteArray := prog_3_method_3_code
def yX1_copy : MethodName := ⟨RX1, "copy", "(LWheelMemory$Land;)V"⟩
abbrev cX1_addRoad : ByteArray := prog_3_method_4_code
def yX1_addRoad : MethodName := ⟨RX1, "addRoad", "(III)V"⟩
abbrev cX1_addWheel : ByteArray := prog_3_method_5_code
def yX1_addWheel : MethodName := ⟨RX1, "addWheel", "(I)V"⟩
abbrev cX1_addCart : ByteArray := prog_3_method_6_code
def yX1_addCart : MethodName := ⟨RX1, "addCart", "(I)V"⟩
abbrev cX1_addErrand : ByteArray := prog_3_method_7_code
def yX1_addErrand : MethodName := ⟨RX1, "addErrand", "(III)V"⟩
abbrev cX1_isTold : ByteArray := prog_3_method_8_code
def yX1_isTold : MethodName := ⟨RX1, "isTold", "()Z"⟩
abbrev cX1_isPlace : ByteArray := prog_3_method_9_code
def yX1_isPlace : MethodName := ⟨RX1, "isPlace", "(I)Z"⟩
abbrev cX1_isRoad : ByteArray := prog_3_method_10_code
def yX1_isRoad : MethodName := ⟨RX1, "isRoad", "(I)Z"⟩
abbrev cX1_isWheel : ByteArray := prog_3_method_11_code
def yX1_isWheel : MethodName := ⟨RX1, "isWheel", "(I)Z"⟩
abbrev cX1_isCart : ByteArray := prog_3_method_12_code
def yX1_isCart : MethodName := ⟨RX1, "isCart", "(I)Z"⟩
abbrev cX1_isErrand : ByteArray := prog_3_method_13_code
def yX1_isErrand : MethodName := ⟨RX1, "isErrand", "(I)Z"⟩
abbrev cX1_touches : ByteArray := prog_3_method_14_code
def yX1_touches : MethodName := ⟨RX1, "touches", "(II)Z"⟩
abbrev cX1_otherEnd : ByteArray := prog_3_method_15_code
def yX1_otherEnd : MethodName := ⟨RX1, "otherEnd", "(II)I"⟩
abbrev cX1_roadsAt : ByteArray := prog_3_method_16_code
def yX1_roadsAt : MethodName := ⟨RX1, "roadsAt", "(I)I"⟩
abbrev cX1_spreadOf : ByteArray := prog_3_method_17_code
def yX1_spreadOf : MethodName := ⟨RX1, "spreadOf", "(I)I"⟩
def RX2 : String := "WheelMemory$Reader"
def TX2 : u_T := fun k => match k with
  | 0 => ("WheelMemory$Reader", "tape", "LWheelMemory$Tape;", true)
  | 1 => ("WheelMemory$Reader", "draft", "LWheelMemory$Land;", true)
  | 2 => ("WheelMemory$Reader", "fault", "I", false)
  | 3 => ("WheelMemory$Reader", "faultPlace", "I", false)
  | 4 => ("WheelMemory$Reader", "kind", "I", false)
  | 5 => ("WheelMemory$Reader", "start", "I", false)
  | 6 => ("WheelMemory$Reader", "after", "I", false)
  | _ => ("WheelMemory$Reader", "value", "I", false)
def tyX2 : Nat → FieldType := fun k => match k with
  | 0 => .object "WheelMemory$Tape"
  | 1 => .object "WheelMemory$Land"
  | 2 => .int
  | 3 => .int
  | 4 => .int
  | 5 => .int
  | 6 => .int
  | _ => .int
abbrev wsX20 : List Cond := u_ws RX2 TX2 8
theorem nmX2 : ∀ a, a < 8 → ∀ b, b < 8 → a ≠ b → (TX2 a).2.1 ≠ (TX2 b).2.1 := by decide +kernel
theorem tyX2_ok : ∀ k, k < 8 → parseFieldDescriptor (TX2 k).2.2.1 = some (tyX2 k) := by decide +kernel
abbrev cX2_init : ByteArray := prog_4_method_1_code
def yX2_init : MethodName := ⟨RX2, "<init>", "()V"⟩
abbrev cX2_readAll : ByteArray := prog_4_method_2_code
def yX2_readAll : MethodName := ⟨RX2, "readAll", "()Z"⟩
abbrev cX2_readLine : ByteArray := prog_4_method_3_code
def yX2_readLine : MethodName := ⟨RX2, "readLine", "()V"⟩
abbrev cX2_readLand : ByteArray := prog_4_method_4_code
def yX2_readLand : MethodName := ⟨RX2, "readLand", "()V"⟩
abbrev cX2_readRoad : ByteArray := prog_4_method_5_code
def yX2_readRoad : MethodName := ⟨RX2, "readRoad", "()V"⟩
abbrev cX2_readWheel : ByteArray := prog_4_method_6_code
def yX2_readWheel : MethodName := ⟨RX2, "readWheel", "()V"⟩
abbrev cX2_readCart : ByteArray := prog_4_method_7_code
def yX2_readCart : MethodName := ⟨RX2, "readCart", "()V"⟩
abbrev cX2_readSeat : ByteArray := prog_4_method_8_code
def yX2_readSeat : MethodName := ⟨RX2, "readSeat", "(I)V"⟩
abbrev cX2_readErrand : ByteArray := prog_4_method_9_code
def yX2_readErrand : MethodName := ⟨RX2, "readErrand", "()V"⟩
abbrev cX2_fail : ByteArray := prog_4_method_10_code
def yX2_fail : MethodName := ⟨RX2, "fail", "(I)V"⟩
abbrev cX2_passWord : ByteArray := prog_4_method_11_code
def yX2_passWord : MethodName := ⟨RX2, "passWord", "(Ljava/lang/String;)V"⟩
abbrev cX2_passNumber : ByteArray := prog_4_method_12_code
def yX2_passNumber : MethodName := ⟨RX2, "passNumber", "(II)I"⟩
abbrev cX2_isWord : ByteArray := prog_4_method_13_code
def yX2_isWord : MethodName := ⟨RX2, "isWord", "(Ljava/lang/String;)Z"⟩
abbrev cX2_next : ByteArray := prog_4_method_14_code
def yX2_next : MethodName := ⟨RX2, "next", "()V"⟩
abbrev cX2_passLetters : ByteArray := prog_4_method_15_code
def yX2_passLetters : MethodName := ⟨RX2, "passLetters", "()V"⟩
abbrev cX2_passDigits : ByteArray := prog_4_method_16_code
def yX2_passDigits : MethodName := ⟨RX2, "passDigits", "()V"⟩
abbrev cX2_isBlank : ByteArray := prog_4_method_17_code
def yX2_isBlank : MethodName := ⟨RX2, "isBlank", "(I)Z"⟩
abbrev cX2_isLetter : ByteArray := prog_4_method_18_code
def yX2_isLetter : MethodName := ⟨RX2, "isLetter", "(I)Z"⟩
abbrev cX2_isDigit : ByteArray := prog_4_method_19_code
def yX2_isDigit : MethodName := ⟨RX2, "isDigit", "(I)Z"⟩
def RX3 : String := "WheelMemory$Search"
def TX3 : u_T := fun k => match k with
  | 0 => ("WheelMemory$Search", "levels", "[LWheelMemory$State;", true)
  | 1 => ("WheelMemory$Search", "milesLeft", "[I", true)
  | 2 => ("WheelMemory$Search", "roadsLeft", "[I", true)
  | 3 => ("WheelMemory$Search", "row", "[I", true)
  | 4 => ("WheelMemory$Search", "bestRow", "[I", true)
  | 5 => ("WheelMemory$Search", "bestLength", "I", false)
  | 6 => ("WheelMemory$Search", "leastMiles", "I", false)
  | 7 => ("WheelMemory$Search", "cart", "I", false)
  | 8 => ("WheelMemory$Search", "target", "I", false)
  | _ => ("WheelMemory$Search", "crew", "I", false)
def tyX3 : Nat → FieldType := fun k => match k with
  | 0 => .array (.object "WheelMemory$State")
  | 1 => .array .int
  | 2 => .array .int
  | 3 => .array .int
  | 4 => .array .int
  | 5 => .int
  | 6 => .int
  | 7 => .int
  | 8 => .int
  | _ => .int
abbrev wsX30 : List Cond := u_ws RX3 TX3 10
theorem nmX3 : ∀ a, a < 10 → ∀ b, b < 10 → a ≠ b → (TX3 a).2.1 ≠ (TX3 b).2.1 := by decide +kernel
theorem tyX3_ok : ∀ k, k < 10 → parseFieldDescriptor (TX3 k).2.2.1 = some (tyX3 k) := by decide +kernel
abbrev cX3_init : ByteArray := prog_5_method_1_code
def yX3_init : MethodName := ⟨RX3, "<init>", "()V"⟩
abbrev cX3_aim : ByteArray := prog_5_method_2_code
def yX3_aim : MethodName := ⟨RX3, "aim", "(LWheelMemory$Land;II)V"⟩
abbrev cX3_spread : ByteArray := prog_5_method_3_code
def yX3_spread : MethodName := ⟨RX3, "spread", "(III)V"⟩
abbrev cX3_from : ByteArray := prog_5_method_4_code
def yX3_from : MethodName := ⟨RX3, "from", "()LWheelMemory$State;"⟩
abbrev cX3_look : ByteArray := prog_5_method_5_code
def yX3_look : MethodName := ⟨RX3, "look", "(LWheelMemory$Land;)V"⟩
abbrev cX3_miles : ByteArray := prog_5_method_6_code
def yX3_miles : MethodName := ⟨RX3, "miles", "()I"⟩
abbrev cX3_lookFrom : ByteArray := prog_5_method_7_code
def yX3_lookFrom : MethodName := ⟨RX3, "lookFrom", "(LWheelMemory$Land;II)V"⟩
abbrev cX3_lookBy : ByteArray := prog_5_method_8_code
def yX3_lookBy : MethodName := ⟨RX3, "lookBy", "(LWheelMemory$Land;III)V"⟩
abbrev cX3_keepIfBetter : ByteArray := prog_5_method_9_code
def yX3_keepIfBetter : MethodName := ⟨RX3, "keepIfBetter", "(II)V"⟩
def RX4 : String := "WheelMemory$Slots"
def TX4 : u_T := fun k => match k with
  | 0 => ("WheelMemory$Slots", "widths", "[I", true)
  | 1 => ("WheelMemory$Slots", "lengths", "[I", true)
  | _ => ("WheelMemory$Slots", "rows", "[[J", true)
def tyX4 : Nat → FieldType := fun k => match k with
  | 0 => .array .int
  | 1 => .array .int
  | _ => .array (.array .long)
abbrev wsX40 : List Cond := u_ws RX4 TX4 3
theorem nmX4 : ∀ a, a < 3 → ∀ b, b < 3 → a ≠ b → (TX4 a).2.1 ≠ (TX4 b).2.1 := by decide +kernel
theorem tyX4_ok : ∀ k, k < 3 → parseFieldDescriptor (TX4 k).2.2.1 = some (tyX4 k) := by decide +kernel
abbrev cX4_init : ByteArray := prog_6_method_1_code
def yX4_init : MethodName := ⟨RX4, "<init>", "()V"⟩
abbrev cX4_isSlot : ByteArray := prog_6_method_2_code
def yX4_isSlot : MethodName := ⟨RX4, "isSlot", "(I)Z"⟩
abbrev cX4_isWidth : ByteArray := prog_6_method_3_code
def yX4_isWidth : MethodName := ⟨RX4, "isWidth", "(I)Z"⟩
abbrev cX4_hasRow : ByteArray := prog_6_method_4_code
def yX4_hasRow : MethodName := ⟨RX4, "hasRow", "(I)Z"⟩
abbrev cX4_rowCount : ByteArray := prog_6_method_5_code
def yX4_rowCount : MethodName := ⟨RX4, "rowCount", "()I"⟩
abbrev cX4_begin : ByteArray := prog_6_method_6_code
def yX4_begin : MethodName := ⟨RX4, "begin", "(III)V"⟩
abbrev cX4_put : ByteArray := prog_6_method_7_code
def yX4_put : MethodName := ⟨RX4, "put", "(IIJ)V"⟩
abbrev cX4_cut : ByteArray := prog_6_method_8_code
def yX4_cut : MethodName := ⟨RX4, "cut", "(IJ)J"⟩
abbrev cX4_holds : ByteArray := prog_6_method_9_code
def yX4_holds : MethodName := ⟨RX4, "holds", "(III)Z"⟩
def RX5 : String := "WheelMemory$State"
def TX5 : u_T := fun k => match k with
  | 0 => ("WheelMemory$State", "liked", "[I", true)
  | 1 => ("WheelMemory$State", "rims", "[I", true)
  | 2 => ("WheelMemory$State", "seats", "[I", true)
  | 3 => ("WheelMemory$State", "stands", "[I", true)
  | _ => ("WheelMemory$State", "driven", "[I", true)
def tyX5 : Nat → FieldType := fun k => match k with
  | 0 => .array .int
  | 1 => .array .int
  | 2 => .array .int
  | 3 => .array .int
  | _ => .array .int
abbrev wsX50 : List Cond := u_ws RX5 TX5 5
theorem nmX5 : ∀ a, a < 5 → ∀ b, b < 5 → a ≠ b → (TX5 a).2.1 ≠ (TX5 b).2.1 := by decide +kernel
theorem tyX5_ok : ∀ k, k < 5 → parseFieldDescriptor (TX5 k).2.2.1 = some (tyX5 k) := by decide +kernel
abbrev cX5_init : ByteArray := prog_7_method_1_code
def yX5_init : MethodName := ⟨RX5, "<init>", "()V"⟩
abbrev cX5_clear : ByteArray := prog_7_method_2_code
def yX5_clear : MethodName := ⟨RX5, "clear", "()V"⟩
abbrev cX5_copy : ByteArray := prog_7_method_3_code
def yX5_copy : MethodName := ⟨RX5, "copy", "(LWheelMemory$State;)V"⟩
abbrev cX5_likeOf : ByteArray := prog_7_method_4_code
def yX5_likeOf : MethodName := ⟨RX5, "likeOf", "(II)I"⟩
abbrev cX5_setLike : ByteArray := prog_7_method_5_code
def yX5_setLike : MethodName := ⟨RX5, "setLike", "(III)V"⟩
abbrev cX5_likesAll : ByteArray := prog_7_method_6_code
def yX5_likesAll : MethodName := ⟨RX5, "likesAll", "(I)I"⟩
abbrev cX5_likeNothing : ByteArray := prog_7_method_7_code
def yX5_likeNothing : MethodName := ⟨RX5, "likeNothing", "(I)V"⟩
abbrev cX5_worthOf : ByteArray := prog_7_method_8_code
def yX5_worthOf : MethodName := ⟨RX5, "worthOf", "(LWheelMemory$Land;I)I"⟩
abbrev cX5_crewOf : ByteArray := prog_7_method_9_code
def yX5_crewOf : MethodName := ⟨RX5, "crewOf", "(I)I"⟩
abbrev cX5_seat : ByteArray := prog_7_method_10_code
def yX5_seat : MethodName := ⟨RX5, "seat", "(II)V"⟩
abbrev cX5_pullOf : ByteArray := prog_7_method_11_code
def yX5_pullOf : MethodName := ⟨RX5, "pullOf", "(II)I"⟩
abbrev cX5_favourite : ByteArray := prog_7_method_12_code
def yX5_favourite : MethodName := ⟨RX5, "favourite", "(LWheelMemory$Land;II)I"⟩
abbrev cX5_alone : ByteArray := prog_7_method_13_code
def yX5_alone : MethodName := ⟨RX5, "alone", "(LWheelMemory$Land;II)I"⟩
abbrev cX5_yieldTo : ByteArray := prog_7_method_14_code
def yX5_yieldTo : MethodName := ⟨RX5, "yieldTo", "(IIII)I"⟩
abbrev cX5_turnOf : ByteArray := prog_7_method_15_code
def yX5_turnOf : MethodName := ⟨RX5, "turnOf", "(LWheelMemory$Land;II)I"⟩
abbrev cX5_run : ByteArray := prog_7_method_16_code
def yX5_run : MethodName := ⟨RX5, "run", "(III)V"⟩
abbrev cX5_go : ByteArray := prog_7_method_17_code
def yX5_go : MethodName := ⟨RX5, "go", "(LWheelMemory$Land;II)I"⟩
abbrev cX5_goBy : ByteArray := prog_7_method_18_code
def yX5_goBy : MethodName := ⟨RX5, "goBy", "(LWheelMemory$Land;II)V"⟩
abbrev cX5_hasWornWheel : ByteArray := prog_7_method_19_code
def yX5_hasWornWheel : MethodName := ⟨RX5, "hasWornWheel", "(I)Z"⟩
def RX6 : String := "WheelMemory$Tape"
def TX6 : u_T := fun k => match k with
  | 0 => ("WheelMemory$Tape", "bytes", "[B", true)
  | _ => ("WheelMemory$Tape", "length", "I", false)
def tyX6 : Nat → FieldType := fun k => match k with
  | 0 => .array .byte
  | _ => .int
abbrev wsX60 : List Cond := u_ws RX6 TX6 2
theorem nmX6 : ∀ a, a < 2 → ∀ b, b < 2 → a ≠ b → (TX6 a).2.1 ≠ (TX6 b).2.1 := by decide +kernel
theorem tyX6_ok : ∀ k, k < 2 → parseFieldDescriptor (TX6 k).2.2.1 = some (tyX6 k) := by decide +kernel
abbrev cX6_init : ByteArray := prog_8_method_1_code
def yX6_init : MethodName := ⟨RX6, "<init>", "()V"⟩
abbrev cX6_hasRoom : ByteArray := prog_8_method_2_code
def yX6_hasRoom : MethodName := ⟨RX6, "hasRoom", "()Z"⟩
abbrev cX6_append : ByteArray := prog_8_method_3_code
def yX6_append : MethodName := ⟨RX6, "append", "(I)V"⟩
abbrev cX6_byteAt : ByteArray := prog_8_method_4_code
def yX6_byteAt : MethodName := ⟨RX6, "byteAt", "(I)I"⟩
def RX7 : String := "WheelMemory$Trip"
def TX7 : u_T := fun k => match k with
  | 0 => ("WheelMemory$Trip", "drives", "I", false)
  | 1 => ("WheelMemory$Trip", "place", "I", false)
  | 2 => ("WheelMemory$Trip", "miles", "I", false)
  | 3 => ("WheelMemory$Trip", "astrays", "I", false)
  | 4 => ("WheelMemory$Trip", "firstAstray", "I", false)
  | _ => ("WheelMemory$Trip", "firstWorn", "I", false)
def tyX7 : Nat → FieldType := fun k => match k with
  | 0 => .int
  | 1 => .int
  | 2 => .int
  | 3 => .int
  | 4 => .int
  | _ => .int
abbrev wsX70 : List Cond := u_ws RX7 TX7 6
theorem nmX7 : ∀ a, a < 6 → ∀ b, b < 6 → a ≠ b → (TX7 a).2.1 ≠ (TX7 b).2.1 := by decide +kernel
theorem tyX7_ok : ∀ k, k < 6 → parseFieldDescriptor (TX7 k).2.2.1 = some (tyX7 k) := by decide +kernel
abbrev cX7_init : ByteArray := prog_9_method_1_code
def yX7_init : MethodName := ⟨RX7, "<init>", "()V"⟩
abbrev cX7_begin : ByteArray := prog_9_method_2_code
def yX7_begin : MethodName := ⟨RX7, "begin", "(LWheelMemory$State;I)V"⟩
abbrev cX7_goOn : ByteArray := prog_9_method_3_code
def yX7_goOn : MethodName := ⟨RX7, "goOn", "(LWheelMemory$Land;LWheelMemory$State;II)Z"⟩
def RX8 : String := "WheelMemory$World"
def TX8 : u_T := fun k => match k with
  | 0 => ("WheelMemory$World", "told", "LWheelMemory$Land;", true)
  | 1 => ("WheelMemory$World", "now", "LWheelMemory$State;", true)
  | 2 => ("WheelMemory$World", "acts", "I", false)
  | 3 => ("WheelMemory$World", "kinds", "[I", true)
  | 4 => ("WheelMemory$World", "ones", "[I", true)
  | _ => ("WheelMemory$World", "others", "[I", true)
def tyX8 : Nat → FieldType := fun k => match k with
  | 0 => .object "WheelMemory$Land"
  | 1 => .object "WheelMemory$State"
  | 2 => .int
  | 3 => .array .int
  | 4 => .array .int
  | _ => .array .int
abbrev wsX80 : List Cond := u_ws RX8 TX8 6
theorem nmX8 : ∀ a, a < 6 → ∀ b, b < 6 → a ≠ b → (TX8 a).2.1 ≠ (TX8 b).2.1 := by decide +kernel
theorem tyX8_ok : ∀ k, k < 6 → parseFieldDescriptor (TX8 k).2.2.1 = some (tyX8 k) := by decide +kernel
abbrev cX8_init : ByteArray := prog_10_method_1_code
def yX8_init : MethodName := ⟨RX8, "<init>", "()V"⟩
abbrev cX8_begin : ByteArray := prog_10_method_2_code
def yX8_begin : MethodName := ⟨RX8, "begin", "(LWheelMemory$Land;)V"⟩
abbrev cX8_copy : ByteArray := prog_10_method_3_code
def yX8_copy : MethodName := ⟨RX8, "copy", "(LWheelMemory$World;)V"⟩
abbrev cX8_isFull : ByteArray := prog_10_method_4_code
def yX8_isFull : MethodName := ⟨RX8, "isFull", "()Z"⟩
abbrev cX8_act : ByteArray := prog_10_method_5_code
def yX8_act : MethodName := ⟨RX8, "act", "(III)V"⟩
abbrev cX8_keepActs : ByteArray := prog_10_method_6_code
def yX8_keepActs : MethodName := ⟨RX8, "keepActs", "(I)V"⟩
abbrev cX8_perform : ByteArray := prog_10_method_7_code
def yX8_perform : MethodName := ⟨RX8, "perform", "(III)V"⟩
def RX9 : String := "WheelMemory"
def TX9 : u_T := fun k => match k with
  | 0 => ("WheelMemory", "tape", "LWheelMemory$Tape;", true)
  | 1 => ("WheelMemory", "reader", "LWheelMemory$Reader;", true)
  | 2 => ("WheelMemory", "world", "LWheelMemory$World;", true)
  | 3 => ("WheelMemory", "images", "[LWheelMemory$World;", true)
  | 4 => ("WheelMemory", "kept", "[Z", true)
  | 5 => ("WheelMemory", "slots", "LWheelMemory$Slots;", true)
  | 6 => ("WheelMemory", "trial", "LWheelMemory$State;", true)
  | 7 => ("WheelMemory", "trip", "LWheelMemory$Trip;", true)
  | 8 => ("WheelMemory", "search", "LWheelMemory$Search;", true)
  | 9 => ("WheelMemory", "game", "LWheelMemory$Game;", true)
  | _ => ("WheelMemory", "tally", "[I", true)
def tyX9 : Nat → FieldType := fun k => match k with
  | 0 => .object "WheelMemory$Tape"
  | 1 => .object "WheelMemory$Reader"
  | 2 => .object "WheelMemory$World"
  | 3 => .array (.object "WheelMemory$World")
  | 4 => .array .boolean
  | 5 => .object "WheelMemory$Slots"
  | 6 => .object "WheelMemory$State"
  | 7 => .object "WheelMemory$Trip"
  | 8 => .object "WheelMemory$Search"
  | 9 => .object "WheelMemory$Game"
  | _ => .array .int
abbrev wsX90 : List Cond := u_ws RX9 TX9 11
theorem nmX9 : ∀ a, a < 11 → ∀ b, b < 11 → a ≠ b → (TX9 a).2.1 ≠ (TX9 b).2.1 := by decide +kernel
theorem tyX9_ok : ∀ k, k < 11 → parseFieldDescriptor (TX9 k).2.2.1 = some (tyX9 k) := by decide +kernel
abbrev cX9_init : ByteArray := prog_1_method_1_code
def yX9_init : MethodName := ⟨RX9, "<init>", "()V"⟩
abbrev cX9_feed : ByteArray := prog_1_method_2_code
def yX9_feed : MethodName := ⟨RX9, "feed", "(IIIII)I"⟩
abbrev cX9_end : ByteArray := prog_1_method_3_code
def yX9_end : MethodName := ⟨RX9, "end", "(I)I"⟩
abbrev cX9_land : ByteArray := prog_1_method_4_code
def yX9_land : MethodName := ⟨RX9, "land", "()I"⟩
abbrev cX9_fault : ByteArray := prog_1_method_5_code
def yX9_fault : MethodName := ⟨RX9, "fault", "(I)I"⟩
abbrev cX9_road : ByteArray := prog_1_method_6_code
def yX9_road : MethodName := ⟨RX9, "road", "(II)I"⟩
abbrev cX9_likes : ByteArray := prog_1_method_7_code
def yX9_likes : MethodName := ⟨RX9, "likes", "(II)I"⟩
abbrev cX9_wheel : ByteArray := prog_1_method_8_code
def yX9_wheel : MethodName := ⟨RX9, "wheel", "(II)I"⟩
abbrev cX9_cart : ByteArray := prog_1_method_9_code
def yX9_cart : MethodName := ⟨RX9, "cart", "(II)I"⟩
abbrev cX9_errand : ByteArray := prog_1_method_10_code
def yX9_errand : MethodName := ⟨RX9, "errand", "(II)I"⟩
abbrev cX9_roads : ByteArray := prog_1_method_11_code
def yX9_roads : MethodName := ⟨RX9, "roads", "(I)I"⟩
abbrev cX9_pull : ByteArray := prog_1_method_12_code
def yX9_pull : MethodName := ⟨RX9, "pull", "(II)I"⟩
abbrev cX9_takes : ByteArray := prog_1_method_13_code
def yX9_takes : MethodName := ⟨RX9, "takes", "(II)I"⟩
abbrev cX9_aside : ByteArray := prog_1_method_14_code
def yX9_aside : MethodName := ⟨RX9, "aside", "(I)I"⟩
abbrev cX9_argue : ByteArray := prog_1_method_15_code
def yX9_argue : MethodName := ⟨RX9, "argue", "(II)I"⟩
abbrev cX9_isByCart : ByteArray := prog_1_method_16_code
def yX9_isByCart : MethodName := ⟨RX9, "isByCart", "(II)Z"⟩
abbrev cX9_canWant : ByteArray := prog_1_method_17_code
def yX9_canWant : MethodName := ⟨RX9, "canWant", "(II)Z"⟩
abbrev cX9_drive : ByteArray := prog_1_method_18_code
def yX9_drive : MethodName := ⟨RX9, "drive", "(II)I"⟩
abbrev cX9_swap : ByteArray := prog_1_method_19_code
def yX9_swap : MethodName := ⟨RX9, "swap", "(II)I"⟩
abbrev cX9_grease : ByteArray := prog_1_method_20_code
def yX9_grease : MethodName := ⟨RX9, "grease", "(I)I"⟩
abbrev cX9_undo : ByteArray := prog_1_method_21_code
def yX9_undo : MethodName := ⟨RX9, "undo", "()I"⟩
abbrev cX9_anew : ByteArray := prog_1_method_22_code
def yX9_anew : MethodName := ⟨RX9, "anew", "()I"⟩
abbrev cX9_goes : ByteArray := prog_1_method_23_code
def yX9_goes : MethodName := ⟨RX9, "goes", "(II)I"⟩
abbrev cX9_ends : ByteArray := prog_1_method_24_code
def yX9_ends : MethodName := ⟨RX9, "ends", "(II)I"⟩
abbrev cX9_ran : ByteArray := prog_1_method_25_code
def yX9_ran : MethodName := ⟨RX9, "ran", "(II)I"⟩
abbrev cX9_astray : ByteArray := prog_1_method_26_code
def yX9_astray : MethodName := ⟨RX9, "astray", "(II)I"⟩
abbrev cX9_worn : ByteArray := prog_1_method_27_code
def yX9_worn : MethodName := ⟨RX9, "worn", "(II)I"⟩
abbrev cX9_follow : ByteArray := prog_1_method_28_code
def yX9_follow : MethodName := ⟨RX9, "follow", "(II)I"⟩
abbrev cX9_way : ByteArray := prog_1_method_29_code
def yX9_way : MethodName := ⟨RX9, "way", "(II)I"⟩
abbrev cX9_wants : ByteArray := prog_1_method_30_code
def yX9_wants : MethodName := ⟨RX9, "wants", "(III)I"⟩
abbrev cX9_reach : ByteArray := prog_1_method_31_code
def yX9_reach : MethodName := ⟨RX9, "reach", "(I)I"⟩
abbrev cX9_far : ByteArray := prog_1_method_32_code
def yX9_far : MethodName := ⟨RX9, "far", "(II)I"⟩
abbrev cX9_dues : ByteArray := prog_1_method_33_code
def yX9_dues : MethodName := ⟨RX9, "dues", "()I"⟩
abbrev cX9_choose : ByteArray := prog_1_method_34_code
def yX9_choose : MethodName := ⟨RX9, "choose", "(II)I"⟩
abbrev cX9_chosen : ByteArray := prog_1_method_35_code
def yX9_chosen : MethodName := ⟨RX9, "chosen", "(II)I"⟩
abbrev cX9_leastMiles : ByteArray := prog_1_method_36_code
def yX9_leastMiles : MethodName := ⟨RX9, "leastMiles", "(II)I"⟩
abbrev cX9_chooseWheels : ByteArray := prog_1_method_37_code
def yX9_chooseWheels : MethodName := ⟨RX9, "chooseWheels", "(II)I"⟩
abbrev cX9_freeWheels : ByteArray := prog_1_method_38_code
def yX9_freeWheels : MethodName := ⟨RX9, "freeWheels", "()I"⟩
abbrev cX9_roams : ByteArray := prog_1_method_39_code
def yX9_roams : MethodName := ⟨RX9, "roams", "(II)I"⟩
abbrev cX9_circle : ByteArray := prog_1_method_40_code
def yX9_circle : MethodName := ⟨RX9, "circle", "(I)I"⟩
abbrev cX9_haunts : ByteArray := prog_1_method_41_code
def yX9_haunts : MethodName := ⟨RX9, "haunts", "(I)I"⟩
abbrev cX9_meet : ByteArray := prog_1_method_42_code
def yX9_meet : MethodName := ⟨RX9, "meet", "(II)I"⟩
abbrev cX9_met : ByteArray := prog_1_method_43_code
def yX9_met : MethodName := ⟨RX9, "met", "(II)I"⟩
abbrev cX9_meetIn : ByteArray := prog_1_method_44_code
def yX9_meetIn : MethodName := ⟨RX9, "meetIn", "(II)I"⟩
abbrev cX9_fits : ByteArray := prog_1_method_45_code
def yX9_fits : MethodName := ⟨RX9, "fits", "(I)I"⟩
abbrev cX9_ask : ByteArray := prog_1_method_46_code
def yX9_ask : MethodName := ⟨RX9, "ask", "(I)I"⟩
abbrev cX9_leaves : ByteArray := prog_1_method_47_code
def yX9_leaves : MethodName := ⟨RX9, "leaves", "(I)I"⟩
abbrev cX9_votes : ByteArray := prog_1_method_48_code
def yX9_votes : MethodName := ⟨RX9, "votes", "(II)I"⟩
abbrev cX9_fitting : ByteArray := prog_1_method_49_code
def yX9_fitting : MethodName := ⟨RX9, "fitting", "(I)I"⟩
abbrev cX9_votersOf : ByteArray := prog_1_method_50_code
def yX9_votersOf : MethodName := ⟨RX9, "votersOf", "(II)I"⟩
abbrev cX9_placeToAsk : ByteArray := prog_1_method_51_code
def yX9_placeToAsk : MethodName := ⟨RX9, "placeToAsk", "(I)I"⟩
abbrev cX9_worstAt : ByteArray := prog_1_method_52_code
def yX9_worstAt : MethodName := ⟨RX9, "worstAt", "(II)I"⟩
abbrev cX9_loved : ByteArray := prog_1_method_53_code
def yX9_loved : MethodName := ⟨RX9, "loved", "(I)I"⟩
abbrev cX9_dearest : ByteArray := prog_1_method_54_code
def yX9_dearest : MethodName := ⟨RX9, "dearest", "()I"⟩
abbrev cX9_agree : ByteArray := prog_1_method_55_code
def yX9_agree : MethodName := ⟨RX9, "agree", "(II)I"⟩
abbrev cX9_mate : ByteArray := prog_1_method_56_code
def yX9_mate : MethodName := ⟨RX9, "mate", "(I)I"⟩
abbrev cX9_agreements : ByteArray := prog_1_method_57_code
def yX9_agreements : MethodName := ⟨RX9, "agreements", "(II)I"⟩
abbrev cX9_teach : ByteArray := prog_1_method_58_code
def yX9_teach : MethodName := ⟨RX9, "teach", "(II)I"⟩
abbrev cX9_blind : ByteArray := prog_1_method_59_code
def yX9_blind : MethodName := ⟨RX9, "blind", "(II)I"⟩
abbrev cX9_blinds : ByteArray := prog_1_method_60_code
def yX9_blinds : MethodName := ⟨RX9, "blinds", "(II)I"⟩
abbrev cX9_greasedSet : ByteArray := prog_1_method_61_code
def yX9_greasedSet : MethodName := ⟨RX9, "greasedSet", "(II)I"⟩
abbrev cX9_lasts : ByteArray := prog_1_method_62_code
def yX9_lasts : MethodName := ⟨RX9, "lasts", "(II)I"⟩
abbrev cX9_share : ByteArray := prog_1_method_63_code
def yX9_share : MethodName := ⟨RX9, "share", "(III)I"⟩
abbrev cX9_cutShare : ByteArray := prog_1_method_64_code
def yX9_cutShare : MethodName := ⟨RX9, "cutShare", "(IIII)I"⟩
abbrev cX9_worth : ByteArray := prog_1_method_65_code
def yX9_worth : MethodName := ⟨RX9, "worth", "(I)I"⟩
abbrev cX9_smiths : ByteArray := prog_1_method_66_code
def yX9_smiths : MethodName := ⟨RX9, "smiths", "()I"⟩
abbrev cX9_picks : ByteArray := prog_1_method_67_code
def yX9_picks : MethodName := ⟨RX9, "picks", "()I"⟩
abbrev cX9_drawn : ByteArray := prog_1_method_68_code
def yX9_drawn : MethodName := ⟨RX9, "drawn", "(IIII)I"⟩
abbrev cX9_luck : ByteArray := prog_1_method_69_code
def yX9_luck : MethodName := ⟨RX9, "luck", "(IIIII)I"⟩
abbrev cX9_canDraw : ByteArray := prog_1_method_70_code
def yX9_canDraw : MethodName := ⟨RX9, "canDraw", "(III)Z"⟩
abbrev cX9_drawDrives : ByteArray := prog_1_method_71_code
def yX9_drawDrives : MethodName := ⟨RX9, "drawDrives", "(III)V"⟩
abbrev cX9_nthBit : ByteArray := prog_1_method_72_code
def yX9_nthBit : MethodName := ⟨RX9, "nthBit", "(II)I"⟩
abbrev cX9_tell : ByteArray := prog_1_method_73_code
def yX9_tell : MethodName := ⟨RX9, "tell", "(III)I"⟩
abbrev cX9_hand : ByteArray := prog_1_method_74_code
def yX9_hand : MethodName := ⟨RX9, "hand", "(I)I"⟩
abbrev cX9_count : ByteArray := prog_1_method_75_code
def yX9_count : MethodName := ⟨RX9, "count", "(I)I"⟩
abbrev cX9_image : ByteArray := prog_1_method_76_code
def yX9_image : MethodName := ⟨RX9, "image", "(I)I"⟩
abbrev cX9_back : ByteArray := prog_1_method_77_code
def yX9_back : MethodName := ⟨RX9, "back", "(I)I"⟩
abbrev cX9_row : ByteArray := prog_1_method_78_code
def yX9_row : MethodName := ⟨RX9, "row", "(III)I"⟩
abbrev cX9_write : ByteArray := prog_1_method_79_code
def yX9_write : MethodName := ⟨RX9, "write", "(IIJ)I"⟩
abbrev cX9_paste : ByteArray := prog_1_method_80_code
def yX9_paste : MethodName := ⟨RX9, "paste", "(IIIII)I"⟩
def RX10 : String := "WheelMemoryModel"
def TX10 : u_T := fun k => match k with
  | 0 => ("WheelMemoryModel", "thrown", "I", false)
  | 1 => ("WheelMemoryModel", "world", "[I", true)
  | 2 => ("WheelMemoryModel", "images", "[I", true)
  | 3 => ("WheelMemoryModel", "hasImage", "[Z", true)
  | 4 => ("WheelMemoryModel", "tape", "[B", true)
  | 5 => ("WheelMemoryModel", "taped", "I", false)
  | 6 => ("WheelMemoryModel", "five", "[I", true)
  | 7 => ("WheelMemoryModel", "size", "I", false)
  | 8 => ("WheelMemoryModel", "at", "I", false)
  | 9 => ("WheelMemoryModel", "from", "I", false)
  | 10 => ("WheelMemoryModel", "token", "I", false)
  | 11 => ("WheelMemoryModel", "value", "I", false)
  | 12 => ("WheelMemoryModel", "faultKind", "I", false)
  | 13 => ("WheelMemoryModel", "faultPlace", "I", false)
  | 14 => ("WheelMemoryModel", "fresh", "[I", true)
  | 15 => ("WheelMemoryModel", "rim", "[I", true)
  | 16 => ("WheelMemoryModel", "like", "[I", true)
  | 17 => ("WheelMemoryModel", "seat", "[I", true)
  | 18 => ("WheelMemoryModel", "place", "[I", true)
  | 19 => ("WheelMemoryModel", "miles", "[I", true)
  | 20 => ("WheelMemoryModel", "rowMany", "I", false)
  | 21 => ("WheelMemoryModel", "rowAstray", "I", false)
  | 22 => ("WheelMemoryModel", "rowWorn", "I", false)
  | 23 => ("WheelMemoryModel", "deep", "[I", true)
  | 24 => ("WheelMemoryModel", "wanted", "[I", true)
  | 25 => ("WheelMemoryModel", "bestWanted", "[I", true)
  | 26 => ("WheelMemoryModel", "bestMany", "I", false)
  | 27 => ("WheelMemoryModel", "reached", "I", false)
  | 28 => ("WheelMemoryModel", "far", "[I", true)
  | 29 => ("WheelMemoryModel", "chosenSet", "I", false)
  | 30 => ("WheelMemoryModel", "roamed", "[I", true)
  | 31 => ("WheelMemoryModel", "askWorst", "I", false)
  | 32 => ("WheelMemoryModel", "gain", "[I", true)
  | 33 => ("WheelMemoryModel", "drawnAstray", "I", false)
  | 34 => ("WheelMemoryModel", "many", "[I", true)
  | 35 => ("WheelMemoryModel", "width", "[I", true)
  | 36 => ("WheelMemoryModel", "numbers", "[J", true)
  | _ => ("WheelMemoryModel", "moving", "[J", true)
def tyX10 : Nat → FieldType := fun k => match k with
  | 0 => .int
  | 1 => .array .int
  | 2 => .array .int
  | 3 => .array .boolean
  | 4 => .array .byte
  | 5 => .int
  | 6 => .array .int
  | 7 => .int
  | 8 => .int
  | 9 => .int
  | 10 => .int
  | 11 => .int
  | 12 => .int
  | 13 => .int
  | 14 => .array .int
  | 15 => .array .int
  | 16 => .array .int
  | 17 => .array .int
  | 18 => .array .int
  | 19 => .array .int
  | 20 => .int
  | 21 => .int
  | 22 => .int
  | 23 => .array .int
  | 24 => .array .int
  | 25 => .array .int
  | 26 => .int
  | 27 => .int
  | 28 => .array .int
  | 29 => .int
  | 30 => .array .int
  | 31 => .int
  | 32 => .array .int
  | 33 => .int
  | 34 => .array .int
  | 35 => .array .int
  | 36 => .array .long
  | _ => .array .long
abbrev wsX100 : List Cond := u_ws RX10 TX10 38
theorem nmX10 : ∀ a, a < 38 → ∀ b, b < 38 → a ≠ b → (TX10 a).2.1 ≠ (TX10 b).2.1 := by decide +kernel
theorem tyX10_ok : ∀ k, k < 38 → parseFieldDescriptor (TX10 k).2.2.1 = some (tyX10 k) := by decide +kernel
abbrev cX10_init : ByteArray := prog_12_method_1_code
def yX10_init : MethodName := ⟨RX10, "<init>", "()V"⟩
abbrev cX10_in : ByteArray := prog_12_method_3_code
def yX10_in : MethodName := ⟨RX10, "in", "(JJJ)Z"⟩
abbrev cX10_bits : ByteArray := prog_12_method_4_code
def yX10_bits : MethodName := ⟨RX10, "bits", "(I)I"⟩
abbrev cX10_bit : ByteArray := prog_12_method_5_code
def yX10_bit : MethodName := ⟨RX10, "bit", "(II)I"⟩
abbrev cX10_image : ByteArray := prog_12_method_6_code
def yX10_image : MethodName := ⟨RX10, "image", "(I)I"⟩
abbrev cX10_back : ByteArray := prog_12_method_7_code
def yX10_back : MethodName := ⟨RX10, "back", "(I)I"⟩
abbrev cX10_isLand : ByteArray := prog_12_method_8_code
def yX10_isLand : MethodName := ⟨RX10, "isLand", "()Z"⟩
abbrev cX10_isPlace : ByteArray := prog_12_method_9_code
def yX10_isPlace : MethodName := ⟨RX10, "isPlace", "(J)Z"⟩
abbrev cX10_isRoad : ByteArray := prog_12_method_10_code
def yX10_isRoad : MethodName := ⟨RX10, "isRoad", "(J)Z"⟩
abbrev cX10_isWheel : ByteArray := prog_12_method_11_code
def yX10_isWheel : MethodName := ⟨RX10, "isWheel", "(I)Z"⟩
abbrev cX10_isCart : ByteArray := prog_12_method_12_code
def yX10_isCart : MethodName := ⟨RX10, "isCart", "(I)Z"⟩
abbrev cX10_end : ByteArray := prog_12_method_13_code
def yX10_end : MethodName := ⟨RX10, "end", "(II)I"⟩
abbrev cX10_milesOf : ByteArray := prog_12_method_14_code
def yX10_milesOf : MethodName := ⟨RX10, "milesOf", "(I)I"⟩
abbrev cX10_isOf : ByteArray := prog_12_method_15_code
def yX10_isOf : MethodName := ⟨RX10, "isOf", "(II)Z"⟩
abbrev cX10_over : ByteArray := prog_12_method_16_code
def yX10_over : MethodName := ⟨RX10, "over", "(II)I"⟩
abbrev cX10_roadsOf : ByteArray := prog_12_method_17_code
def yX10_roadsOf : MethodName := ⟨RX10, "roadsOf", "(I)I"⟩
abbrev cX10_feed : ByteArray := prog_12_method_18_code
def yX10_feed : MethodName := ⟨RX10, "feed", "(IIIII)I"⟩
abbrev cX10_end_ : ByteArray := prog_12_method_19_code
def yX10_end_ : MethodName := ⟨RX10, "end", "(I)I"⟩
abbrev cX10_see : ByteArray := prog_12_method_20_code
def yX10_see : MethodName := ⟨RX10, "see", "(I)I"⟩
abbrev cX10_advance : ByteArray := prog_12_method_21_code
def yX10_advance : MethodName := ⟨RX10, "advance", "()V"⟩
abbrev cX10_good : ByteArray := prog_12_method_22_code
def yX10_good : MethodName := ⟨RX10, "good", "()Z"⟩
abbrev cX10_errs : ByteArray := prog_12_method_23_code
def yX10_errs : MethodName := ⟨RX10, "errs", "(I)V"⟩
abbrev cX10_is : ByteArray := prog_12_method_24_code
def yX10_is : MethodName := ⟨RX10, "is", "(Ljava/lang/String;)Z"⟩
abbrev cX10_takes : ByteArray := prog_12_method_25_code
def yX10_takes : MethodName := ⟨RX10, "takes", "(Ljava/lang/String;)Z"⟩
abbrev cX10_needs : ByteArray := prog_12_method_26_code
def yX10_needs : MethodName := ⟨RX10, "needs", "(Ljava/lang/String;)V"⟩
abbrev cX10_number : ByteArray := prog_12_method_27_code
def yX10_number : MethodName := ⟨RX10, "number", "(II)I"⟩
abbrev cX10_told : ByteArray := prog_12_method_28_code
def yX10_told : MethodName := ⟨RX10, "told", "(Ljava/lang/String;II)I"⟩
abbrev cX10_fault : ByteArray := prog_12_method_29_code
def yX10_fault : MethodName := ⟨RX10, "fault", "(I)I"⟩
abbrev cX10_freshPlace : ByteArray := prog_12_method_30_code
def yX10_freshPlace : MethodName := ⟨RX10, "freshPlace", "()I"⟩
abbrev cX10_readRoad : ByteArray := prog_12_method_31_code
def yX10_readRoad : MethodName := ⟨RX10, "readRoad", "()V"⟩
abbrev cX10_readWheel : ByteArray := prog_12_method_32_code
def yX10_readWheel : MethodName := ⟨RX10, "readWheel", "()V"⟩
abbrev cX10_freshSeated : ByteArray := prog_12_method_33_code
def yX10_freshSeated : MethodName := ⟨RX10, "freshSeated", "()I"⟩
abbrev cX10_readCart : ByteArray := prog_12_method_34_code
def yX10_readCart : MethodName := ⟨RX10, "readCart", "()V"⟩
abbrev cX10_readErrand : ByteArray := prog_12_method_35_code
def yX10_readErrand : MethodName := ⟨RX10, "readErrand", "()V"⟩
abbrev cX10_readNext : ByteArray := prog_12_method_36_code
def yX10_readNext : MethodName := ⟨RX10, "readNext", "()V"⟩
abbrev cX10_readLine : ByteArray := prog_12_method_37_code
def yX10_readLine : MethodName := ⟨RX10, "readLine", "()V"⟩
abbrev cX10_land : ByteArray := prog_12_method_38_code
def yX10_land : MethodName := ⟨RX10, "land", "()I"⟩
abbrev cX10_asItIs : ByteArray := prog_12_method_39_code
def yX10_asItIs : MethodName := ⟨RX10, "asItIs", "()V"⟩
abbrev cX10_act0 : ByteArray := prog_12_method_40_code
def yX10_act0 : MethodName := ⟨RX10, "act0", "(I)V"⟩
abbrev cX10_wheelsOf : ByteArray := prog_12_method_41_code
def yX10_wheelsOf : MethodName := ⟨RX10, "wheelsOf", "(I)I"⟩
abbrev cX10_pullOf : ByteArray := prog_12_method_42_code
def yX10_pullOf : MethodName := ⟨RX10, "pullOf", "(II)I"⟩
abbrev cX10_turnBy : ByteArray := prog_12_method_43_code
def yX10_turnBy : MethodName := ⟨RX10, "turnBy", "(IIII)I"⟩
abbrev cX10_turnOf : ByteArray := prog_12_method_44_code
def yX10_turnOf : MethodName := ⟨RX10, "turnOf", "(II)I"⟩
abbrev cX10_aloneIn : ByteArray := prog_12_method_45_code
def yX10_aloneIn : MethodName := ⟨RX10, "aloneIn", "(II)I"⟩
abbrev cX10_forget : ByteArray := prog_12_method_46_code
def yX10_forget : MethodName := ⟨RX10, "forget", "(I)V"⟩
abbrev cX10_run : ByteArray := prog_12_method_47_code
def yX10_run : MethodName := ⟨RX10, "run", "(II)V"⟩
abbrev cX10_driveBy : ByteArray := prog_12_method_48_code
def yX10_driveBy : MethodName := ⟨RX10, "driveBy", "(II)I"⟩
abbrev cX10_swapSeats : ByteArray := prog_12_method_49_code
def yX10_swapSeats : MethodName := ⟨RX10, "swapSeats", "(II)V"⟩
abbrev cX10_likedOf : ByteArray := prog_12_method_50_code
def yX10_likedOf : MethodName := ⟨RX10, "likedOf", "(I)I"⟩
abbrev cX10_road : ByteArray := prog_12_method_51_code
def yX10_road : MethodName := ⟨RX10, "road", "(II)I"⟩
abbrev cX10_likes : ByteArray := prog_12_method_52_code
def yX10_likes : MethodName := ⟨RX10, "likes", "(II)I"⟩
abbrev cX10_wheel : ByteArray := prog_12_method_53_code
def yX10_wheel : MethodName := ⟨RX10, "wheel", "(II)I"⟩
abbrev cX10_cart : ByteArray := prog_12_method_54_code
def yX10_cart : MethodName := ⟨RX10, "cart", "(II)I"⟩
abbrev cX10_errand : ByteArray := prog_12_method_55_code
def yX10_errand : MethodName := ⟨RX10, "errand", "(II)I"⟩
abbrev cX10_roads : ByteArray := prog_12_method_56_code
def yX10_roads : MethodName := ⟨RX10, "roads", "(I)I"⟩
abbrev cX10_pull : ByteArray := prog_12_method_57_code
def yX10_pull : MethodName := ⟨RX10, "pull", "(II)I"⟩
abbrev cX10_canWant : ByteArray := prog_12_method_58_code
def yX10_canWant : MethodName := ⟨RX10, "canWant", "(IJ)Z"⟩
abbrev cX10_takes_ : ByteArray := prog_12_method_59_code
def yX10_takes_ : MethodName := ⟨RX10, "takes", "(II)I"⟩
abbrev cX10_aside : ByteArray := prog_12_method_60_code
def yX10_aside : MethodName := ⟨RX10, "aside", "(I)I"⟩
abbrev cX10_argue : ByteArray := prog_12_method_61_code
def yX10_argue : MethodName := ⟨RX10, "argue", "(II)I"⟩
abbrev cX10_keepAct : ByteArray := prog_12_method_62_code
def yX10_keepAct : MethodName := ⟨RX10, "keepAct", "(I)V"⟩
abbrev cX10_drive : ByteArray := prog_12_method_63_code
def yX10_drive : MethodName := ⟨RX10, "drive", "(II)I"⟩
abbrev cX10_swap : ByteArray := prog_12_method_64_code
def yX10_swap : MethodName := ⟨RX10, "swap", "(II)I"⟩
abbrev cX10_grease : ByteArray := prog_12_method_65_code
def yX10_grease : MethodName := ⟨RX10, "grease", "(I)I"⟩
abbrev cX10_undo : ByteArray := prog_12_method_66_code
def yX10_undo : MethodName := ⟨RX10, "undo", "()I"⟩
abbrev cX10_anew : ByteArray := prog_12_method_67_code
def yX10_anew : MethodName := ⟨RX10, "anew", "()I"⟩
abbrev cX10_numberAt : ByteArray := prog_12_method_68_code
def yX10_numberAt : MethodName := ⟨RX10, "numberAt", "(II)J"⟩
abbrev cX10_asksRow : ByteArray := prog_12_method_69_code
def yX10_asksRow : MethodName := ⟨RX10, "asksRow", "(II)I"⟩
abbrev cX10_isWorn : ByteArray := prog_12_method_70_code
def yX10_isWorn : MethodName := ⟨RX10, "isWorn", "(I)Z"⟩
abbrev cX10_goRow : ByteArray := prog_12_method_71_code
def yX10_goRow : MethodName := ⟨RX10, "goRow", "(II)V"⟩
abbrev cX10_goes : ByteArray := prog_12_method_72_code
def yX10_goes : MethodName := ⟨RX10, "goes", "(II)I"⟩
abbrev cX10_ends : ByteArray := prog_12_method_73_code
def yX10_ends : MethodName := ⟨RX10, "ends", "(II)I"⟩
abbrev cX10_ran : ByteArray := prog_12_method_74_code
def yX10_ran : MethodName := ⟨RX10, "ran", "(II)I"⟩
abbrev cX10_astray : ByteArray := prog_12_method_75_code
def yX10_astray : MethodName := ⟨RX10, "astray", "(II)I"⟩
abbrev cX10_worn : ByteArray := prog_12_method_76_code
def yX10_worn : MethodName := ⟨RX10, "worn", "(II)I"⟩
abbrev cX10_put : ByteArray := prog_12_method_77_code
def yX10_put : MethodName := ⟨RX10, "put", "(II)V"⟩
abbrev cX10_get : ByteArray := prog_12_method_78_code
def yX10_get : MethodName := ⟨RX10, "get", "(II)V"⟩
abbrev cX10_wayOf : ByteArray := prog_12_method_79_code
def yX10_wayOf : MethodName := ⟨RX10, "wayOf", "(II)I"⟩
abbrev cX10_way : ByteArray := prog_12_method_80_code
def yX10_way : MethodName := ⟨RX10, "way", "(II)I"⟩
abbrev cX10_wants : ByteArray := prog_12_method_81_code
def yX10_wants : MethodName := ⟨RX10, "wants", "(III)I"⟩
abbrev cX10_reach : ByteArray := prog_12_method_82_code
def yX10_reach : MethodName := ⟨RX10, "reach", "(I)I"⟩
abbrev cX10_far : ByteArray := prog_12_method_83_code
def yX10_far : MethodName := ⟨RX10, "far", "(II)I"⟩
abbrev cX10_dues : ByteArray := prog_12_method_84_code
def yX10_dues : MethodName := ⟨RX10, "dues", "()I"⟩
abbrev cX10_chooseOf : ByteArray := prog_12_method_85_code
def yX10_chooseOf : MethodName := ⟨RX10, "chooseOf", "(II)I"⟩
abbrev cX10_choose : ByteArray := prog_12_method_86_code
def yX10_choose : MethodName := ⟨RX10, "choose", "(II)I"⟩
abbrev cX10_chosen : ByteArray := prog_12_method_87_code
def yX10_chosen : MethodName := ⟨RX10, "chosen", "(II)I"⟩
abbrev cX10_goRoam : ByteArray := prog_12_method_88_code
def yX10_goRoam : MethodName := ⟨RX10, "goRoam", "(I)V"⟩
abbrev cX10_roams : ByteArray := prog_12_method_89_code
def yX10_roams : MethodName := ⟨RX10, "roams", "(II)I"⟩
abbrev cX10_circle : ByteArray := prog_12_method_90_code
def yX10_circle : MethodName := ⟨RX10, "circle", "(I)I"⟩
abbrev cX10_haunts : ByteArray := prog_12_method_91_code
def yX10_haunts : MethodName := ⟨RX10, "haunts", "(I)I"⟩
abbrev cX10_wider : ByteArray := prog_12_method_92_code
def yX10_wider : MethodName := ⟨RX10, "wider", "(I)I"⟩
abbrev cX10_meetOf : ByteArray := prog_12_method_93_code
def yX10_meetOf : MethodName := ⟨RX10, "meetOf", "(II)I"⟩
abbrev cX10_meet : ByteArray := prog_12_method_94_code
def yX10_meet : MethodName := ⟨RX10, "meet", "(II)I"⟩
abbrev cX10_met : ByteArray := prog_12_method_95_code
def yX10_met : MethodName := ⟨RX10, "met", "(II)I"⟩
abbrev cX10_asksSeen : ByteArray := prog_12_method_96_code
def yX10_asksSeen : MethodName := ⟨RX10, "asksSeen", "(I)I"⟩
abbrev cX10_fitsOf : ByteArray := prog_12_method_97_code
def yX10_fitsOf : MethodName := ⟨RX10, "fitsOf", "(I)I"⟩
abbrev cX10_fits : ByteArray := prog_12_method_98_code
def yX10_fits : MethodName := ⟨RX10, "fits", "(I)I"⟩
abbrev cX10_worstIn : ByteArray := prog_12_method_99_code
def yX10_worstIn : MethodName := ⟨RX10, "worstIn", "(II)I"⟩
abbrev cX10_askOf : ByteArray := prog_12_method_100_code
def yX10_askOf : MethodName := ⟨RX10, "askOf", "(I)I"⟩
abbrev cX10_ask : ByteArray := prog_12_method_101_code
def yX10_ask : MethodName := ⟨RX10, "ask", "(I)I"⟩
abbrev cX10_leaves : ByteArray := prog_12_method_102_code
def yX10_leaves : MethodName := ⟨RX10, "leaves", "(I)I"⟩
abbrev cX10_votes : ByteArray := prog_12_method_103_code
def yX10_votes : MethodName := ⟨RX10, "votes", "(II)I"⟩
abbrev cX10_lovedOf : ByteArray := prog_12_method_104_code
def yX10_lovedOf : MethodName := ⟨RX10, "lovedOf", "(I)I"⟩
abbrev cX10_loved : ByteArray := prog_12_method_105_code
def yX10_loved : MethodName := ⟨RX10, "loved", "(I)I"⟩
abbrev cX10_dearest : ByteArray := prog_12_method_106_code
def yX10_dearest : MethodName := ⟨RX10, "dearest", "()I"⟩
abbrev cX10_agreeOf : ByteArray := prog_12_method_107_code
def yX10_agreeOf : MethodName := ⟨RX10, "agreeOf", "(II)I"⟩
abbrev cX10_agree : ByteArray := prog_12_method_108_code
def yX10_agree : MethodName := ⟨RX10, "agree", "(II)I"⟩
abbrev cX10_mate : ByteArray := prog_12_method_109_code
def yX10_mate : MethodName := ⟨RX10, "mate", "(I)I"⟩
abbrev cX10_teach : ByteArray := prog_12_method_110_code
def yX10_teach : MethodName := ⟨RX10, "teach", "(II)I"⟩
abbrev cX10_blindOf : ByteArray := prog_12_method_111_code
def yX10_blindOf : MethodName := ⟨RX10, "blindOf", "(II)I"⟩
abbrev cX10_blind : ByteArray := prog_12_method_112_code
def yX10_blind : MethodName := ⟨RX10, "blind", "(II)I"⟩
abbrev cX10_blinds : ByteArray := prog_12_method_113_code
def yX10_blinds : MethodName := ⟨RX10, "blinds", "(II)I"⟩
abbrev cX10_lasts : ByteArray := prog_12_method_114_code
def yX10_lasts : MethodName := ⟨RX10, "lasts", "(II)I"⟩
abbrev cX10_shareOf : ByteArray := prog_12_method_115_code
def yX10_shareOf : MethodName := ⟨RX10, "shareOf", "(IZ)I"⟩
abbrev cX10_share : ByteArray := prog_12_method_116_code
def yX10_share : MethodName := ⟨RX10, "share", "(III)I"⟩
abbrev cX10_worthOf : ByteArray := prog_12_method_117_code
def yX10_worthOf : MethodName := ⟨RX10, "worthOf", "(I)I"⟩
abbrev cX10_worth : ByteArray := prog_12_method_118_code
def yX10_worth : MethodName := ⟨RX10, "worth", "(I)I"⟩
abbrev cX10_gainBy : ByteArray := prog_12_method_119_code
def yX10_gainBy : MethodName := ⟨RX10, "gainBy", "(IIZ)I"⟩
abbrev cX10_smithsOf : ByteArray := prog_12_method_120_code
def yX10_smithsOf : MethodName := ⟨RX10, "smithsOf", "(I)I"⟩
abbrev cX10_smiths : ByteArray := prog_12_method_121_code
def yX10_smiths : MethodName := ⟨RX10, "smiths", "()I"⟩
abbrev cX10_picks : ByteArray := prog_12_method_122_code
def yX10_picks : MethodName := ⟨RX10, "picks", "()I"⟩
abbrev cX10_roadAt : ByteArray := prog_12_method_123_code
def yX10_roadAt : MethodName := ⟨RX10, "roadAt", "(II)I"⟩
abbrev cX10_goDrawn : ByteArray := prog_12_method_124_code
def yX10_goDrawn : MethodName := ⟨RX10, "goDrawn", "(JII)V"⟩
abbrev cX10_isDrawn : ByteArray := prog_12_method_125_code
def yX10_isDrawn : MethodName := ⟨RX10, "isDrawn", "(III)Z"⟩
abbrev cX10_drawn : ByteArray := prog_12_method_126_code
def yX10_drawn : MethodName := ⟨RX10, "drawn", "(IIII)I"⟩
abbrev cX10_luck : ByteArray := prog_12_method_127_code
def yX10_luck : MethodName := ⟨RX10, "luck", "(IIIII)I"⟩
abbrev cX10_tell : ByteArray := prog_12_method_128_code
def yX10_tell : MethodName := ⟨RX10, "tell", "(III)I"⟩
abbrev cX10_hand : ByteArray := prog_12_method_129_code
def yX10_hand : MethodName := ⟨RX10, "hand", "(I)I"⟩
abbrev cX10_count : ByteArray := prog_12_method_130_code
def yX10_count : MethodName := ⟨RX10, "count", "(I)I"⟩
abbrev cX10_isSlot : ByteArray := prog_12_method_131_code
def yX10_isSlot : MethodName := ⟨RX10, "isSlot", "(I)Z"⟩
abbrev cX10_cut : ByteArray := prog_12_method_132_code
def yX10_cut : MethodName := ⟨RX10, "cut", "(JI)J"⟩
abbrev cX10_row : ByteArray := prog_12_method_133_code
def yX10_row : MethodName := ⟨RX10, "row", "(III)I"⟩
abbrev cX10_write : ByteArray := prog_12_method_134_code
def yX10_write : MethodName := ⟨RX10, "write", "(IIJ)I"⟩
abbrev cX10_paste : ByteArray := prog_12_method_135_code
def yX10_paste : MethodName := ⟨RX10, "paste", "(IIIII)I"⟩
def RJx145de : String := "java/io/Serializable"
def TJx145de : u_T := fun k => match k with
  | _ => ("", "", "", false)
def tyJx145de : Nat → FieldType := fun k => match k with
  | _ => .int
abbrev wsJx145de0 : List Cond := u_ws RJx145de TJx145de 0
theorem nmJx145de : ∀ a, a < 0 → ∀ b, b < 0 → a ≠ b → (TJx145de a).2.1 ≠ (TJx145de b).2.1 := by decide +kernel
theorem tyJx145de_ok : ∀ k, k < 0 → parseFieldDescriptor (TJx145de k).2.2.1 = some (tyJx145de k) := by decide +kernel
def RJx9f9b0 : String := "java/lang/CharSequence"
def TJx9f9b0 : u_T := fun k => match k with
  | _ => ("", "", "", false)
def tyJx9f9b0 : Nat → FieldType := fun k => match k with
  | _ => .int
abbrev wsJx9f9b00 : List Cond := u_ws RJx9f9b0 TJx9f9b0 0
theorem nmJx9f9b0 : ∀ a, a < 0 → ∀ b, b < 0 → a ≠ b → (TJx9f9b0 a).2.1 ≠ (TJx9f9b0 b).2.1 := by decide +kernel
theorem tyJx9f9b0_ok : ∀ k, k < 0 → parseFieldDescriptor (TJx9f9b0 k).2.2.1 = some (tyJx9f9b0 k) := by decide +kernel
def RJxb160c : String := "java/lang/Comparable"
def TJxb160c : u_T := fun k => match k with
  | _ => ("", "", "", false)
def tyJxb160c : Nat → FieldType := fun k => match k with
  | _ => .int
abbrev wsJxb160c0 : List Cond := u_ws RJxb160c TJxb160c 0
theorem nmJxb160c : ∀ a, a < 0 → ∀ b, b < 0 → a ≠ b → (TJxb160c a).2.1 ≠ (TJxb160c b).2.1 := by decide +kernel
theorem tyJxb160c_ok : ∀ k, k < 0 → parseFieldDescriptor (TJxb160c k).2.2.1 = some (tyJxb160c k) := by decide +kernel
def RJ6 : String := "java/lang/Integer"
def TJ6 : u_T := fun k => match k with
  | _ => ("", "", "", false)
def tyJ6 : Nat → FieldType := fun k => match k with
  | _ => .int
abbrev wsJ60 : List Cond := u_ws RJ6 TJ6 0
theorem nmJ6 : ∀ a, a < 0 → ∀ b, b < 0 → a ≠ b → (TJ6 a).2.1 ≠ (TJ6 b).2.1 := by decide +kernel
theorem tyJ6_ok : ∀ k, k < 0 → parseFieldDescriptor (TJ6 k).2.2.1 = some (tyJ6 k) := by decide +kernel
abbrev cJ6_bitCount_0f7a4 : ByteArray := prog_13_method_49_code
def yJ6_bitCount_0f7a4 : MethodName := ⟨RJ6, "bitCount", "(I)I"⟩
def RJ9 : String := "java/lang/Math"
def TJ9 : u_T := fun k => match k with
  | _ => ("", "", "", false)
def tyJ9 : Nat → FieldType := fun k => match k with
  | _ => .int
abbrev wsJ90 : List Cond := u_ws RJ9 TJ9 0
theorem nmJ9 : ∀ a, a < 0 → ∀ b, b < 0 → a ≠ b → (TJ9 a).2.1 ≠ (TJ9 b).2.1 := by decide +kernel
theorem tyJ9_ok : ∀ k, k < 0 → parseFieldDescriptor (TJ9 k).2.2.1 = some (tyJ9 k) := by decide +kernel
abbrev cJ9_max_7cf53 : ByteArray := prog_14_method_65_code
def yJ9_max_7cf53 : MethodName := ⟨RJ9, "max", "(II)I"⟩
abbrev cJ9_min_7cf53 : ByteArray := prog_14_method_69_code
def yJ9_min_7cf53 : MethodName := ⟨RJ9, "min", "(II)I"⟩
def RJ0 : String := "java/lang/String"
def TJ0 : u_T := fun k => match k with
  | _ => ("", "", "", false)
def tyJ0 : Nat → FieldType := fun k => match k with
  | _ => .int
abbrev wsJ00 : List Cond := u_ws RJ0 TJ0 0
theorem nmJ0 : ∀ a, a < 0 → ∀ b, b < 0 → a ≠ b → (TJ0 a).2.1 ≠ (TJ0 b).2.1 := by decide +kernel
theorem tyJ0_ok : ∀ k, k < 0 → parseFieldDescriptor (TJ0 k).2.2.1 = some (tyJ0 k) := by decide +kernel
abbrev cJ0_length_8abf5 : ByteArray := prog_15_method_54_code
def yJ0_length_8abf5 : MethodName := ⟨RJ0, "length", "()I"⟩
abbrev cJ0_charAt_5068e : ByteArray := prog_15_method_56_code
def yJ0_charAt_5068e : MethodName := ⟨RJ0, "charAt", "(I)C"⟩
abbrev cJ0_coder_7d493 : ByteArray := prog_15_method_152_code
def yJ0_coder_7d493 : MethodName := ⟨RJ0, "coder", "()B"⟩
abbrev cJ0_isLatin1_aae02 : ByteArray := prog_15_method_154_code
def yJ0_isLatin1_aae02 : MethodName := ⟨RJ0, "isLatin1", "()Z"⟩
abbrev cJ0_checkIndex_df160 : ByteArray := prog_15_method_155_code
def yJ0_checkIndex_df160 : MethodName := ⟨RJ0, "checkIndex", "(II)V"⟩
def RJ1 : String := "java/lang/StringLatin1"
def TJ1 : u_T := fun k => match k with
  | _ => ("", "", "", false)
def tyJ1 : Nat → FieldType := fun k => match k with
  | _ => .int
abbrev wsJ10 : List Cond := u_ws RJ1 TJ1 0
theorem nmJ1 : ∀ a, a < 0 → ∀ b, b < 0 → a ≠ b → (TJ1 a).2.1 ≠ (TJ1 b).2.1 := by decide +kernel
theorem tyJ1_ok : ∀ k, k < 0 → parseFieldDescriptor (TJ1 k).2.2.1 = some (tyJ1 k) := by decide +kernel
abbrev cJ1_charAt_3b067 : ByteArray := prog_16_method_2_code
def yJ1_charAt_3b067 : MethodName := ⟨RJ1, "charAt", "([BI)C"⟩
def RJ2 : String := "java/lang/StringUTF16"
def TJ2 : u_T := fun k => match k with
  | _ => ("", "", "", false)
def tyJ2 : Nat → FieldType := fun k => match k with
  | _ => .int
abbrev wsJ20 : List Cond := u_ws RJ2 TJ2 0
theorem nmJ2 : ∀ a, a < 0 → ∀ b, b < 0 → a ≠ b → (TJ2 a).2.1 ≠ (TJ2 b).2.1 := by decide +kernel
theorem tyJ2_ok : ∀ k, k < 0 → parseFieldDescriptor (TJ2 k).2.2.1 = some (tyJ2 k) := by decide +kernel
abbrev cJ2_getChar_3b067 : ByteArray := prog_17_method_5_code
def yJ2_getChar_3b067 : MethodName := ⟨RJ2, "getChar", "([BI)C"⟩
abbrev cJ2_length_9d52b : ByteArray := prog_17_method_6_code
def yJ2_length_9d52b : MethodName := ⟨RJ2, "length", "([B)I"⟩
abbrev cJ2_charAt_3b067 : ByteArray := prog_17_method_83_code
def yJ2_charAt_3b067 : MethodName := ⟨RJ2, "charAt", "([BI)C"⟩
abbrev cJ2_checkIndex_2214a : ByteArray := prog_17_method_91_code
def yJ2_checkIndex_2214a : MethodName := ⟨RJ2, "checkIndex", "(I[B)V"⟩
def RJ10 : String := "java/lang/System"
def TJ10 : u_T := fun k => match k with
  | _ => ("", "", "", false)
def tyJ10 : Nat → FieldType := fun k => match k with
  | _ => .int
abbrev wsJ100 : List Cond := u_ws RJ10 TJ10 0
theorem nmJ10 : ∀ a, a < 0 → ∀ b, b < 0 → a ≠ b → (TJ10 a).2.1 ≠ (TJ10 b).2.1 := by decide +kernel
theorem tyJ10_ok : ∀ k, k < 0 → parseFieldDescriptor (TJ10 k).2.2.1 = some (tyJ10 k) := by decide +kernel
def RJxfd54e : String := "java/lang/constant/Constable"
def TJxfd54e : u_T := fun k => match k with
  | _ => ("", "", "", false)
def tyJxfd54e : Nat → FieldType := fun k => match k with
  | _ => .int
abbrev wsJxfd54e0 : List Cond := u_ws RJxfd54e TJxfd54e 0
theorem nmJxfd54e : ∀ a, a < 0 → ∀ b, b < 0 → a ≠ b → (TJxfd54e a).2.1 ≠ (TJxfd54e b).2.1 := by decide +kernel
theorem tyJxfd54e_ok : ∀ k, k < 0 → parseFieldDescriptor (TJxfd54e k).2.2.1 = some (tyJxfd54e k) := by decide +kernel
def RJx3cf43 : String := "java/lang/constant/ConstantDesc"
def TJx3cf43 : u_T := fun k => match k with
  | _ => ("", "", "", false)
def tyJx3cf43 : Nat → FieldType := fun k => match k with
  | _ => .int
abbrev wsJx3cf430 : List Cond := u_ws RJx3cf43 TJx3cf43 0
theorem nmJx3cf43 : ∀ a, a < 0 → ∀ b, b < 0 → a ≠ b → (TJx3cf43 a).2.1 ≠ (TJx3cf43 b).2.1 := by decide +kernel
theorem tyJx3cf43_ok : ∀ k, k < 0 → parseFieldDescriptor (TJx3cf43 k).2.2.1 = some (tyJx3cf43 k) := by decide +kernel
def RJ7 : String := "java/util/Arrays"
def TJ7 : u_T := fun k => match k with
  | _ => ("", "", "", false)
def tyJ7 : Nat → FieldType := fun k => match k with
  | _ => .int
abbrev wsJ70 : List Cond := u_ws RJ7 TJ7 0
theorem nmJ7 : ∀ a, a < 0 → ∀ b, b < 0 → a ≠ b → (TJ7 a).2.1 ≠ (TJ7 b).2.1 := by decide +kernel
theorem tyJ7_ok : ∀ k, k < 0 → parseFieldDescriptor (TJ7 k).2.2.1 = some (tyJ7 k) := by decide +kernel
abbrev cJ7_fill_d0a16 : ByteArray := prog_19_method_101_code
def yJ7_fill_d0a16 : MethodName := ⟨RJ7, "fill", "([JJ)V"⟩
abbrev cJ7_fill_53178 : ByteArray := prog_19_method_103_code
def yJ7_fill_53178 : MethodName := ⟨RJ7, "fill", "([II)V"⟩
def RJ3 : String := "jdk/internal/util/Preconditions"
def TJ3 : u_T := fun k => match k with
  | _ => ("", "", "", false)
def tyJ3 : Nat → FieldType := fun k => match k with
  | _ => .int
abbrev wsJ30 : List Cond := u_ws RJ3 TJ3 0
theorem nmJ3 : ∀ a, a < 0 → ∀ b, b < 0 → a ≠ b → (TJ3 a).2.1 ≠ (TJ3 b).2.1 := by decide +kernel
theorem tyJ3_ok : ∀ k, k < 0 → parseFieldDescriptor (TJ3 k).2.2.1 = some (tyJ3 k) := by decide +kernel
abbrev cJ3_checkIndex_8e157 : ByteArray := prog_20_method_11_code
def yJ3_checkIndex_8e157 : MethodName := ⟨RJ3, "checkIndex", "(IILjava/util/function/BiFunction;)I"⟩
def RL : String := "WheelMemoryLaw"
abbrev cL_law : ByteArray := code
def yL_law : MethodName := ⟨RL, "law", "([I)Z"⟩
abbrev vwCl : List vw_C := [(RX0, TX0, 3), (RX1, TX1, 14), (RX2, TX2, 8), (RX3, TX3, 10), (RX4, TX4, 3), (RX5, TX5, 5), (RX6, TX6, 2), (RX7, TX7, 6), (RX8, TX8, 6), (RX9, TX9, 11), (RX10, TX10, 38)]
end
section
/-! words: one list for every method -/
def TB : List Cond := lw_tbl.filter goodWord
theorem tb (i : Nat) (w : Cond) (h : lw_tbl[i]? = some w) (g : goodWord w = true) : w ∈ TB := List.mem_filter.mpr ⟨List.mem_of_getElem? h, g⟩
theorem tb_good {w : Cond} (h : w ∈ TB) : (w.onTables && w.keeps) = true ∨ ∃ ty, w = .arrayClass ty := good_of_word (List.mem_filter.mp h).2
theorem tb_in {w : Cond} (h : w ∈ TB) : w ∈ lw_tbl := (List.mem_filter.mp h).1
theorem gd_all (ws : List Cond) (h : ∀ w ∈ ws, w ∈ TB) : GoodIn TB ws := fun w hw => ⟨h w hw, tb_good (h w hw)⟩
theorem gdC {y : MethodName} {b : ByteArray} {n : Nat} {r : Option FieldType} (h5 : Cond.code y b n r ∈ TB) : GoodIn TB (.code y b n r :: TB) := gd_all _ (fun w hw => by
  rcases List.mem_cons.mp hw with rfl | hw
  · exact h5
  · exact hw)
theorem gdV {own : String} {idx : Nat} {C : String} {y : MethodName} {b : ByteArray} {n : Nat} {r : Option FieldType} (h1 : Cond.methodLink own idx y ∈ TB) (h2 : Cond.instanceMethod y ∈ TB) (h3 : Cond.selects C y y ∈ TB) (h4 : Cond.initialized C ∈ TB) (h5 : Cond.code y b n r ∈ TB) : GoodIn TB (wsV own idx C y (.code y b n r :: TB)) := gd_all _ (fun w hw => by
  unfold wsV at hw
  rcases List.mem_append.mp hw with hw | hw
  · rcases List.mem_cons.mp hw with rfl | hw
    · exact h1
    · rcases List.mem_cons.mp hw with rfl | hw
      · exact h2
      · rcases List.mem_cons.mp hw with rfl | hw
        · exact h3
        · rcases List.mem_cons.mp hw with rfl | hw
          · exact h4
          · cases hw
  · exact (gdC h5 w hw).1)
theorem gdS {own : String} {idx : Nat} {y : MethodName} {b : ByteArray} {n : Nat} {r : Option FieldType} (h1 : Cond.methodLink own idx y ∈ TB) (h2 : Cond.static y ∈ TB) (h4 : Cond.initialized own ∈ TB) (h5 : Cond.code y b n r ∈ TB) : GoodIn TB (wsS own idx y (.code y b n r :: TB)) := gd_all _ (fun w hw => by
  unfold wsS at hw
  rcases List.mem_append.mp hw with hw | hw
  · rcases List.mem_cons.mp hw with rfl | hw
    · exact h1
    · rcases List.mem_cons.mp hw with rfl | hw
      · exact h2
      · rcases List.mem_cons.mp hw with rfl | hw
        · exact h4
        · cases hw
  · exact (gdC h5 w hw).1)
theorem gdF (ws : List Cond) (ps : List Nat) (hp : ws = ps.filterMap (fun i => lw_tbl[i]?)) (h : ws.all goodWord = true) : ∀ w ∈ ws, w ∈ TB := fun w hw => by
  have h1 := List.all_eq_true.mp h w hw
  rw [hp] at hw
  obtain ⟨i, -, hi⟩ := List.mem_filterMap.mp hw
  exact tb i w hi h1
/-- how many parameters, and that a name is plain -/
def okY (y : MethodName) (C : String) (n : Nat) : Prop := y.cls = C ∧ y.cls ≠ "java/lang/invoke/MethodHandle" ∧ y.cls ≠ "java/lang/invoke/VarHandle" ∧ (parseMethodDescriptor y.desc).map (fun d => d.parameters.length) = some n
section RO
variable {p : Program} {l : Launch} {e : Env} {R : Room} {s : State} {m : MethodId} {args : Array Value} {below : List Frame} {meth : Method} {c : Code} {H : Heap} {locs : List Loc} {cells slots : Nat} {Q : State → Prop} {pc : Nat} {ls : Array Slot} {rest st : List Value}
theorem k_top {x y : Int32} (h : x = y) (k : W p l e R s m args below meth c H locs cells slots Q (F0 m pc ls (.int y :: rest))) : W p l e R s m args below meth c H locs cells slots Q (F0 m pc ls (.int x :: rest)) := h ▸ k
theorem k_topl {x y : Int64} (h : x = y) (k : W p l e R s m args below meth c H locs cells slots Q (F0 m pc ls (.long y :: rest))) : W p l e R s m args below meth c H locs cells slots Q (F0 m pc ls (.long x :: rest)) := h ▸ k
theorem ro_V {cc : ByteArray} {nL n index maxL : Nat} {own C : String} {y : MethodName} {bytes : ByteArray} {ret : Option FieldType} {rm : Room} {Pc : Array Value → State → Prop} {post : Int32 → Prop} {b : Addr} {As : List Value}
    (S : CallFix p m c cc nL s args TB own) (hM : Met l y (.code y bytes maxL ret :: TB) rm Pc (vp_Si post) 0 0 (fun _ => False))
    (hG : GoodIn TB (wsV own index C y (.code y bytes maxL ret :: TB))) (hd : okY y C n)
    (hrm : rm.cells = 0 ∧ rm.slots = 0 ∧ rm.frames + 1 ≤ R.frames ∧ 8 + (maxL + 11) + rm.locals ≤ R.locals)
    (hp : PreV s H C b Pc As) (hn : As.length = n) (hsize : ls.size = nL) (hst : st = As.reverse ++ .ref b :: rest) (hW : (rest.map fun v => v.category).sum ≤ 8)
    (hf : cells ≤ R.cells ∧ slots ≤ R.slots) (hdg : decode cc pc = .ok (.invokevirtual index, 3))
    (kk : ∀ r : Int32, post r → W p l e R s m args below meth c H locs cells slots Q (F0 m (pc + 3) ls (.int r :: rest))) : W p l e R s m args below meth c H locs cells slots Q (F0 m pc ls st) := by
  subst hst
  exact vp_callSi (W.runV S hM (cwV n S.2.2.2.2 hG rfl hrm.1 hrm.2.1 hd hrm.2.2) hp rfl hn hsize rfl (lv_room hW) hdg hf) kk
theorem ro_S {cc : ByteArray} {nL n index maxL : Nat} {own : String} {y : MethodName} {bytes : ByteArray} {ret : Option FieldType} {rm : Room} {Pc : Array Value → State → Prop} {post : Int32 → Prop} {As : List Value}
    (S : CallFix p m c cc nL s args TB own) (hM : Met l y (.code y bytes maxL ret :: TB) rm Pc (vp_Si post) 0 0 (fun _ => False))
    (hG : GoodIn TB (wsS own index y (.code y bytes maxL ret :: TB))) (hd : okY y own n)
    (hrm : rm.cells = 0 ∧ rm.slots = 0 ∧ rm.frames + 1 ≤ R.frames ∧ 8 + (maxL + 11) + rm.locals ≤ R.locals)
    (hp : PreS s H Pc As) (hn : As.length = n) (hsize : ls.size = nL) (hst : st = As.reverse ++ rest) (hW : (rest.map fun v => v.category).sum ≤ 8)
    (hf : cells ≤ R.cells ∧ slots ≤ R.slots) (hdg : decode cc pc = .ok (.invokestatic index, 3))
    (kk : ∀ r : Int32, post r → W p l e R s m args below meth c H locs cells slots Q (F0 m (pc + 3) ls (.int r :: rest))) : W p l e R s m args below meth c H locs cells slots Q (F0 m pc ls st) := by
  subst hst
  exact vp_callSi (W.runS S hM (cwS n S.2.2.2.2 hG rfl hrm.1 hrm.2.1 hd hrm.2.2) hp rfl hn hsize rfl (lv_room hW) hdg hf) kk
end RO
theorem i32_nn {x y : Int32} (h : ¬ x < y) : y ≤ x := Int32.not_lt.mp h
theorem i32_in {x : Int32} {n : Nat} (N : Int32) (hN : N.toInt = n) (h0 : ¬ x < 0) (h1 : x < N) : vp_in x n := by
  rw [vp_in_iff]
  have a1 := mt Int32.lt_iff_toInt_lt.mpr h0
  have a2 := Int32.lt_iff_toInt_lt.mp h1
  rw [hN] at a2
  have a3 : (0 : Int32).toInt = 0 := rfl
  rw [a3] at a1
  exact ⟨by omega, a2⟩
theorem vp_in_lt {x : Int32} {n : Nat} (h : vp_in x n) : x.toNatClampNeg < n := by
  unfold vp_in at h
  exact Nat.lt_of_not_le (fun q => h (Or.inr q))
end
section
theorem t14 : Cond.selects RX9 yX9_canWant yX9_canWant ∈ TB := tb 14 _ (by decide +kernel) rfl
theorem t15 : Cond.selects RX9 yX9_isByCart yX9_isByCart ∈ TB := tb 15 _ (by decide +kernel) rfl
theorem t17 : Cond.selects RX9 yX9_follow yX9_follow ∈ TB := tb 17 _ (by decide +kernel) rfl
theorem t26 : Cond.selects RX9 yX9_fitting yX9_fitting ∈ TB := tb 26 _ (by decide +kernel) rfl
theorem t35 : Cond.selects RX9 yX9_canDraw yX9_canDraw ∈ TB := tb 35 _ (by decide +kernel) rfl
theorem t54 : Cond.selects RX10 yX10_isRoad yX10_isRoad ∈ TB := tb 54 _ (by decide +kernel) rfl
theorem t56 : Cond.selects RX10 yX10_isWheel yX10_isWheel ∈ TB := tb 56 _ (by decide +kernel) rfl
theorem t71 : Cond.selects RX10 yX10_isCart yX10_isCart ∈ TB := tb 71 _ (by decide +kernel) rfl
theorem t72 : Cond.selects RX10 yX10_isPlace yX10_isPlace ∈ TB := tb 72 _ (by decide +kernel) rfl
theorem t74 : Cond.selects RX10 yX10_canWant yX10_canWant ∈ TB := tb 74 _ (by decide +kernel) rfl
theorem t76 : Cond.selects RX10 yX10_isLand yX10_isLand ∈ TB := tb 76 _ (by decide +kernel) rfl
theorem t77 : Cond.selects RX10 yX10_asksRow yX10_asksRow ∈ TB := tb 77 _ (by decide +kernel) rfl
theorem t88 : Cond.selects RX10 yX10_asksSeen yX10_asksSeen ∈ TB := tb 88 _ (by decide +kernel) rfl
theorem t100 : Cond.selects RX10 yX10_isDrawn yX10_isDrawn ∈ TB := tb 100 _ (by decide +kernel) rfl
theorem t104 : Cond.initialized RX9 ∈ TB := tb 104 _ (by decide +kernel) rfl
theorem t107 : Cond.initialized RX1 ∈ TB := tb 107 _ (by decide +kernel) rfl
theorem t111 : Cond.initialized RX4 ∈ TB := tb 111 _ (by decide +kernel) rfl
theorem t115 : Cond.initialized RX10 ∈ TB := tb 115 _ (by decide +kernel) rfl
theorem t145 : Cond.fieldLink RX9 85 "WheelMemory$Tape" "length" "I" ∈ TB := tb 145 _ (by decide +kernel) rfl
theorem t195 : Cond.fieldLink RX1 37 "WheelMemory$Land" "lines" "I" ∈ TB := tb 195 _ (by decide +kernel) rfl
theorem t197 : Cond.fieldLink RX9 103 "WheelMemory$Land" "lines" "I" ∈ TB := tb 197 _ (by decide +kernel) rfl
theorem t198 : Cond.fieldLink RX1 41 "WheelMemory$Land" "places" "I" ∈ TB := tb 198 _ (by decide +kernel) rfl
theorem t201 : Cond.fieldLink RX9 273 "WheelMemory$Land" "places" "I" ∈ TB := tb 201 _ (by decide +kernel) rfl
theorem t206 : Cond.fieldLink RX9 404 "WheelMemory$Land" "handed" "I" ∈ TB := tb 206 _ (by decide +kernel) rfl
theorem t207 : Cond.fieldLink RX1 47 "WheelMemory$Land" "roadCount" "I" ∈ TB := tb 207 _ (by decide +kernel) rfl
theorem t211 : Cond.fieldLink RX9 188 "WheelMemory$Land" "roadCount" "I" ∈ TB := tb 211 _ (by decide +kernel) rfl
theorem t213 : Cond.fieldLink RX1 50 "WheelMemory$Land" "wheelCount" "I" ∈ TB := tb 213 _ (by decide +kernel) rfl
theorem t215 : Cond.fieldLink RX9 314 "WheelMemory$Land" "wheelCount" "I" ∈ TB := tb 215 _ (by decide +kernel) rfl
theorem t216 : Cond.fieldLink RX1 53 "WheelMemory$Land" "cartCount" "I" ∈ TB := tb 216 _ (by decide +kernel) rfl
theorem t218 : Cond.fieldLink RX9 407 "WheelMemory$Land" "cartCount" "I" ∈ TB := tb 218 _ (by decide +kernel) rfl
theorem t219 : Cond.fieldLink RX1 56 "WheelMemory$Land" "errandCount" "I" ∈ TB := tb 219 _ (by decide +kernel) rfl
theorem t221 : Cond.fieldLink RX9 284 "WheelMemory$Land" "errandCount" "I" ∈ TB := tb 221 _ (by decide +kernel) rfl
theorem t277 : Cond.fieldLink RX9 108 "WheelMemory$Reader" "fault" "I" ∈ TB := tb 277 _ (by decide +kernel) rfl
theorem t279 : Cond.fieldLink RX9 111 "WheelMemory$Reader" "faultPlace" "I" ∈ TB := tb 279 _ (by decide +kernel) rfl
theorem t312 : Cond.fieldLink RX9 100 "WheelMemory$World" "told" "LWheelMemory$Land;" ∈ TB := tb 312 _ (by decide +kernel) rfl
theorem t316 : Cond.fieldLink RX9 214 "WheelMemory$World" "acts" "I" ∈ TB := tb 316 _ (by decide +kernel) rfl
theorem t343 : Cond.fieldLink RX4 11 "WheelMemory$Slots" "widths" "[I" ∈ TB := tb 343 _ (by decide +kernel) rfl
theorem t451 : Cond.fieldLink RX9 20 "WheelMemory" "tape" "LWheelMemory$Tape;" ∈ TB := tb 451 _ (by decide +kernel) rfl
theorem t452 : Cond.fieldLink RX9 10 "WheelMemory" "reader" "LWheelMemory$Reader;" ∈ TB := tb 452 _ (by decide +kernel) rfl
theorem t453 : Cond.fieldLink RX9 24 "WheelMemory" "world" "LWheelMemory$World;" ∈ TB := tb 453 _ (by decide +kernel) rfl
theorem t455 : Cond.fieldLink RX9 32 "WheelMemory" "kept" "[Z" ∈ TB := tb 455 _ (by decide +kernel) rfl
theorem t456 : Cond.fieldLink RX9 39 "WheelMemory" "slots" "LWheelMemory$Slots;" ∈ TB := tb 456 _ (by decide +kernel) rfl
theorem t663 : Cond.instanceMethod yX1_isWheel ∈ TB := tb 663 _ (by decide +kernel) rfl
theorem t664 : Cond.selects RX1 yX1_isWheel yX1_isWheel ∈ TB := tb 664 _ (by decide +kernel) rfl
theorem t665 : Cond.code yX1_isWheel cX1_isWheel 2 (some .boolean) ∈ TB := tb 665 _ (by decide +kernel) rfl
theorem t701 : Cond.methodLink RX9 114 yX1_isRoad ∈ TB := tb 701 _ (by decide +kernel) rfl
theorem t702 : Cond.instanceMethod yX1_isRoad ∈ TB := tb 702 _ (by decide +kernel) rfl
theorem t703 : Cond.selects RX1 yX1_isRoad yX1_isRoad ∈ TB := tb 703 _ (by decide +kernel) rfl
theorem t704 : Cond.code yX1_isRoad cX1_isRoad 2 (some .boolean) ∈ TB := tb 704 _ (by decide +kernel) rfl
theorem t709 : Cond.methodLink RX9 127 yX1_isWheel ∈ TB := tb 709 _ (by decide +kernel) rfl
theorem t726 : Cond.methodLink RX9 147 yX1_isCart ∈ TB := tb 726 _ (by decide +kernel) rfl
theorem t727 : Cond.instanceMethod yX1_isCart ∈ TB := tb 727 _ (by decide +kernel) rfl
theorem t728 : Cond.selects RX1 yX1_isCart yX1_isCart ∈ TB := tb 728 _ (by decide +kernel) rfl
theorem t729 : Cond.code yX1_isCart cX1_isCart 2 (some .boolean) ∈ TB := tb 729 _ (by decide +kernel) rfl
theorem t738 : Cond.methodLink RX9 159 yX1_isErrand ∈ TB := tb 738 _ (by decide +kernel) rfl
theorem t739 : Cond.instanceMethod yX1_isErrand ∈ TB := tb 739 _ (by decide +kernel) rfl
theorem t740 : Cond.selects RX1 yX1_isErrand yX1_isErrand ∈ TB := tb 740 _ (by decide +kernel) rfl
theorem t741 : Cond.code yX1_isErrand cX1_isErrand 2 (some .boolean) ∈ TB := tb 741 _ (by decide +kernel) rfl
theorem t746 : Cond.methodLink RX9 171 yX1_isPlace ∈ TB := tb 746 _ (by decide +kernel) rfl
theorem t747 : Cond.instanceMethod yX1_isPlace ∈ TB := tb 747 _ (by decide +kernel) rfl
theorem t748 : Cond.selects RX1 yX1_isPlace yX1_isPlace ∈ TB := tb 748 _ (by decide +kernel) rfl
theorem t749 : Cond.code yX1_isPlace cX1_isPlace 2 (some .boolean) ∈ TB := tb 749 _ (by decide +kernel) rfl
theorem t770 : Cond.methodLink RX9 180 yX9_canWant ∈ TB := tb 770 _ (by decide +kernel) rfl
theorem t772 : Cond.instanceMethod yX9_canWant ∈ TB := tb 772 _ (by decide +kernel) rfl
theorem t773 : Cond.code yX9_canWant cX9_canWant 3 (some .boolean) ∈ TB := tb 773 _ (by decide +kernel) rfl
theorem t774 : Cond.methodLink RX9 191 yX9_isByCart ∈ TB := tb 774 _ (by decide +kernel) rfl
theorem t776 : Cond.instanceMethod yX9_isByCart ∈ TB := tb 776 _ (by decide +kernel) rfl
theorem t777 : Cond.code yX9_isByCart cX9_isByCart 3 (some .boolean) ∈ TB := tb 777 _ (by decide +kernel) rfl
theorem t858 : Cond.methodLink RX9 211 yX1_isTold ∈ TB := tb 858 _ (by decide +kernel) rfl
theorem t859 : Cond.instanceMethod yX1_isTold ∈ TB := tb 859 _ (by decide +kernel) rfl
theorem t860 : Cond.selects RX1 yX1_isTold yX1_isTold ∈ TB := tb 860 _ (by decide +kernel) rfl
theorem t861 : Cond.code yX1_isTold cX1_isTold 1 (some .boolean) ∈ TB := tb 861 _ (by decide +kernel) rfl
theorem t874 : Cond.methodLink RX9 220 yX9_follow ∈ TB := tb 874 _ (by decide +kernel) rfl
theorem t876 : Cond.instanceMethod yX9_follow ∈ TB := tb 876 _ (by decide +kernel) rfl
theorem t877 : Cond.code yX9_follow cX9_follow 7 (some .int) ∈ TB := tb 877 _ (by decide +kernel) rfl
theorem t878 : Cond.methodLink RX9 238 yX4_isSlot ∈ TB := tb 878 _ (by decide +kernel) rfl
theorem t879 : Cond.instanceMethod yX4_isSlot ∈ TB := tb 879 _ (by decide +kernel) rfl
theorem t880 : Cond.selects RX4 yX4_isSlot yX4_isSlot ∈ TB := tb 880 _ (by decide +kernel) rfl
theorem t881 : Cond.code yX4_isSlot cX4_isSlot 2 (some .boolean) ∈ TB := tb 881 _ (by decide +kernel) rfl
theorem t882 : Cond.methodLink RX9 241 yX4_hasRow ∈ TB := tb 882 _ (by decide +kernel) rfl
theorem t883 : Cond.instanceMethod yX4_hasRow ∈ TB := tb 883 _ (by decide +kernel) rfl
theorem t884 : Cond.selects RX4 yX4_hasRow yX4_hasRow ∈ TB := tb 884 _ (by decide +kernel) rfl
theorem t885 : Cond.code yX4_hasRow cX4_hasRow 2 (some .boolean) ∈ TB := tb 885 _ (by decide +kernel) rfl
theorem t1045 : Cond.methodLink RX9 332 yX9_fitting ∈ TB := tb 1045 _ (by decide +kernel) rfl
theorem t1047 : Cond.instanceMethod yX9_fitting ∈ TB := tb 1047 _ (by decide +kernel) rfl
theorem t1048 : Cond.code yX9_fitting cX9_fitting 9 (some .int) ∈ TB := tb 1048 _ (by decide +kernel) rfl
theorem t1141 : Cond.constant RX9 368 (-2000000) ∈ TB := tb 1141 _ (by decide +kernel) rfl
theorem t1172 : Cond.methodLink RX9 376 yX9_canDraw ∈ TB := tb 1172 _ (by decide +kernel) rfl
theorem t1174 : Cond.instanceMethod yX9_canDraw ∈ TB := tb 1174 _ (by decide +kernel) rfl
theorem t1175 : Cond.code yX9_canDraw cX9_canDraw 4 (some .boolean) ∈ TB := tb 1175 _ (by decide +kernel) rfl
theorem t1176 : Cond.constant RX9 386 (2000000000) ∈ TB := tb 1176 _ (by decide +kernel) rfl
theorem t1205 : Cond.methodLink RX9 410 yX4_rowCount ∈ TB := tb 1205 _ (by decide +kernel) rfl
theorem t1206 : Cond.instanceMethod yX4_rowCount ∈ TB := tb 1206 _ (by decide +kernel) rfl
theorem t1207 : Cond.selects RX4 yX4_rowCount yX4_rowCount ∈ TB := tb 1207 _ (by decide +kernel) rfl
theorem t1208 : Cond.code yX4_rowCount cX4_rowCount 3 (some .int) ∈ TB := tb 1208 _ (by decide +kernel) rfl
theorem t1209 : Cond.methodLink RX4 29 yX4_hasRow ∈ TB := tb 1209 _ (by decide +kernel) rfl
theorem t1263 : Cond.fieldLink RX10 9 "WheelMemoryModel" "world" "[I" ∈ TB := tb 1263 _ (by decide +kernel) rfl
theorem t1265 : Cond.fieldLink RX10 16 "WheelMemoryModel" "hasImage" "[Z" ∈ TB := tb 1265 _ (by decide +kernel) rfl
theorem t1267 : Cond.fieldLink RX10 97 "WheelMemoryModel" "taped" "I" ∈ TB := tb 1267 _ (by decide +kernel) rfl
theorem t1274 : Cond.fieldLink RX10 133 "WheelMemoryModel" "faultKind" "I" ∈ TB := tb 1274 _ (by decide +kernel) rfl
theorem t1275 : Cond.fieldLink RX10 27 "WheelMemoryModel" "faultPlace" "I" ∈ TB := tb 1275 _ (by decide +kernel) rfl
theorem t1296 : Cond.fieldLink RX10 67 "WheelMemoryModel" "many" "[I" ∈ TB := tb 1296 _ (by decide +kernel) rfl
theorem t1381 : Cond.constantLong RX10 83 (2) ∈ TB := tb 1381 _ (by decide +kernel) rfl
theorem t1382 : Cond.methodLink RX10 85 yX10_in ∈ TB := tb 1382 _ (by decide +kernel) rfl
theorem t1383 : Cond.static yX10_in ∈ TB := tb 1383 _ (by decide +kernel) rfl
theorem t1384 : Cond.code yX10_in cX10_in 6 (some .boolean) ∈ TB := tb 1384 _ (by decide +kernel) rfl
theorem t1505 : Cond.methodLink RX10 265 yX10_isRoad ∈ TB := tb 1505 _ (by decide +kernel) rfl
theorem t1507 : Cond.instanceMethod yX10_isRoad ∈ TB := tb 1507 _ (by decide +kernel) rfl
theorem t1508 : Cond.code yX10_isRoad cX10_isRoad 3 (some .boolean) ∈ TB := tb 1508 _ (by decide +kernel) rfl
theorem t1517 : Cond.methodLink RX10 269 yX10_isWheel ∈ TB := tb 1517 _ (by decide +kernel) rfl
theorem t1519 : Cond.instanceMethod yX10_isWheel ∈ TB := tb 1519 _ (by decide +kernel) rfl
theorem t1520 : Cond.code yX10_isWheel cX10_isWheel 2 (some .boolean) ∈ TB := tb 1520 _ (by decide +kernel) rfl
theorem t1585 : Cond.methodLink RX10 279 yX10_isCart ∈ TB := tb 1585 _ (by decide +kernel) rfl
theorem t1587 : Cond.instanceMethod yX10_isCart ∈ TB := tb 1587 _ (by decide +kernel) rfl
theorem t1588 : Cond.code yX10_isCart cX10_isCart 2 (some .boolean) ∈ TB := tb 1588 _ (by decide +kernel) rfl
theorem t1597 : Cond.methodLink RX10 282 yX10_isPlace ∈ TB := tb 1597 _ (by decide +kernel) rfl
theorem t1599 : Cond.instanceMethod yX10_isPlace ∈ TB := tb 1599 _ (by decide +kernel) rfl
theorem t1600 : Cond.code yX10_isPlace cX10_isPlace 3 (some .boolean) ∈ TB := tb 1600 _ (by decide +kernel) rfl
theorem t1613 : Cond.methodLink RX10 290 yX10_canWant ∈ TB := tb 1613 _ (by decide +kernel) rfl
theorem t1615 : Cond.instanceMethod yX10_canWant ∈ TB := tb 1615 _ (by decide +kernel) rfl
theorem t1616 : Cond.code yX10_canWant cX10_canWant 4 (some .boolean) ∈ TB := tb 1616 _ (by decide +kernel) rfl
theorem t1646 : Cond.methodLink RX10 297 yX10_isLand ∈ TB := tb 1646 _ (by decide +kernel) rfl
theorem t1648 : Cond.instanceMethod yX10_isLand ∈ TB := tb 1648 _ (by decide +kernel) rfl
theorem t1649 : Cond.code yX10_isLand cX10_isLand 1 (some .boolean) ∈ TB := tb 1649 _ (by decide +kernel) rfl
theorem t1658 : Cond.methodLink RX10 319 yX10_asksRow ∈ TB := tb 1658 _ (by decide +kernel) rfl
theorem t1660 : Cond.instanceMethod yX10_asksRow ∈ TB := tb 1660 _ (by decide +kernel) rfl
theorem t1661 : Cond.code yX10_asksRow cX10_asksRow 4 (some .int) ∈ TB := tb 1661 _ (by decide +kernel) rfl
theorem t1662 : Cond.methodLink RX10 300 yX10_isSlot ∈ TB := tb 1662 _ (by decide +kernel) rfl
theorem t1663 : Cond.static yX10_isSlot ∈ TB := tb 1663 _ (by decide +kernel) rfl
theorem t1664 : Cond.code yX10_isSlot cX10_isSlot 1 (some .boolean) ∈ TB := tb 1664 _ (by decide +kernel) rfl
theorem t1665 : Cond.constantLong RX10 434 (3) ∈ TB := tb 1665 _ (by decide +kernel) rfl
theorem t1776 : Cond.methodLink RX10 361 yX10_asksSeen ∈ TB := tb 1776 _ (by decide +kernel) rfl
theorem t1778 : Cond.instanceMethod yX10_asksSeen ∈ TB := tb 1778 _ (by decide +kernel) rfl
theorem t1779 : Cond.code yX10_asksSeen cX10_asksSeen 3 (some .int) ∈ TB := tb 1779 _ (by decide +kernel) rfl
theorem t1875 : Cond.constant RX10 404 (-2000000) ∈ TB := tb 1875 _ (by decide +kernel) rfl
theorem t1893 : Cond.methodLink RX10 424 yX10_isDrawn ∈ TB := tb 1893 _ (by decide +kernel) rfl
theorem t1895 : Cond.instanceMethod yX10_isDrawn ∈ TB := tb 1895 _ (by decide +kernel) rfl
theorem t1896 : Cond.code yX10_isDrawn cX10_isDrawn 4 (some .boolean) ∈ TB := tb 1896 _ (by decide +kernel) rfl
theorem t1897 : Cond.constantLong RX10 422 (2000000000) ∈ TB := tb 1897 _ (by decide +kernel) rfl
theorem in_X0 : ∀ w ∈ wsX00, w ∈ TB := gdF _ [444, 446, 448] (by decide +kernel) (by decide +kernel)
theorem in_X1 : ∀ w ∈ wsX10, w ∈ TB := gdF _ [243, 245, 247, 249, 251, 253, 255, 257, 259, 261, 263, 265, 267, 269] (by decide +kernel) (by decide +kernel)
theorem in_X2 : ∀ w ∈ wsX20, w ∈ TB := gdF _ [284, 286, 288, 290, 292, 294, 296, 298] (by decide +kernel) (by decide +kernel)
theorem in_X3 : ∀ w ∈ wsX30, w ∈ TB := gdF _ [414, 416, 418, 420, 422, 424, 426, 428, 430, 432] (by decide +kernel) (by decide +kernel)
theorem in_X4 : ∀ w ∈ wsX40, w ∈ TB := gdF _ [349, 351, 353] (by decide +kernel) (by decide +kernel)
theorem in_X5 : ∀ w ∈ wsX50, w ∈ TB := gdF _ [183, 185, 187, 189, 191] (by decide +kernel) (by decide +kernel)
theorem in_X6 : ∀ w ∈ wsX60, w ∈ TB := gdF _ [146, 148] (by decide +kernel) (by decide +kernel)
theorem in_X7 : ∀ w ∈ wsX70, w ∈ TB := gdF _ [378, 380, 382, 384, 386, 388] (by decide +kernel) (by decide +kernel)
theorem in_X8 : ∀ w ∈ wsX80, w ∈ TB := gdF _ [320, 322, 324, 326, 328, 330] (by decide +kernel) (by decide +kernel)
theorem in_X9 : ∀ w ∈ wsX90, w ∈ TB := gdF _ [462, 464, 466, 468, 470, 472, 474, 476, 478, 480, 482] (by decide +kernel) (by decide +kernel)
theorem in_X10 : ∀ w ∈ wsX100, w ∈ TB := gdF _ [1300, 1302, 1304, 1306, 1308, 1310, 1312, 1314, 1316, 1318, 1320, 1322, 1324, 1326, 1328, 1330, 1332, 1334, 1336, 1338, 1340, 1342, 1344, 1346, 1348, 1350, 1352, 1354, 1356, 1358, 1360, 1362, 1364, 1366, 1368, 1370, 1372, 1374] (by decide +kernel) (by decide +kernel)
theorem ok_X9_agree : okY yX9_agree RX9 2 := by unfold okY; decide +kernel
theorem ok_X9_anew : okY yX9_anew RX9 0 := by unfold okY; decide +kernel
theorem ok_X9_argue : okY yX9_argue RX9 2 := by unfold okY; decide +kernel
theorem ok_X9_aside : okY yX9_aside RX9 1 := by unfold okY; decide +kernel
theorem ok_X9_ask : okY yX9_ask RX9 1 := by unfold okY; decide +kernel
theorem ok_X9_astray : okY yX9_astray RX9 2 := by unfold okY; decide +kernel
theorem ok_X9_back : okY yX9_back RX9 1 := by unfold okY; decide +kernel
theorem ok_X9_blind : okY yX9_blind RX9 2 := by unfold okY; decide +kernel
theorem ok_X9_blinds : okY yX9_blinds RX9 2 := by unfold okY; decide +kernel
theorem ok_X9_canDraw : okY yX9_canDraw RX9 3 := by unfold okY; decide +kernel
theorem ok_X9_canWant : okY yX9_canWant RX9 2 := by unfold okY; decide +kernel
theorem ok_X9_cart : okY yX9_cart RX9 2 := by unfold okY; decide +kernel
theorem ok_X9_choose : okY yX9_choose RX9 2 := by unfold okY; decide +kernel
theorem ok_X9_chosen : okY yX9_chosen RX9 2 := by unfold okY; decide +kernel
theorem ok_X9_circle : okY yX9_circle RX9 1 := by unfold okY; decide +kernel
theorem ok_X9_count : okY yX9_count RX9 1 := by unfold okY; decide +kernel
theorem ok_X9_dearest : okY yX9_dearest RX9 0 := by unfold okY; decide +kernel
theorem ok_X9_drawn : okY yX9_drawn RX9 4 := by unfold okY; decide +kernel
theorem ok_X9_drive : okY yX9_drive RX9 2 := by unfold okY; decide +kernel
theorem ok_X9_dues : okY yX9_dues RX9 0 := by unfold okY; decide +kernel
theorem ok_X9_ends : okY yX9_ends RX9 2 := by unfold okY; decide +kernel
theorem ok_X9_errand : okY yX9_errand RX9 2 := by unfold okY; decide +kernel
theorem ok_X9_far : okY yX9_far RX9 2 := by unfold okY; decide +kernel
theorem ok_X9_fault : okY yX9_fault RX9 1 := by unfold okY; decide +kernel
theorem ok_X9_fits : okY yX9_fits RX9 1 := by unfold okY; decide +kernel
theorem ok_X9_fitting : okY yX9_fitting RX9 1 := by unfold okY; decide +kernel
theorem ok_X9_follow : okY yX9_follow RX9 2 := by unfold okY; decide +kernel
theorem ok_X9_goes : okY yX9_goes RX9 2 := by unfold okY; decide +kernel
theorem ok_X9_grease : okY yX9_grease RX9 1 := by unfold okY; decide +kernel
theorem ok_X9_hand : okY yX9_hand RX9 1 := by unfold okY; decide +kernel
theorem ok_X9_haunts : okY yX9_haunts RX9 1 := by unfold okY; decide +kernel
theorem ok_X9_isByCart : okY yX9_isByCart RX9 2 := by unfold okY; decide +kernel
theorem ok_X9_lasts : okY yX9_lasts RX9 2 := by unfold okY; decide +kernel
theorem ok_X9_leaves : okY yX9_leaves RX9 1 := by unfold okY; decide +kernel
theorem ok_X9_likes : okY yX9_likes RX9 2 := by unfold okY; decide +kernel
theorem ok_X9_loved : okY yX9_loved RX9 1 := by unfold okY; decide +kernel
theorem ok_X9_luck : okY yX9_luck RX9 5 := by unfold okY; decide +kernel
theorem ok_X9_mate : okY yX9_mate RX9 1 := by unfold okY; decide +kernel
theorem ok_X9_meet : okY yX9_meet RX9 2 := by unfold okY; decide +kernel
theorem ok_X9_met : okY yX9_met RX9 2 := by unfold okY; decide +kernel
theorem ok_X9_paste : okY yX9_paste RX9 5 := by unfold okY; decide +kernel
theorem ok_X9_picks : okY yX9_picks RX9 0 := by unfold okY; decide +kernel
theorem ok_X9_pull : okY yX9_pull RX9 2 := by unfold okY; decide +kernel
theorem ok_X9_ran : okY yX9_ran RX9 2 := by unfold okY; decide +kernel
theorem ok_X9_reach : okY yX9_reach RX9 1 := by unfold okY; decide +kernel
theorem ok_X9_road : okY yX9_road RX9 2 := by unfold okY; decide +kernel
theorem ok_X9_roads : okY yX9_roads RX9 1 := by unfold okY; decide +kernel
theorem ok_X9_roams : okY yX9_roams RX9 2 := by unfold okY; decide +kernel
theorem ok_X9_share : okY yX9_share RX9 3 := by unfold okY; decide +kernel
theorem ok_X9_smiths : okY yX9_smiths RX9 0 := by unfold okY; decide +kernel
theorem ok_X9_swap : okY yX9_swap RX9 2 := by unfold okY; decide +kernel
theorem ok_X9_takes : okY yX9_takes RX9 2 := by unfold okY; decide +kernel
theorem ok_X9_teach : okY yX9_teach RX9 2 := by unfold okY; decide +kernel
theorem ok_X9_tell : okY yX9_tell RX9 3 := by unfold okY; decide +kernel
theorem ok_X9_undo : okY yX9_undo RX9 0 := by unfold okY; decide +kernel
theorem ok_X9_votes : okY yX9_votes RX9 2 := by unfold okY; decide +kernel
theorem ok_X9_wants : okY yX9_wants RX9 3 := by unfold okY; decide +kernel
theorem ok_X9_way : okY yX9_way RX9 2 := by unfold okY; decide +kernel
theorem ok_X9_wheel : okY yX9_wheel RX9 2 := by unfold okY; decide +kernel
theorem ok_X9_worn : okY yX9_worn RX9 2 := by unfold okY; decide +kernel
theorem ok_X9_worth : okY yX9_worth RX9 1 := by unfold okY; decide +kernel
theorem ok_X9_write : okY yX9_write RX9 3 := by unfold okY; decide +kernel
theorem ok_X1_isCart : okY yX1_isCart RX1 1 := by unfold okY; decide +kernel
theorem ok_X1_isErrand : okY yX1_isErrand RX1 1 := by unfold okY; decide +kernel
theorem ok_X1_isPlace : okY yX1_isPlace RX1 1 := by unfold okY; decide +kernel
theorem ok_X1_isRoad : okY yX1_isRoad RX1 1 := by unfold okY; decide +kernel
theorem ok_X1_isTold : okY yX1_isTold RX1 0 := by unfold okY; decide +kernel
theorem ok_X1_isWheel : okY yX1_isWheel RX1 1 := by unfold okY; decide +kernel
theorem ok_X4_hasRow : okY yX4_hasRow RX4 1 := by unfold okY; decide +kernel
theorem ok_X4_isSlot : okY yX4_isSlot RX4 1 := by unfold okY; decide +kernel
theorem ok_X4_rowCount : okY yX4_rowCount RX4 0 := by unfold okY; decide +kernel
theorem ok_X10_agree : okY yX10_agree RX10 2 := by unfold okY; decide +kernel
theorem ok_X10_anew : okY yX10_anew RX10 0 := by unfold okY; decide +kernel
theorem ok_X10_argue : okY yX10_argue RX10 2 := by unfold okY; decide +kernel
theorem ok_X10_aside : okY yX10_aside RX10 1 := by unfold okY; decide +kernel
theorem ok_X10_ask : okY yX10_ask RX10 1 := by unfold okY; decide +kernel
theorem ok_X10_asksRow : okY yX10_asksRow RX10 2 := by unfold okY; decide +kernel
theorem ok_X10_asksSeen : okY yX10_asksSeen RX10 1 := by unfold okY; decide +kernel
theorem ok_X10_astray : okY yX10_astray RX10 2 := by unfold okY; decide +kernel
theorem ok_X10_back : okY yX10_back RX10 1 := by unfold okY; decide +kernel
theorem ok_X10_blind : okY yX10_blind RX10 2 := by unfold okY; decide +kernel
theorem ok_X10_blinds : okY yX10_blinds RX10 2 := by unfold okY; decide +kernel
theorem ok_X10_canWant : okY yX10_canWant RX10 2 := by unfold okY; decide +kernel
theorem ok_X10_cart : okY yX10_cart RX10 2 := by unfold okY; decide +kernel
theorem ok_X10_choose : okY yX10_choose RX10 2 := by unfold okY; decide +kernel
theorem ok_X10_chosen : okY yX10_chosen RX10 2 := by unfold okY; decide +kernel
theorem ok_X10_circle : okY yX10_circle RX10 1 := by unfold okY; decide +kernel
theorem ok_X10_count : okY yX10_count RX10 1 := by unfold okY; decide +kernel
theorem ok_X10_dearest : okY yX10_dearest RX10 0 := by unfold okY; decide +kernel
theorem ok_X10_drawn : okY yX10_drawn RX10 4 := by unfold okY; decide +kernel
theorem ok_X10_drive : okY yX10_drive RX10 2 := by unfold okY; decide +kernel
theorem ok_X10_dues : okY yX10_dues RX10 0 := by unfold okY; decide +kernel
theorem ok_X10_ends : okY yX10_ends RX10 2 := by unfold okY; decide +kernel
theorem ok_X10_errand : okY yX10_errand RX10 2 := by unfold okY; decide +kernel
theorem ok_X10_far : okY yX10_far RX10 2 := by unfold okY; decide +kernel
theorem ok_X10_fault : okY yX10_fault RX10 1 := by unfold okY; decide +kernel
theorem ok_X10_fits : okY yX10_fits RX10 1 := by unfold okY; decide +kernel
theorem ok_X10_goes : okY yX10_goes RX10 2 := by unfold okY; decide +kernel
theorem ok_X10_grease : okY yX10_grease RX10 1 := by unfold okY; decide +kernel
theorem ok_X10_hand : okY yX10_hand RX10 1 := by unfold okY; decide +kernel
theorem ok_X10_haunts : okY yX10_haunts RX10 1 := by unfold okY; decide +kernel
theorem ok_X10_in : okY yX10_in RX10 3 := by unfold okY; decide +kernel
theorem ok_X10_isCart : okY yX10_isCart RX10 1 := by unfold okY; decide +kernel
theorem ok_X10_isDrawn : okY yX10_isDrawn RX10 3 := by unfold okY; decide +kernel
theorem ok_X10_isLand : okY yX10_isLand RX10 0 := by unfold okY; decide +kernel
theorem ok_X10_isPlace : okY yX10_isPlace RX10 1 := by unfold okY; decide +kernel
theorem ok_X10_isRoad : okY yX10_isRoad RX10 1 := by unfold okY; decide +kernel
theorem ok_X10_isSlot : okY yX10_isSlot RX10 1 := by unfold okY; decide +kernel
theorem ok_X10_isWheel : okY yX10_isWheel RX10 1 := by unfold okY; decide +kernel
theorem ok_X10_lasts : okY yX10_lasts RX10 2 := by unfold okY; decide +kernel
theorem ok_X10_leaves : okY yX10_leaves RX10 1 := by unfold okY; decide +kernel
theorem ok_X10_likes : okY yX10_likes RX10 2 := by unfold okY; decide +kernel
theorem ok_X10_loved : okY yX10_loved RX10 1 := by unfold okY; decide +kernel
theorem ok_X10_luck : okY yX10_luck RX10 5 := by unfold okY; decide +kernel
theorem ok_X10_mate : okY yX10_mate RX10 1 := by unfold okY; decide +kernel
theorem ok_X10_meet : okY yX10_meet RX10 2 := by unfold okY; decide +kernel
theorem ok_X10_met : okY yX10_met RX10 2 := by unfold okY; decide +kernel
theorem ok_X10_paste : okY yX10_paste RX10 5 := by unfold okY; decide +kernel
theorem ok_X10_picks : okY yX10_picks RX10 0 := by unfold okY; decide +kernel
theorem ok_X10_pull : okY yX10_pull RX10 2 := by unfold okY; decide +kernel
theorem ok_X10_ran : okY yX10_ran RX10 2 := by unfold okY; decide +kernel
theorem ok_X10_reach : okY yX10_reach RX10 1 := by unfold okY; decide +kernel
theorem ok_X10_road : okY yX10_road RX10 2 := by unfold okY; decide +kernel
theorem ok_X10_roads : okY yX10_roads RX10 1 := by unfold okY; decide +kernel
theorem ok_X10_roams : okY yX10_roams RX10 2 := by unfold okY; decide +kernel
theorem ok_X10_share : okY yX10_share RX10 3 := by unfold okY; decide +kernel
theorem ok_X10_smiths : okY yX10_smiths RX10 0 := by unfold okY; decide +kernel
theorem ok_X10_swap : okY yX10_swap RX10 2 := by unfold okY; decide +kernel
theorem ok_X10_takes_ : okY yX10_takes_ RX10 2 := by unfold okY; decide +kernel
theorem ok_X10_teach : okY yX10_teach RX10 2 := by unfold okY; decide +kernel
theorem ok_X10_tell : okY yX10_tell RX10 3 := by unfold okY; decide +kernel
theorem ok_X10_undo : okY yX10_undo RX10 0 := by unfold okY; decide +kernel
theorem ok_X10_votes : okY yX10_votes RX10 2 := by unfold okY; decide +kernel
theorem ok_X10_wants : okY yX10_wants RX10 3 := by unfold okY; decide +kernel
theorem ok_X10_way : okY yX10_way RX10 2 := by unfold okY; decide +kernel
theorem ok_X10_wheel : okY yX10_wheel RX10 2 := by unfold okY; decide +kernel
theorem ok_X10_worn : okY yX10_worn RX10 2 := by unfold okY; decide +kernel
theorem ok_X10_worth : okY yX10_worth RX10 1 := by unfold okY; decide +kernel
theorem ok_X10_write : okY yX10_write RX10 3 := by unfold okY; decide +kernel
end
section
theorem dX10_agree_0 : decode cX10_agree 0 = .ok (.aload_n 0, 1) := by decide +kernel
theorem dX10_agree_1 : decode cX10_agree 1 = .ok (.iload_n 1, 1) := by decide +kernel
theorem dX10_agree_2 : decode cX10_agree 2 = .ok (.invokevirtual 269, 3) := by decide +kernel
theorem dX10_agree_5 : decode cX10_agree 5 = .ok (.ifCond .eq 11, 3) := by decide +kernel
theorem dX10_agree_16 : decode cX10_agree 16 = .ok (.bipush (-2), 2) := by decide +kernel
theorem dX10_agree_18 : decode cX10_agree 18 = .ok (.ireturn, 1) := by decide +kernel
theorem dX10_anew_0 : decode cX10_anew 0 = .ok (.aload_n 0, 1) := by decide +kernel
theorem dX10_anew_1 : decode cX10_anew 1 = .ok (.invokevirtual 297, 3) := by decide +kernel
theorem dX10_anew_4 : decode cX10_anew 4 = .ok (.ifCond .ne 6, 3) := by decide +kernel
theorem dX10_anew_7 : decode cX10_anew 7 = .ok (.bipush (-2), 2) := by decide +kernel
theorem dX10_anew_9 : decode cX10_anew 9 = .ok (.ireturn, 1) := by decide +kernel
theorem dX10_argue_0 : decode cX10_argue 0 = .ok (.iload_n 2, 1) := by decide +kernel
theorem dX10_argue_1 : decode cX10_argue 1 = .ok (.iconst (-1), 1) := by decide +kernel
theorem dX10_argue_2 : decode cX10_argue 2 = .ok (.if_icmp .eq 13, 3) := by decide +kernel
theorem dX10_argue_5 : decode cX10_argue 5 = .ok (.aload_n 0, 1) := by decide +kernel
theorem dX10_argue_6 : decode cX10_argue 6 = .ok (.iload_n 1, 1) := by decide +kernel
theorem dX10_argue_7 : decode cX10_argue 7 = .ok (.iload_n 2, 1) := by decide +kernel
theorem dX10_argue_8 : decode cX10_argue 8 = .ok (.i2l, 1) := by decide +kernel
theorem dX10_argue_9 : decode cX10_argue 9 = .ok (.invokevirtual 290, 3) := by decide +kernel
theorem dX10_argue_12 : decode cX10_argue 12 = .ok (.ifCond .ne 6, 3) := by decide +kernel
theorem dX10_argue_15 : decode cX10_argue 15 = .ok (.bipush (-2), 2) := by decide +kernel
theorem dX10_argue_17 : decode cX10_argue 17 = .ok (.ireturn, 1) := by decide +kernel
theorem dX10_aside_0 : decode cX10_aside 0 = .ok (.aload_n 0, 1) := by decide +kernel
theorem dX10_aside_1 : decode cX10_aside 1 = .ok (.iload_n 1, 1) := by decide +kernel
theorem dX10_aside_2 : decode cX10_aside 2 = .ok (.invokevirtual 279, 3) := by decide +kernel
theorem dX10_aside_5 : decode cX10_aside 5 = .ok (.ifCond .ne 6, 3) := by decide +kernel
theorem dX10_aside_8 : decode cX10_aside 8 = .ok (.bipush (-2), 2) := by decide +kernel
theorem dX10_aside_10 : decode cX10_aside 10 = .ok (.ireturn, 1) := by decide +kernel
theorem dX10_ask_0 : decode cX10_ask 0 = .ok (.aload_n 0, 1) := by decide +kernel
theorem dX10_ask_1 : decode cX10_ask 1 = .ok (.iload_n 1, 1) := by decide +kernel
theorem dX10_ask_2 : decode cX10_ask 2 = .ok (.invokevirtual 361, 3) := by decide +kernel
theorem dX10_ask_5 : decode cX10_ask 5 = .ok (.istore_n 2, 1) := by decide +kernel
theorem dX10_ask_6 : decode cX10_ask 6 = .ok (.iload_n 2, 1) := by decide +kernel
theorem dX10_ask_7 : decode cX10_ask 7 = .ok (.ifCond .ge 7, 3) := by decide +kernel
theorem dX10_ask_10 : decode cX10_ask 10 = .ok (.iload_n 2, 1) := by decide +kernel
theorem dX10_ask_11 : decode cX10_ask 11 = .ok (.goto 8, 3) := by decide +kernel
theorem dX10_ask_19 : decode cX10_ask 19 = .ok (.ireturn, 1) := by decide +kernel
theorem dX10_asksRow_0 : decode cX10_asksRow 0 = .ok (.iload_n 1, 1) := by decide +kernel
theorem dX10_asksRow_1 : decode cX10_asksRow 1 = .ok (.invokestatic 300, 3) := by decide +kernel
theorem dX10_asksRow_4 : decode cX10_asksRow 4 = .ok (.ifCond .eq 11, 3) := by decide +kernel
theorem dX10_asksRow_7 : decode cX10_asksRow 7 = .ok (.aload_n 0, 1) := by decide +kernel
theorem dX10_asksRow_8 : decode cX10_asksRow 8 = .ok (.iload_n 2, 1) := by decide +kernel
theorem dX10_asksRow_9 : decode cX10_asksRow 9 = .ok (.invokevirtual 279, 3) := by decide +kernel
theorem dX10_asksRow_12 : decode cX10_asksRow 12 = .ok (.ifCond .ne 6, 3) := by decide +kernel
theorem dX10_asksRow_15 : decode cX10_asksRow 15 = .ok (.bipush (-2), 2) := by decide +kernel
theorem dX10_asksRow_17 : decode cX10_asksRow 17 = .ok (.ireturn, 1) := by decide +kernel
theorem dX10_asksSeen_0 : decode cX10_asksSeen 0 = .ok (.iload_n 1, 1) := by decide +kernel
theorem dX10_asksSeen_1 : decode cX10_asksSeen 1 = .ok (.invokestatic 300, 3) := by decide +kernel
theorem dX10_asksSeen_4 : decode cX10_asksSeen 4 = .ok (.ifCond .eq 10, 3) := by decide +kernel
theorem dX10_asksSeen_7 : decode cX10_asksSeen 7 = .ok (.aload_n 0, 1) := by decide +kernel
theorem dX10_asksSeen_8 : decode cX10_asksSeen 8 = .ok (.invokevirtual 297, 3) := by decide +kernel
theorem dX10_asksSeen_11 : decode cX10_asksSeen 11 = .ok (.ifCond .ne 6, 3) := by decide +kernel
theorem dX10_asksSeen_14 : decode cX10_asksSeen 14 = .ok (.bipush (-2), 2) := by decide +kernel
theorem dX10_asksSeen_16 : decode cX10_asksSeen 16 = .ok (.ireturn, 1) := by decide +kernel
theorem dX10_astray_0 : decode cX10_astray 0 = .ok (.aload_n 0, 1) := by decide +kernel
theorem dX10_astray_1 : decode cX10_astray 1 = .ok (.iload_n 1, 1) := by decide +kernel
theorem dX10_astray_2 : decode cX10_astray 2 = .ok (.iload_n 2, 1) := by decide +kernel
theorem dX10_astray_3 : decode cX10_astray 3 = .ok (.invokevirtual 319, 3) := by decide +kernel
theorem dX10_astray_6 : decode cX10_astray 6 = .ok (.istore_n 3, 1) := by decide +kernel
theorem dX10_astray_7 : decode cX10_astray 7 = .ok (.iload_n 3, 1) := by decide +kernel
theorem dX10_astray_8 : decode cX10_astray 8 = .ok (.ifCond .ge 5, 3) := by decide +kernel
theorem dX10_astray_11 : decode cX10_astray 11 = .ok (.iload_n 3, 1) := by decide +kernel
theorem dX10_astray_12 : decode cX10_astray 12 = .ok (.ireturn, 1) := by decide +kernel
theorem dX10_back_0 : decode cX10_back 0 = .ok (.iload_n 1, 1) := by decide +kernel
theorem dX10_back_1 : decode cX10_back 1 = .ok (.i2l, 1) := by decide +kernel
theorem dX10_back_2 : decode cX10_back 2 = .ok (.lconst 0, 1) := by decide +kernel
theorem dX10_back_3 : decode cX10_back 3 = .ok (.ldc2_w 83, 3) := by decide +kernel
theorem dX10_back_6 : decode cX10_back 6 = .ok (.invokestatic 85, 3) := by decide +kernel
theorem dX10_back_9 : decode cX10_back 9 = .ok (.ifCond .ne 6, 3) := by decide +kernel
theorem dX10_back_12 : decode cX10_back 12 = .ok (.bipush (-2), 2) := by decide +kernel
theorem dX10_back_14 : decode cX10_back 14 = .ok (.ireturn, 1) := by decide +kernel
theorem dX10_back_15 : decode cX10_back 15 = .ok (.aload_n 0, 1) := by decide +kernel
theorem dX10_back_16 : decode cX10_back 16 = .ok (.getfield 16, 3) := by decide +kernel
theorem dX10_back_19 : decode cX10_back 19 = .ok (.iload_n 1, 1) := by decide +kernel
theorem dX10_back_20 : decode cX10_back 20 = .ok (.baload, 1) := by decide +kernel
theorem dX10_back_21 : decode cX10_back 21 = .ok (.ifCond .ne 6, 3) := by decide +kernel
theorem dX10_back_24 : decode cX10_back 24 = .ok (.bipush (-6), 2) := by decide +kernel
theorem dX10_back_26 : decode cX10_back 26 = .ok (.ireturn, 1) := by decide +kernel
theorem dX10_blind_0 : decode cX10_blind 0 = .ok (.iload_n 2, 1) := by decide +kernel
theorem dX10_blind_1 : decode cX10_blind 1 = .ok (.iconst (-1), 1) := by decide +kernel
theorem dX10_blind_2 : decode cX10_blind 2 = .ok (.if_icmp .eq 13, 3) := by decide +kernel
theorem dX10_blind_5 : decode cX10_blind 5 = .ok (.aload_n 0, 1) := by decide +kernel
theorem dX10_blind_6 : decode cX10_blind 6 = .ok (.iload_n 1, 1) := by decide +kernel
theorem dX10_blind_7 : decode cX10_blind 7 = .ok (.iload_n 2, 1) := by decide +kernel
theorem dX10_blind_8 : decode cX10_blind 8 = .ok (.i2l, 1) := by decide +kernel
theorem dX10_blind_9 : decode cX10_blind 9 = .ok (.invokevirtual 290, 3) := by decide +kernel
theorem dX10_blind_12 : decode cX10_blind 12 = .ok (.ifCond .ne 6, 3) := by decide +kernel
theorem dX10_blind_15 : decode cX10_blind 15 = .ok (.bipush (-2), 2) := by decide +kernel
theorem dX10_blind_17 : decode cX10_blind 17 = .ok (.ireturn, 1) := by decide +kernel
theorem dX10_blinds_0 : decode cX10_blinds 0 = .ok (.iload_n 2, 1) := by decide +kernel
theorem dX10_blinds_1 : decode cX10_blinds 1 = .ok (.iconst (-1), 1) := by decide +kernel
theorem dX10_blinds_2 : decode cX10_blinds 2 = .ok (.if_icmp .eq 13, 3) := by decide +kernel
theorem dX10_blinds_5 : decode cX10_blinds 5 = .ok (.aload_n 0, 1) := by decide +kernel
theorem dX10_blinds_6 : decode cX10_blinds 6 = .ok (.iload_n 1, 1) := by decide +kernel
theorem dX10_blinds_7 : decode cX10_blinds 7 = .ok (.iload_n 2, 1) := by decide +kernel
theorem dX10_blinds_8 : decode cX10_blinds 8 = .ok (.i2l, 1) := by decide +kernel
theorem dX10_blinds_9 : decode cX10_blinds 9 = .ok (.invokevirtual 290, 3) := by decide +kernel
theorem dX10_blinds_12 : decode cX10_blinds 12 = .ok (.ifCond .ne 8, 3) := by decide +kernel
theorem dX10_blinds_15 : decode cX10_blinds 15 = .ok (.bipush (-2), 2) := by decide +kernel
theorem dX10_blinds_17 : decode cX10_blinds 17 = .ok (.goto 9, 3) := by decide +kernel
theorem dX10_blinds_26 : decode cX10_blinds 26 = .ok (.ireturn, 1) := by decide +kernel
theorem dX10_canWant_0 : decode cX10_canWant 0 = .ok (.aload_n 0, 1) := by decide +kernel
theorem dX10_canWant_1 : decode cX10_canWant 1 = .ok (.iload_n 1, 1) := by decide +kernel
theorem dX10_canWant_2 : decode cX10_canWant 2 = .ok (.invokevirtual 279, 3) := by decide +kernel
theorem dX10_canWant_5 : decode cX10_canWant 5 = .ok (.ifCond .eq 19, 3) := by decide +kernel
theorem dX10_canWant_24 : decode cX10_canWant 24 = .ok (.iconst 0, 1) := by decide +kernel
theorem dX10_canWant_25 : decode cX10_canWant 25 = .ok (.ireturn, 1) := by decide +kernel
theorem dX10_cart_0 : decode cX10_cart 0 = .ok (.aload_n 0, 1) := by decide +kernel
theorem dX10_cart_1 : decode cX10_cart 1 = .ok (.iload_n 1, 1) := by decide +kernel
theorem dX10_cart_2 : decode cX10_cart 2 = .ok (.invokevirtual 279, 3) := by decide +kernel
theorem dX10_cart_5 : decode cX10_cart 5 = .ok (.ifCond .eq 15, 3) := by decide +kernel
theorem dX10_cart_20 : decode cX10_cart 20 = .ok (.bipush (-2), 2) := by decide +kernel
theorem dX10_cart_22 : decode cX10_cart 22 = .ok (.ireturn, 1) := by decide +kernel
theorem dX10_choose_0 : decode cX10_choose 0 = .ok (.aload_n 0, 1) := by decide +kernel
theorem dX10_choose_1 : decode cX10_choose 1 = .ok (.iload_n 1, 1) := by decide +kernel
theorem dX10_choose_2 : decode cX10_choose 2 = .ok (.invokevirtual 279, 3) := by decide +kernel
theorem dX10_choose_5 : decode cX10_choose 5 = .ok (.ifCond .eq 12, 3) := by decide +kernel
theorem dX10_choose_17 : decode cX10_choose 17 = .ok (.bipush (-2), 2) := by decide +kernel
theorem dX10_choose_19 : decode cX10_choose 19 = .ok (.ireturn, 1) := by decide +kernel
theorem dX10_chosen_0 : decode cX10_chosen 0 = .ok (.aload_n 0, 1) := by decide +kernel
theorem dX10_chosen_1 : decode cX10_chosen 1 = .ok (.iload_n 1, 1) := by decide +kernel
theorem dX10_chosen_2 : decode cX10_chosen 2 = .ok (.invokevirtual 279, 3) := by decide +kernel
theorem dX10_chosen_5 : decode cX10_chosen 5 = .ok (.ifCond .eq 12, 3) := by decide +kernel
theorem dX10_chosen_17 : decode cX10_chosen 17 = .ok (.bipush (-2), 2) := by decide +kernel
theorem dX10_chosen_19 : decode cX10_chosen 19 = .ok (.ireturn, 1) := by decide +kernel
theorem dX10_circle_0 : decode cX10_circle 0 = .ok (.aload_n 0, 1) := by decide +kernel
theorem dX10_circle_1 : decode cX10_circle 1 = .ok (.iload_n 1, 1) := by decide +kernel
theorem dX10_circle_2 : decode cX10_circle 2 = .ok (.invokevirtual 279, 3) := by decide +kernel
theorem dX10_circle_5 : decode cX10_circle 5 = .ok (.ifCond .ne 6, 3) := by decide +kernel
theorem dX10_circle_8 : decode cX10_circle 8 = .ok (.bipush (-2), 2) := by decide +kernel
theorem dX10_circle_10 : decode cX10_circle 10 = .ok (.ireturn, 1) := by decide +kernel
theorem dX10_count_0 : decode cX10_count 0 = .ok (.iconst 0, 1) := by decide +kernel
theorem dX10_count_1 : decode cX10_count 1 = .ok (.istore_n 2, 1) := by decide +kernel
theorem dX10_count_2 : decode cX10_count 2 = .ok (.iload_n 1, 1) := by decide +kernel
theorem dX10_count_3 : decode cX10_count 3 = .ok (.tableswitch 149 0 9 #[53, 60, 67, 74, 81, 88, 95, 103, 108, 116], 53) := by decide +kernel
theorem dX10_count_56 : decode cX10_count 56 = .ok (.aload_n 0, 1) := by decide +kernel
theorem dX10_count_57 : decode cX10_count 57 = .ok (.getfield 9, 3) := by decide +kernel
theorem dX10_count_60 : decode cX10_count 60 = .ok (.iconst 0, 1) := by decide +kernel
theorem dX10_count_61 : decode cX10_count 61 = .ok (.iaload, 1) := by decide +kernel
theorem dX10_count_62 : decode cX10_count 62 = .ok (.ireturn, 1) := by decide +kernel
theorem dX10_count_63 : decode cX10_count 63 = .ok (.aload_n 0, 1) := by decide +kernel
theorem dX10_count_64 : decode cX10_count 64 = .ok (.getfield 9, 3) := by decide +kernel
theorem dX10_count_67 : decode cX10_count 67 = .ok (.iconst 2, 1) := by decide +kernel
theorem dX10_count_68 : decode cX10_count 68 = .ok (.iaload, 1) := by decide +kernel
theorem dX10_count_69 : decode cX10_count 69 = .ok (.ireturn, 1) := by decide +kernel
theorem dX10_count_70 : decode cX10_count 70 = .ok (.aload_n 0, 1) := by decide +kernel
theorem dX10_count_71 : decode cX10_count 71 = .ok (.getfield 9, 3) := by decide +kernel
theorem dX10_count_74 : decode cX10_count 74 = .ok (.iconst 3, 1) := by decide +kernel
theorem dX10_count_75 : decode cX10_count 75 = .ok (.iaload, 1) := by decide +kernel
theorem dX10_count_76 : decode cX10_count 76 = .ok (.ireturn, 1) := by decide +kernel
theorem dX10_count_77 : decode cX10_count 77 = .ok (.aload_n 0, 1) := by decide +kernel
theorem dX10_count_78 : decode cX10_count 78 = .ok (.getfield 9, 3) := by decide +kernel
theorem dX10_count_81 : decode cX10_count 81 = .ok (.iconst 4, 1) := by decide +kernel
theorem dX10_count_82 : decode cX10_count 82 = .ok (.iaload, 1) := by decide +kernel
theorem dX10_count_83 : decode cX10_count 83 = .ok (.ireturn, 1) := by decide +kernel
theorem dX10_count_84 : decode cX10_count 84 = .ok (.aload_n 0, 1) := by decide +kernel
theorem dX10_count_85 : decode cX10_count 85 = .ok (.getfield 9, 3) := by decide +kernel
theorem dX10_count_88 : decode cX10_count 88 = .ok (.iconst 5, 1) := by decide +kernel
theorem dX10_count_89 : decode cX10_count 89 = .ok (.iaload, 1) := by decide +kernel
theorem dX10_count_90 : decode cX10_count 90 = .ok (.ireturn, 1) := by decide +kernel
theorem dX10_count_91 : decode cX10_count 91 = .ok (.aload_n 0, 1) := by decide +kernel
theorem dX10_count_92 : decode cX10_count 92 = .ok (.getfield 9, 3) := by decide +kernel
theorem dX10_count_95 : decode cX10_count 95 = .ok (.iconst 1, 1) := by decide +kernel
theorem dX10_count_96 : decode cX10_count 96 = .ok (.iaload, 1) := by decide +kernel
theorem dX10_count_97 : decode cX10_count 97 = .ok (.ireturn, 1) := by decide +kernel
theorem dX10_count_98 : decode cX10_count 98 = .ok (.aload_n 0, 1) := by decide +kernel
theorem dX10_count_99 : decode cX10_count 99 = .ok (.getfield 9, 3) := by decide +kernel
theorem dX10_count_102 : decode cX10_count 102 = .ok (.bipush 6, 2) := by decide +kernel
theorem dX10_count_104 : decode cX10_count 104 = .ok (.iaload, 1) := by decide +kernel
theorem dX10_count_105 : decode cX10_count 105 = .ok (.ireturn, 1) := by decide +kernel
theorem dX10_count_106 : decode cX10_count 106 = .ok (.aload_n 0, 1) := by decide +kernel
theorem dX10_count_107 : decode cX10_count 107 = .ok (.getfield 97, 3) := by decide +kernel
theorem dX10_count_110 : decode cX10_count 110 = .ok (.ireturn, 1) := by decide +kernel
theorem dX10_count_111 : decode cX10_count 111 = .ok (.aload_n 0, 1) := by decide +kernel
theorem dX10_count_112 : decode cX10_count 112 = .ok (.getfield 9, 3) := by decide +kernel
theorem dX10_count_115 : decode cX10_count 115 = .ok (.bipush 7, 2) := by decide +kernel
theorem dX10_count_117 : decode cX10_count 117 = .ok (.iaload, 1) := by decide +kernel
theorem dX10_count_118 : decode cX10_count 118 = .ok (.ireturn, 1) := by decide +kernel
theorem dX10_count_119 : decode cX10_count 119 = .ok (.iconst 0, 1) := by decide +kernel
theorem dX10_count_120 : decode cX10_count 120 = .ok (.istore_n 3, 1) := by decide +kernel
theorem dX10_count_121 : decode cX10_count 121 = .ok (.iload_n 3, 1) := by decide +kernel
theorem dX10_count_122 : decode cX10_count 122 = .ok (.iconst 4, 1) := by decide +kernel
theorem dX10_count_123 : decode cX10_count 123 = .ok (.if_icmp .ge 27, 3) := by decide +kernel
theorem dX10_count_126 : decode cX10_count 126 = .ok (.iload_n 2, 1) := by decide +kernel
theorem dX10_count_127 : decode cX10_count 127 = .ok (.aload_n 0, 1) := by decide +kernel
theorem dX10_count_128 : decode cX10_count 128 = .ok (.getfield 67, 3) := by decide +kernel
theorem dX10_count_131 : decode cX10_count 131 = .ok (.iload_n 3, 1) := by decide +kernel
theorem dX10_count_132 : decode cX10_count 132 = .ok (.iaload, 1) := by decide +kernel
theorem dX10_count_133 : decode cX10_count 133 = .ok (.iconst (-1), 1) := by decide +kernel
theorem dX10_count_134 : decode cX10_count 134 = .ok (.if_icmp .ne 7, 3) := by decide +kernel
theorem dX10_count_137 : decode cX10_count 137 = .ok (.iconst 0, 1) := by decide +kernel
theorem dX10_count_138 : decode cX10_count 138 = .ok (.goto 4, 3) := by decide +kernel
theorem dX10_count_142 : decode cX10_count 142 = .ok (.iadd, 1) := by decide +kernel
theorem dX10_count_143 : decode cX10_count 143 = .ok (.istore_n 2, 1) := by decide +kernel
theorem dX10_count_144 : decode cX10_count 144 = .ok (.iinc 3 1, 3) := by decide +kernel
theorem dX10_count_147 : decode cX10_count 147 = .ok (.goto (-26), 3) := by decide +kernel
theorem dX10_count_150 : decode cX10_count 150 = .ok (.iload_n 2, 1) := by decide +kernel
theorem dX10_count_151 : decode cX10_count 151 = .ok (.ireturn, 1) := by decide +kernel
theorem dX10_count_152 : decode cX10_count 152 = .ok (.iconst (-1), 1) := by decide +kernel
theorem dX10_count_153 : decode cX10_count 153 = .ok (.ireturn, 1) := by decide +kernel
theorem dX10_dearest_0 : decode cX10_dearest 0 = .ok (.aload_n 0, 1) := by decide +kernel
theorem dX10_dearest_1 : decode cX10_dearest 1 = .ok (.invokevirtual 297, 3) := by decide +kernel
theorem dX10_dearest_4 : decode cX10_dearest 4 = .ok (.ifCond .ne 6, 3) := by decide +kernel
theorem dX10_dearest_7 : decode cX10_dearest 7 = .ok (.bipush (-2), 2) := by decide +kernel
theorem dX10_dearest_9 : decode cX10_dearest 9 = .ok (.ireturn, 1) := by decide +kernel
theorem dX10_drawn_0 : decode cX10_drawn 0 = .ok (.aload_n 0, 1) := by decide +kernel
theorem dX10_drawn_1 : decode cX10_drawn 1 = .ok (.iload_n 1, 1) := by decide +kernel
theorem dX10_drawn_2 : decode cX10_drawn 2 = .ok (.iload_n 2, 1) := by decide +kernel
theorem dX10_drawn_3 : decode cX10_drawn 3 = .ok (.iload_n 3, 1) := by decide +kernel
theorem dX10_drawn_4 : decode cX10_drawn 4 = .ok (.invokevirtual 424, 3) := by decide +kernel
theorem dX10_drawn_7 : decode cX10_drawn 7 = .ok (.ifCond .eq 16, 3) := by decide +kernel
theorem dX10_drawn_23 : decode cX10_drawn 23 = .ok (.bipush (-2), 2) := by decide +kernel
theorem dX10_drawn_25 : decode cX10_drawn 25 = .ok (.ireturn, 1) := by decide +kernel
theorem dX10_drive_0 : decode cX10_drive 0 = .ok (.aload_n 0, 1) := by decide +kernel
theorem dX10_drive_1 : decode cX10_drive 1 = .ok (.iload_n 1, 1) := by decide +kernel
theorem dX10_drive_2 : decode cX10_drive 2 = .ok (.iload_n 2, 1) := by decide +kernel
theorem dX10_drive_3 : decode cX10_drive 3 = .ok (.i2l, 1) := by decide +kernel
theorem dX10_drive_4 : decode cX10_drive 4 = .ok (.invokevirtual 290, 3) := by decide +kernel
theorem dX10_drive_7 : decode cX10_drive 7 = .ok (.ifCond .ne 6, 3) := by decide +kernel
theorem dX10_drive_10 : decode cX10_drive 10 = .ok (.bipush (-2), 2) := by decide +kernel
theorem dX10_drive_12 : decode cX10_drive 12 = .ok (.ireturn, 1) := by decide +kernel
theorem dX10_dues_0 : decode cX10_dues 0 = .ok (.aload_n 0, 1) := by decide +kernel
theorem dX10_dues_1 : decode cX10_dues 1 = .ok (.invokevirtual 297, 3) := by decide +kernel
theorem dX10_dues_4 : decode cX10_dues 4 = .ok (.ifCond .ne 6, 3) := by decide +kernel
theorem dX10_dues_7 : decode cX10_dues 7 = .ok (.bipush (-2), 2) := by decide +kernel
theorem dX10_dues_9 : decode cX10_dues 9 = .ok (.ireturn, 1) := by decide +kernel
theorem dX10_ends_0 : decode cX10_ends 0 = .ok (.aload_n 0, 1) := by decide +kernel
theorem dX10_ends_1 : decode cX10_ends 1 = .ok (.iload_n 1, 1) := by decide +kernel
theorem dX10_ends_2 : decode cX10_ends 2 = .ok (.iload_n 2, 1) := by decide +kernel
theorem dX10_ends_3 : decode cX10_ends 3 = .ok (.invokevirtual 319, 3) := by decide +kernel
theorem dX10_ends_6 : decode cX10_ends 6 = .ok (.istore_n 3, 1) := by decide +kernel
theorem dX10_ends_7 : decode cX10_ends 7 = .ok (.iload_n 3, 1) := by decide +kernel
theorem dX10_ends_8 : decode cX10_ends 8 = .ok (.ifCond .ge 5, 3) := by decide +kernel
theorem dX10_ends_11 : decode cX10_ends 11 = .ok (.iload_n 3, 1) := by decide +kernel
theorem dX10_ends_12 : decode cX10_ends 12 = .ok (.ireturn, 1) := by decide +kernel
theorem dX10_errand_0 : decode cX10_errand 0 = .ok (.iload_n 1, 1) := by decide +kernel
theorem dX10_errand_1 : decode cX10_errand 1 = .ok (.i2l, 1) := by decide +kernel
theorem dX10_errand_2 : decode cX10_errand 2 = .ok (.lconst 0, 1) := by decide +kernel
theorem dX10_errand_3 : decode cX10_errand 3 = .ok (.aload_n 0, 1) := by decide +kernel
theorem dX10_errand_4 : decode cX10_errand 4 = .ok (.getfield 9, 3) := by decide +kernel
theorem dX10_errand_7 : decode cX10_errand 7 = .ok (.iconst 5, 1) := by decide +kernel
theorem dX10_errand_8 : decode cX10_errand 8 = .ok (.iaload, 1) := by decide +kernel
theorem dX10_errand_9 : decode cX10_errand 9 = .ok (.iconst 1, 1) := by decide +kernel
theorem dX10_errand_10 : decode cX10_errand 10 = .ok (.isub, 1) := by decide +kernel
theorem dX10_errand_11 : decode cX10_errand 11 = .ok (.i2l, 1) := by decide +kernel
theorem dX10_errand_12 : decode cX10_errand 12 = .ok (.invokestatic 85, 3) := by decide +kernel
theorem dX10_errand_15 : decode cX10_errand 15 = .ok (.ifCond .eq 31, 3) := by decide +kernel
theorem dX10_errand_46 : decode cX10_errand 46 = .ok (.bipush (-2), 2) := by decide +kernel
theorem dX10_errand_48 : decode cX10_errand 48 = .ok (.ireturn, 1) := by decide +kernel
theorem dX10_far_0 : decode cX10_far 0 = .ok (.aload_n 0, 1) := by decide +kernel
theorem dX10_far_1 : decode cX10_far 1 = .ok (.iload_n 1, 1) := by decide +kernel
theorem dX10_far_2 : decode cX10_far 2 = .ok (.i2l, 1) := by decide +kernel
theorem dX10_far_3 : decode cX10_far 3 = .ok (.invokevirtual 282, 3) := by decide +kernel
theorem dX10_far_6 : decode cX10_far 6 = .ok (.ifCond .eq 12, 3) := by decide +kernel
theorem dX10_far_18 : decode cX10_far 18 = .ok (.bipush (-2), 2) := by decide +kernel
theorem dX10_far_20 : decode cX10_far 20 = .ok (.ireturn, 1) := by decide +kernel
theorem dX10_fault_0 : decode cX10_fault 0 = .ok (.iload_n 1, 1) := by decide +kernel
theorem dX10_fault_1 : decode cX10_fault 1 = .ok (.ifCond .ne 10, 3) := by decide +kernel
theorem dX10_fault_4 : decode cX10_fault 4 = .ok (.aload_n 0, 1) := by decide +kernel
theorem dX10_fault_5 : decode cX10_fault 5 = .ok (.getfield 133, 3) := by decide +kernel
theorem dX10_fault_8 : decode cX10_fault 8 = .ok (.goto 16, 3) := by decide +kernel
theorem dX10_fault_11 : decode cX10_fault 11 = .ok (.iload_n 1, 1) := by decide +kernel
theorem dX10_fault_12 : decode cX10_fault 12 = .ok (.iconst 1, 1) := by decide +kernel
theorem dX10_fault_13 : decode cX10_fault 13 = .ok (.if_icmp .ne 10, 3) := by decide +kernel
theorem dX10_fault_16 : decode cX10_fault 16 = .ok (.aload_n 0, 1) := by decide +kernel
theorem dX10_fault_17 : decode cX10_fault 17 = .ok (.getfield 27, 3) := by decide +kernel
theorem dX10_fault_20 : decode cX10_fault 20 = .ok (.goto 4, 3) := by decide +kernel
theorem dX10_fault_23 : decode cX10_fault 23 = .ok (.iconst (-1), 1) := by decide +kernel
theorem dX10_fault_24 : decode cX10_fault 24 = .ok (.ireturn, 1) := by decide +kernel
theorem dX10_fits_0 : decode cX10_fits 0 = .ok (.aload_n 0, 1) := by decide +kernel
theorem dX10_fits_1 : decode cX10_fits 1 = .ok (.iload_n 1, 1) := by decide +kernel
theorem dX10_fits_2 : decode cX10_fits 2 = .ok (.invokevirtual 361, 3) := by decide +kernel
theorem dX10_fits_5 : decode cX10_fits 5 = .ok (.istore_n 2, 1) := by decide +kernel
theorem dX10_fits_6 : decode cX10_fits 6 = .ok (.iload_n 2, 1) := by decide +kernel
theorem dX10_fits_7 : decode cX10_fits 7 = .ok (.ifCond .ge 7, 3) := by decide +kernel
theorem dX10_fits_10 : decode cX10_fits 10 = .ok (.iload_n 2, 1) := by decide +kernel
theorem dX10_fits_11 : decode cX10_fits 11 = .ok (.goto 8, 3) := by decide +kernel
theorem dX10_fits_19 : decode cX10_fits 19 = .ok (.ireturn, 1) := by decide +kernel
theorem dX10_goes_0 : decode cX10_goes 0 = .ok (.aload_n 0, 1) := by decide +kernel
theorem dX10_goes_1 : decode cX10_goes 1 = .ok (.iload_n 1, 1) := by decide +kernel
theorem dX10_goes_2 : decode cX10_goes 2 = .ok (.iload_n 2, 1) := by decide +kernel
theorem dX10_goes_3 : decode cX10_goes 3 = .ok (.invokevirtual 319, 3) := by decide +kernel
theorem dX10_goes_6 : decode cX10_goes 6 = .ok (.istore_n 3, 1) := by decide +kernel
theorem dX10_goes_7 : decode cX10_goes 7 = .ok (.iload_n 3, 1) := by decide +kernel
theorem dX10_goes_8 : decode cX10_goes 8 = .ok (.ifCond .ge 5, 3) := by decide +kernel
theorem dX10_goes_11 : decode cX10_goes 11 = .ok (.iload_n 3, 1) := by decide +kernel
theorem dX10_goes_12 : decode cX10_goes 12 = .ok (.ireturn, 1) := by decide +kernel
theorem dX10_grease_0 : decode cX10_grease 0 = .ok (.aload_n 0, 1) := by decide +kernel
theorem dX10_grease_1 : decode cX10_grease 1 = .ok (.iload_n 1, 1) := by decide +kernel
theorem dX10_grease_2 : decode cX10_grease 2 = .ok (.invokevirtual 269, 3) := by decide +kernel
theorem dX10_grease_5 : decode cX10_grease 5 = .ok (.ifCond .ne 6, 3) := by decide +kernel
theorem dX10_grease_8 : decode cX10_grease 8 = .ok (.bipush (-2), 2) := by decide +kernel
theorem dX10_grease_10 : decode cX10_grease 10 = .ok (.ireturn, 1) := by decide +kernel
theorem dX10_hand_0 : decode cX10_hand 0 = .ok (.aload_n 0, 1) := by decide +kernel
theorem dX10_hand_1 : decode cX10_hand 1 = .ok (.invokevirtual 297, 3) := by decide +kernel
theorem dX10_hand_4 : decode cX10_hand 4 = .ok (.ifCond .eq 15, 3) := by decide +kernel
theorem dX10_hand_19 : decode cX10_hand 19 = .ok (.bipush (-2), 2) := by decide +kernel
theorem dX10_hand_21 : decode cX10_hand 21 = .ok (.ireturn, 1) := by decide +kernel
theorem dX10_haunts_0 : decode cX10_haunts 0 = .ok (.aload_n 0, 1) := by decide +kernel
theorem dX10_haunts_1 : decode cX10_haunts 1 = .ok (.iload_n 1, 1) := by decide +kernel
theorem dX10_haunts_2 : decode cX10_haunts 2 = .ok (.invokevirtual 279, 3) := by decide +kernel
theorem dX10_haunts_5 : decode cX10_haunts 5 = .ok (.ifCond .ne 6, 3) := by decide +kernel
theorem dX10_haunts_8 : decode cX10_haunts 8 = .ok (.bipush (-2), 2) := by decide +kernel
theorem dX10_haunts_10 : decode cX10_haunts 10 = .ok (.ireturn, 1) := by decide +kernel
theorem dX10_in_0 : decode cX10_in 0 = .ok (.lload_n 0, 1) := by decide +kernel
theorem dX10_in_1 : decode cX10_in 1 = .ok (.lload_n 2, 1) := by decide +kernel
theorem dX10_in_2 : decode cX10_in 2 = .ok (.lcmp, 1) := by decide +kernel
theorem dX10_in_3 : decode cX10_in 3 = .ok (.ifCond .lt 14, 3) := by decide +kernel
theorem dX10_in_6 : decode cX10_in 6 = .ok (.lload_n 0, 1) := by decide +kernel
theorem dX10_in_7 : decode cX10_in 7 = .ok (.lload 4, 2) := by decide +kernel
theorem dX10_in_9 : decode cX10_in 9 = .ok (.lcmp, 1) := by decide +kernel
theorem dX10_in_10 : decode cX10_in 10 = .ok (.ifCond .gt 7, 3) := by decide +kernel
theorem dX10_in_13 : decode cX10_in 13 = .ok (.iconst 1, 1) := by decide +kernel
theorem dX10_in_14 : decode cX10_in 14 = .ok (.goto 4, 3) := by decide +kernel
theorem dX10_in_17 : decode cX10_in 17 = .ok (.iconst 0, 1) := by decide +kernel
theorem dX10_in_18 : decode cX10_in 18 = .ok (.ireturn, 1) := by decide +kernel
theorem dX10_isCart_0 : decode cX10_isCart 0 = .ok (.iload_n 1, 1) := by decide +kernel
theorem dX10_isCart_1 : decode cX10_isCart 1 = .ok (.i2l, 1) := by decide +kernel
theorem dX10_isCart_2 : decode cX10_isCart 2 = .ok (.lconst 0, 1) := by decide +kernel
theorem dX10_isCart_3 : decode cX10_isCart 3 = .ok (.aload_n 0, 1) := by decide +kernel
theorem dX10_isCart_4 : decode cX10_isCart 4 = .ok (.getfield 9, 3) := by decide +kernel
theorem dX10_isCart_7 : decode cX10_isCart 7 = .ok (.iconst 4, 1) := by decide +kernel
theorem dX10_isCart_8 : decode cX10_isCart 8 = .ok (.iaload, 1) := by decide +kernel
theorem dX10_isCart_9 : decode cX10_isCart 9 = .ok (.iconst 1, 1) := by decide +kernel
theorem dX10_isCart_10 : decode cX10_isCart 10 = .ok (.isub, 1) := by decide +kernel
theorem dX10_isCart_11 : decode cX10_isCart 11 = .ok (.i2l, 1) := by decide +kernel
theorem dX10_isCart_12 : decode cX10_isCart 12 = .ok (.invokestatic 85, 3) := by decide +kernel
theorem dX10_isCart_15 : decode cX10_isCart 15 = .ok (.ireturn, 1) := by decide +kernel
theorem dX10_isDrawn_0 : decode cX10_isDrawn 0 = .ok (.iload_n 1, 1) := by decide +kernel
theorem dX10_isDrawn_1 : decode cX10_isDrawn 1 = .ok (.i2l, 1) := by decide +kernel
theorem dX10_isDrawn_2 : decode cX10_isDrawn 2 = .ok (.lconst 0, 1) := by decide +kernel
theorem dX10_isDrawn_3 : decode cX10_isDrawn 3 = .ok (.ldc2_w 422, 3) := by decide +kernel
theorem dX10_isDrawn_6 : decode cX10_isDrawn 6 = .ok (.invokestatic 85, 3) := by decide +kernel
theorem dX10_isDrawn_9 : decode cX10_isDrawn 9 = .ok (.ifCond .eq 27, 3) := by decide +kernel
theorem dX10_isDrawn_12 : decode cX10_isDrawn 12 = .ok (.aload_n 0, 1) := by decide +kernel
theorem dX10_isDrawn_13 : decode cX10_isDrawn 13 = .ok (.iload_n 2, 1) := by decide +kernel
theorem dX10_isDrawn_14 : decode cX10_isDrawn 14 = .ok (.invokevirtual 279, 3) := by decide +kernel
theorem dX10_isDrawn_17 : decode cX10_isDrawn 17 = .ok (.ifCond .eq 19, 3) := by decide +kernel
theorem dX10_isDrawn_36 : decode cX10_isDrawn 36 = .ok (.iconst 0, 1) := by decide +kernel
theorem dX10_isDrawn_37 : decode cX10_isDrawn 37 = .ok (.ireturn, 1) := by decide +kernel
theorem dX10_isLand_0 : decode cX10_isLand 0 = .ok (.aload_n 0, 1) := by decide +kernel
theorem dX10_isLand_1 : decode cX10_isLand 1 = .ok (.getfield 9, 3) := by decide +kernel
theorem dX10_isLand_4 : decode cX10_isLand 4 = .ok (.bipush 6, 2) := by decide +kernel
theorem dX10_isLand_6 : decode cX10_isLand 6 = .ok (.iaload, 1) := by decide +kernel
theorem dX10_isLand_7 : decode cX10_isLand 7 = .ok (.ifCond .le 7, 3) := by decide +kernel
theorem dX10_isLand_14 : decode cX10_isLand 14 = .ok (.iconst 0, 1) := by decide +kernel
theorem dX10_isLand_15 : decode cX10_isLand 15 = .ok (.ireturn, 1) := by decide +kernel
theorem dX10_isPlace_0 : decode cX10_isPlace 0 = .ok (.lload_n 1, 1) := by decide +kernel
theorem dX10_isPlace_1 : decode cX10_isPlace 1 = .ok (.lconst 0, 1) := by decide +kernel
theorem dX10_isPlace_2 : decode cX10_isPlace 2 = .ok (.aload_n 0, 1) := by decide +kernel
theorem dX10_isPlace_3 : decode cX10_isPlace 3 = .ok (.getfield 9, 3) := by decide +kernel
theorem dX10_isPlace_6 : decode cX10_isPlace 6 = .ok (.iconst 0, 1) := by decide +kernel
theorem dX10_isPlace_7 : decode cX10_isPlace 7 = .ok (.iaload, 1) := by decide +kernel
theorem dX10_isPlace_8 : decode cX10_isPlace 8 = .ok (.iconst 1, 1) := by decide +kernel
theorem dX10_isPlace_9 : decode cX10_isPlace 9 = .ok (.isub, 1) := by decide +kernel
theorem dX10_isPlace_10 : decode cX10_isPlace 10 = .ok (.i2l, 1) := by decide +kernel
theorem dX10_isPlace_11 : decode cX10_isPlace 11 = .ok (.invokestatic 85, 3) := by decide +kernel
theorem dX10_isPlace_14 : decode cX10_isPlace 14 = .ok (.ireturn, 1) := by decide +kernel
theorem dX10_isRoad_0 : decode cX10_isRoad 0 = .ok (.lload_n 1, 1) := by decide +kernel
theorem dX10_isRoad_1 : decode cX10_isRoad 1 = .ok (.lconst 0, 1) := by decide +kernel
theorem dX10_isRoad_2 : decode cX10_isRoad 2 = .ok (.aload_n 0, 1) := by decide +kernel
theorem dX10_isRoad_3 : decode cX10_isRoad 3 = .ok (.getfield 9, 3) := by decide +kernel
theorem dX10_isRoad_6 : decode cX10_isRoad 6 = .ok (.iconst 2, 1) := by decide +kernel
theorem dX10_isRoad_7 : decode cX10_isRoad 7 = .ok (.iaload, 1) := by decide +kernel
theorem dX10_isRoad_8 : decode cX10_isRoad 8 = .ok (.iconst 1, 1) := by decide +kernel
theorem dX10_isRoad_9 : decode cX10_isRoad 9 = .ok (.isub, 1) := by decide +kernel
theorem dX10_isRoad_10 : decode cX10_isRoad 10 = .ok (.i2l, 1) := by decide +kernel
theorem dX10_isRoad_11 : decode cX10_isRoad 11 = .ok (.invokestatic 85, 3) := by decide +kernel
theorem dX10_isRoad_14 : decode cX10_isRoad 14 = .ok (.ireturn, 1) := by decide +kernel
theorem dX10_isSlot_0 : decode cX10_isSlot 0 = .ok (.iload_n 0, 1) := by decide +kernel
theorem dX10_isSlot_1 : decode cX10_isSlot 1 = .ok (.i2l, 1) := by decide +kernel
theorem dX10_isSlot_2 : decode cX10_isSlot 2 = .ok (.lconst 0, 1) := by decide +kernel
theorem dX10_isSlot_3 : decode cX10_isSlot 3 = .ok (.ldc2_w 434, 3) := by decide +kernel
theorem dX10_isSlot_6 : decode cX10_isSlot 6 = .ok (.invokestatic 85, 3) := by decide +kernel
theorem dX10_isSlot_9 : decode cX10_isSlot 9 = .ok (.ireturn, 1) := by decide +kernel
theorem dX10_isWheel_0 : decode cX10_isWheel 0 = .ok (.iload_n 1, 1) := by decide +kernel
theorem dX10_isWheel_1 : decode cX10_isWheel 1 = .ok (.i2l, 1) := by decide +kernel
theorem dX10_isWheel_2 : decode cX10_isWheel 2 = .ok (.lconst 0, 1) := by decide +kernel
theorem dX10_isWheel_3 : decode cX10_isWheel 3 = .ok (.aload_n 0, 1) := by decide +kernel
theorem dX10_isWheel_4 : decode cX10_isWheel 4 = .ok (.getfield 9, 3) := by decide +kernel
theorem dX10_isWheel_7 : decode cX10_isWheel 7 = .ok (.iconst 3, 1) := by decide +kernel
theorem dX10_isWheel_8 : decode cX10_isWheel 8 = .ok (.iaload, 1) := by decide +kernel
theorem dX10_isWheel_9 : decode cX10_isWheel 9 = .ok (.iconst 1, 1) := by decide +kernel
theorem dX10_isWheel_10 : decode cX10_isWheel 10 = .ok (.isub, 1) := by decide +kernel
theorem dX10_isWheel_11 : decode cX10_isWheel 11 = .ok (.i2l, 1) := by decide +kernel
theorem dX10_isWheel_12 : decode cX10_isWheel 12 = .ok (.invokestatic 85, 3) := by decide +kernel
theorem dX10_isWheel_15 : decode cX10_isWheel 15 = .ok (.ireturn, 1) := by decide +kernel
theorem dX10_lasts_0 : decode cX10_lasts 0 = .ok (.aload_n 0, 1) := by decide +kernel
theorem dX10_lasts_1 : decode cX10_lasts 1 = .ok (.iload_n 1, 1) := by decide +kernel
theorem dX10_lasts_2 : decode cX10_lasts 2 = .ok (.invokevirtual 269, 3) := by decide +kernel
theorem dX10_lasts_5 : decode cX10_lasts 5 = .ok (.ifCond .eq 15, 3) := by decide +kernel
theorem dX10_lasts_20 : decode cX10_lasts 20 = .ok (.bipush (-2), 2) := by decide +kernel
theorem dX10_lasts_22 : decode cX10_lasts 22 = .ok (.ireturn, 1) := by decide +kernel
theorem dX10_leaves_0 : decode cX10_leaves 0 = .ok (.aload_n 0, 1) := by decide +kernel
theorem dX10_leaves_1 : decode cX10_leaves 1 = .ok (.iload_n 1, 1) := by decide +kernel
theorem dX10_leaves_2 : decode cX10_leaves 2 = .ok (.invokevirtual 361, 3) := by decide +kernel
theorem dX10_leaves_5 : decode cX10_leaves 5 = .ok (.istore_n 2, 1) := by decide +kernel
theorem dX10_leaves_6 : decode cX10_leaves 6 = .ok (.iload_n 2, 1) := by decide +kernel
theorem dX10_leaves_7 : decode cX10_leaves 7 = .ok (.ifCond .ge 5, 3) := by decide +kernel
theorem dX10_leaves_10 : decode cX10_leaves 10 = .ok (.iload_n 2, 1) := by decide +kernel
theorem dX10_leaves_11 : decode cX10_leaves 11 = .ok (.ireturn, 1) := by decide +kernel
theorem dX10_likes_0 : decode cX10_likes 0 = .ok (.aload_n 0, 1) := by decide +kernel
theorem dX10_likes_1 : decode cX10_likes 1 = .ok (.iload_n 1, 1) := by decide +kernel
theorem dX10_likes_2 : decode cX10_likes 2 = .ok (.invokevirtual 269, 3) := by decide +kernel
theorem dX10_likes_5 : decode cX10_likes 5 = .ok (.ifCond .eq 12, 3) := by decide +kernel
theorem dX10_likes_17 : decode cX10_likes 17 = .ok (.bipush (-2), 2) := by decide +kernel
theorem dX10_likes_19 : decode cX10_likes 19 = .ok (.ireturn, 1) := by decide +kernel
theorem dX10_loved_0 : decode cX10_loved 0 = .ok (.aload_n 0, 1) := by decide +kernel
theorem dX10_loved_1 : decode cX10_loved 1 = .ok (.iload_n 1, 1) := by decide +kernel
theorem dX10_loved_2 : decode cX10_loved 2 = .ok (.i2l, 1) := by decide +kernel
theorem dX10_loved_3 : decode cX10_loved 3 = .ok (.invokevirtual 265, 3) := by decide +kernel
theorem dX10_loved_6 : decode cX10_loved 6 = .ok (.ifCond .ne 6, 3) := by decide +kernel
theorem dX10_loved_9 : decode cX10_loved 9 = .ok (.bipush (-2), 2) := by decide +kernel
theorem dX10_loved_11 : decode cX10_loved 11 = .ok (.ireturn, 1) := by decide +kernel
theorem dX10_luck_0 : decode cX10_luck 0 = .ok (.aload_n 0, 1) := by decide +kernel
theorem dX10_luck_1 : decode cX10_luck 1 = .ok (.iload_n 1, 1) := by decide +kernel
theorem dX10_luck_2 : decode cX10_luck 2 = .ok (.iload_n 3, 1) := by decide +kernel
theorem dX10_luck_3 : decode cX10_luck 3 = .ok (.iload 4, 2) := by decide +kernel
theorem dX10_luck_5 : decode cX10_luck 5 = .ok (.invokevirtual 424, 3) := by decide +kernel
theorem dX10_luck_8 : decode cX10_luck 8 = .ok (.ifCond .eq 25, 3) := by decide +kernel
theorem dX10_luck_33 : decode cX10_luck 33 = .ok (.bipush (-2), 2) := by decide +kernel
theorem dX10_luck_35 : decode cX10_luck 35 = .ok (.ireturn, 1) := by decide +kernel
theorem dX10_mate_0 : decode cX10_mate 0 = .ok (.aload_n 0, 1) := by decide +kernel
theorem dX10_mate_1 : decode cX10_mate 1 = .ok (.iload_n 1, 1) := by decide +kernel
theorem dX10_mate_2 : decode cX10_mate 2 = .ok (.invokevirtual 269, 3) := by decide +kernel
theorem dX10_mate_5 : decode cX10_mate 5 = .ok (.ifCond .ne 6, 3) := by decide +kernel
theorem dX10_mate_8 : decode cX10_mate 8 = .ok (.bipush (-2), 2) := by decide +kernel
theorem dX10_mate_10 : decode cX10_mate 10 = .ok (.ireturn, 1) := by decide +kernel
theorem dX10_meet_0 : decode cX10_meet 0 = .ok (.aload_n 0, 1) := by decide +kernel
theorem dX10_meet_1 : decode cX10_meet 1 = .ok (.iload_n 1, 1) := by decide +kernel
theorem dX10_meet_2 : decode cX10_meet 2 = .ok (.invokevirtual 279, 3) := by decide +kernel
theorem dX10_meet_5 : decode cX10_meet 5 = .ok (.ifCond .eq 21, 3) := by decide +kernel
theorem dX10_meet_26 : decode cX10_meet 26 = .ok (.bipush (-2), 2) := by decide +kernel
theorem dX10_meet_28 : decode cX10_meet 28 = .ok (.ireturn, 1) := by decide +kernel
theorem dX10_met_0 : decode cX10_met 0 = .ok (.aload_n 0, 1) := by decide +kernel
theorem dX10_met_1 : decode cX10_met 1 = .ok (.iload_n 1, 1) := by decide +kernel
theorem dX10_met_2 : decode cX10_met 2 = .ok (.invokevirtual 279, 3) := by decide +kernel
theorem dX10_met_5 : decode cX10_met 5 = .ok (.ifCond .eq 12, 3) := by decide +kernel
theorem dX10_met_17 : decode cX10_met 17 = .ok (.bipush (-2), 2) := by decide +kernel
theorem dX10_met_19 : decode cX10_met 19 = .ok (.ireturn, 1) := by decide +kernel
theorem dX10_paste_0 : decode cX10_paste 0 = .ok (.iload_n 1, 1) := by decide +kernel
theorem dX10_paste_1 : decode cX10_paste 1 = .ok (.invokestatic 300, 3) := by decide +kernel
theorem dX10_paste_4 : decode cX10_paste 4 = .ok (.ifCond .eq 10, 3) := by decide +kernel
theorem dX10_paste_7 : decode cX10_paste 7 = .ok (.iload_n 3, 1) := by decide +kernel
theorem dX10_paste_8 : decode cX10_paste 8 = .ok (.invokestatic 300, 3) := by decide +kernel
theorem dX10_paste_11 : decode cX10_paste 11 = .ok (.ifCond .ne 6, 3) := by decide +kernel
theorem dX10_paste_14 : decode cX10_paste 14 = .ok (.bipush (-2), 2) := by decide +kernel
theorem dX10_paste_16 : decode cX10_paste 16 = .ok (.ireturn, 1) := by decide +kernel
theorem dX10_paste_17 : decode cX10_paste 17 = .ok (.aload_n 0, 1) := by decide +kernel
theorem dX10_paste_18 : decode cX10_paste 18 = .ok (.getfield 67, 3) := by decide +kernel
theorem dX10_paste_21 : decode cX10_paste 21 = .ok (.iload_n 1, 1) := by decide +kernel
theorem dX10_paste_22 : decode cX10_paste 22 = .ok (.iaload, 1) := by decide +kernel
theorem dX10_paste_23 : decode cX10_paste 23 = .ok (.iconst (-1), 1) := by decide +kernel
theorem dX10_paste_24 : decode cX10_paste 24 = .ok (.if_icmp .eq 13, 3) := by decide +kernel
theorem dX10_paste_37 : decode cX10_paste 37 = .ok (.bipush (-6), 2) := by decide +kernel
theorem dX10_paste_39 : decode cX10_paste 39 = .ok (.ireturn, 1) := by decide +kernel
theorem dX10_picks_0 : decode cX10_picks 0 = .ok (.aload_n 0, 1) := by decide +kernel
theorem dX10_picks_1 : decode cX10_picks 1 = .ok (.invokevirtual 297, 3) := by decide +kernel
theorem dX10_picks_4 : decode cX10_picks 4 = .ok (.ifCond .ne 6, 3) := by decide +kernel
theorem dX10_picks_7 : decode cX10_picks 7 = .ok (.bipush (-2), 2) := by decide +kernel
theorem dX10_picks_9 : decode cX10_picks 9 = .ok (.ireturn, 1) := by decide +kernel
theorem dX10_pull_0 : decode cX10_pull 0 = .ok (.aload_n 0, 1) := by decide +kernel
theorem dX10_pull_1 : decode cX10_pull 1 = .ok (.iload_n 1, 1) := by decide +kernel
theorem dX10_pull_2 : decode cX10_pull 2 = .ok (.invokevirtual 279, 3) := by decide +kernel
theorem dX10_pull_5 : decode cX10_pull 5 = .ok (.ifCond .eq 12, 3) := by decide +kernel
theorem dX10_pull_17 : decode cX10_pull 17 = .ok (.bipush (-2), 2) := by decide +kernel
theorem dX10_pull_19 : decode cX10_pull 19 = .ok (.ireturn, 1) := by decide +kernel
theorem dX10_ran_0 : decode cX10_ran 0 = .ok (.aload_n 0, 1) := by decide +kernel
theorem dX10_ran_1 : decode cX10_ran 1 = .ok (.iload_n 1, 1) := by decide +kernel
theorem dX10_ran_2 : decode cX10_ran 2 = .ok (.iload_n 2, 1) := by decide +kernel
theorem dX10_ran_3 : decode cX10_ran 3 = .ok (.invokevirtual 319, 3) := by decide +kernel
theorem dX10_ran_6 : decode cX10_ran 6 = .ok (.istore_n 3, 1) := by decide +kernel
theorem dX10_ran_7 : decode cX10_ran 7 = .ok (.iload_n 3, 1) := by decide +kernel
theorem dX10_ran_8 : decode cX10_ran 8 = .ok (.ifCond .ge 5, 3) := by decide +kernel
theorem dX10_ran_11 : decode cX10_ran 11 = .ok (.iload_n 3, 1) := by decide +kernel
theorem dX10_ran_12 : decode cX10_ran 12 = .ok (.ireturn, 1) := by decide +kernel
theorem dX10_reach_0 : decode cX10_reach 0 = .ok (.aload_n 0, 1) := by decide +kernel
theorem dX10_reach_1 : decode cX10_reach 1 = .ok (.iload_n 1, 1) := by decide +kernel
theorem dX10_reach_2 : decode cX10_reach 2 = .ok (.invokevirtual 279, 3) := by decide +kernel
theorem dX10_reach_5 : decode cX10_reach 5 = .ok (.ifCond .ne 6, 3) := by decide +kernel
theorem dX10_reach_8 : decode cX10_reach 8 = .ok (.bipush (-2), 2) := by decide +kernel
theorem dX10_reach_10 : decode cX10_reach 10 = .ok (.ireturn, 1) := by decide +kernel
theorem dX10_road_0 : decode cX10_road 0 = .ok (.aload_n 0, 1) := by decide +kernel
theorem dX10_road_1 : decode cX10_road 1 = .ok (.iload_n 1, 1) := by decide +kernel
theorem dX10_road_2 : decode cX10_road 2 = .ok (.i2l, 1) := by decide +kernel
theorem dX10_road_3 : decode cX10_road 3 = .ok (.invokevirtual 265, 3) := by decide +kernel
theorem dX10_road_6 : decode cX10_road 6 = .ok (.ifCond .eq 24, 3) := by decide +kernel
theorem dX10_road_30 : decode cX10_road 30 = .ok (.bipush (-2), 2) := by decide +kernel
theorem dX10_road_32 : decode cX10_road 32 = .ok (.ireturn, 1) := by decide +kernel
theorem dX10_roads_0 : decode cX10_roads 0 = .ok (.aload_n 0, 1) := by decide +kernel
theorem dX10_roads_1 : decode cX10_roads 1 = .ok (.iload_n 1, 1) := by decide +kernel
theorem dX10_roads_2 : decode cX10_roads 2 = .ok (.i2l, 1) := by decide +kernel
theorem dX10_roads_3 : decode cX10_roads 3 = .ok (.invokevirtual 282, 3) := by decide +kernel
theorem dX10_roads_6 : decode cX10_roads 6 = .ok (.ifCond .eq 11, 3) := by decide +kernel
theorem dX10_roads_17 : decode cX10_roads 17 = .ok (.bipush (-2), 2) := by decide +kernel
theorem dX10_roads_19 : decode cX10_roads 19 = .ok (.ireturn, 1) := by decide +kernel
theorem dX10_roams_0 : decode cX10_roams 0 = .ok (.aload_n 0, 1) := by decide +kernel
theorem dX10_roams_1 : decode cX10_roams 1 = .ok (.iload_n 1, 1) := by decide +kernel
theorem dX10_roams_2 : decode cX10_roams 2 = .ok (.invokevirtual 279, 3) := by decide +kernel
theorem dX10_roams_5 : decode cX10_roams 5 = .ok (.ifCond .eq 15, 3) := by decide +kernel
theorem dX10_roams_20 : decode cX10_roams 20 = .ok (.bipush (-2), 2) := by decide +kernel
theorem dX10_roams_22 : decode cX10_roams 22 = .ok (.ireturn, 1) := by decide +kernel
theorem dX10_share_0 : decode cX10_share 0 = .ok (.aload_n 0, 1) := by decide +kernel
theorem dX10_share_1 : decode cX10_share 1 = .ok (.iload_n 1, 1) := by decide +kernel
theorem dX10_share_2 : decode cX10_share 2 = .ok (.invokevirtual 279, 3) := by decide +kernel
theorem dX10_share_5 : decode cX10_share 5 = .ok (.ifCond .eq 23, 3) := by decide +kernel
theorem dX10_share_28 : decode cX10_share 28 = .ok (.bipush (-2), 2) := by decide +kernel
theorem dX10_share_30 : decode cX10_share 30 = .ok (.ireturn, 1) := by decide +kernel
theorem dX10_smiths_0 : decode cX10_smiths 0 = .ok (.aload_n 0, 1) := by decide +kernel
theorem dX10_smiths_1 : decode cX10_smiths 1 = .ok (.invokevirtual 297, 3) := by decide +kernel
theorem dX10_smiths_4 : decode cX10_smiths 4 = .ok (.ifCond .ne 7, 3) := by decide +kernel
theorem dX10_smiths_7 : decode cX10_smiths 7 = .ok (.ldc_w 404, 3) := by decide +kernel
theorem dX10_smiths_10 : decode cX10_smiths 10 = .ok (.ireturn, 1) := by decide +kernel
theorem dX10_swap_0 : decode cX10_swap 0 = .ok (.aload_n 0, 1) := by decide +kernel
theorem dX10_swap_1 : decode cX10_swap 1 = .ok (.iload_n 1, 1) := by decide +kernel
theorem dX10_swap_2 : decode cX10_swap 2 = .ok (.invokevirtual 269, 3) := by decide +kernel
theorem dX10_swap_5 : decode cX10_swap 5 = .ok (.ifCond .eq 16, 3) := by decide +kernel
theorem dX10_swap_21 : decode cX10_swap 21 = .ok (.bipush (-2), 2) := by decide +kernel
theorem dX10_swap_23 : decode cX10_swap 23 = .ok (.ireturn, 1) := by decide +kernel
theorem dX10_takes__0 : decode cX10_takes_ 0 = .ok (.aload_n 0, 1) := by decide +kernel
theorem dX10_takes__1 : decode cX10_takes_ 1 = .ok (.iload_n 1, 1) := by decide +kernel
theorem dX10_takes__2 : decode cX10_takes_ 2 = .ok (.iload_n 2, 1) := by decide +kernel
theorem dX10_takes__3 : decode cX10_takes_ 3 = .ok (.i2l, 1) := by decide +kernel
theorem dX10_takes__4 : decode cX10_takes_ 4 = .ok (.invokevirtual 290, 3) := by decide +kernel
theorem dX10_takes__7 : decode cX10_takes_ 7 = .ok (.ifCond .eq 12, 3) := by decide +kernel
theorem dX10_takes__19 : decode cX10_takes_ 19 = .ok (.bipush (-2), 2) := by decide +kernel
theorem dX10_takes__21 : decode cX10_takes_ 21 = .ok (.ireturn, 1) := by decide +kernel
theorem dX10_teach_0 : decode cX10_teach 0 = .ok (.aload_n 0, 1) := by decide +kernel
theorem dX10_teach_1 : decode cX10_teach 1 = .ok (.iload_n 1, 1) := by decide +kernel
theorem dX10_teach_2 : decode cX10_teach 2 = .ok (.invokevirtual 269, 3) := by decide +kernel
theorem dX10_teach_5 : decode cX10_teach 5 = .ok (.ifCond .eq 12, 3) := by decide +kernel
theorem dX10_teach_17 : decode cX10_teach 17 = .ok (.bipush (-2), 2) := by decide +kernel
theorem dX10_teach_19 : decode cX10_teach 19 = .ok (.ireturn, 1) := by decide +kernel
theorem dX10_tell_0 : decode cX10_tell 0 = .ok (.aload_n 0, 1) := by decide +kernel
theorem dX10_tell_1 : decode cX10_tell 1 = .ok (.iload_n 1, 1) := by decide +kernel
theorem dX10_tell_2 : decode cX10_tell 2 = .ok (.invokevirtual 269, 3) := by decide +kernel
theorem dX10_tell_5 : decode cX10_tell 5 = .ok (.ifCond .eq 24, 3) := by decide +kernel
theorem dX10_tell_29 : decode cX10_tell 29 = .ok (.bipush (-2), 2) := by decide +kernel
theorem dX10_tell_31 : decode cX10_tell 31 = .ok (.ireturn, 1) := by decide +kernel
theorem dX10_undo_0 : decode cX10_undo 0 = .ok (.aload_n 0, 1) := by decide +kernel
theorem dX10_undo_1 : decode cX10_undo 1 = .ok (.invokevirtual 297, 3) := by decide +kernel
theorem dX10_undo_4 : decode cX10_undo 4 = .ok (.ifCond .ne 6, 3) := by decide +kernel
theorem dX10_undo_7 : decode cX10_undo 7 = .ok (.bipush (-2), 2) := by decide +kernel
theorem dX10_undo_9 : decode cX10_undo 9 = .ok (.ireturn, 1) := by decide +kernel
theorem dX10_votes_0 : decode cX10_votes 0 = .ok (.aload_n 0, 1) := by decide +kernel
theorem dX10_votes_1 : decode cX10_votes 1 = .ok (.iload_n 1, 1) := by decide +kernel
theorem dX10_votes_2 : decode cX10_votes 2 = .ok (.i2l, 1) := by decide +kernel
theorem dX10_votes_3 : decode cX10_votes 3 = .ok (.invokevirtual 282, 3) := by decide +kernel
theorem dX10_votes_6 : decode cX10_votes 6 = .ok (.ifCond .eq 21, 3) := by decide +kernel
theorem dX10_votes_27 : decode cX10_votes 27 = .ok (.bipush (-2), 2) := by decide +kernel
theorem dX10_votes_29 : decode cX10_votes 29 = .ok (.ireturn, 1) := by decide +kernel
theorem dX10_wants_0 : decode cX10_wants 0 = .ok (.aload_n 0, 1) := by decide +kernel
theorem dX10_wants_1 : decode cX10_wants 1 = .ok (.iload_n 1, 1) := by decide +kernel
theorem dX10_wants_2 : decode cX10_wants 2 = .ok (.invokevirtual 279, 3) := by decide +kernel
theorem dX10_wants_5 : decode cX10_wants 5 = .ok (.ifCond .eq 12, 3) := by decide +kernel
theorem dX10_wants_17 : decode cX10_wants 17 = .ok (.bipush (-2), 2) := by decide +kernel
theorem dX10_wants_19 : decode cX10_wants 19 = .ok (.ireturn, 1) := by decide +kernel
theorem dX10_way_0 : decode cX10_way 0 = .ok (.aload_n 0, 1) := by decide +kernel
theorem dX10_way_1 : decode cX10_way 1 = .ok (.iload_n 1, 1) := by decide +kernel
theorem dX10_way_2 : decode cX10_way 2 = .ok (.invokevirtual 279, 3) := by decide +kernel
theorem dX10_way_5 : decode cX10_way 5 = .ok (.ifCond .eq 12, 3) := by decide +kernel
theorem dX10_way_17 : decode cX10_way 17 = .ok (.bipush (-2), 2) := by decide +kernel
theorem dX10_way_19 : decode cX10_way 19 = .ok (.ireturn, 1) := by decide +kernel
theorem dX10_wheel_0 : decode cX10_wheel 0 = .ok (.aload_n 0, 1) := by decide +kernel
theorem dX10_wheel_1 : decode cX10_wheel 1 = .ok (.iload_n 1, 1) := by decide +kernel
theorem dX10_wheel_2 : decode cX10_wheel 2 = .ok (.invokevirtual 269, 3) := by decide +kernel
theorem dX10_wheel_5 : decode cX10_wheel 5 = .ok (.ifCond .eq 15, 3) := by decide +kernel
theorem dX10_wheel_20 : decode cX10_wheel 20 = .ok (.bipush (-2), 2) := by decide +kernel
theorem dX10_wheel_22 : decode cX10_wheel 22 = .ok (.ireturn, 1) := by decide +kernel
theorem dX10_worn_0 : decode cX10_worn 0 = .ok (.aload_n 0, 1) := by decide +kernel
theorem dX10_worn_1 : decode cX10_worn 1 = .ok (.iload_n 1, 1) := by decide +kernel
theorem dX10_worn_2 : decode cX10_worn 2 = .ok (.iload_n 2, 1) := by decide +kernel
theorem dX10_worn_3 : decode cX10_worn 3 = .ok (.invokevirtual 319, 3) := by decide +kernel
theorem dX10_worn_6 : decode cX10_worn 6 = .ok (.istore_n 3, 1) := by decide +kernel
theorem dX10_worn_7 : decode cX10_worn 7 = .ok (.iload_n 3, 1) := by decide +kernel
theorem dX10_worn_8 : decode cX10_worn 8 = .ok (.ifCond .ge 5, 3) := by decide +kernel
theorem dX10_worn_11 : decode cX10_worn 11 = .ok (.iload_n 3, 1) := by decide +kernel
theorem dX10_worn_12 : decode cX10_worn 12 = .ok (.ireturn, 1) := by decide +kernel
theorem dX10_worth_0 : decode cX10_worth 0 = .ok (.aload_n 0, 1) := by decide +kernel
theorem dX10_worth_1 : decode cX10_worth 1 = .ok (.iload_n 1, 1) := by decide +kernel
theorem dX10_worth_2 : decode cX10_worth 2 = .ok (.invokevirtual 269, 3) := by decide +kernel
theorem dX10_worth_5 : decode cX10_worth 5 = .ok (.ifCond .ne 6, 3) := by decide +kernel
theorem dX10_worth_8 : decode cX10_worth 8 = .ok (.bipush (-2), 2) := by decide +kernel
theorem dX10_worth_10 : decode cX10_worth 10 = .ok (.ireturn, 1) := by decide +kernel
theorem dX10_write_0 : decode cX10_write 0 = .ok (.iload_n 1, 1) := by decide +kernel
theorem dX10_write_1 : decode cX10_write 1 = .ok (.invokestatic 300, 3) := by decide +kernel
theorem dX10_write_4 : decode cX10_write 4 = .ok (.ifCond .ne 6, 3) := by decide +kernel
theorem dX10_write_7 : decode cX10_write 7 = .ok (.bipush (-2), 2) := by decide +kernel
theorem dX10_write_9 : decode cX10_write 9 = .ok (.ireturn, 1) := by decide +kernel
theorem dX10_write_10 : decode cX10_write 10 = .ok (.aload_n 0, 1) := by decide +kernel
theorem dX10_write_11 : decode cX10_write 11 = .ok (.getfield 67, 3) := by decide +kernel
theorem dX10_write_14 : decode cX10_write 14 = .ok (.iload_n 1, 1) := by decide +kernel
theorem dX10_write_15 : decode cX10_write 15 = .ok (.iaload, 1) := by decide +kernel
theorem dX10_write_16 : decode cX10_write 16 = .ok (.iconst (-1), 1) := by decide +kernel
theorem dX10_write_17 : decode cX10_write 17 = .ok (.if_icmp .ne 6, 3) := by decide +kernel
theorem dX10_write_20 : decode cX10_write 20 = .ok (.bipush (-6), 2) := by decide +kernel
theorem dX10_write_22 : decode cX10_write 22 = .ok (.ireturn, 1) := by decide +kernel
theorem dX1_isCart_0 : decode cX1_isCart 0 = .ok (.iload_n 1, 1) := by decide +kernel
theorem dX1_isCart_1 : decode cX1_isCart 1 = .ok (.ifCond .lt 15, 3) := by decide +kernel
theorem dX1_isCart_4 : decode cX1_isCart 4 = .ok (.iload_n 1, 1) := by decide +kernel
theorem dX1_isCart_5 : decode cX1_isCart 5 = .ok (.aload_n 0, 1) := by decide +kernel
theorem dX1_isCart_6 : decode cX1_isCart 6 = .ok (.getfield 53, 3) := by decide +kernel
theorem dX1_isCart_9 : decode cX1_isCart 9 = .ok (.if_icmp .ge 7, 3) := by decide +kernel
theorem dX1_isCart_16 : decode cX1_isCart 16 = .ok (.iconst 0, 1) := by decide +kernel
theorem dX1_isCart_17 : decode cX1_isCart 17 = .ok (.ireturn, 1) := by decide +kernel
theorem dX1_isErrand_0 : decode cX1_isErrand 0 = .ok (.iload_n 1, 1) := by decide +kernel
theorem dX1_isErrand_1 : decode cX1_isErrand 1 = .ok (.ifCond .lt 15, 3) := by decide +kernel
theorem dX1_isErrand_4 : decode cX1_isErrand 4 = .ok (.iload_n 1, 1) := by decide +kernel
theorem dX1_isErrand_5 : decode cX1_isErrand 5 = .ok (.aload_n 0, 1) := by decide +kernel
theorem dX1_isErrand_6 : decode cX1_isErrand 6 = .ok (.getfield 56, 3) := by decide +kernel
theorem dX1_isErrand_9 : decode cX1_isErrand 9 = .ok (.if_icmp .ge 7, 3) := by decide +kernel
theorem dX1_isErrand_16 : decode cX1_isErrand 16 = .ok (.iconst 0, 1) := by decide +kernel
theorem dX1_isErrand_17 : decode cX1_isErrand 17 = .ok (.ireturn, 1) := by decide +kernel
theorem dX1_isPlace_0 : decode cX1_isPlace 0 = .ok (.iload_n 1, 1) := by decide +kernel
theorem dX1_isPlace_1 : decode cX1_isPlace 1 = .ok (.ifCond .lt 15, 3) := by decide +kernel
theorem dX1_isPlace_4 : decode cX1_isPlace 4 = .ok (.iload_n 1, 1) := by decide +kernel
theorem dX1_isPlace_5 : decode cX1_isPlace 5 = .ok (.aload_n 0, 1) := by decide +kernel
theorem dX1_isPlace_6 : decode cX1_isPlace 6 = .ok (.getfield 41, 3) := by decide +kernel
theorem dX1_isPlace_9 : decode cX1_isPlace 9 = .ok (.if_icmp .ge 7, 3) := by decide +kernel
theorem dX1_isPlace_16 : decode cX1_isPlace 16 = .ok (.iconst 0, 1) := by decide +kernel
theorem dX1_isPlace_17 : decode cX1_isPlace 17 = .ok (.ireturn, 1) := by decide +kernel
theorem dX1_isRoad_0 : decode cX1_isRoad 0 = .ok (.iload_n 1, 1) := by decide +kernel
theorem dX1_isRoad_1 : decode cX1_isRoad 1 = .ok (.ifCond .lt 15, 3) := by decide +kernel
theorem dX1_isRoad_4 : decode cX1_isRoad 4 = .ok (.iload_n 1, 1) := by decide +kernel
theorem dX1_isRoad_5 : decode cX1_isRoad 5 = .ok (.aload_n 0, 1) := by decide +kernel
theorem dX1_isRoad_6 : decode cX1_isRoad 6 = .ok (.getfield 47, 3) := by decide +kernel
theorem dX1_isRoad_9 : decode cX1_isRoad 9 = .ok (.if_icmp .ge 7, 3) := by decide +kernel
theorem dX1_isRoad_16 : decode cX1_isRoad 16 = .ok (.iconst 0, 1) := by decide +kernel
theorem dX1_isRoad_17 : decode cX1_isRoad 17 = .ok (.ireturn, 1) := by decide +kernel
theorem dX1_isTold_0 : decode cX1_isTold 0 = .ok (.aload_n 0, 1) := by decide +kernel
theorem dX1_isTold_1 : decode cX1_isTold 1 = .ok (.getfield 37, 3) := by decide +kernel
theorem dX1_isTold_4 : decode cX1_isTold 4 = .ok (.ifCond .le 7, 3) := by decide +kernel
theorem dX1_isTold_11 : decode cX1_isTold 11 = .ok (.iconst 0, 1) := by decide +kernel
theorem dX1_isTold_12 : decode cX1_isTold 12 = .ok (.ireturn, 1) := by decide +kernel
theorem dX1_isWheel_0 : decode cX1_isWheel 0 = .ok (.iload_n 1, 1) := by decide +kernel
theorem dX1_isWheel_1 : decode cX1_isWheel 1 = .ok (.ifCond .lt 15, 3) := by decide +kernel
theorem dX1_isWheel_4 : decode cX1_isWheel 4 = .ok (.iload_n 1, 1) := by decide +kernel
theorem dX1_isWheel_5 : decode cX1_isWheel 5 = .ok (.aload_n 0, 1) := by decide +kernel
theorem dX1_isWheel_6 : decode cX1_isWheel 6 = .ok (.getfield 50, 3) := by decide +kernel
theorem dX1_isWheel_9 : decode cX1_isWheel 9 = .ok (.if_icmp .ge 7, 3) := by decide +kernel
theorem dX1_isWheel_16 : decode cX1_isWheel 16 = .ok (.iconst 0, 1) := by decide +kernel
theorem dX1_isWheel_17 : decode cX1_isWheel 17 = .ok (.ireturn, 1) := by decide +kernel
theorem dX4_hasRow_0 : decode cX4_hasRow 0 = .ok (.aload_n 0, 1) := by decide +kernel
theorem dX4_hasRow_1 : decode cX4_hasRow 1 = .ok (.getfield 11, 3) := by decide +kernel
theorem dX4_hasRow_4 : decode cX4_hasRow 4 = .ok (.iload_n 1, 1) := by decide +kernel
theorem dX4_hasRow_5 : decode cX4_hasRow 5 = .ok (.iaload, 1) := by decide +kernel
theorem dX4_hasRow_6 : decode cX4_hasRow 6 = .ok (.iconst (-1), 1) := by decide +kernel
theorem dX4_hasRow_7 : decode cX4_hasRow 7 = .ok (.if_icmp .eq 7, 3) := by decide +kernel
theorem dX4_hasRow_14 : decode cX4_hasRow 14 = .ok (.iconst 0, 1) := by decide +kernel
theorem dX4_hasRow_15 : decode cX4_hasRow 15 = .ok (.ireturn, 1) := by decide +kernel
theorem dX4_isSlot_0 : decode cX4_isSlot 0 = .ok (.iload_n 1, 1) := by decide +kernel
theorem dX4_isSlot_1 : decode cX4_isSlot 1 = .ok (.ifCond .lt 12, 3) := by decide +kernel
theorem dX4_isSlot_4 : decode cX4_isSlot 4 = .ok (.iload_n 1, 1) := by decide +kernel
theorem dX4_isSlot_5 : decode cX4_isSlot 5 = .ok (.iconst 4, 1) := by decide +kernel
theorem dX4_isSlot_6 : decode cX4_isSlot 6 = .ok (.if_icmp .ge 7, 3) := by decide +kernel
theorem dX4_isSlot_9 : decode cX4_isSlot 9 = .ok (.iconst 1, 1) := by decide +kernel
theorem dX4_isSlot_10 : decode cX4_isSlot 10 = .ok (.goto 4, 3) := by decide +kernel
theorem dX4_isSlot_13 : decode cX4_isSlot 13 = .ok (.iconst 0, 1) := by decide +kernel
theorem dX4_isSlot_14 : decode cX4_isSlot 14 = .ok (.ireturn, 1) := by decide +kernel
theorem dX4_rowCount_0 : decode cX4_rowCount 0 = .ok (.iconst 0, 1) := by decide +kernel
theorem dX4_rowCount_1 : decode cX4_rowCount 1 = .ok (.istore_n 1, 1) := by decide +kernel
theorem dX4_rowCount_2 : decode cX4_rowCount 2 = .ok (.iconst 0, 1) := by decide +kernel
theorem dX4_rowCount_3 : decode cX4_rowCount 3 = .ok (.istore_n 2, 1) := by decide +kernel
theorem dX4_rowCount_4 : decode cX4_rowCount 4 = .ok (.iload_n 2, 1) := by decide +kernel
theorem dX4_rowCount_5 : decode cX4_rowCount 5 = .ok (.iconst 4, 1) := by decide +kernel
theorem dX4_rowCount_6 : decode cX4_rowCount 6 = .ok (.if_icmp .ge 20, 3) := by decide +kernel
theorem dX4_rowCount_9 : decode cX4_rowCount 9 = .ok (.aload_n 0, 1) := by decide +kernel
theorem dX4_rowCount_10 : decode cX4_rowCount 10 = .ok (.iload_n 2, 1) := by decide +kernel
theorem dX4_rowCount_11 : decode cX4_rowCount 11 = .ok (.invokevirtual 29, 3) := by decide +kernel
theorem dX4_rowCount_14 : decode cX4_rowCount 14 = .ok (.ifCond .eq 6, 3) := by decide +kernel
theorem dX4_rowCount_20 : decode cX4_rowCount 20 = .ok (.iinc 2 1, 3) := by decide +kernel
theorem dX4_rowCount_23 : decode cX4_rowCount 23 = .ok (.goto (-19), 3) := by decide +kernel
theorem dX4_rowCount_26 : decode cX4_rowCount 26 = .ok (.iload_n 1, 1) := by decide +kernel
theorem dX4_rowCount_27 : decode cX4_rowCount 27 = .ok (.ireturn, 1) := by decide +kernel
theorem dX9_agree_0 : decode cX9_agree 0 = .ok (.aload_n 0, 1) := by decide +kernel
theorem dX9_agree_1 : decode cX9_agree 1 = .ok (.getfield 24, 3) := by decide +kernel
theorem dX9_agree_4 : decode cX9_agree 4 = .ok (.getfield 100, 3) := by decide +kernel
theorem dX9_agree_7 : decode cX9_agree 7 = .ok (.iload_n 1, 1) := by decide +kernel
theorem dX9_agree_8 : decode cX9_agree 8 = .ok (.invokevirtual 127, 3) := by decide +kernel
theorem dX9_agree_11 : decode cX9_agree 11 = .ok (.ifCond .eq 17, 3) := by decide +kernel
theorem dX9_agree_28 : decode cX9_agree 28 = .ok (.bipush (-2), 2) := by decide +kernel
theorem dX9_agree_30 : decode cX9_agree 30 = .ok (.ireturn, 1) := by decide +kernel
theorem dX9_anew_0 : decode cX9_anew 0 = .ok (.aload_n 0, 1) := by decide +kernel
theorem dX9_anew_1 : decode cX9_anew 1 = .ok (.getfield 24, 3) := by decide +kernel
theorem dX9_anew_4 : decode cX9_anew 4 = .ok (.getfield 100, 3) := by decide +kernel
theorem dX9_anew_7 : decode cX9_anew 7 = .ok (.invokevirtual 211, 3) := by decide +kernel
theorem dX9_anew_10 : decode cX9_anew 10 = .ok (.ifCond .ne 6, 3) := by decide +kernel
theorem dX9_anew_13 : decode cX9_anew 13 = .ok (.bipush (-2), 2) := by decide +kernel
theorem dX9_anew_15 : decode cX9_anew 15 = .ok (.ireturn, 1) := by decide +kernel
theorem dX9_argue_0 : decode cX9_argue 0 = .ok (.aload_n 0, 1) := by decide +kernel
theorem dX9_argue_1 : decode cX9_argue 1 = .ok (.iload_n 1, 1) := by decide +kernel
theorem dX9_argue_2 : decode cX9_argue 2 = .ok (.iload_n 2, 1) := by decide +kernel
theorem dX9_argue_3 : decode cX9_argue 3 = .ok (.invokevirtual 191, 3) := by decide +kernel
theorem dX9_argue_6 : decode cX9_argue 6 = .ok (.ifCond .ne 6, 3) := by decide +kernel
theorem dX9_argue_9 : decode cX9_argue 9 = .ok (.bipush (-2), 2) := by decide +kernel
theorem dX9_argue_11 : decode cX9_argue 11 = .ok (.ireturn, 1) := by decide +kernel
theorem dX9_aside_0 : decode cX9_aside 0 = .ok (.aload_n 0, 1) := by decide +kernel
theorem dX9_aside_1 : decode cX9_aside 1 = .ok (.getfield 24, 3) := by decide +kernel
theorem dX9_aside_4 : decode cX9_aside 4 = .ok (.getfield 100, 3) := by decide +kernel
theorem dX9_aside_7 : decode cX9_aside 7 = .ok (.iload_n 1, 1) := by decide +kernel
theorem dX9_aside_8 : decode cX9_aside 8 = .ok (.invokevirtual 147, 3) := by decide +kernel
theorem dX9_aside_11 : decode cX9_aside 11 = .ok (.ifCond .ne 6, 3) := by decide +kernel
theorem dX9_aside_14 : decode cX9_aside 14 = .ok (.bipush (-2), 2) := by decide +kernel
theorem dX9_aside_16 : decode cX9_aside 16 = .ok (.ireturn, 1) := by decide +kernel
theorem dX9_ask_0 : decode cX9_ask 0 = .ok (.aload_n 0, 1) := by decide +kernel
theorem dX9_ask_1 : decode cX9_ask 1 = .ok (.iload_n 1, 1) := by decide +kernel
theorem dX9_ask_2 : decode cX9_ask 2 = .ok (.invokevirtual 332, 3) := by decide +kernel
theorem dX9_ask_5 : decode cX9_ask 5 = .ok (.istore_n 2, 1) := by decide +kernel
theorem dX9_ask_6 : decode cX9_ask 6 = .ok (.iload_n 2, 1) := by decide +kernel
theorem dX9_ask_7 : decode cX9_ask 7 = .ok (.ifCond .ge 7, 3) := by decide +kernel
theorem dX9_ask_10 : decode cX9_ask 10 = .ok (.iload_n 2, 1) := by decide +kernel
theorem dX9_ask_11 : decode cX9_ask 11 = .ok (.goto 8, 3) := by decide +kernel
theorem dX9_ask_19 : decode cX9_ask 19 = .ok (.ireturn, 1) := by decide +kernel
theorem dX9_astray_0 : decode cX9_astray 0 = .ok (.aload_n 0, 1) := by decide +kernel
theorem dX9_astray_1 : decode cX9_astray 1 = .ok (.iload_n 1, 1) := by decide +kernel
theorem dX9_astray_2 : decode cX9_astray 2 = .ok (.iload_n 2, 1) := by decide +kernel
theorem dX9_astray_3 : decode cX9_astray 3 = .ok (.invokevirtual 220, 3) := by decide +kernel
theorem dX9_astray_6 : decode cX9_astray 6 = .ok (.istore_n 3, 1) := by decide +kernel
theorem dX9_astray_7 : decode cX9_astray 7 = .ok (.iload_n 3, 1) := by decide +kernel
theorem dX9_astray_8 : decode cX9_astray 8 = .ok (.ifCond .eq 7, 3) := by decide +kernel
theorem dX9_astray_11 : decode cX9_astray 11 = .ok (.iload_n 3, 1) := by decide +kernel
theorem dX9_astray_12 : decode cX9_astray 12 = .ok (.goto 10, 3) := by decide +kernel
theorem dX9_astray_22 : decode cX9_astray 22 = .ok (.ireturn, 1) := by decide +kernel
theorem dX9_back_0 : decode cX9_back 0 = .ok (.iload_n 1, 1) := by decide +kernel
theorem dX9_back_1 : decode cX9_back 1 = .ok (.ifCond .lt 8, 3) := by decide +kernel
theorem dX9_back_4 : decode cX9_back 4 = .ok (.iload_n 1, 1) := by decide +kernel
theorem dX9_back_5 : decode cX9_back 5 = .ok (.iconst 3, 1) := by decide +kernel
theorem dX9_back_6 : decode cX9_back 6 = .ok (.if_icmp .lt 6, 3) := by decide +kernel
theorem dX9_back_9 : decode cX9_back 9 = .ok (.bipush (-2), 2) := by decide +kernel
theorem dX9_back_11 : decode cX9_back 11 = .ok (.ireturn, 1) := by decide +kernel
theorem dX9_back_12 : decode cX9_back 12 = .ok (.aload_n 0, 1) := by decide +kernel
theorem dX9_back_13 : decode cX9_back 13 = .ok (.getfield 32, 3) := by decide +kernel
theorem dX9_back_16 : decode cX9_back 16 = .ok (.iload_n 1, 1) := by decide +kernel
theorem dX9_back_17 : decode cX9_back 17 = .ok (.baload, 1) := by decide +kernel
theorem dX9_back_18 : decode cX9_back 18 = .ok (.ifCond .ne 6, 3) := by decide +kernel
theorem dX9_back_21 : decode cX9_back 21 = .ok (.bipush (-6), 2) := by decide +kernel
theorem dX9_back_23 : decode cX9_back 23 = .ok (.ireturn, 1) := by decide +kernel
theorem dX9_blind_0 : decode cX9_blind 0 = .ok (.aload_n 0, 1) := by decide +kernel
theorem dX9_blind_1 : decode cX9_blind 1 = .ok (.iload_n 1, 1) := by decide +kernel
theorem dX9_blind_2 : decode cX9_blind 2 = .ok (.iload_n 2, 1) := by decide +kernel
theorem dX9_blind_3 : decode cX9_blind 3 = .ok (.invokevirtual 191, 3) := by decide +kernel
theorem dX9_blind_6 : decode cX9_blind 6 = .ok (.ifCond .ne 6, 3) := by decide +kernel
theorem dX9_blind_9 : decode cX9_blind 9 = .ok (.bipush (-2), 2) := by decide +kernel
theorem dX9_blind_11 : decode cX9_blind 11 = .ok (.ireturn, 1) := by decide +kernel
theorem dX9_blinds_0 : decode cX9_blinds 0 = .ok (.aload_n 0, 1) := by decide +kernel
theorem dX9_blinds_1 : decode cX9_blinds 1 = .ok (.iload_n 1, 1) := by decide +kernel
theorem dX9_blinds_2 : decode cX9_blinds 2 = .ok (.iload_n 2, 1) := by decide +kernel
theorem dX9_blinds_3 : decode cX9_blinds 3 = .ok (.invokevirtual 191, 3) := by decide +kernel
theorem dX9_blinds_6 : decode cX9_blinds 6 = .ok (.ifCond .eq 12, 3) := by decide +kernel
theorem dX9_blinds_18 : decode cX9_blinds 18 = .ok (.bipush (-2), 2) := by decide +kernel
theorem dX9_blinds_20 : decode cX9_blinds 20 = .ok (.ireturn, 1) := by decide +kernel
theorem dX9_canDraw_0 : decode cX9_canDraw 0 = .ok (.iload_n 1, 1) := by decide +kernel
theorem dX9_canDraw_1 : decode cX9_canDraw 1 = .ok (.ifCond .lt 38, 3) := by decide +kernel
theorem dX9_canDraw_4 : decode cX9_canDraw 4 = .ok (.iload_n 1, 1) := by decide +kernel
theorem dX9_canDraw_5 : decode cX9_canDraw 5 = .ok (.ldc_w 386, 3) := by decide +kernel
theorem dX9_canDraw_8 : decode cX9_canDraw 8 = .ok (.if_icmp .gt 31, 3) := by decide +kernel
theorem dX9_canDraw_11 : decode cX9_canDraw 11 = .ok (.aload_n 0, 1) := by decide +kernel
theorem dX9_canDraw_12 : decode cX9_canDraw 12 = .ok (.getfield 24, 3) := by decide +kernel
theorem dX9_canDraw_15 : decode cX9_canDraw 15 = .ok (.getfield 100, 3) := by decide +kernel
theorem dX9_canDraw_18 : decode cX9_canDraw 18 = .ok (.iload_n 2, 1) := by decide +kernel
theorem dX9_canDraw_19 : decode cX9_canDraw 19 = .ok (.invokevirtual 147, 3) := by decide +kernel
theorem dX9_canDraw_22 : decode cX9_canDraw 22 = .ok (.ifCond .eq 17, 3) := by decide +kernel
theorem dX9_canDraw_39 : decode cX9_canDraw 39 = .ok (.iconst 0, 1) := by decide +kernel
theorem dX9_canDraw_40 : decode cX9_canDraw 40 = .ok (.ireturn, 1) := by decide +kernel
theorem dX9_canWant_0 : decode cX9_canWant 0 = .ok (.aload_n 0, 1) := by decide +kernel
theorem dX9_canWant_1 : decode cX9_canWant 1 = .ok (.getfield 24, 3) := by decide +kernel
theorem dX9_canWant_4 : decode cX9_canWant 4 = .ok (.getfield 100, 3) := by decide +kernel
theorem dX9_canWant_7 : decode cX9_canWant 7 = .ok (.iload_n 1, 1) := by decide +kernel
theorem dX9_canWant_8 : decode cX9_canWant 8 = .ok (.invokevirtual 147, 3) := by decide +kernel
theorem dX9_canWant_11 : decode cX9_canWant 11 = .ok (.ifCond .eq 21, 3) := by decide +kernel
theorem dX9_canWant_32 : decode cX9_canWant 32 = .ok (.iconst 0, 1) := by decide +kernel
theorem dX9_canWant_33 : decode cX9_canWant 33 = .ok (.ireturn, 1) := by decide +kernel
theorem dX9_cart_0 : decode cX9_cart 0 = .ok (.aload_n 0, 1) := by decide +kernel
theorem dX9_cart_1 : decode cX9_cart 1 = .ok (.getfield 24, 3) := by decide +kernel
theorem dX9_cart_4 : decode cX9_cart 4 = .ok (.getfield 100, 3) := by decide +kernel
theorem dX9_cart_7 : decode cX9_cart 7 = .ok (.iload_n 1, 1) := by decide +kernel
theorem dX9_cart_8 : decode cX9_cart 8 = .ok (.invokevirtual 147, 3) := by decide +kernel
theorem dX9_cart_11 : decode cX9_cart 11 = .ok (.ifCond .ne 6, 3) := by decide +kernel
theorem dX9_cart_14 : decode cX9_cart 14 = .ok (.bipush (-2), 2) := by decide +kernel
theorem dX9_cart_16 : decode cX9_cart 16 = .ok (.ireturn, 1) := by decide +kernel
theorem dX9_choose_0 : decode cX9_choose 0 = .ok (.aload_n 0, 1) := by decide +kernel
theorem dX9_choose_1 : decode cX9_choose 1 = .ok (.getfield 24, 3) := by decide +kernel
theorem dX9_choose_4 : decode cX9_choose 4 = .ok (.getfield 100, 3) := by decide +kernel
theorem dX9_choose_7 : decode cX9_choose 7 = .ok (.iload_n 1, 1) := by decide +kernel
theorem dX9_choose_8 : decode cX9_choose 8 = .ok (.invokevirtual 147, 3) := by decide +kernel
theorem dX9_choose_11 : decode cX9_choose 11 = .ok (.ifCond .eq 17, 3) := by decide +kernel
theorem dX9_choose_28 : decode cX9_choose 28 = .ok (.bipush (-2), 2) := by decide +kernel
theorem dX9_choose_30 : decode cX9_choose 30 = .ok (.ireturn, 1) := by decide +kernel
theorem dX9_chosen_0 : decode cX9_chosen 0 = .ok (.aload_n 0, 1) := by decide +kernel
theorem dX9_chosen_1 : decode cX9_chosen 1 = .ok (.getfield 24, 3) := by decide +kernel
theorem dX9_chosen_4 : decode cX9_chosen 4 = .ok (.getfield 100, 3) := by decide +kernel
theorem dX9_chosen_7 : decode cX9_chosen 7 = .ok (.iload_n 1, 1) := by decide +kernel
theorem dX9_chosen_8 : decode cX9_chosen 8 = .ok (.invokevirtual 147, 3) := by decide +kernel
theorem dX9_chosen_11 : decode cX9_chosen 11 = .ok (.ifCond .eq 17, 3) := by decide +kernel
theorem dX9_chosen_28 : decode cX9_chosen 28 = .ok (.bipush (-2), 2) := by decide +kernel
theorem dX9_chosen_30 : decode cX9_chosen 30 = .ok (.ireturn, 1) := by decide +kernel
theorem dX9_circle_0 : decode cX9_circle 0 = .ok (.aload_n 0, 1) := by decide +kernel
theorem dX9_circle_1 : decode cX9_circle 1 = .ok (.getfield 24, 3) := by decide +kernel
theorem dX9_circle_4 : decode cX9_circle 4 = .ok (.getfield 100, 3) := by decide +kernel
theorem dX9_circle_7 : decode cX9_circle 7 = .ok (.iload_n 1, 1) := by decide +kernel
theorem dX9_circle_8 : decode cX9_circle 8 = .ok (.invokevirtual 147, 3) := by decide +kernel
theorem dX9_circle_11 : decode cX9_circle 11 = .ok (.ifCond .ne 6, 3) := by decide +kernel
theorem dX9_circle_14 : decode cX9_circle 14 = .ok (.bipush (-2), 2) := by decide +kernel
theorem dX9_circle_16 : decode cX9_circle 16 = .ok (.ireturn, 1) := by decide +kernel
theorem dX9_count_0 : decode cX9_count 0 = .ok (.iload_n 1, 1) := by decide +kernel
theorem dX9_count_1 : decode cX9_count 1 = .ok (.tableswitch 156 0 9 #[55, 66, 77, 88, 99, 110, 121, 132, 140, 148], 55) := by decide +kernel
theorem dX9_count_56 : decode cX9_count 56 = .ok (.aload_n 0, 1) := by decide +kernel
theorem dX9_count_57 : decode cX9_count 57 = .ok (.getfield 24, 3) := by decide +kernel
theorem dX9_count_60 : decode cX9_count 60 = .ok (.getfield 100, 3) := by decide +kernel
theorem dX9_count_63 : decode cX9_count 63 = .ok (.getfield 273, 3) := by decide +kernel
theorem dX9_count_66 : decode cX9_count 66 = .ok (.ireturn, 1) := by decide +kernel
theorem dX9_count_67 : decode cX9_count 67 = .ok (.aload_n 0, 1) := by decide +kernel
theorem dX9_count_68 : decode cX9_count 68 = .ok (.getfield 24, 3) := by decide +kernel
theorem dX9_count_71 : decode cX9_count 71 = .ok (.getfield 100, 3) := by decide +kernel
theorem dX9_count_74 : decode cX9_count 74 = .ok (.getfield 188, 3) := by decide +kernel
theorem dX9_count_77 : decode cX9_count 77 = .ok (.ireturn, 1) := by decide +kernel
theorem dX9_count_78 : decode cX9_count 78 = .ok (.aload_n 0, 1) := by decide +kernel
theorem dX9_count_79 : decode cX9_count 79 = .ok (.getfield 24, 3) := by decide +kernel
theorem dX9_count_82 : decode cX9_count 82 = .ok (.getfield 100, 3) := by decide +kernel
theorem dX9_count_85 : decode cX9_count 85 = .ok (.getfield 314, 3) := by decide +kernel
theorem dX9_count_88 : decode cX9_count 88 = .ok (.ireturn, 1) := by decide +kernel
theorem dX9_count_89 : decode cX9_count 89 = .ok (.aload_n 0, 1) := by decide +kernel
theorem dX9_count_90 : decode cX9_count 90 = .ok (.getfield 24, 3) := by decide +kernel
theorem dX9_count_93 : decode cX9_count 93 = .ok (.getfield 100, 3) := by decide +kernel
theorem dX9_count_96 : decode cX9_count 96 = .ok (.getfield 407, 3) := by decide +kernel
theorem dX9_count_99 : decode cX9_count 99 = .ok (.ireturn, 1) := by decide +kernel
theorem dX9_count_100 : decode cX9_count 100 = .ok (.aload_n 0, 1) := by decide +kernel
theorem dX9_count_101 : decode cX9_count 101 = .ok (.getfield 24, 3) := by decide +kernel
theorem dX9_count_104 : decode cX9_count 104 = .ok (.getfield 100, 3) := by decide +kernel
theorem dX9_count_107 : decode cX9_count 107 = .ok (.getfield 284, 3) := by decide +kernel
theorem dX9_count_110 : decode cX9_count 110 = .ok (.ireturn, 1) := by decide +kernel
theorem dX9_count_111 : decode cX9_count 111 = .ok (.aload_n 0, 1) := by decide +kernel
theorem dX9_count_112 : decode cX9_count 112 = .ok (.getfield 24, 3) := by decide +kernel
theorem dX9_count_115 : decode cX9_count 115 = .ok (.getfield 100, 3) := by decide +kernel
theorem dX9_count_118 : decode cX9_count 118 = .ok (.getfield 404, 3) := by decide +kernel
theorem dX9_count_121 : decode cX9_count 121 = .ok (.ireturn, 1) := by decide +kernel
theorem dX9_count_122 : decode cX9_count 122 = .ok (.aload_n 0, 1) := by decide +kernel
theorem dX9_count_123 : decode cX9_count 123 = .ok (.getfield 24, 3) := by decide +kernel
theorem dX9_count_126 : decode cX9_count 126 = .ok (.getfield 100, 3) := by decide +kernel
theorem dX9_count_129 : decode cX9_count 129 = .ok (.getfield 103, 3) := by decide +kernel
theorem dX9_count_132 : decode cX9_count 132 = .ok (.ireturn, 1) := by decide +kernel
theorem dX9_count_133 : decode cX9_count 133 = .ok (.aload_n 0, 1) := by decide +kernel
theorem dX9_count_134 : decode cX9_count 134 = .ok (.getfield 20, 3) := by decide +kernel
theorem dX9_count_137 : decode cX9_count 137 = .ok (.getfield 85, 3) := by decide +kernel
theorem dX9_count_140 : decode cX9_count 140 = .ok (.ireturn, 1) := by decide +kernel
theorem dX9_count_141 : decode cX9_count 141 = .ok (.aload_n 0, 1) := by decide +kernel
theorem dX9_count_142 : decode cX9_count 142 = .ok (.getfield 24, 3) := by decide +kernel
theorem dX9_count_145 : decode cX9_count 145 = .ok (.getfield 214, 3) := by decide +kernel
theorem dX9_count_148 : decode cX9_count 148 = .ok (.ireturn, 1) := by decide +kernel
theorem dX9_count_149 : decode cX9_count 149 = .ok (.aload_n 0, 1) := by decide +kernel
theorem dX9_count_150 : decode cX9_count 150 = .ok (.getfield 39, 3) := by decide +kernel
theorem dX9_count_153 : decode cX9_count 153 = .ok (.invokevirtual 410, 3) := by decide +kernel
theorem dX9_count_156 : decode cX9_count 156 = .ok (.ireturn, 1) := by decide +kernel
theorem dX9_count_157 : decode cX9_count 157 = .ok (.iconst (-1), 1) := by decide +kernel
theorem dX9_count_158 : decode cX9_count 158 = .ok (.ireturn, 1) := by decide +kernel
theorem dX9_dearest_0 : decode cX9_dearest 0 = .ok (.aload_n 0, 1) := by decide +kernel
theorem dX9_dearest_1 : decode cX9_dearest 1 = .ok (.getfield 24, 3) := by decide +kernel
theorem dX9_dearest_4 : decode cX9_dearest 4 = .ok (.getfield 100, 3) := by decide +kernel
theorem dX9_dearest_7 : decode cX9_dearest 7 = .ok (.invokevirtual 211, 3) := by decide +kernel
theorem dX9_dearest_10 : decode cX9_dearest 10 = .ok (.ifCond .ne 6, 3) := by decide +kernel
theorem dX9_dearest_13 : decode cX9_dearest 13 = .ok (.bipush (-2), 2) := by decide +kernel
theorem dX9_dearest_15 : decode cX9_dearest 15 = .ok (.ireturn, 1) := by decide +kernel
theorem dX9_drawn_0 : decode cX9_drawn 0 = .ok (.aload_n 0, 1) := by decide +kernel
theorem dX9_drawn_1 : decode cX9_drawn 1 = .ok (.iload_n 1, 1) := by decide +kernel
theorem dX9_drawn_2 : decode cX9_drawn 2 = .ok (.iload_n 2, 1) := by decide +kernel
theorem dX9_drawn_3 : decode cX9_drawn 3 = .ok (.iload_n 3, 1) := by decide +kernel
theorem dX9_drawn_4 : decode cX9_drawn 4 = .ok (.invokevirtual 376, 3) := by decide +kernel
theorem dX9_drawn_7 : decode cX9_drawn 7 = .ok (.ifCond .ne 6, 3) := by decide +kernel
theorem dX9_drawn_10 : decode cX9_drawn 10 = .ok (.bipush (-2), 2) := by decide +kernel
theorem dX9_drawn_12 : decode cX9_drawn 12 = .ok (.ireturn, 1) := by decide +kernel
theorem dX9_drive_0 : decode cX9_drive 0 = .ok (.aload_n 0, 1) := by decide +kernel
theorem dX9_drive_1 : decode cX9_drive 1 = .ok (.iload_n 1, 1) := by decide +kernel
theorem dX9_drive_2 : decode cX9_drive 2 = .ok (.iload_n 2, 1) := by decide +kernel
theorem dX9_drive_3 : decode cX9_drive 3 = .ok (.invokevirtual 180, 3) := by decide +kernel
theorem dX9_drive_6 : decode cX9_drive 6 = .ok (.ifCond .ne 6, 3) := by decide +kernel
theorem dX9_drive_9 : decode cX9_drive 9 = .ok (.bipush (-2), 2) := by decide +kernel
theorem dX9_drive_11 : decode cX9_drive 11 = .ok (.ireturn, 1) := by decide +kernel
theorem dX9_dues_0 : decode cX9_dues 0 = .ok (.aload_n 0, 1) := by decide +kernel
theorem dX9_dues_1 : decode cX9_dues 1 = .ok (.getfield 24, 3) := by decide +kernel
theorem dX9_dues_4 : decode cX9_dues 4 = .ok (.getfield 100, 3) := by decide +kernel
theorem dX9_dues_7 : decode cX9_dues 7 = .ok (.invokevirtual 211, 3) := by decide +kernel
theorem dX9_dues_10 : decode cX9_dues 10 = .ok (.ifCond .ne 6, 3) := by decide +kernel
theorem dX9_dues_13 : decode cX9_dues 13 = .ok (.bipush (-2), 2) := by decide +kernel
theorem dX9_dues_15 : decode cX9_dues 15 = .ok (.ireturn, 1) := by decide +kernel
theorem dX9_ends_0 : decode cX9_ends 0 = .ok (.aload_n 0, 1) := by decide +kernel
theorem dX9_ends_1 : decode cX9_ends 1 = .ok (.iload_n 1, 1) := by decide +kernel
theorem dX9_ends_2 : decode cX9_ends 2 = .ok (.iload_n 2, 1) := by decide +kernel
theorem dX9_ends_3 : decode cX9_ends 3 = .ok (.invokevirtual 220, 3) := by decide +kernel
theorem dX9_ends_6 : decode cX9_ends 6 = .ok (.istore_n 3, 1) := by decide +kernel
theorem dX9_ends_7 : decode cX9_ends 7 = .ok (.iload_n 3, 1) := by decide +kernel
theorem dX9_ends_8 : decode cX9_ends 8 = .ok (.ifCond .eq 7, 3) := by decide +kernel
theorem dX9_ends_11 : decode cX9_ends 11 = .ok (.iload_n 3, 1) := by decide +kernel
theorem dX9_ends_12 : decode cX9_ends 12 = .ok (.goto 10, 3) := by decide +kernel
theorem dX9_ends_22 : decode cX9_ends 22 = .ok (.ireturn, 1) := by decide +kernel
theorem dX9_errand_0 : decode cX9_errand 0 = .ok (.aload_n 0, 1) := by decide +kernel
theorem dX9_errand_1 : decode cX9_errand 1 = .ok (.getfield 24, 3) := by decide +kernel
theorem dX9_errand_4 : decode cX9_errand 4 = .ok (.getfield 100, 3) := by decide +kernel
theorem dX9_errand_7 : decode cX9_errand 7 = .ok (.iload_n 1, 1) := by decide +kernel
theorem dX9_errand_8 : decode cX9_errand 8 = .ok (.invokevirtual 159, 3) := by decide +kernel
theorem dX9_errand_11 : decode cX9_errand 11 = .ok (.ifCond .ne 6, 3) := by decide +kernel
theorem dX9_errand_14 : decode cX9_errand 14 = .ok (.bipush (-2), 2) := by decide +kernel
theorem dX9_errand_16 : decode cX9_errand 16 = .ok (.ireturn, 1) := by decide +kernel
theorem dX9_far_0 : decode cX9_far 0 = .ok (.aload_n 0, 1) := by decide +kernel
theorem dX9_far_1 : decode cX9_far 1 = .ok (.getfield 24, 3) := by decide +kernel
theorem dX9_far_4 : decode cX9_far 4 = .ok (.getfield 100, 3) := by decide +kernel
theorem dX9_far_7 : decode cX9_far 7 = .ok (.iload_n 1, 1) := by decide +kernel
theorem dX9_far_8 : decode cX9_far 8 = .ok (.invokevirtual 171, 3) := by decide +kernel
theorem dX9_far_11 : decode cX9_far 11 = .ok (.ifCond .eq 17, 3) := by decide +kernel
theorem dX9_far_28 : decode cX9_far 28 = .ok (.bipush (-2), 2) := by decide +kernel
theorem dX9_far_30 : decode cX9_far 30 = .ok (.ireturn, 1) := by decide +kernel
theorem dX9_fault_0 : decode cX9_fault 0 = .ok (.iload_n 1, 1) := by decide +kernel
theorem dX9_fault_1 : decode cX9_fault 1 = .ok (.ifCond .ne 11, 3) := by decide +kernel
theorem dX9_fault_4 : decode cX9_fault 4 = .ok (.aload_n 0, 1) := by decide +kernel
theorem dX9_fault_5 : decode cX9_fault 5 = .ok (.getfield 10, 3) := by decide +kernel
theorem dX9_fault_8 : decode cX9_fault 8 = .ok (.getfield 108, 3) := by decide +kernel
theorem dX9_fault_11 : decode cX9_fault 11 = .ok (.ireturn, 1) := by decide +kernel
theorem dX9_fault_12 : decode cX9_fault 12 = .ok (.iload_n 1, 1) := by decide +kernel
theorem dX9_fault_13 : decode cX9_fault 13 = .ok (.iconst 1, 1) := by decide +kernel
theorem dX9_fault_14 : decode cX9_fault 14 = .ok (.if_icmp .ne 13, 3) := by decide +kernel
theorem dX9_fault_17 : decode cX9_fault 17 = .ok (.aload_n 0, 1) := by decide +kernel
theorem dX9_fault_18 : decode cX9_fault 18 = .ok (.getfield 10, 3) := by decide +kernel
theorem dX9_fault_21 : decode cX9_fault 21 = .ok (.getfield 111, 3) := by decide +kernel
theorem dX9_fault_24 : decode cX9_fault 24 = .ok (.goto 4, 3) := by decide +kernel
theorem dX9_fault_27 : decode cX9_fault 27 = .ok (.iconst (-1), 1) := by decide +kernel
theorem dX9_fault_28 : decode cX9_fault 28 = .ok (.ireturn, 1) := by decide +kernel
theorem dX9_fits_0 : decode cX9_fits 0 = .ok (.aload_n 0, 1) := by decide +kernel
theorem dX9_fits_1 : decode cX9_fits 1 = .ok (.iload_n 1, 1) := by decide +kernel
theorem dX9_fits_2 : decode cX9_fits 2 = .ok (.invokevirtual 332, 3) := by decide +kernel
theorem dX9_fits_5 : decode cX9_fits 5 = .ok (.ireturn, 1) := by decide +kernel
theorem dX9_fitting_0 : decode cX9_fitting 0 = .ok (.aload_n 0, 1) := by decide +kernel
theorem dX9_fitting_1 : decode cX9_fitting 1 = .ok (.getfield 39, 3) := by decide +kernel
theorem dX9_fitting_4 : decode cX9_fitting 4 = .ok (.iload_n 1, 1) := by decide +kernel
theorem dX9_fitting_5 : decode cX9_fitting 5 = .ok (.invokevirtual 238, 3) := by decide +kernel
theorem dX9_fitting_8 : decode cX9_fitting 8 = .ok (.ifCond .eq 16, 3) := by decide +kernel
theorem dX9_fitting_11 : decode cX9_fitting 11 = .ok (.aload_n 0, 1) := by decide +kernel
theorem dX9_fitting_12 : decode cX9_fitting 12 = .ok (.getfield 24, 3) := by decide +kernel
theorem dX9_fitting_15 : decode cX9_fitting 15 = .ok (.getfield 100, 3) := by decide +kernel
theorem dX9_fitting_18 : decode cX9_fitting 18 = .ok (.invokevirtual 211, 3) := by decide +kernel
theorem dX9_fitting_21 : decode cX9_fitting 21 = .ok (.ifCond .ne 6, 3) := by decide +kernel
theorem dX9_fitting_24 : decode cX9_fitting 24 = .ok (.bipush (-2), 2) := by decide +kernel
theorem dX9_fitting_26 : decode cX9_fitting 26 = .ok (.ireturn, 1) := by decide +kernel
theorem dX9_follow_0 : decode cX9_follow 0 = .ok (.aload_n 0, 1) := by decide +kernel
theorem dX9_follow_1 : decode cX9_follow 1 = .ok (.getfield 39, 3) := by decide +kernel
theorem dX9_follow_4 : decode cX9_follow 4 = .ok (.iload_n 1, 1) := by decide +kernel
theorem dX9_follow_5 : decode cX9_follow 5 = .ok (.invokevirtual 238, 3) := by decide +kernel
theorem dX9_follow_8 : decode cX9_follow 8 = .ok (.ifCond .eq 17, 3) := by decide +kernel
theorem dX9_follow_11 : decode cX9_follow 11 = .ok (.aload_n 0, 1) := by decide +kernel
theorem dX9_follow_12 : decode cX9_follow 12 = .ok (.getfield 24, 3) := by decide +kernel
theorem dX9_follow_15 : decode cX9_follow 15 = .ok (.getfield 100, 3) := by decide +kernel
theorem dX9_follow_18 : decode cX9_follow 18 = .ok (.iload_n 2, 1) := by decide +kernel
theorem dX9_follow_19 : decode cX9_follow 19 = .ok (.invokevirtual 147, 3) := by decide +kernel
theorem dX9_follow_22 : decode cX9_follow 22 = .ok (.ifCond .ne 6, 3) := by decide +kernel
theorem dX9_follow_25 : decode cX9_follow 25 = .ok (.bipush (-2), 2) := by decide +kernel
theorem dX9_follow_27 : decode cX9_follow 27 = .ok (.ireturn, 1) := by decide +kernel
theorem dX9_goes_0 : decode cX9_goes 0 = .ok (.aload_n 0, 1) := by decide +kernel
theorem dX9_goes_1 : decode cX9_goes 1 = .ok (.iload_n 1, 1) := by decide +kernel
theorem dX9_goes_2 : decode cX9_goes 2 = .ok (.iload_n 2, 1) := by decide +kernel
theorem dX9_goes_3 : decode cX9_goes 3 = .ok (.invokevirtual 220, 3) := by decide +kernel
theorem dX9_goes_6 : decode cX9_goes 6 = .ok (.istore_n 3, 1) := by decide +kernel
theorem dX9_goes_7 : decode cX9_goes 7 = .ok (.iload_n 3, 1) := by decide +kernel
theorem dX9_goes_8 : decode cX9_goes 8 = .ok (.ifCond .eq 7, 3) := by decide +kernel
theorem dX9_goes_11 : decode cX9_goes 11 = .ok (.iload_n 3, 1) := by decide +kernel
theorem dX9_goes_12 : decode cX9_goes 12 = .ok (.goto 10, 3) := by decide +kernel
theorem dX9_goes_22 : decode cX9_goes 22 = .ok (.ireturn, 1) := by decide +kernel
theorem dX9_grease_0 : decode cX9_grease 0 = .ok (.aload_n 0, 1) := by decide +kernel
theorem dX9_grease_1 : decode cX9_grease 1 = .ok (.getfield 24, 3) := by decide +kernel
theorem dX9_grease_4 : decode cX9_grease 4 = .ok (.getfield 100, 3) := by decide +kernel
theorem dX9_grease_7 : decode cX9_grease 7 = .ok (.iload_n 1, 1) := by decide +kernel
theorem dX9_grease_8 : decode cX9_grease 8 = .ok (.invokevirtual 127, 3) := by decide +kernel
theorem dX9_grease_11 : decode cX9_grease 11 = .ok (.ifCond .ne 6, 3) := by decide +kernel
theorem dX9_grease_14 : decode cX9_grease 14 = .ok (.bipush (-2), 2) := by decide +kernel
theorem dX9_grease_16 : decode cX9_grease 16 = .ok (.ireturn, 1) := by decide +kernel
theorem dX9_hand_0 : decode cX9_hand 0 = .ok (.iload_n 1, 1) := by decide +kernel
theorem dX9_hand_1 : decode cX9_hand 1 = .ok (.ifCond .lt 22, 3) := by decide +kernel
theorem dX9_hand_4 : decode cX9_hand 4 = .ok (.iload_n 1, 1) := by decide +kernel
theorem dX9_hand_5 : decode cX9_hand 5 = .ok (.bipush 40, 2) := by decide +kernel
theorem dX9_hand_7 : decode cX9_hand 7 = .ok (.if_icmp .gt 16, 3) := by decide +kernel
theorem dX9_hand_10 : decode cX9_hand 10 = .ok (.aload_n 0, 1) := by decide +kernel
theorem dX9_hand_11 : decode cX9_hand 11 = .ok (.getfield 24, 3) := by decide +kernel
theorem dX9_hand_14 : decode cX9_hand 14 = .ok (.getfield 100, 3) := by decide +kernel
theorem dX9_hand_17 : decode cX9_hand 17 = .ok (.invokevirtual 211, 3) := by decide +kernel
theorem dX9_hand_20 : decode cX9_hand 20 = .ok (.ifCond .ne 6, 3) := by decide +kernel
theorem dX9_hand_23 : decode cX9_hand 23 = .ok (.bipush (-2), 2) := by decide +kernel
theorem dX9_hand_25 : decode cX9_hand 25 = .ok (.ireturn, 1) := by decide +kernel
theorem dX9_haunts_0 : decode cX9_haunts 0 = .ok (.aload_n 0, 1) := by decide +kernel
theorem dX9_haunts_1 : decode cX9_haunts 1 = .ok (.getfield 24, 3) := by decide +kernel
theorem dX9_haunts_4 : decode cX9_haunts 4 = .ok (.getfield 100, 3) := by decide +kernel
theorem dX9_haunts_7 : decode cX9_haunts 7 = .ok (.iload_n 1, 1) := by decide +kernel
theorem dX9_haunts_8 : decode cX9_haunts 8 = .ok (.invokevirtual 147, 3) := by decide +kernel
theorem dX9_haunts_11 : decode cX9_haunts 11 = .ok (.ifCond .ne 6, 3) := by decide +kernel
theorem dX9_haunts_14 : decode cX9_haunts 14 = .ok (.bipush (-2), 2) := by decide +kernel
theorem dX9_haunts_16 : decode cX9_haunts 16 = .ok (.ireturn, 1) := by decide +kernel
theorem dX9_isByCart_0 : decode cX9_isByCart 0 = .ok (.aload_n 0, 1) := by decide +kernel
theorem dX9_isByCart_1 : decode cX9_isByCart 1 = .ok (.getfield 24, 3) := by decide +kernel
theorem dX9_isByCart_4 : decode cX9_isByCart 4 = .ok (.getfield 100, 3) := by decide +kernel
theorem dX9_isByCart_7 : decode cX9_isByCart 7 = .ok (.iload_n 1, 1) := by decide +kernel
theorem dX9_isByCart_8 : decode cX9_isByCart 8 = .ok (.invokevirtual 147, 3) := by decide +kernel
theorem dX9_isByCart_11 : decode cX9_isByCart 11 = .ok (.ifCond .eq 33, 3) := by decide +kernel
theorem dX9_isByCart_44 : decode cX9_isByCart 44 = .ok (.iconst 0, 1) := by decide +kernel
theorem dX9_isByCart_45 : decode cX9_isByCart 45 = .ok (.ireturn, 1) := by decide +kernel
theorem dX9_lasts_0 : decode cX9_lasts 0 = .ok (.aload_n 0, 1) := by decide +kernel
theorem dX9_lasts_1 : decode cX9_lasts 1 = .ok (.getfield 24, 3) := by decide +kernel
theorem dX9_lasts_4 : decode cX9_lasts 4 = .ok (.getfield 100, 3) := by decide +kernel
theorem dX9_lasts_7 : decode cX9_lasts 7 = .ok (.iload_n 1, 1) := by decide +kernel
theorem dX9_lasts_8 : decode cX9_lasts 8 = .ok (.invokevirtual 127, 3) := by decide +kernel
theorem dX9_lasts_11 : decode cX9_lasts 11 = .ok (.ifCond .eq 14, 3) := by decide +kernel
theorem dX9_lasts_25 : decode cX9_lasts 25 = .ok (.bipush (-2), 2) := by decide +kernel
theorem dX9_lasts_27 : decode cX9_lasts 27 = .ok (.ireturn, 1) := by decide +kernel
theorem dX9_leaves_0 : decode cX9_leaves 0 = .ok (.aload_n 0, 1) := by decide +kernel
theorem dX9_leaves_1 : decode cX9_leaves 1 = .ok (.iload_n 1, 1) := by decide +kernel
theorem dX9_leaves_2 : decode cX9_leaves 2 = .ok (.invokevirtual 332, 3) := by decide +kernel
theorem dX9_leaves_5 : decode cX9_leaves 5 = .ok (.istore_n 2, 1) := by decide +kernel
theorem dX9_leaves_6 : decode cX9_leaves 6 = .ok (.iload_n 2, 1) := by decide +kernel
theorem dX9_leaves_7 : decode cX9_leaves 7 = .ok (.ifCond .ge 5, 3) := by decide +kernel
theorem dX9_leaves_10 : decode cX9_leaves 10 = .ok (.iload_n 2, 1) := by decide +kernel
theorem dX9_leaves_11 : decode cX9_leaves 11 = .ok (.ireturn, 1) := by decide +kernel
theorem dX9_likes_0 : decode cX9_likes 0 = .ok (.aload_n 0, 1) := by decide +kernel
theorem dX9_likes_1 : decode cX9_likes 1 = .ok (.getfield 24, 3) := by decide +kernel
theorem dX9_likes_4 : decode cX9_likes 4 = .ok (.getfield 100, 3) := by decide +kernel
theorem dX9_likes_7 : decode cX9_likes 7 = .ok (.iload_n 1, 1) := by decide +kernel
theorem dX9_likes_8 : decode cX9_likes 8 = .ok (.invokevirtual 127, 3) := by decide +kernel
theorem dX9_likes_11 : decode cX9_likes 11 = .ok (.ifCond .eq 17, 3) := by decide +kernel
theorem dX9_likes_28 : decode cX9_likes 28 = .ok (.bipush (-2), 2) := by decide +kernel
theorem dX9_likes_30 : decode cX9_likes 30 = .ok (.ireturn, 1) := by decide +kernel
theorem dX9_loved_0 : decode cX9_loved 0 = .ok (.aload_n 0, 1) := by decide +kernel
theorem dX9_loved_1 : decode cX9_loved 1 = .ok (.getfield 24, 3) := by decide +kernel
theorem dX9_loved_4 : decode cX9_loved 4 = .ok (.getfield 100, 3) := by decide +kernel
theorem dX9_loved_7 : decode cX9_loved 7 = .ok (.iload_n 1, 1) := by decide +kernel
theorem dX9_loved_8 : decode cX9_loved 8 = .ok (.invokevirtual 114, 3) := by decide +kernel
theorem dX9_loved_11 : decode cX9_loved 11 = .ok (.ifCond .eq 20, 3) := by decide +kernel
theorem dX9_loved_31 : decode cX9_loved 31 = .ok (.bipush (-2), 2) := by decide +kernel
theorem dX9_loved_33 : decode cX9_loved 33 = .ok (.ireturn, 1) := by decide +kernel
theorem dX9_luck_0 : decode cX9_luck 0 = .ok (.aload_n 0, 1) := by decide +kernel
theorem dX9_luck_1 : decode cX9_luck 1 = .ok (.iload_n 1, 1) := by decide +kernel
theorem dX9_luck_2 : decode cX9_luck 2 = .ok (.iload_n 3, 1) := by decide +kernel
theorem dX9_luck_3 : decode cX9_luck 3 = .ok (.iload 4, 2) := by decide +kernel
theorem dX9_luck_5 : decode cX9_luck 5 = .ok (.invokevirtual 376, 3) := by decide +kernel
theorem dX9_luck_8 : decode cX9_luck 8 = .ok (.ifCond .eq 29, 3) := by decide +kernel
theorem dX9_luck_37 : decode cX9_luck 37 = .ok (.bipush (-2), 2) := by decide +kernel
theorem dX9_luck_39 : decode cX9_luck 39 = .ok (.ireturn, 1) := by decide +kernel
theorem dX9_mate_0 : decode cX9_mate 0 = .ok (.aload_n 0, 1) := by decide +kernel
theorem dX9_mate_1 : decode cX9_mate 1 = .ok (.getfield 24, 3) := by decide +kernel
theorem dX9_mate_4 : decode cX9_mate 4 = .ok (.getfield 100, 3) := by decide +kernel
theorem dX9_mate_7 : decode cX9_mate 7 = .ok (.iload_n 1, 1) := by decide +kernel
theorem dX9_mate_8 : decode cX9_mate 8 = .ok (.invokevirtual 127, 3) := by decide +kernel
theorem dX9_mate_11 : decode cX9_mate 11 = .ok (.ifCond .ne 6, 3) := by decide +kernel
theorem dX9_mate_14 : decode cX9_mate 14 = .ok (.bipush (-2), 2) := by decide +kernel
theorem dX9_mate_16 : decode cX9_mate 16 = .ok (.ireturn, 1) := by decide +kernel
theorem dX9_meet_0 : decode cX9_meet 0 = .ok (.aload_n 0, 1) := by decide +kernel
theorem dX9_meet_1 : decode cX9_meet 1 = .ok (.getfield 24, 3) := by decide +kernel
theorem dX9_meet_4 : decode cX9_meet 4 = .ok (.getfield 100, 3) := by decide +kernel
theorem dX9_meet_7 : decode cX9_meet 7 = .ok (.iload_n 1, 1) := by decide +kernel
theorem dX9_meet_8 : decode cX9_meet 8 = .ok (.invokevirtual 147, 3) := by decide +kernel
theorem dX9_meet_11 : decode cX9_meet 11 = .ok (.ifCond .eq 17, 3) := by decide +kernel
theorem dX9_meet_28 : decode cX9_meet 28 = .ok (.bipush (-2), 2) := by decide +kernel
theorem dX9_meet_30 : decode cX9_meet 30 = .ok (.ireturn, 1) := by decide +kernel
theorem dX9_met_0 : decode cX9_met 0 = .ok (.aload_n 0, 1) := by decide +kernel
theorem dX9_met_1 : decode cX9_met 1 = .ok (.getfield 24, 3) := by decide +kernel
theorem dX9_met_4 : decode cX9_met 4 = .ok (.getfield 100, 3) := by decide +kernel
theorem dX9_met_7 : decode cX9_met 7 = .ok (.iload_n 1, 1) := by decide +kernel
theorem dX9_met_8 : decode cX9_met 8 = .ok (.invokevirtual 147, 3) := by decide +kernel
theorem dX9_met_11 : decode cX9_met 11 = .ok (.ifCond .eq 17, 3) := by decide +kernel
theorem dX9_met_28 : decode cX9_met 28 = .ok (.bipush (-2), 2) := by decide +kernel
theorem dX9_met_30 : decode cX9_met 30 = .ok (.ireturn, 1) := by decide +kernel
theorem dX9_paste_0 : decode cX9_paste 0 = .ok (.aload_n 0, 1) := by decide +kernel
theorem dX9_paste_1 : decode cX9_paste 1 = .ok (.getfield 39, 3) := by decide +kernel
theorem dX9_paste_4 : decode cX9_paste 4 = .ok (.iload_n 1, 1) := by decide +kernel
theorem dX9_paste_5 : decode cX9_paste 5 = .ok (.invokevirtual 238, 3) := by decide +kernel
theorem dX9_paste_8 : decode cX9_paste 8 = .ok (.ifCond .eq 14, 3) := by decide +kernel
theorem dX9_paste_11 : decode cX9_paste 11 = .ok (.aload_n 0, 1) := by decide +kernel
theorem dX9_paste_12 : decode cX9_paste 12 = .ok (.getfield 39, 3) := by decide +kernel
theorem dX9_paste_15 : decode cX9_paste 15 = .ok (.iload_n 3, 1) := by decide +kernel
theorem dX9_paste_16 : decode cX9_paste 16 = .ok (.invokevirtual 238, 3) := by decide +kernel
theorem dX9_paste_19 : decode cX9_paste 19 = .ok (.ifCond .ne 6, 3) := by decide +kernel
theorem dX9_paste_22 : decode cX9_paste 22 = .ok (.bipush (-2), 2) := by decide +kernel
theorem dX9_paste_24 : decode cX9_paste 24 = .ok (.ireturn, 1) := by decide +kernel
theorem dX9_paste_25 : decode cX9_paste 25 = .ok (.aload_n 0, 1) := by decide +kernel
theorem dX9_paste_26 : decode cX9_paste 26 = .ok (.getfield 39, 3) := by decide +kernel
theorem dX9_paste_29 : decode cX9_paste 29 = .ok (.iload_n 1, 1) := by decide +kernel
theorem dX9_paste_30 : decode cX9_paste 30 = .ok (.invokevirtual 241, 3) := by decide +kernel
theorem dX9_paste_33 : decode cX9_paste 33 = .ok (.ifCond .eq 14, 3) := by decide +kernel
theorem dX9_paste_47 : decode cX9_paste 47 = .ok (.bipush (-6), 2) := by decide +kernel
theorem dX9_paste_49 : decode cX9_paste 49 = .ok (.ireturn, 1) := by decide +kernel
theorem dX9_picks_0 : decode cX9_picks 0 = .ok (.aload_n 0, 1) := by decide +kernel
theorem dX9_picks_1 : decode cX9_picks 1 = .ok (.getfield 24, 3) := by decide +kernel
theorem dX9_picks_4 : decode cX9_picks 4 = .ok (.getfield 100, 3) := by decide +kernel
theorem dX9_picks_7 : decode cX9_picks 7 = .ok (.invokevirtual 211, 3) := by decide +kernel
theorem dX9_picks_10 : decode cX9_picks 10 = .ok (.ifCond .ne 6, 3) := by decide +kernel
theorem dX9_picks_13 : decode cX9_picks 13 = .ok (.bipush (-2), 2) := by decide +kernel
theorem dX9_picks_15 : decode cX9_picks 15 = .ok (.ireturn, 1) := by decide +kernel
theorem dX9_pull_0 : decode cX9_pull 0 = .ok (.aload_n 0, 1) := by decide +kernel
theorem dX9_pull_1 : decode cX9_pull 1 = .ok (.getfield 24, 3) := by decide +kernel
theorem dX9_pull_4 : decode cX9_pull 4 = .ok (.getfield 100, 3) := by decide +kernel
theorem dX9_pull_7 : decode cX9_pull 7 = .ok (.iload_n 1, 1) := by decide +kernel
theorem dX9_pull_8 : decode cX9_pull 8 = .ok (.invokevirtual 147, 3) := by decide +kernel
theorem dX9_pull_11 : decode cX9_pull 11 = .ok (.ifCond .eq 17, 3) := by decide +kernel
theorem dX9_pull_28 : decode cX9_pull 28 = .ok (.bipush (-2), 2) := by decide +kernel
theorem dX9_pull_30 : decode cX9_pull 30 = .ok (.ireturn, 1) := by decide +kernel
theorem dX9_ran_0 : decode cX9_ran 0 = .ok (.aload_n 0, 1) := by decide +kernel
theorem dX9_ran_1 : decode cX9_ran 1 = .ok (.iload_n 1, 1) := by decide +kernel
theorem dX9_ran_2 : decode cX9_ran 2 = .ok (.iload_n 2, 1) := by decide +kernel
theorem dX9_ran_3 : decode cX9_ran 3 = .ok (.invokevirtual 220, 3) := by decide +kernel
theorem dX9_ran_6 : decode cX9_ran 6 = .ok (.istore_n 3, 1) := by decide +kernel
theorem dX9_ran_7 : decode cX9_ran 7 = .ok (.iload_n 3, 1) := by decide +kernel
theorem dX9_ran_8 : decode cX9_ran 8 = .ok (.ifCond .eq 7, 3) := by decide +kernel
theorem dX9_ran_11 : decode cX9_ran 11 = .ok (.iload_n 3, 1) := by decide +kernel
theorem dX9_ran_12 : decode cX9_ran 12 = .ok (.goto 10, 3) := by decide +kernel
theorem dX9_ran_22 : decode cX9_ran 22 = .ok (.ireturn, 1) := by decide +kernel
theorem dX9_reach_0 : decode cX9_reach 0 = .ok (.aload_n 0, 1) := by decide +kernel
theorem dX9_reach_1 : decode cX9_reach 1 = .ok (.getfield 24, 3) := by decide +kernel
theorem dX9_reach_4 : decode cX9_reach 4 = .ok (.getfield 100, 3) := by decide +kernel
theorem dX9_reach_7 : decode cX9_reach 7 = .ok (.iload_n 1, 1) := by decide +kernel
theorem dX9_reach_8 : decode cX9_reach 8 = .ok (.invokevirtual 147, 3) := by decide +kernel
theorem dX9_reach_11 : decode cX9_reach 11 = .ok (.ifCond .ne 6, 3) := by decide +kernel
theorem dX9_reach_14 : decode cX9_reach 14 = .ok (.bipush (-2), 2) := by decide +kernel
theorem dX9_reach_16 : decode cX9_reach 16 = .ok (.ireturn, 1) := by decide +kernel
theorem dX9_road_0 : decode cX9_road 0 = .ok (.aload_n 0, 1) := by decide +kernel
theorem dX9_road_1 : decode cX9_road 1 = .ok (.getfield 24, 3) := by decide +kernel
theorem dX9_road_4 : decode cX9_road 4 = .ok (.getfield 100, 3) := by decide +kernel
theorem dX9_road_7 : decode cX9_road 7 = .ok (.iload_n 1, 1) := by decide +kernel
theorem dX9_road_8 : decode cX9_road 8 = .ok (.invokevirtual 114, 3) := by decide +kernel
theorem dX9_road_11 : decode cX9_road 11 = .ok (.ifCond .ne 6, 3) := by decide +kernel
theorem dX9_road_14 : decode cX9_road 14 = .ok (.bipush (-2), 2) := by decide +kernel
theorem dX9_road_16 : decode cX9_road 16 = .ok (.ireturn, 1) := by decide +kernel
theorem dX9_roads_0 : decode cX9_roads 0 = .ok (.aload_n 0, 1) := by decide +kernel
theorem dX9_roads_1 : decode cX9_roads 1 = .ok (.getfield 24, 3) := by decide +kernel
theorem dX9_roads_4 : decode cX9_roads 4 = .ok (.getfield 100, 3) := by decide +kernel
theorem dX9_roads_7 : decode cX9_roads 7 = .ok (.iload_n 1, 1) := by decide +kernel
theorem dX9_roads_8 : decode cX9_roads 8 = .ok (.invokevirtual 171, 3) := by decide +kernel
theorem dX9_roads_11 : decode cX9_roads 11 = .ok (.ifCond .eq 17, 3) := by decide +kernel
theorem dX9_roads_28 : decode cX9_roads 28 = .ok (.bipush (-2), 2) := by decide +kernel
theorem dX9_roads_30 : decode cX9_roads 30 = .ok (.ireturn, 1) := by decide +kernel
theorem dX9_roams_0 : decode cX9_roams 0 = .ok (.aload_n 0, 1) := by decide +kernel
theorem dX9_roams_1 : decode cX9_roams 1 = .ok (.getfield 24, 3) := by decide +kernel
theorem dX9_roams_4 : decode cX9_roams 4 = .ok (.getfield 100, 3) := by decide +kernel
theorem dX9_roams_7 : decode cX9_roams 7 = .ok (.iload_n 1, 1) := by decide +kernel
theorem dX9_roams_8 : decode cX9_roams 8 = .ok (.invokevirtual 147, 3) := by decide +kernel
theorem dX9_roams_11 : decode cX9_roams 11 = .ok (.ifCond .eq 13, 3) := by decide +kernel
theorem dX9_roams_24 : decode cX9_roams 24 = .ok (.bipush (-2), 2) := by decide +kernel
theorem dX9_roams_26 : decode cX9_roams 26 = .ok (.ireturn, 1) := by decide +kernel
theorem dX9_share_0 : decode cX9_share 0 = .ok (.aload_n 0, 1) := by decide +kernel
theorem dX9_share_1 : decode cX9_share 1 = .ok (.getfield 24, 3) := by decide +kernel
theorem dX9_share_4 : decode cX9_share 4 = .ok (.getfield 100, 3) := by decide +kernel
theorem dX9_share_7 : decode cX9_share 7 = .ok (.iload_n 1, 1) := by decide +kernel
theorem dX9_share_8 : decode cX9_share 8 = .ok (.invokevirtual 147, 3) := by decide +kernel
theorem dX9_share_11 : decode cX9_share 11 = .ok (.ifCond .eq 44, 3) := by decide +kernel
theorem dX9_share_55 : decode cX9_share 55 = .ok (.bipush (-2), 2) := by decide +kernel
theorem dX9_share_57 : decode cX9_share 57 = .ok (.ireturn, 1) := by decide +kernel
theorem dX9_smiths_0 : decode cX9_smiths 0 = .ok (.aload_n 0, 1) := by decide +kernel
theorem dX9_smiths_1 : decode cX9_smiths 1 = .ok (.getfield 24, 3) := by decide +kernel
theorem dX9_smiths_4 : decode cX9_smiths 4 = .ok (.getfield 100, 3) := by decide +kernel
theorem dX9_smiths_7 : decode cX9_smiths 7 = .ok (.invokevirtual 211, 3) := by decide +kernel
theorem dX9_smiths_10 : decode cX9_smiths 10 = .ok (.ifCond .ne 7, 3) := by decide +kernel
theorem dX9_smiths_13 : decode cX9_smiths 13 = .ok (.ldc_w 368, 3) := by decide +kernel
theorem dX9_smiths_16 : decode cX9_smiths 16 = .ok (.ireturn, 1) := by decide +kernel
theorem dX9_swap_0 : decode cX9_swap 0 = .ok (.aload_n 0, 1) := by decide +kernel
theorem dX9_swap_1 : decode cX9_swap 1 = .ok (.getfield 24, 3) := by decide +kernel
theorem dX9_swap_4 : decode cX9_swap 4 = .ok (.getfield 100, 3) := by decide +kernel
theorem dX9_swap_7 : decode cX9_swap 7 = .ok (.iload_n 1, 1) := by decide +kernel
theorem dX9_swap_8 : decode cX9_swap 8 = .ok (.invokevirtual 127, 3) := by decide +kernel
theorem dX9_swap_11 : decode cX9_swap 11 = .ok (.ifCond .eq 22, 3) := by decide +kernel
theorem dX9_swap_33 : decode cX9_swap 33 = .ok (.bipush (-2), 2) := by decide +kernel
theorem dX9_swap_35 : decode cX9_swap 35 = .ok (.ireturn, 1) := by decide +kernel
theorem dX9_takes_0 : decode cX9_takes 0 = .ok (.aload_n 0, 1) := by decide +kernel
theorem dX9_takes_1 : decode cX9_takes 1 = .ok (.iload_n 1, 1) := by decide +kernel
theorem dX9_takes_2 : decode cX9_takes 2 = .ok (.iload_n 2, 1) := by decide +kernel
theorem dX9_takes_3 : decode cX9_takes 3 = .ok (.invokevirtual 180, 3) := by decide +kernel
theorem dX9_takes_6 : decode cX9_takes 6 = .ok (.ifCond .ne 6, 3) := by decide +kernel
theorem dX9_takes_9 : decode cX9_takes 9 = .ok (.bipush (-2), 2) := by decide +kernel
theorem dX9_takes_11 : decode cX9_takes 11 = .ok (.ireturn, 1) := by decide +kernel
theorem dX9_teach_0 : decode cX9_teach 0 = .ok (.aload_n 0, 1) := by decide +kernel
theorem dX9_teach_1 : decode cX9_teach 1 = .ok (.getfield 24, 3) := by decide +kernel
theorem dX9_teach_4 : decode cX9_teach 4 = .ok (.getfield 100, 3) := by decide +kernel
theorem dX9_teach_7 : decode cX9_teach 7 = .ok (.iload_n 1, 1) := by decide +kernel
theorem dX9_teach_8 : decode cX9_teach 8 = .ok (.invokevirtual 127, 3) := by decide +kernel
theorem dX9_teach_11 : decode cX9_teach 11 = .ok (.ifCond .eq 17, 3) := by decide +kernel
theorem dX9_teach_28 : decode cX9_teach 28 = .ok (.bipush (-2), 2) := by decide +kernel
theorem dX9_teach_30 : decode cX9_teach 30 = .ok (.ireturn, 1) := by decide +kernel
theorem dX9_tell_0 : decode cX9_tell 0 = .ok (.aload_n 0, 1) := by decide +kernel
theorem dX9_tell_1 : decode cX9_tell 1 = .ok (.getfield 24, 3) := by decide +kernel
theorem dX9_tell_4 : decode cX9_tell 4 = .ok (.getfield 100, 3) := by decide +kernel
theorem dX9_tell_7 : decode cX9_tell 7 = .ok (.iload_n 1, 1) := by decide +kernel
theorem dX9_tell_8 : decode cX9_tell 8 = .ok (.invokevirtual 127, 3) := by decide +kernel
theorem dX9_tell_11 : decode cX9_tell 11 = .ok (.ifCond .eq 27, 3) := by decide +kernel
theorem dX9_tell_38 : decode cX9_tell 38 = .ok (.bipush (-2), 2) := by decide +kernel
theorem dX9_tell_40 : decode cX9_tell 40 = .ok (.ireturn, 1) := by decide +kernel
theorem dX9_undo_0 : decode cX9_undo 0 = .ok (.aload_n 0, 1) := by decide +kernel
theorem dX9_undo_1 : decode cX9_undo 1 = .ok (.getfield 24, 3) := by decide +kernel
theorem dX9_undo_4 : decode cX9_undo 4 = .ok (.getfield 100, 3) := by decide +kernel
theorem dX9_undo_7 : decode cX9_undo 7 = .ok (.invokevirtual 211, 3) := by decide +kernel
theorem dX9_undo_10 : decode cX9_undo 10 = .ok (.ifCond .ne 6, 3) := by decide +kernel
theorem dX9_undo_13 : decode cX9_undo 13 = .ok (.bipush (-2), 2) := by decide +kernel
theorem dX9_undo_15 : decode cX9_undo 15 = .ok (.ireturn, 1) := by decide +kernel
theorem dX9_votes_0 : decode cX9_votes 0 = .ok (.aload_n 0, 1) := by decide +kernel
theorem dX9_votes_1 : decode cX9_votes 1 = .ok (.getfield 24, 3) := by decide +kernel
theorem dX9_votes_4 : decode cX9_votes 4 = .ok (.getfield 100, 3) := by decide +kernel
theorem dX9_votes_7 : decode cX9_votes 7 = .ok (.iload_n 1, 1) := by decide +kernel
theorem dX9_votes_8 : decode cX9_votes 8 = .ok (.invokevirtual 171, 3) := by decide +kernel
theorem dX9_votes_11 : decode cX9_votes 11 = .ok (.ifCond .eq 18, 3) := by decide +kernel
theorem dX9_votes_29 : decode cX9_votes 29 = .ok (.bipush (-2), 2) := by decide +kernel
theorem dX9_votes_31 : decode cX9_votes 31 = .ok (.ireturn, 1) := by decide +kernel
theorem dX9_wants_0 : decode cX9_wants 0 = .ok (.aload_n 0, 1) := by decide +kernel
theorem dX9_wants_1 : decode cX9_wants 1 = .ok (.getfield 24, 3) := by decide +kernel
theorem dX9_wants_4 : decode cX9_wants 4 = .ok (.getfield 100, 3) := by decide +kernel
theorem dX9_wants_7 : decode cX9_wants 7 = .ok (.iload_n 1, 1) := by decide +kernel
theorem dX9_wants_8 : decode cX9_wants 8 = .ok (.invokevirtual 147, 3) := by decide +kernel
theorem dX9_wants_11 : decode cX9_wants 11 = .ok (.ifCond .eq 17, 3) := by decide +kernel
theorem dX9_wants_28 : decode cX9_wants 28 = .ok (.bipush (-2), 2) := by decide +kernel
theorem dX9_wants_30 : decode cX9_wants 30 = .ok (.ireturn, 1) := by decide +kernel
theorem dX9_way_0 : decode cX9_way 0 = .ok (.aload_n 0, 1) := by decide +kernel
theorem dX9_way_1 : decode cX9_way 1 = .ok (.getfield 24, 3) := by decide +kernel
theorem dX9_way_4 : decode cX9_way 4 = .ok (.getfield 100, 3) := by decide +kernel
theorem dX9_way_7 : decode cX9_way 7 = .ok (.iload_n 1, 1) := by decide +kernel
theorem dX9_way_8 : decode cX9_way 8 = .ok (.invokevirtual 147, 3) := by decide +kernel
theorem dX9_way_11 : decode cX9_way 11 = .ok (.ifCond .eq 17, 3) := by decide +kernel
theorem dX9_way_28 : decode cX9_way 28 = .ok (.bipush (-2), 2) := by decide +kernel
theorem dX9_way_30 : decode cX9_way 30 = .ok (.ireturn, 1) := by decide +kernel
theorem dX9_wheel_0 : decode cX9_wheel 0 = .ok (.aload_n 0, 1) := by decide +kernel
theorem dX9_wheel_1 : decode cX9_wheel 1 = .ok (.getfield 24, 3) := by decide +kernel
theorem dX9_wheel_4 : decode cX9_wheel 4 = .ok (.getfield 100, 3) := by decide +kernel
theorem dX9_wheel_7 : decode cX9_wheel 7 = .ok (.iload_n 1, 1) := by decide +kernel
theorem dX9_wheel_8 : decode cX9_wheel 8 = .ok (.invokevirtual 127, 3) := by decide +kernel
theorem dX9_wheel_11 : decode cX9_wheel 11 = .ok (.ifCond .ne 6, 3) := by decide +kernel
theorem dX9_wheel_14 : decode cX9_wheel 14 = .ok (.bipush (-2), 2) := by decide +kernel
theorem dX9_wheel_16 : decode cX9_wheel 16 = .ok (.ireturn, 1) := by decide +kernel
theorem dX9_worn_0 : decode cX9_worn 0 = .ok (.aload_n 0, 1) := by decide +kernel
theorem dX9_worn_1 : decode cX9_worn 1 = .ok (.iload_n 1, 1) := by decide +kernel
theorem dX9_worn_2 : decode cX9_worn 2 = .ok (.iload_n 2, 1) := by decide +kernel
theorem dX9_worn_3 : decode cX9_worn 3 = .ok (.invokevirtual 220, 3) := by decide +kernel
theorem dX9_worn_6 : decode cX9_worn 6 = .ok (.istore_n 3, 1) := by decide +kernel
theorem dX9_worn_7 : decode cX9_worn 7 = .ok (.iload_n 3, 1) := by decide +kernel
theorem dX9_worn_8 : decode cX9_worn 8 = .ok (.ifCond .eq 7, 3) := by decide +kernel
theorem dX9_worn_11 : decode cX9_worn 11 = .ok (.iload_n 3, 1) := by decide +kernel
theorem dX9_worn_12 : decode cX9_worn 12 = .ok (.goto 10, 3) := by decide +kernel
theorem dX9_worn_22 : decode cX9_worn 22 = .ok (.ireturn, 1) := by decide +kernel
theorem dX9_worth_0 : decode cX9_worth 0 = .ok (.aload_n 0, 1) := by decide +kernel
theorem dX9_worth_1 : decode cX9_worth 1 = .ok (.getfield 24, 3) := by decide +kernel
theorem dX9_worth_4 : decode cX9_worth 4 = .ok (.getfield 100, 3) := by decide +kernel
theorem dX9_worth_7 : decode cX9_worth 7 = .ok (.iload_n 1, 1) := by decide +kernel
theorem dX9_worth_8 : decode cX9_worth 8 = .ok (.invokevirtual 127, 3) := by decide +kernel
theorem dX9_worth_11 : decode cX9_worth 11 = .ok (.ifCond .eq 24, 3) := by decide +kernel
theorem dX9_worth_35 : decode cX9_worth 35 = .ok (.bipush (-2), 2) := by decide +kernel
theorem dX9_worth_37 : decode cX9_worth 37 = .ok (.ireturn, 1) := by decide +kernel
theorem dX9_write_0 : decode cX9_write 0 = .ok (.aload_n 0, 1) := by decide +kernel
theorem dX9_write_1 : decode cX9_write 1 = .ok (.getfield 39, 3) := by decide +kernel
theorem dX9_write_4 : decode cX9_write 4 = .ok (.iload_n 1, 1) := by decide +kernel
theorem dX9_write_5 : decode cX9_write 5 = .ok (.invokevirtual 238, 3) := by decide +kernel
theorem dX9_write_8 : decode cX9_write 8 = .ok (.ifCond .ne 6, 3) := by decide +kernel
theorem dX9_write_11 : decode cX9_write 11 = .ok (.bipush (-2), 2) := by decide +kernel
theorem dX9_write_13 : decode cX9_write 13 = .ok (.ireturn, 1) := by decide +kernel
theorem dX9_write_14 : decode cX9_write 14 = .ok (.aload_n 0, 1) := by decide +kernel
theorem dX9_write_15 : decode cX9_write 15 = .ok (.getfield 39, 3) := by decide +kernel
theorem dX9_write_18 : decode cX9_write 18 = .ok (.iload_n 1, 1) := by decide +kernel
theorem dX9_write_19 : decode cX9_write 19 = .ok (.invokevirtual 241, 3) := by decide +kernel
theorem dX9_write_22 : decode cX9_write 22 = .ok (.ifCond .ne 6, 3) := by decide +kernel
theorem dX9_write_25 : decode cX9_write 25 = .ok (.bipush (-6), 2) := by decide +kernel
theorem dX9_write_27 : decode cX9_write 27 = .ok (.ireturn, 1) := by decide +kernel
end
section
theorem lkX10_265 : GoodIn TB (wsV RX10 265 RX10 yX10_isRoad (.code yX10_isRoad cX10_isRoad 3 (some .boolean) :: TB)) := gdV t1505 t1507 t54 t115 t1508
theorem lkX10_269 : GoodIn TB (wsV RX10 269 RX10 yX10_isWheel (.code yX10_isWheel cX10_isWheel 2 (some .boolean) :: TB)) := gdV t1517 t1519 t56 t115 t1520
theorem lkX10_279 : GoodIn TB (wsV RX10 279 RX10 yX10_isCart (.code yX10_isCart cX10_isCart 2 (some .boolean) :: TB)) := gdV t1585 t1587 t71 t115 t1588
theorem lkX10_282 : GoodIn TB (wsV RX10 282 RX10 yX10_isPlace (.code yX10_isPlace cX10_isPlace 3 (some .boolean) :: TB)) := gdV t1597 t1599 t72 t115 t1600
theorem lkX10_290 : GoodIn TB (wsV RX10 290 RX10 yX10_canWant (.code yX10_canWant cX10_canWant 4 (some .boolean) :: TB)) := gdV t1613 t1615 t74 t115 t1616
theorem lkX10_297 : GoodIn TB (wsV RX10 297 RX10 yX10_isLand (.code yX10_isLand cX10_isLand 1 (some .boolean) :: TB)) := gdV t1646 t1648 t76 t115 t1649
theorem lkX10_300 : GoodIn TB (wsS RX10 300 yX10_isSlot (.code yX10_isSlot cX10_isSlot 1 (some .boolean) :: TB)) := gdS t1662 t1663 t115 t1664
theorem lkX10_319 : GoodIn TB (wsV RX10 319 RX10 yX10_asksRow (.code yX10_asksRow cX10_asksRow 4 (some .int) :: TB)) := gdV t1658 t1660 t77 t115 t1661
theorem lkX10_361 : GoodIn TB (wsV RX10 361 RX10 yX10_asksSeen (.code yX10_asksSeen cX10_asksSeen 3 (some .int) :: TB)) := gdV t1776 t1778 t88 t115 t1779
theorem lkX10_424 : GoodIn TB (wsV RX10 424 RX10 yX10_isDrawn (.code yX10_isDrawn cX10_isDrawn 4 (some .boolean) :: TB)) := gdV t1893 t1895 t100 t115 t1896
theorem lkX10_85 : GoodIn TB (wsS RX10 85 yX10_in (.code yX10_in cX10_in 6 (some .boolean) :: TB)) := gdS t1382 t1383 t115 t1384
theorem lkX4_29 : GoodIn TB (wsV RX4 29 RX4 yX4_hasRow (.code yX4_hasRow cX4_hasRow 2 (some .boolean) :: TB)) := gdV t1209 t883 t884 t111 t885
theorem lkX9_114 : GoodIn TB (wsV RX9 114 RX1 yX1_isRoad (.code yX1_isRoad cX1_isRoad 2 (some .boolean) :: TB)) := gdV t701 t702 t703 t107 t704
theorem lkX9_127 : GoodIn TB (wsV RX9 127 RX1 yX1_isWheel (.code yX1_isWheel cX1_isWheel 2 (some .boolean) :: TB)) := gdV t709 t663 t664 t107 t665
theorem lkX9_147 : GoodIn TB (wsV RX9 147 RX1 yX1_isCart (.code yX1_isCart cX1_isCart 2 (some .boolean) :: TB)) := gdV t726 t727 t728 t107 t729
theorem lkX9_159 : GoodIn TB (wsV RX9 159 RX1 yX1_isErrand (.code yX1_isErrand cX1_isErrand 2 (some .boolean) :: TB)) := gdV t738 t739 t740 t107 t741
theorem lkX9_171 : GoodIn TB (wsV RX9 171 RX1 yX1_isPlace (.code yX1_isPlace cX1_isPlace 2 (some .boolean) :: TB)) := gdV t746 t747 t748 t107 t749
theorem lkX9_180 : GoodIn TB (wsV RX9 180 RX9 yX9_canWant (.code yX9_canWant cX9_canWant 3 (some .boolean) :: TB)) := gdV t770 t772 t14 t104 t773
theorem lkX9_191 : GoodIn TB (wsV RX9 191 RX9 yX9_isByCart (.code yX9_isByCart cX9_isByCart 3 (some .boolean) :: TB)) := gdV t774 t776 t15 t104 t777
theorem lkX9_211 : GoodIn TB (wsV RX9 211 RX1 yX1_isTold (.code yX1_isTold cX1_isTold 1 (some .boolean) :: TB)) := gdV t858 t859 t860 t107 t861
theorem lkX9_220 : GoodIn TB (wsV RX9 220 RX9 yX9_follow (.code yX9_follow cX9_follow 7 (some .int) :: TB)) := gdV t874 t876 t17 t104 t877
theorem lkX9_238 : GoodIn TB (wsV RX9 238 RX4 yX4_isSlot (.code yX4_isSlot cX4_isSlot 2 (some .boolean) :: TB)) := gdV t878 t879 t880 t111 t881
theorem lkX9_241 : GoodIn TB (wsV RX9 241 RX4 yX4_hasRow (.code yX4_hasRow cX4_hasRow 2 (some .boolean) :: TB)) := gdV t882 t883 t884 t111 t885
theorem lkX9_332 : GoodIn TB (wsV RX9 332 RX9 yX9_fitting (.code yX9_fitting cX9_fitting 9 (some .int) :: TB)) := gdV t1045 t1047 t26 t104 t1048
theorem lkX9_376 : GoodIn TB (wsV RX9 376 RX9 yX9_canDraw (.code yX9_canDraw cX9_canDraw 4 (some .boolean) :: TB)) := gdV t1172 t1174 t35 t104 t1175
theorem lkX9_410 : GoodIn TB (wsV RX9 410 RX4 yX4_rowCount (.code yX4_rowCount cX4_rowCount 3 (some .int) :: TB)) := gdV t1205 t1206 t1207 t111 t1208
end
section
abbrev rmk (n : Nat) : Room := { frames := 4 * n + 2, cells := 0, slots := 0, locals := 100 * n + 40 }
abbrev KT (k : Nat → ClassId) : List (ClassId × FieldType) := [(k 0, .int), (k 1, .byte), (k 2, .long), (k 3, .boolean), (k 4, .object "WheelMemory$World"), (k 5, .object "WheelMemory$State"), (k 6, .array .long)]
def FW (k : Nat → ClassId) (q : Nat → Nat) (wf : Nat → Int32) : va_W := [(q 0, .inr (9, [.ref (q 1), .ref (q 2), .ref (q 3), .ref (q 4), .ref (q 5), .ref (q 6), .ref (q 7), .ref (q 8), .ref (q 9), .ref (q 10), .ref (q 11)])), (q 3, .inr (8, [.ref (q 12), .ref (q 13), .int 0, .ref (q 14), .ref (q 15), .ref (q 16)])), (q 12, .inr (1, [.int 0, .int 0, .int 0, .int 0, .int 0, .int 0, .int 0, .ref (q 17), .ref (q 18), .ref (q 19), .ref (q 20), .ref (q 21), .ref (q 22), .ref (q 23)])), (q 6, .inr (4, [.ref (q 24), .ref (q 25), .ref (q 26)])), (q 24, .inl (k 0, 4, .inl wf)), (q 5, .inl (k 3, 3, .inl (fun _ => 0))), (q 1, .inr (6, [.ref (q 27), .int 0])), (q 2, .inr (2, [.ref (q 1), .ref (q 28), .int 0, .int (-1), .int 0, .int 0, .int 0, .int 0]))]
def FWH (D : va_G) (k : Nat → ClassId) (q : Nat → Nat) (wf : Nat → Int32) (U : State) (H : Heap) : Prop := va_P D vwCl (FW k q wf) H ∧ va_K D vwCl (KT k) U ∧ ∀ j : Nat, j < 4 → wf j = -1
def MW (k : Nat → ClassId) (u : Nat → Nat) (mf : Nat → Int32) : va_W := [(u 0, .inr (10, [.int 0, .ref (u 1), .ref (u 2), .ref (u 3), .ref (u 4), .int 0, .ref (u 5), .int 0, .int 0, .int 0, .int 0, .int 0, .int 0, .int (-1), .ref (u 6), .ref (u 7), .ref (u 8), .ref (u 9), .ref (u 10), .ref (u 11), .int 0, .int 0, .int 0, .ref (u 12), .ref (u 13), .ref (u 14), .int 0, .int 0, .ref (u 15), .int 0, .ref (u 16), .int 0, .ref (u 17), .int 0, .ref (u 18), .ref (u 19), .ref (u 20), .ref (u 21)])), (u 1, .inl (k 0, 168, .inl (fun _ => 0))), (u 3, .inl (k 3, 3, .inl (fun _ => 0))), (u 18, .inl (k 0, 4, .inl mf))]
def MWH (D : va_G) (k : Nat → ClassId) (u : Nat → Nat) (mf : Nat → Int32) (U : State) (H : Heap) : Prop := va_P D vwCl (MW k u mf) H ∧ va_K D vwCl (KT k) U ∧ ∀ j : Nat, j < 4 → mf j = -1
theorem fw_blind {D : va_G} {k : Nat → ClassId} {q : Nat → Nat} {wf : Nat → Int32} {av : List Value} : FrameBlind (va_Pc av (fun U => FWH D k q wf U U.heap)) := fun a U g mk h => by
  obtain ⟨h0, hP, hK, hw⟩ := h
  exact ⟨h0, hP, va_K.moved (u := U) (U := U.calling g mk a) (Vm.Alike.refl U.vm) hK, hw⟩
theorem mw_blind {D : va_G} {k : Nat → ClassId} {u : Nat → Nat} {mf : Nat → Int32} {av : List Value} : FrameBlind (va_Pc av (fun U => MWH D k u mf U U.heap)) := fun a U g mk h => by
  obtain ⟨h0, hP, hK, hw⟩ := h
  exact ⟨h0, hP, va_K.moved (u := U) (U := U.calling g mk a) (Vm.Alike.refl U.vm) hK, hw⟩
theorem fw_S {D : va_G} {k : Nat → ClassId} {q : Nat → Nat} {wf : Nat → Int32} {s : State} {H : Heap} {As : List Value} (hF : FWH D k q wf s H) : PreS s H (va_Pc As (fun U => FWH D k q wf U U.heap)) As :=
  ⟨fw_blind, fun U hU hW => ⟨rfl, by rw [hU]; exact hF.1, va_K.moved hW.alike hF.2.1, hF.2.2⟩⟩
theorem mw_S {D : va_G} {k : Nat → ClassId} {u : Nat → Nat} {mf : Nat → Int32} {s : State} {H : Heap} {As : List Value} (hF : MWH D k u mf s H) : PreS s H (va_Pc As (fun U => MWH D k u mf U U.heap)) As :=
  ⟨mw_blind, fun U hU hW => ⟨rfl, by rw [hU]; exact hF.1, va_K.moved hW.alike hF.2.1, hF.2.2⟩⟩
theorem fw_V {D : va_G} {k : Nat → ClassId} {q : Nat → Nat} {wf : Nat → Int32} {s : State} {H : Heap} {As : List Value} {b ci q0 : Nat} {r : vw_C} {fs : List Value} (hF : FWH D k q wf s H) (hc : vwCl[ci]? = some r) (he : (FW k q wf)[q0]? = some (b, .inr (ci, fs))) : PreV s H r.1 b (va_Pc (.ref b :: As) (fun U => FWH D k q wf U U.heap)) As :=
  ⟨fw_blind, va_recv hF.2.1 hF.1 hc he, (fw_S hF).2⟩
theorem mw_V {D : va_G} {k : Nat → ClassId} {u : Nat → Nat} {mf : Nat → Int32} {s : State} {H : Heap} {As : List Value} {b ci q0 : Nat} {r : vw_C} {fs : List Value} (hF : MWH D k u mf s H) (hc : vwCl[ci]? = some r) (he : (MW k u mf)[q0]? = some (b, .inr (ci, fs))) : PreV s H r.1 b (va_Pc (.ref b :: As) (fun U => MWH D k u mf U U.heap)) As :=
  ⟨mw_blind, va_recv hF.2.1 hF.1 hc he, (mw_S hF).2⟩
def a_fault (x : Int32) : Int32 := if x = 0 then 0 else -1
def a_count (x : Int32) : Int32 := if x.toInt < 0 ∨ 9 < x.toInt then -1 else 0
def a_back (x : Int32) : Int32 := if x < 0 ∨ 3 ≤ x then -2 else -6
def a_slot (x : Int32) : Int32 := if x < 0 ∨ 4 ≤ x then -2 else -6
def a_two (x y : Int32) : Int32 := if (x < 0 ∨ 4 ≤ x) ∨ (y < 0 ∨ 4 ≤ y) then -2 else -6
def in4 (x : Int32) : Prop := ¬ x < 0 ∧ x < 4
theorem in4_vp {x : Int32} (h : in4 x) : vp_in x 4 := i32_in 4 rfl h.1 h.2
theorem no_in (v : Int64) : ¬ ((0 : Int64) ≤ v ∧ v ≤ -1) := fun h => by
  have a := Int64.le_iff_toInt_le.mp h.1
  have b := Int64.le_iff_toInt_le.mp h.2
  have e0 : (0 : Int64).toInt = 0 := rfl
  have e1 : (-1 : Int64).toInt = -1 := by decide
  rw [e0] at a
  rw [e1] at b
  omega
theorem i64_01 {x : Int32} (n : Int64) (N : Int32) (k : Nat) (hn : n.toInt = k) (hN : N.toInt = k + 1) : ((0 : Int64) ≤ x.toInt64 ∧ x.toInt64 ≤ n) ↔ (¬ x < 0 ∧ x < N) := by
  rw [Int64.le_iff_toInt_le, Int64.le_iff_toInt_le, Int32.lt_iff_toInt_lt, Int32.lt_iff_toInt_lt, Int32.toInt_toInt64, hn, hN]
  have e0 : (0 : Int64).toInt = 0 := rfl
  have e1 : (0 : Int32).toInt = 0 := rfl
  rw [e0, e1]
  omega
theorem i64_out {x : Int32} (n : Int64) (N : Int32) (k : Nat) (hn : n.toInt = k) (hN : N.toInt = k + 1) (h : ¬ ((0 : Int64) ≤ x.toInt64 ∧ x.toInt64 ≤ n)) : x < 0 ∨ N ≤ x := by
  rw [i64_01 n N k hn hN] at h
  by_cases h0 : x < 0
  · exact Or.inl h0
  · exact Or.inr (Int32.not_lt.mp (fun z => h ⟨h0, z⟩))
theorem in4_of {x : Int32} (h : (0 : Int64) ≤ x.toInt64 ∧ x.toInt64 ≤ 3) : in4 x := (i64_01 3 4 3 (by decide) (by decide)).mp h
theorem out4_of {x : Int32} (h : ¬ ((0 : Int64) ≤ x.toInt64 ∧ x.toInt64 ≤ 3)) : x < 0 ∨ 4 ≤ x := i64_out 3 4 3 (by decide) (by decide) h
theorem in3_of {x : Int32} (h : (0 : Int64) ≤ x.toInt64 ∧ x.toInt64 ≤ 2) : ¬ x < 0 ∧ x < 3 := (i64_01 2 3 2 (by decide) (by decide)).mp h
theorem out3_of {x : Int32} (h : ¬ ((0 : Int64) ≤ x.toInt64 ∧ x.toInt64 ≤ 2)) : x < 0 ∨ 3 ≤ x := i64_out 2 3 2 (by decide) (by decide) h
end
section
set_option maxHeartbeats 4000000 in
set_option maxRecDepth 100000 in
theorem c_X1_isPlace (l : Launch) (D : va_G) (k : Nat → ClassId) (q : Nat → Nat) (wf : Nat → Int32) (p0 : Int32)  : Met l yX1_isPlace (.code yX1_isPlace cX1_isPlace 2 (some .boolean) :: TB) (rmk 1) (va_Pc [.ref (q 12), .int p0] (fun U => FWH D k q wf U U.heap)) (vp_Si (fun r => r = 0)) 0 0 (fun _ => False) := by
  refine Met.ofW (cc := cX1_isPlace) (maxL := 2) (ret := (some .boolean)) (by decide) rfl ?_
  intro p e s m args below meth c s₁ B hml hv
  obtain ⟨rfl, hF⟩ := hv
  have hx := B.exec
  have hb := B.bytes
  have hr := B.returns
  have hT : ∀ w ∈ TB, w.before ([.ref (q 12), .int p0] : List Value).toArray s = true := fun w h => atoms_spec (ws := .code yX1_isPlace cX1_isPlace 2 (some .boolean) :: TB) B.pre w (List.mem_cons_of_mem _ h)
  have hown : s.vm.findClass RX1 = some m.cls := findClass_of_methodNamed B.named
  have S : CallFix p m c cX1_isPlace 2 s _ TB RX1 := ⟨hx, hb, hml, hown, hT⟩
  have hP : va_P D vwCl [(q 0, .inr (9, [.ref (q 1), .ref (q 2), .ref (q 3), .ref (q 4), .ref (q 5), .ref (q 6), .ref (q 7), .ref (q 8), .ref (q 9), .ref (q 10), .ref (q 11)])), (q 3, .inr (8, [.ref (q 12), .ref (q 13), .int 0, .ref (q 14), .ref (q 15), .ref (q 16)])), (q 12, .inr (1, [.int 0, .int 0, .int 0, .int 0, .int 0, .int 0, .int 0, .ref (q 17), .ref (q 18), .ref (q 19), .ref (q 20), .ref (q 21), .ref (q 22), .ref (q 23)])), (q 6, .inr (4, [.ref (q 24), .ref (q 25), .ref (q 26)])), (q 24, .inl (k 0, 4, .inl wf)), (q 5, .inl (k 3, 3, .inl (fun _ => 0))), (q 1, .inr (6, [.ref (q 27), .int 0])), (q 2, .inr (2, [.ref (q 1), .ref (q 28), .int 0, .int (-1), .int 0, .int 0, .int 0, .int 0]))] s.heap := hF.1
  have hK := hF.2.1
  have hl := lv_entry ([.ref (q 12), .int p0]) (n := 2) (Nat.le_of_ble_eq_true rfl)
  rw [lg_entry_eq]
  generalize (lg_sl ([.ref (q 12), .int p0]) ++ List.replicate (2 - (lg_sl ([.ref (q 12), .int p0])).length) Slot.unset).toArray = ls at hl ⊢
  have hl : lv_has ls 2 [(0, .ref (q 12)), (1, .int p0)] := hl
  refine lv_iload_n hx hb dX1_isPlace_0 rfl (lv_at hl 1 rfl) ?_
  refine lv_if_lt (tgt := 16) hx hb dX1_isPlace_1 (by decide) (fun c_1 => ?_) (fun c_1 => ?_)
  · skip
    refine lv_iconst (v := 0) hx hb dX1_isPlace_16 (by decide) ?_
    exact W.zret (v := 0) (ty := .boolean) hx hb hr rfl (fun t ht hW => ⟨0, rfl, rfl, ht⟩) (fun _ h9 => by cases h9) dX1_isPlace_17
  · skip
    refine lv_iload_n hx hb dX1_isPlace_4 rfl (lv_at hl 1 rfl) ?_
    refine lv_aload_n hx hb dX1_isPlace_5 rfl (lv_at hl 0 rfl) ?_
    refine va_get (D := D) (ci := 1) (v := .int 0) (C := RX1) (T := TX1) (N := 14) hx hb hT in_X1 hown hK hP 2 rfl rfl 1 (by decide) (hT _ t198) (fun _ h9 => h9) rfl dX1_isPlace_6 ?_
    refine lv_icmp_ge (tgt := 16) hx hb dX1_isPlace_9 (by decide) (fun c_2 => ?_) (fun c_2 => ?_)
    · skip
      refine lv_iconst (v := 0) hx hb dX1_isPlace_16 (by decide) ?_
      exact W.zret (v := 0) (ty := .boolean) hx hb hr rfl (fun t ht hW => ⟨0, rfl, rfl, ht⟩) (fun _ h9 => by cases h9) dX1_isPlace_17
    · skip
      exact absurd (i32_nn c_1) c_2
set_option maxHeartbeats 4000000 in
set_option maxRecDepth 100000 in
theorem c_X1_isRoad (l : Launch) (D : va_G) (k : Nat → ClassId) (q : Nat → Nat) (wf : Nat → Int32) (p0 : Int32)  : Met l yX1_isRoad (.code yX1_isRoad cX1_isRoad 2 (some .boolean) :: TB) (rmk 1) (va_Pc [.ref (q 12), .int p0] (fun U => FWH D k q wf U U.heap)) (vp_Si (fun r => r = 0)) 0 0 (fun _ => False) := by
  refine Met.ofW (cc := cX1_isRoad) (maxL := 2) (ret := (some .boolean)) (by decide) rfl ?_
  intro p e s m args below meth c s₁ B hml hv
  obtain ⟨rfl, hF⟩ := hv
  have hx := B.exec
  have hb := B.bytes
  have hr := B.returns
  have hT : ∀ w ∈ TB, w.before ([.ref (q 12), .int p0] : List Value).toArray s = true := fun w h => atoms_spec (ws := .code yX1_isRoad cX1_isRoad 2 (some .boolean) :: TB) B.pre w (List.mem_cons_of_mem _ h)
  have hown : s.vm.findClass RX1 = some m.cls := findClass_of_methodNamed B.named
  have S : CallFix p m c cX1_isRoad 2 s _ TB RX1 := ⟨hx, hb, hml, hown, hT⟩
  have hP : va_P D vwCl [(q 0, .inr (9, [.ref (q 1), .ref (q 2), .ref (q 3), .ref (q 4), .ref (q 5), .ref (q 6), .ref (q 7), .ref (q 8), .ref (q 9), .ref (q 10), .ref (q 11)])), (q 3, .inr (8, [.ref (q 12), .ref (q 13), .int 0, .ref (q 14), .ref (q 15), .ref (q 16)])), (q 12, .inr (1, [.int 0, .int 0, .int 0, .int 0, .int 0, .int 0, .int 0, .ref (q 17), .ref (q 18), .ref (q 19), .ref (q 20), .ref (q 21), .ref (q 22), .ref (q 23)])), (q 6, .inr (4, [.ref (q 24), .ref (q 25), .ref (q 26)])), (q 24, .inl (k 0, 4, .inl wf)), (q 5, .inl (k 3, 3, .inl (fun _ => 0))), (q 1, .inr (6, [.ref (q 27), .int 0])), (q 2, .inr (2, [.ref (q 1), .ref (q 28), .int 0, .int (-1), .int 0, .int 0, .int 0, .int 0]))] s.heap := hF.1
  have hK := hF.2.1
  have hl := lv_entry ([.ref (q 12), .int p0]) (n := 2) (Nat.le_of_ble_eq_true rfl)
  rw [lg_entry_eq]
  generalize (lg_sl ([.ref (q 12), .int p0]) ++ List.replicate (2 - (lg_sl ([.ref (q 12), .int p0])).length) Slot.unset).toArray = ls at hl ⊢
  have hl : lv_has ls 2 [(0, .ref (q 12)), (1, .int p0)] := hl
  refine lv_iload_n hx hb dX1_isRoad_0 rfl (lv_at hl 1 rfl) ?_
  refine lv_if_lt (tgt := 16) hx hb dX1_isRoad_1 (by decide) (fun c_1 => ?_) (fun c_1 => ?_)
  · skip
    refine lv_iconst (v := 0) hx hb dX1_isRoad_16 (by decide) ?_
    exact W.zret (v := 0) (ty := .boolean) hx hb hr rfl (fun t ht hW => ⟨0, rfl, rfl, ht⟩) (fun _ h9 => by cases h9) dX1_isRoad_17
  · skip
    refine lv_iload_n hx hb dX1_isRoad_4 rfl (lv_at hl 1 rfl) ?_
    refine lv_aload_n hx hb dX1_isRoad_5 rfl (lv_at hl 0 rfl) ?_
    refine va_get (D := D) (ci := 1) (v := .int 0) (C := RX1) (T := TX1) (N := 14) hx hb hT in_X1 hown hK hP 2 rfl rfl 3 (by decide) (hT _ t207) (fun _ h9 => h9) rfl dX1_isRoad_6 ?_
    refine lv_icmp_ge (tgt := 16) hx hb dX1_isRoad_9 (by decide) (fun c_2 => ?_) (fun c_2 => ?_)
    · skip
      refine lv_iconst (v := 0) hx hb dX1_isRoad_16 (by decide) ?_
      exact W.zret (v := 0) (ty := .boolean) hx hb hr rfl (fun t ht hW => ⟨0, rfl, rfl, ht⟩) (fun _ h9 => by cases h9) dX1_isRoad_17
    · skip
      exact absurd (i32_nn c_1) c_2
set_option maxHeartbeats 4000000 in
set_option maxRecDepth 100000 in
theorem c_X1_isWheel (l : Launch) (D : va_G) (k : Nat → ClassId) (q : Nat → Nat) (wf : Nat → Int32) (p0 : Int32)  : Met l yX1_isWheel (.code yX1_isWheel cX1_isWheel 2 (some .boolean) :: TB) (rmk 1) (va_Pc [.ref (q 12), .int p0] (fun U => FWH D k q wf U U.heap)) (vp_Si (fun r => r = 0)) 0 0 (fun _ => False) := by
  refine Met.ofW (cc := cX1_isWheel) (maxL := 2) (ret := (some .boolean)) (by decide) rfl ?_
  intro p e s m args below meth c s₁ B hml hv
  obtain ⟨rfl, hF⟩ := hv
  have hx := B.exec
  have hb := B.bytes
  have hr := B.returns
  have hT : ∀ w ∈ TB, w.before ([.ref (q 12), .int p0] : List Value).toArray s = true := fun w h => atoms_spec (ws := .code yX1_isWheel cX1_isWheel 2 (some .boolean) :: TB) B.pre w (List.mem_cons_of_mem _ h)
  have hown : s.vm.findClass RX1 = some m.cls := findClass_of_methodNamed B.named
  have S : CallFix p m c cX1_isWheel 2 s _ TB RX1 := ⟨hx, hb, hml, hown, hT⟩
  have hP : va_P D vwCl [(q 0, .inr (9, [.ref (q 1), .ref (q 2), .ref (q 3), .ref (q 4), .ref (q 5), .ref (q 6), .ref (q 7), .ref (q 8), .ref (q 9), .ref (q 10), .ref (q 11)])), (q 3, .inr (8, [.ref (q 12), .ref (q 13), .int 0, .ref (q 14), .ref (q 15), .ref (q 16)])), (q 12, .inr (1, [.int 0, .int 0, .int 0, .int 0, .int 0, .int 0, .int 0, .ref (q 17), .ref (q 18), .ref (q 19), .ref (q 20), .ref (q 21), .ref (q 22), .ref (q 23)])), (q 6, .inr (4, [.ref (q 24), .ref (q 25), .ref (q 26)])), (q 24, .inl (k 0, 4, .inl wf)), (q 5, .inl (k 3, 3, .inl (fun _ => 0))), (q 1, .inr (6, [.ref (q 27), .int 0])), (q 2, .inr (2, [.ref (q 1), .ref (q 28), .int 0, .int (-1), .int 0, .int 0, .int 0, .int 0]))] s.heap := hF.1
  have hK := hF.2.1
  have hl := lv_entry ([.ref (q 12), .int p0]) (n := 2) (Nat.le_of_ble_eq_true rfl)
  rw [lg_entry_eq]
  generalize (lg_sl ([.ref (q 12), .int p0]) ++ List.replicate (2 - (lg_sl ([.ref (q 12), .int p0])).length) Slot.unset).toArray = ls at hl ⊢
  have hl : lv_has ls 2 [(0, .ref (q 12)), (1, .int p0)] := hl
  refine lv_iload_n hx hb dX1_isWheel_0 rfl (lv_at hl 1 rfl) ?_
  refine lv_if_lt (tgt := 16) hx hb dX1_isWheel_1 (by decide) (fun c_1 => ?_) (fun c_1 => ?_)
  · skip
    refine lv_iconst (v := 0) hx hb dX1_isWheel_16 (by decide) ?_
    exact W.zret (v := 0) (ty := .boolean) hx hb hr rfl (fun t ht hW => ⟨0, rfl, rfl, ht⟩) (fun _ h9 => by cases h9) dX1_isWheel_17
  · skip
    refine lv_iload_n hx hb dX1_isWheel_4 rfl (lv_at hl 1 rfl) ?_
    refine lv_aload_n hx hb dX1_isWheel_5 rfl (lv_at hl 0 rfl) ?_
    refine va_get (D := D) (ci := 1) (v := .int 0) (C := RX1) (T := TX1) (N := 14) hx hb hT in_X1 hown hK hP 2 rfl rfl 4 (by decide) (hT _ t213) (fun _ h9 => h9) rfl dX1_isWheel_6 ?_
    refine lv_icmp_ge (tgt := 16) hx hb dX1_isWheel_9 (by decide) (fun c_2 => ?_) (fun c_2 => ?_)
    · skip
      refine lv_iconst (v := 0) hx hb dX1_isWheel_16 (by decide) ?_
      exact W.zret (v := 0) (ty := .boolean) hx hb hr rfl (fun t ht hW => ⟨0, rfl, rfl, ht⟩) (fun _ h9 => by cases h9) dX1_isWheel_17
    · skip
      exact absurd (i32_nn c_1) c_2
set_option maxHeartbeats 4000000 in
set_option maxRecDepth 100000 in
theorem c_X1_isCart (l : Launch) (D : va_G) (k : Nat → ClassId) (q : Nat → Nat) (wf : Nat → Int32) (p0 : Int32)  : Met l yX1_isCart (.code yX1_isCart cX1_isCart 2 (some .boolean) :: TB) (rmk 1) (va_Pc [.ref (q 12), .int p0] (fun U => FWH D k q wf U U.heap)) (vp_Si (fun r => r = 0)) 0 0 (fun _ => False) := by
  refine Met.ofW (cc := cX1_isCart) (maxL := 2) (ret := (some .boolean)) (by decide) rfl ?_
  intro p e s m args below meth c s₁ B hml hv
  obtain ⟨rfl, hF⟩ := hv
  have hx := B.exec
  have hb := B.bytes
  have hr := B.returns
  have hT : ∀ w ∈ TB, w.before ([.ref (q 12), .int p0] : List Value).toArray s = true := fun w h => atoms_spec (ws := .code yX1_isCart cX1_isCart 2 (some .boolean) :: TB) B.pre w (List.mem_cons_of_mem _ h)
  have hown : s.vm.findClass RX1 = some m.cls := findClass_of_methodNamed B.named
  have S : CallFix p m c cX1_isCart 2 s _ TB RX1 := ⟨hx, hb, hml, hown, hT⟩
  have hP : va_P D vwCl [(q 0, .inr (9, [.ref (q 1), .ref (q 2), .ref (q 3), .ref (q 4), .ref (q 5), .ref (q 6), .ref (q 7), .ref (q 8), .ref (q 9), .ref (q 10), .ref (q 11)])), (q 3, .inr (8, [.ref (q 12), .ref (q 13), .int 0, .ref (q 14), .ref (q 15), .ref (q 16)])), (q 12, .inr (1, [.int 0, .int 0, .int 0, .int 0, .int 0, .int 0, .int 0, .ref (q 17), .ref (q 18), .ref (q 19), .ref (q 20), .ref (q 21), .ref (q 22), .ref (q 23)])), (q 6, .inr (4, [.ref (q 24), .ref (q 25), .ref (q 26)])), (q 24, .inl (k 0, 4, .inl wf)), (q 5, .inl (k 3, 3, .inl (fun _ => 0))), (q 1, .inr (6, [.ref (q 27), .int 0])), (q 2, .inr (2, [.ref (q 1), .ref (q 28), .int 0, .int (-1), .int 0, .int 0, .int 0, .int 0]))] s.heap := hF.1
  have hK := hF.2.1
  have hl := lv_entry ([.ref (q 12), .int p0]) (n := 2) (Nat.le_of_ble_eq_true rfl)
  rw [lg_entry_eq]
  generalize (lg_sl ([.ref (q 12), .int p0]) ++ List.replicate (2 - (lg_sl ([.ref (q 12), .int p0])).length) Slot.unset).toArray = ls at hl ⊢
  have hl : lv_has ls 2 [(0, .ref (q 12)), (1, .int p0)] := hl
  refine lv_iload_n hx hb dX1_isCart_0 rfl (lv_at hl 1 rfl) ?_
  refine lv_if_lt (tgt := 16) hx hb dX1_isCart_1 (by decide) (fun c_1 => ?_) (fun c_1 => ?_)
  · skip
    refine lv_iconst (v := 0) hx hb dX1_isCart_16 (by decide) ?_
    exact W.zret (v := 0) (ty := .boolean) hx hb hr rfl (fun t ht hW => ⟨0, rfl, rfl, ht⟩) (fun _ h9 => by cases h9) dX1_isCart_17
  · skip
    refine lv_iload_n hx hb dX1_isCart_4 rfl (lv_at hl 1 rfl) ?_
    refine lv_aload_n hx hb dX1_isCart_5 rfl (lv_at hl 0 rfl) ?_
    refine va_get (D := D) (ci := 1) (v := .int 0) (C := RX1) (T := TX1) (N := 14) hx hb hT in_X1 hown hK hP 2 rfl rfl 5 (by decide) (hT _ t216) (fun _ h9 => h9) rfl dX1_isCart_6 ?_
    refine lv_icmp_ge (tgt := 16) hx hb dX1_isCart_9 (by decide) (fun c_2 => ?_) (fun c_2 => ?_)
    · skip
      refine lv_iconst (v := 0) hx hb dX1_isCart_16 (by decide) ?_
      exact W.zret (v := 0) (ty := .boolean) hx hb hr rfl (fun t ht hW => ⟨0, rfl, rfl, ht⟩) (fun _ h9 => by cases h9) dX1_isCart_17
    · skip
      exact absurd (i32_nn c_1) c_2
set_option maxHeartbeats 4000000 in
set_option maxRecDepth 100000 in
theorem c_X1_isErrand (l : Launch) (D : va_G) (k : Nat → ClassId) (q : Nat → Nat) (wf : Nat → Int32) (p0 : Int32)  : Met l yX1_isErrand (.code yX1_isErrand cX1_isErrand 2 (some .boolean) :: TB) (rmk 1) (va_Pc [.ref (q 12), .int p0] (fun U => FWH D k q wf U U.heap)) (vp_Si (fun r => r = 0)) 0 0 (fun _ => False) := by
  refine Met.ofW (cc := cX1_isErrand) (maxL := 2) (ret := (some .boolean)) (by decide) rfl ?_
  intro p e s m args below meth c s₁ B hml hv
  obtain ⟨rfl, hF⟩ := hv
  have hx := B.exec
  have hb := B.bytes
  have hr := B.returns
  have hT : ∀ w ∈ TB, w.before ([.ref (q 12), .int p0] : List Value).toArray s = true := fun w h => atoms_spec (ws := .code yX1_isErrand cX1_isErrand 2 (some .boolean) :: TB) B.pre w (List.mem_cons_of_mem _ h)
  have hown : s.vm.findClass RX1 = some m.cls := findClass_of_methodNamed B.named
  have S : CallFix p m c cX1_isErrand 2 s _ TB RX1 := ⟨hx, hb, hml, hown, hT⟩
  have hP : va_P D vwCl [(q 0, .inr (9, [.ref (q 1), .ref (q 2), .ref (q 3), .ref (q 4), .ref (q 5), .ref (q 6), .ref (q 7), .ref (q 8), .ref (q 9), .ref (q 10), .ref (q 11)])), (q 3, .inr (8, [.ref (q 12), .ref (q 13), .int 0, .ref (q 14), .ref (q 15), .ref (q 16)])), (q 12, .inr (1, [.int 0, .int 0, .int 0, .int 0, .int 0, .int 0, .int 0, .ref (q 17), .ref (q 18), .ref (q 19), .ref (q 20), .ref (q 21), .ref (q 22), .ref (q 23)])), (q 6, .inr (4, [.ref (q 24), .ref (q 25), .ref (q 26)])), (q 24, .inl (k 0, 4, .inl wf)), (q 5, .inl (k 3, 3, .inl (fun _ => 0))), (q 1, .inr (6, [.ref (q 27), .int 0])), (q 2, .inr (2, [.ref (q 1), .ref (q 28), .int 0, .int (-1), .int 0, .int 0, .int 0, .int 0]))] s.heap := hF.1
  have hK := hF.2.1
  have hl := lv_entry ([.ref (q 12), .int p0]) (n := 2) (Nat.le_of_ble_eq_true rfl)
  rw [lg_entry_eq]
  generalize (lg_sl ([.ref (q 12), .int p0]) ++ List.replicate (2 - (lg_sl ([.ref (q 12), .int p0])).length) Slot.unset).toArray = ls at hl ⊢
  have hl : lv_has ls 2 [(0, .ref (q 12)), (1, .int p0)] := hl
  refine lv_iload_n hx hb dX1_isErrand_0 rfl (lv_at hl 1 rfl) ?_
  refine lv_if_lt (tgt := 16) hx hb dX1_isErrand_1 (by decide) (fun c_1 => ?_) (fun c_1 => ?_)
  · skip
    refine lv_iconst (v := 0) hx hb dX1_isErrand_16 (by decide) ?_
    exact W.zret (v := 0) (ty := .boolean) hx hb hr rfl (fun t ht hW => ⟨0, rfl, rfl, ht⟩) (fun _ h9 => by cases h9) dX1_isErrand_17
  · skip
    refine lv_iload_n hx hb dX1_isErrand_4 rfl (lv_at hl 1 rfl) ?_
    refine lv_aload_n hx hb dX1_isErrand_5 rfl (lv_at hl 0 rfl) ?_
    refine va_get (D := D) (ci := 1) (v := .int 0) (C := RX1) (T := TX1) (N := 14) hx hb hT in_X1 hown hK hP 2 rfl rfl 6 (by decide) (hT _ t219) (fun _ h9 => h9) rfl dX1_isErrand_6 ?_
    refine lv_icmp_ge (tgt := 16) hx hb dX1_isErrand_9 (by decide) (fun c_2 => ?_) (fun c_2 => ?_)
    · skip
      refine lv_iconst (v := 0) hx hb dX1_isErrand_16 (by decide) ?_
      exact W.zret (v := 0) (ty := .boolean) hx hb hr rfl (fun t ht hW => ⟨0, rfl, rfl, ht⟩) (fun _ h9 => by cases h9) dX1_isErrand_17
    · skip
      exact absurd (i32_nn c_1) c_2
set_option maxHeartbeats 4000000 in
set_option maxRecDepth 100000 in
theorem c_X1_isTold (l : Launch) (D : va_G) (k : Nat → ClassId) (q : Nat → Nat) (wf : Nat → Int32)   : Met l yX1_isTold (.code yX1_isTold cX1_isTold 1 (some .boolean) :: TB) (rmk 1) (va_Pc [.ref (q 12)] (fun U => FWH D k q wf U U.heap)) (vp_Si (fun r => r = 0)) 0 0 (fun _ => False) := by
  refine Met.ofW (cc := cX1_isTold) (maxL := 1) (ret := (some .boolean)) (by decide) rfl ?_
  intro p e s m args below meth c s₁ B hml hv
  obtain ⟨rfl, hF⟩ := hv
  have hx := B.exec
  have hb := B.bytes
  have hr := B.returns
  have hT : ∀ w ∈ TB, w.before ([.ref (q 12)] : List Value).toArray s = true := fun w h => atoms_spec (ws := .code yX1_isTold cX1_isTold 1 (some .boolean) :: TB) B.pre w (List.mem_cons_of_mem _ h)
  have hown : s.vm.findClass RX1 = some m.cls := findClass_of_methodNamed B.named
  have S : CallFix p m c cX1_isTold 1 s _ TB RX1 := ⟨hx, hb, hml, hown, hT⟩
  have hP : va_P D vwCl [(q 0, .inr (9, [.ref (q 1), .ref (q 2), .ref (q 3), .ref (q 4), .ref (q 5), .ref (q 6), .ref (q 7), .ref (q 8), .ref (q 9), .ref (q 10), .ref (q 11)])), (q 3, .inr (8, [.ref (q 12), .ref (q 13), .int 0, .ref (q 14), .ref (q 15), .ref (q 16)])), (q 12, .inr (1, [.int 0, .int 0, .int 0, .int 0, .int 0, .int 0, .int 0, .ref (q 17), .ref (q 18), .ref (q 19), .ref (q 20), .ref (q 21), .ref (q 22), .ref (q 23)])), (q 6, .inr (4, [.ref (q 24), .ref (q 25), .ref (q 26)])), (q 24, .inl (k 0, 4, .inl wf)), (q 5, .inl (k 3, 3, .inl (fun _ => 0))), (q 1, .inr (6, [.ref (q 27), .int 0])), (q 2, .inr (2, [.ref (q 1), .ref (q 28), .int 0, .int (-1), .int 0, .int 0, .int 0, .int 0]))] s.heap := hF.1
  have hK := hF.2.1
  have hl := lv_entry ([.ref (q 12)]) (n := 1) (Nat.le_of_ble_eq_true rfl)
  rw [lg_entry_eq]
  generalize (lg_sl ([.ref (q 12)]) ++ List.replicate (1 - (lg_sl ([.ref (q 12)])).length) Slot.unset).toArray = ls at hl ⊢
  have hl : lv_has ls 1 [(0, .ref (q 12))] := hl
  refine lv_aload_n hx hb dX1_isTold_0 rfl (lv_at hl 0 rfl) ?_
  refine va_get (D := D) (ci := 1) (v := .int 0) (C := RX1) (T := TX1) (N := 14) hx hb hT in_X1 hown hK hP 2 rfl rfl 0 (by decide) (hT _ t195) (fun _ h9 => h9) rfl dX1_isTold_1 ?_
  refine lv_if_le (tgt := 11) hx hb dX1_isTold_4 (by decide) (fun c_1 => ?_) (fun c_1 => ?_)
  rotate_left
  · first | exact absurd c_1 (by decide) | exact absurd (by decide) c_1
  refine lv_iconst (v := 0) hx hb dX1_isTold_11 (by decide) ?_
  exact W.zret (v := 0) (ty := .boolean) hx hb hr rfl (fun t ht hW => ⟨0, rfl, rfl, ht⟩) (fun _ h9 => by cases h9) dX1_isTold_12
set_option maxHeartbeats 4000000 in
set_option maxRecDepth 100000 in
theorem c_X4_isSlot (l : Launch) (D : va_G) (k : Nat → ClassId) (q : Nat → Nat) (wf : Nat → Int32) (p0 : Int32)  : Met l yX4_isSlot (.code yX4_isSlot cX4_isSlot 2 (some .boolean) :: TB) (rmk 1) (va_Pc [.ref (q 6), .int p0] (fun U => FWH D k q wf U U.heap)) (vp_Si (fun r => (r = 1 ∧ in4 p0) ∨ (r = 0 ∧ (p0 < 0 ∨ 4 ≤ p0)))) 0 0 (fun _ => False) := by
  refine Met.ofW (cc := cX4_isSlot) (maxL := 2) (ret := (some .boolean)) (by decide) rfl ?_
  intro p e s m args below meth c s₁ B hml hv
  obtain ⟨rfl, hF⟩ := hv
  have hx := B.exec
  have hb := B.bytes
  have hr := B.returns
  have hT : ∀ w ∈ TB, w.before ([.ref (q 6), .int p0] : List Value).toArray s = true := fun w h => atoms_spec (ws := .code yX4_isSlot cX4_isSlot 2 (some .boolean) :: TB) B.pre w (List.mem_cons_of_mem _ h)
  have hown : s.vm.findClass RX4 = some m.cls := findClass_of_methodNamed B.named
  have S : CallFix p m c cX4_isSlot 2 s _ TB RX4 := ⟨hx, hb, hml, hown, hT⟩
  have hP : va_P D vwCl [(q 0, .inr (9, [.ref (q 1), .ref (q 2), .ref (q 3), .ref (q 4), .ref (q 5), .ref (q 6), .ref (q 7), .ref (q 8), .ref (q 9), .ref (q 10), .ref (q 11)])), (q 3, .inr (8, [.ref (q 12), .ref (q 13), .int 0, .ref (q 14), .ref (q 15), .ref (q 16)])), (q 12, .inr (1, [.int 0, .int 0, .int 0, .int 0, .int 0, .int 0, .int 0, .ref (q 17), .ref (q 18), .ref (q 19), .ref (q 20), .ref (q 21), .ref (q 22), .ref (q 23)])), (q 6, .inr (4, [.ref (q 24), .ref (q 25), .ref (q 26)])), (q 24, .inl (k 0, 4, .inl wf)), (q 5, .inl (k 3, 3, .inl (fun _ => 0))), (q 1, .inr (6, [.ref (q 27), .int 0])), (q 2, .inr (2, [.ref (q 1), .ref (q 28), .int 0, .int (-1), .int 0, .int 0, .int 0, .int 0]))] s.heap := hF.1
  have hK := hF.2.1
  have hl := lv_entry ([.ref (q 6), .int p0]) (n := 2) (Nat.le_of_ble_eq_true rfl)
  rw [lg_entry_eq]
  generalize (lg_sl ([.ref (q 6), .int p0]) ++ List.replicate (2 - (lg_sl ([.ref (q 6), .int p0])).length) Slot.unset).toArray = ls at hl ⊢
  have hl : lv_has ls 2 [(0, .ref (q 6)), (1, .int p0)] := hl
  refine lv_iload_n hx hb dX4_isSlot_0 rfl (lv_at hl 1 rfl) ?_
  refine lv_if_lt (tgt := 13) hx hb dX4_isSlot_1 (by decide) (fun c_1 => ?_) (fun c_1 => ?_)
  · skip
    refine lv_iconst (v := 0) hx hb dX4_isSlot_13 (by decide) ?_
    exact W.zret (v := 0) (ty := .boolean) hx hb hr rfl (fun t ht hW => ⟨0, rfl, Or.inr ⟨rfl, Or.inl c_1⟩, ht⟩) (fun _ h9 => by cases h9) dX4_isSlot_14
  · skip
    refine lv_iload_n hx hb dX4_isSlot_4 rfl (lv_at hl 1 rfl) ?_
    refine lv_iconst (v := 4) hx hb dX4_isSlot_5 (by decide) ?_
    refine lv_icmp_ge (tgt := 13) hx hb dX4_isSlot_6 (by decide) (fun c_2 => ?_) (fun c_2 => ?_)
    · skip
      refine lv_iconst (v := 0) hx hb dX4_isSlot_13 (by decide) ?_
      exact W.zret (v := 0) (ty := .boolean) hx hb hr rfl (fun t ht hW => ⟨0, rfl, Or.inr ⟨rfl, Or.inr c_2⟩, ht⟩) (fun _ h9 => by cases h9) dX4_isSlot_14
    · skip
      refine lv_iconst (v := 1) hx hb dX4_isSlot_9 (by decide) ?_
      refine lv_goto (tgt := 14) hx hb dX4_isSlot_10 (by decide) ?_
      exact W.zret (v := 1) (ty := .boolean) hx hb hr rfl (fun t ht hW => ⟨1, rfl, Or.inl ⟨rfl, c_1, (Int32.not_le.mp c_2)⟩, ht⟩) (fun _ h9 => by cases h9) dX4_isSlot_14
set_option maxHeartbeats 4000000 in
set_option maxRecDepth 100000 in
theorem c_X4_hasRow (l : Launch) (D : va_G) (k : Nat → ClassId) (q : Nat → Nat) (wf : Nat → Int32) (p0 : Int32) (hp : vp_in p0 4) : Met l yX4_hasRow (.code yX4_hasRow cX4_hasRow 2 (some .boolean) :: TB) (rmk 1) (va_Pc [.ref (q 6), .int p0] (fun U => FWH D k q wf U U.heap)) (vp_Si (fun r => r = 0)) 0 0 (fun _ => False) := by
  refine Met.ofW (cc := cX4_hasRow) (maxL := 2) (ret := (some .boolean)) (by decide) rfl ?_
  intro p e s m args below meth c s₁ B hml hv
  obtain ⟨rfl, hF⟩ := hv
  have hx := B.exec
  have hb := B.bytes
  have hr := B.returns
  have hT : ∀ w ∈ TB, w.before ([.ref (q 6), .int p0] : List Value).toArray s = true := fun w h => atoms_spec (ws := .code yX4_hasRow cX4_hasRow 2 (some .boolean) :: TB) B.pre w (List.mem_cons_of_mem _ h)
  have hown : s.vm.findClass RX4 = some m.cls := findClass_of_methodNamed B.named
  have S : CallFix p m c cX4_hasRow 2 s _ TB RX4 := ⟨hx, hb, hml, hown, hT⟩
  have hP : va_P D vwCl [(q 0, .inr (9, [.ref (q 1), .ref (q 2), .ref (q 3), .ref (q 4), .ref (q 5), .ref (q 6), .ref (q 7), .ref (q 8), .ref (q 9), .ref (q 10), .ref (q 11)])), (q 3, .inr (8, [.ref (q 12), .ref (q 13), .int 0, .ref (q 14), .ref (q 15), .ref (q 16)])), (q 12, .inr (1, [.int 0, .int 0, .int 0, .int 0, .int 0, .int 0, .int 0, .ref (q 17), .ref (q 18), .ref (q 19), .ref (q 20), .ref (q 21), .ref (q 22), .ref (q 23)])), (q 6, .inr (4, [.ref (q 24), .ref (q 25), .ref (q 26)])), (q 24, .inl (k 0, 4, .inl wf)), (q 5, .inl (k 3, 3, .inl (fun _ => 0))), (q 1, .inr (6, [.ref (q 27), .int 0])), (q 2, .inr (2, [.ref (q 1), .ref (q 28), .int 0, .int (-1), .int 0, .int 0, .int 0, .int 0]))] s.heap := hF.1
  have hK := hF.2.1
  have hl := lv_entry ([.ref (q 6), .int p0]) (n := 2) (Nat.le_of_ble_eq_true rfl)
  rw [lg_entry_eq]
  generalize (lg_sl ([.ref (q 6), .int p0]) ++ List.replicate (2 - (lg_sl ([.ref (q 6), .int p0])).length) Slot.unset).toArray = ls at hl ⊢
  have hl : lv_has ls 2 [(0, .ref (q 6)), (1, .int p0)] := hl
  refine lv_aload_n hx hb dX4_hasRow_0 rfl (lv_at hl 0 rfl) ?_
  refine va_get (D := D) (ci := 4) (v := .ref (q 24)) (C := RX4) (T := TX4) (N := 3) hx hb hT in_X4 hown hK hP 3 rfl rfl 0 (by decide) (hT _ t343) (fun _ h9 => h9) rfl dX4_hasRow_1 ?_
  refine lv_iload_n hx hb dX4_hasRow_4 rfl (lv_at hl 1 rfl) ?_
  refine va_iald hx hb hK hP 4 0 rfl rfl hp dX4_hasRow_5 ?_
  refine k_top (y := (-1)) (hF.2.2 _ (vp_in_lt hp)) ?_
  refine lv_iconst (v := (-1)) hx hb dX4_hasRow_6 (by decide) ?_
  refine lv_icmp_eq (tgt := 14) hx hb dX4_hasRow_7 (by decide) (fun c_1 => ?_) (fun c_1 => ?_)
  rotate_left
  · first | exact absurd c_1 (by decide) | exact absurd (by decide) c_1
  refine lv_iconst (v := 0) hx hb dX4_hasRow_14 (by decide) ?_
  exact W.zret (v := 0) (ty := .boolean) hx hb hr rfl (fun t ht hW => ⟨0, rfl, rfl, ht⟩) (fun _ h9 => by cases h9) dX4_hasRow_15
set_option maxHeartbeats 4000000 in
set_option maxRecDepth 100000 in
theorem c_X4_rowCount (l : Launch) (D : va_G) (k : Nat → ClassId) (q : Nat → Nat) (wf : Nat → Int32)   : Met l yX4_rowCount (.code yX4_rowCount cX4_rowCount 3 (some .int) :: TB) (rmk 2) (va_Pc [.ref (q 6)] (fun U => FWH D k q wf U U.heap)) (vp_Si (fun r => r = 0)) 0 0 (fun _ => False) := by
  refine Met.ofW (cc := cX4_rowCount) (maxL := 3) (ret := (some .int)) (by decide) rfl ?_
  intro p e s m args below meth c s₁ B hml hv
  obtain ⟨rfl, hF⟩ := hv
  have hx := B.exec
  have hb := B.bytes
  have hr := B.returns
  have hT : ∀ w ∈ TB, w.before ([.ref (q 6)] : List Value).toArray s = true := fun w h => atoms_spec (ws := .code yX4_rowCount cX4_rowCount 3 (some .int) :: TB) B.pre w (List.mem_cons_of_mem _ h)
  have hown : s.vm.findClass RX4 = some m.cls := findClass_of_methodNamed B.named
  have S : CallFix p m c cX4_rowCount 3 s _ TB RX4 := ⟨hx, hb, hml, hown, hT⟩
  have hP : va_P D vwCl [(q 0, .inr (9, [.ref (q 1), .ref (q 2), .ref (q 3), .ref (q 4), .ref (q 5), .ref (q 6), .ref (q 7), .ref (q 8), .ref (q 9), .ref (q 10), .ref (q 11)])), (q 3, .inr (8, [.ref (q 12), .ref (q 13), .int 0, .ref (q 14), .ref (q 15), .ref (q 16)])), (q 12, .inr (1, [.int 0, .int 0, .int 0, .int 0, .int 0, .int 0, .int 0, .ref (q 17), .ref (q 18), .ref (q 19), .ref (q 20), .ref (q 21), .ref (q 22), .ref (q 23)])), (q 6, .inr (4, [.ref (q 24), .ref (q 25), .ref (q 26)])), (q 24, .inl (k 0, 4, .inl wf)), (q 5, .inl (k 3, 3, .inl (fun _ => 0))), (q 1, .inr (6, [.ref (q 27), .int 0])), (q 2, .inr (2, [.ref (q 1), .ref (q 28), .int 0, .int (-1), .int 0, .int 0, .int 0, .int 0]))] s.heap := hF.1
  have hK := hF.2.1
  have hl := lv_entry ([.ref (q 6)]) (n := 3) (Nat.le_of_ble_eq_true rfl)
  rw [lg_entry_eq]
  generalize (lg_sl ([.ref (q 6)]) ++ List.replicate (3 - (lg_sl ([.ref (q 6)])).length) Slot.unset).toArray = ls at hl ⊢
  have hl : lv_has ls 3 [(0, .ref (q 6))] := hl
  refine lv_iconst (v := 0) hx hb dX4_rowCount_0 (by decide) ?_
  refine lv_istore_n (lv' := [(1, .int 0), (0, .ref (q 6))]) hx hb dX4_rowCount_1 rfl hl (by decide) rfl (fun ls hl => ?_)
  refine lv_iconst (v := 0) hx hb dX4_rowCount_2 (by decide) ?_
  refine lv_istore_n (lv' := [(2, .int 0), (1, .int 0), (0, .ref (q 6))]) hx hb dX4_rowCount_3 rfl hl (by decide) rfl (fun ls hl => ?_)
  refine lv_iload_n hx hb dX4_rowCount_4 rfl (lv_at hl 0 rfl) ?_
  refine lv_iconst (v := 4) hx hb dX4_rowCount_5 (by decide) ?_
  refine lv_icmp_ge (tgt := 26) hx hb dX4_rowCount_6 (by decide) (fun c_1 => ?_) (fun c_1 => ?_)
  · first | exact absurd c_1 (by decide) | exact absurd (by decide) c_1
  refine lv_aload_n hx hb dX4_rowCount_9 rfl (lv_at hl 2 rfl) ?_
  refine lv_iload_n hx hb dX4_rowCount_10 rfl (lv_at hl 0 rfl) ?_
  refine ro_V (As := [.int 0]) (rest := []) S (c_X4_hasRow l D k q wf 0 (by unfold vp_in; decide)) lkX4_29 ok_X4_hasRow ⟨rfl, rfl, Nat.le_of_ble_eq_true rfl, Nat.le_of_ble_eq_true rfl⟩ (fw_V (ci := 4) (q0 := 3) hF rfl rfl) rfl hl.1 rfl (Nat.le_of_ble_eq_true rfl) ⟨Nat.zero_le _, Nat.zero_le _⟩ dX4_rowCount_11 (fun r_2 er_2 => ?_)
  subst er_2
  refine lv_if_eq (tgt := 20) hx hb dX4_rowCount_14 (by decide) (fun c_3 => ?_) (fun c_3 => ?_)
  rotate_left
  · first | exact absurd c_3 (by decide) | exact absurd (by decide) c_3
  refine lv_iinc (v := 1) (lv' := [(2, .int 1), (1, .int 0), (0, .ref (q 6))]) hx hb dX4_rowCount_20 hl (k := 0) rfl (by decide) (by decide) rfl (fun ls hl => ?_)
  refine lv_goto (tgt := 4) hx hb dX4_rowCount_23 (by decide) ?_
  refine lv_iload_n hx hb dX4_rowCount_4 rfl (lv_at hl 0 rfl) ?_
  refine lv_iconst (v := 4) hx hb dX4_rowCount_5 (by decide) ?_
  refine lv_icmp_ge (tgt := 26) hx hb dX4_rowCount_6 (by decide) (fun c_4 => ?_) (fun c_4 => ?_)
  · first | exact absurd c_4 (by decide) | exact absurd (by decide) c_4
  refine lv_aload_n hx hb dX4_rowCount_9 rfl (lv_at hl 2 rfl) ?_
  refine lv_iload_n hx hb dX4_rowCount_10 rfl (lv_at hl 0 rfl) ?_
  refine ro_V (As := [.int 1]) (rest := []) S (c_X4_hasRow l D k q wf 1 (by unfold vp_in; decide)) lkX4_29 ok_X4_hasRow ⟨rfl, rfl, Nat.le_of_ble_eq_true rfl, Nat.le_of_ble_eq_true rfl⟩ (fw_V (ci := 4) (q0 := 3) hF rfl rfl) rfl hl.1 rfl (Nat.le_of_ble_eq_true rfl) ⟨Nat.zero_le _, Nat.zero_le _⟩ dX4_rowCount_11 (fun r_5 er_5 => ?_)
  subst er_5
  refine lv_if_eq (tgt := 20) hx hb dX4_rowCount_14 (by decide) (fun c_6 => ?_) (fun c_6 => ?_)
  rotate_left
  · first | exact absurd c_6 (by decide) | exact absurd (by decide) c_6
  refine lv_iinc (v := 2) (lv' := [(2, .int 2), (1, .int 0), (0, .ref (q 6))]) hx hb dX4_rowCount_20 hl (k := 0) rfl (by decide) (by decide) rfl (fun ls hl => ?_)
  refine lv_goto (tgt := 4) hx hb dX4_rowCount_23 (by decide) ?_
  refine lv_iload_n hx hb dX4_rowCount_4 rfl (lv_at hl 0 rfl) ?_
  refine lv_iconst (v := 4) hx hb dX4_rowCount_5 (by decide) ?_
  refine lv_icmp_ge (tgt := 26) hx hb dX4_rowCount_6 (by decide) (fun c_7 => ?_) (fun c_7 => ?_)
  · first | exact absurd c_7 (by decide) | exact absurd (by decide) c_7
  refine lv_aload_n hx hb dX4_rowCount_9 rfl (lv_at hl 2 rfl) ?_
  refine lv_iload_n hx hb dX4_rowCount_10 rfl (lv_at hl 0 rfl) ?_
  refine ro_V (As := [.int 2]) (rest := []) S (c_X4_hasRow l D k q wf 2 (by unfold vp_in; decide)) lkX4_29 ok_X4_hasRow ⟨rfl, rfl, Nat.le_of_ble_eq_true rfl, Nat.le_of_ble_eq_true rfl⟩ (fw_V (ci := 4) (q0 := 3) hF rfl rfl) rfl hl.1 rfl (Nat.le_of_ble_eq_true rfl) ⟨Nat.zero_le _, Nat.zero_le _⟩ dX4_rowCount_11 (fun r_8 er_8 => ?_)
  subst er_8
  refine lv_if_eq (tgt := 20) hx hb dX4_rowCount_14 (by decide) (fun c_9 => ?_) (fun c_9 => ?_)
  rotate_left
  · first | exact absurd c_9 (by decide) | exact absurd (by decide) c_9
  refine lv_iinc (v := 3) (lv' := [(2, .int 3), (1, .int 0), (0, .ref (q 6))]) hx hb dX4_rowCount_20 hl (k := 0) rfl (by decide) (by decide) rfl (fun ls hl => ?_)
  refine lv_goto (tgt := 4) hx hb dX4_rowCount_23 (by decide) ?_
  refine lv_iload_n hx hb dX4_rowCount_4 rfl (lv_at hl 0 rfl) ?_
  refine lv_iconst (v := 4) hx hb dX4_rowCount_5 (by decide) ?_
  refine lv_icmp_ge (tgt := 26) hx hb dX4_rowCount_6 (by decide) (fun c_10 => ?_) (fun c_10 => ?_)
  · first | exact absurd c_10 (by decide) | exact absurd (by decide) c_10
  refine lv_aload_n hx hb dX4_rowCount_9 rfl (lv_at hl 2 rfl) ?_
  refine lv_iload_n hx hb dX4_rowCount_10 rfl (lv_at hl 0 rfl) ?_
  refine ro_V (As := [.int 3]) (rest := []) S (c_X4_hasRow l D k q wf 3 (by unfold vp_in; decide)) lkX4_29 ok_X4_hasRow ⟨rfl, rfl, Nat.le_of_ble_eq_true rfl, Nat.le_of_ble_eq_true rfl⟩ (fw_V (ci := 4) (q0 := 3) hF rfl rfl) rfl hl.1 rfl (Nat.le_of_ble_eq_true rfl) ⟨Nat.zero_le _, Nat.zero_le _⟩ dX4_rowCount_11 (fun r_11 er_11 => ?_)
  subst er_11
  refine lv_if_eq (tgt := 20) hx hb dX4_rowCount_14 (by decide) (fun c_12 => ?_) (fun c_12 => ?_)
  rotate_left
  · first | exact absurd c_12 (by decide) | exact absurd (by decide) c_12
  refine lv_iinc (v := 4) (lv' := [(2, .int 4), (1, .int 0), (0, .ref (q 6))]) hx hb dX4_rowCount_20 hl (k := 0) rfl (by decide) (by decide) rfl (fun ls hl => ?_)
  refine lv_goto (tgt := 4) hx hb dX4_rowCount_23 (by decide) ?_
  refine lv_iload_n hx hb dX4_rowCount_4 rfl (lv_at hl 0 rfl) ?_
  refine lv_iconst (v := 4) hx hb dX4_rowCount_5 (by decide) ?_
  refine lv_icmp_ge (tgt := 26) hx hb dX4_rowCount_6 (by decide) (fun c_13 => ?_) (fun c_13 => ?_)
  rotate_left
  · first | exact absurd c_13 (by decide) | exact absurd (by decide) c_13
  refine lv_iload_n hx hb dX4_rowCount_26 rfl (lv_at hl 1 rfl) ?_
  exact W.iret (v := 0) hx hb hr (fun t ht hW => ⟨0, rfl, rfl, ht⟩) (fun _ h9 => by cases h9) dX4_rowCount_27
set_option maxHeartbeats 4000000 in
set_option maxRecDepth 100000 in
theorem c_X9_isByCart (l : Launch) (D : va_G) (k : Nat → ClassId) (q : Nat → Nat) (wf : Nat → Int32) (p0 : Int32) (p1 : Int32)  : Met l yX9_isByCart (.code yX9_isByCart cX9_isByCart 3 (some .boolean) :: TB) (rmk 2) (va_Pc [.ref (q 0), .int p0, .int p1] (fun U => FWH D k q wf U U.heap)) (vp_Si (fun r => r = 0)) 0 0 (fun _ => False) := by
  refine Met.ofW (cc := cX9_isByCart) (maxL := 3) (ret := (some .boolean)) (by decide) rfl ?_
  intro p e s m args below meth c s₁ B hml hv
  obtain ⟨rfl, hF⟩ := hv
  have hx := B.exec
  have hb := B.bytes
  have hr := B.returns
  have hT : ∀ w ∈ TB, w.before ([.ref (q 0), .int p0, .int p1] : List Value).toArray s = true := fun w h => atoms_spec (ws := .code yX9_isByCart cX9_isByCart 3 (some .boolean) :: TB) B.pre w (List.mem_cons_of_mem _ h)
  have hown : s.vm.findClass RX9 = some m.cls := findClass_of_methodNamed B.named
  have S : CallFix p m c cX9_isByCart 3 s _ TB RX9 := ⟨hx, hb, hml, hown, hT⟩
  have hP : va_P D vwCl [(q 0, .inr (9, [.ref (q 1), .ref (q 2), .ref (q 3), .ref (q 4), .ref (q 5), .ref (q 6), .ref (q 7), .ref (q 8), .ref (q 9), .ref (q 10), .ref (q 11)])), (q 3, .inr (8, [.ref (q 12), .ref (q 13), .int 0, .ref (q 14), .ref (q 15), .ref (q 16)])), (q 12, .inr (1, [.int 0, .int 0, .int 0, .int 0, .int 0, .int 0, .int 0, .ref (q 17), .ref (q 18), .ref (q 19), .ref (q 20), .ref (q 21), .ref (q 22), .ref (q 23)])), (q 6, .inr (4, [.ref (q 24), .ref (q 25), .ref (q 26)])), (q 24, .inl (k 0, 4, .inl wf)), (q 5, .inl (k 3, 3, .inl (fun _ => 0))), (q 1, .inr (6, [.ref (q 27), .int 0])), (q 2, .inr (2, [.ref (q 1), .ref (q 28), .int 0, .int (-1), .int 0, .int 0, .int 0, .int 0]))] s.heap := hF.1
  have hK := hF.2.1
  have hl := lv_entry ([.ref (q 0), .int p0, .int p1]) (n := 3) (Nat.le_of_ble_eq_true rfl)
  rw [lg_entry_eq]
  generalize (lg_sl ([.ref (q 0), .int p0, .int p1]) ++ List.replicate (3 - (lg_sl ([.ref (q 0), .int p0, .int p1])).length) Slot.unset).toArray = ls at hl ⊢
  have hl : lv_has ls 3 [(0, .ref (q 0)), (1, .int p0), (2, .int p1)] := hl
  refine lv_aload_n hx hb dX9_isByCart_0 rfl (lv_at hl 0 rfl) ?_
  refine va_get (D := D) (ci := 9) (v := .ref (q 3)) (C := RX9) (T := TX9) (N := 11) hx hb hT in_X9 hown hK hP 0 rfl rfl 2 (by decide) (hT _ t453) (fun _ h9 => h9) rfl dX9_isByCart_1 ?_
  refine va_get (D := D) (ci := 8) (v := .ref (q 12)) (C := RX8) (T := TX8) (N := 6) hx hb hT in_X8 hown hK hP 1 rfl rfl 0 (by decide) (hT _ t312) (fun _ h9 => h9) rfl dX9_isByCart_4 ?_
  refine lv_iload_n hx hb dX9_isByCart_7 rfl (lv_at hl 1 rfl) ?_
  refine ro_V (As := [.int p0]) (rest := []) S (c_X1_isCart l D k q wf p0) lkX9_147 ok_X1_isCart ⟨rfl, rfl, Nat.le_of_ble_eq_true rfl, Nat.le_of_ble_eq_true rfl⟩ (fw_V (ci := 1) (q0 := 2) hF rfl rfl) rfl hl.1 rfl (Nat.le_of_ble_eq_true rfl) ⟨Nat.zero_le _, Nat.zero_le _⟩ dX9_isByCart_8 (fun r_1 er_1 => ?_)
  subst er_1
  refine lv_if_eq (tgt := 44) hx hb dX9_isByCart_11 (by decide) (fun c_2 => ?_) (fun c_2 => ?_)
  rotate_left
  · first | exact absurd c_2 (by decide) | exact absurd (by decide) c_2
  refine lv_iconst (v := 0) hx hb dX9_isByCart_44 (by decide) ?_
  exact W.zret (v := 0) (ty := .boolean) hx hb hr rfl (fun t ht hW => ⟨0, rfl, rfl, ht⟩) (fun _ h9 => by cases h9) dX9_isByCart_45
set_option maxHeartbeats 4000000 in
set_option maxRecDepth 100000 in
theorem c_X9_canWant (l : Launch) (D : va_G) (k : Nat → ClassId) (q : Nat → Nat) (wf : Nat → Int32) (p0 : Int32) (p1 : Int32)  : Met l yX9_canWant (.code yX9_canWant cX9_canWant 3 (some .boolean) :: TB) (rmk 3) (va_Pc [.ref (q 0), .int p0, .int p1] (fun U => FWH D k q wf U U.heap)) (vp_Si (fun r => r = 0)) 0 0 (fun _ => False) := by
  refine Met.ofW (cc := cX9_canWant) (maxL := 3) (ret := (some .boolean)) (by decide) rfl ?_
  intro p e s m args below meth c s₁ B hml hv
  obtain ⟨rfl, hF⟩ := hv
  have hx := B.exec
  have hb := B.bytes
  have hr := B.returns
  have hT : ∀ w ∈ TB, w.before ([.ref (q 0), .int p0, .int p1] : List Value).toArray s = true := fun w h => atoms_spec (ws := .code yX9_canWant cX9_canWant 3 (some .boolean) :: TB) B.pre w (List.mem_cons_of_mem _ h)
  have hown : s.vm.findClass RX9 = some m.cls := findClass_of_methodNamed B.named
  have S : CallFix p m c cX9_canWant 3 s _ TB RX9 := ⟨hx, hb, hml, hown, hT⟩
  have hP : va_P D vwCl [(q 0, .inr (9, [.ref (q 1), .ref (q 2), .ref (q 3), .ref (q 4), .ref (q 5), .ref (q 6), .ref (q 7), .ref (q 8), .ref (q 9), .ref (q 10), .ref (q 11)])), (q 3, .inr (8, [.ref (q 12), .ref (q 13), .int 0, .ref (q 14), .ref (q 15), .ref (q 16)])), (q 12, .inr (1, [.int 0, .int 0, .int 0, .int 0, .int 0, .int 0, .int 0, .ref (q 17), .ref (q 18), .ref (q 19), .ref (q 20), .ref (q 21), .ref (q 22), .ref (q 23)])), (q 6, .inr (4, [.ref (q 24), .ref (q 25), .ref (q 26)])), (q 24, .inl (k 0, 4, .inl wf)), (q 5, .inl (k 3, 3, .inl (fun _ => 0))), (q 1, .inr (6, [.ref (q 27), .int 0])), (q 2, .inr (2, [.ref (q 1), .ref (q 28), .int 0, .int (-1), .int 0, .int 0, .int 0, .int 0]))] s.heap := hF.1
  have hK := hF.2.1
  have hl := lv_entry ([.ref (q 0), .int p0, .int p1]) (n := 3) (Nat.le_of_ble_eq_true rfl)
  rw [lg_entry_eq]
  generalize (lg_sl ([.ref (q 0), .int p0, .int p1]) ++ List.replicate (3 - (lg_sl ([.ref (q 0), .int p0, .int p1])).length) Slot.unset).toArray = ls at hl ⊢
  have hl : lv_has ls 3 [(0, .ref (q 0)), (1, .int p0), (2, .int p1)] := hl
  refine lv_aload_n hx hb dX9_canWant_0 rfl (lv_at hl 0 rfl) ?_
  refine va_get (D := D) (ci := 9) (v := .ref (q 3)) (C := RX9) (T := TX9) (N := 11) hx hb hT in_X9 hown hK hP 0 rfl rfl 2 (by decide) (hT _ t453) (fun _ h9 => h9) rfl dX9_canWant_1 ?_
  refine va_get (D := D) (ci := 8) (v := .ref (q 12)) (C := RX8) (T := TX8) (N := 6) hx hb hT in_X8 hown hK hP 1 rfl rfl 0 (by decide) (hT _ t312) (fun _ h9 => h9) rfl dX9_canWant_4 ?_
  refine lv_iload_n hx hb dX9_canWant_7 rfl (lv_at hl 1 rfl) ?_
  refine ro_V (As := [.int p0]) (rest := []) S (c_X1_isCart l D k q wf p0) lkX9_147 ok_X1_isCart ⟨rfl, rfl, Nat.le_of_ble_eq_true rfl, Nat.le_of_ble_eq_true rfl⟩ (fw_V (ci := 1) (q0 := 2) hF rfl rfl) rfl hl.1 rfl (Nat.le_of_ble_eq_true rfl) ⟨Nat.zero_le _, Nat.zero_le _⟩ dX9_canWant_8 (fun r_1 er_1 => ?_)
  subst er_1
  refine lv_if_eq (tgt := 32) hx hb dX9_canWant_11 (by decide) (fun c_2 => ?_) (fun c_2 => ?_)
  rotate_left
  · first | exact absurd c_2 (by decide) | exact absurd (by decide) c_2
  refine lv_iconst (v := 0) hx hb dX9_canWant_32 (by decide) ?_
  exact W.zret (v := 0) (ty := .boolean) hx hb hr rfl (fun t ht hW => ⟨0, rfl, rfl, ht⟩) (fun _ h9 => by cases h9) dX9_canWant_33
set_option maxHeartbeats 4000000 in
set_option maxRecDepth 100000 in
theorem c_X9_canDraw (l : Launch) (D : va_G) (k : Nat → ClassId) (q : Nat → Nat) (wf : Nat → Int32) (p0 : Int32) (p1 : Int32) (p2 : Int32)  : Met l yX9_canDraw (.code yX9_canDraw cX9_canDraw 4 (some .boolean) :: TB) (rmk 2) (va_Pc [.ref (q 0), .int p0, .int p1, .int p2] (fun U => FWH D k q wf U U.heap)) (vp_Si (fun r => r = 0)) 0 0 (fun _ => False) := by
  refine Met.ofW (cc := cX9_canDraw) (maxL := 4) (ret := (some .boolean)) (by decide) rfl ?_
  intro p e s m args below meth c s₁ B hml hv
  obtain ⟨rfl, hF⟩ := hv
  have hx := B.exec
  have hb := B.bytes
  have hr := B.returns
  have hT : ∀ w ∈ TB, w.before ([.ref (q 0), .int p0, .int p1, .int p2] : List Value).toArray s = true := fun w h => atoms_spec (ws := .code yX9_canDraw cX9_canDraw 4 (some .boolean) :: TB) B.pre w (List.mem_cons_of_mem _ h)
  have hown : s.vm.findClass RX9 = some m.cls := findClass_of_methodNamed B.named
  have S : CallFix p m c cX9_canDraw 4 s _ TB RX9 := ⟨hx, hb, hml, hown, hT⟩
  have hP : va_P D vwCl [(q 0, .inr (9, [.ref (q 1), .ref (q 2), .ref (q 3), .ref (q 4), .ref (q 5), .ref (q 6), .ref (q 7), .ref (q 8), .ref (q 9), .ref (q 10), .ref (q 11)])), (q 3, .inr (8, [.ref (q 12), .ref (q 13), .int 0, .ref (q 14), .ref (q 15), .ref (q 16)])), (q 12, .inr (1, [.int 0, .int 0, .int 0, .int 0, .int 0, .int 0, .int 0, .ref (q 17), .ref (q 18), .ref (q 19), .ref (q 20), .ref (q 21), .ref (q 22), .ref (q 23)])), (q 6, .inr (4, [.ref (q 24), .ref (q 25), .ref (q 26)])), (q 24, .inl (k 0, 4, .inl wf)), (q 5, .inl (k 3, 3, .inl (fun _ => 0))), (q 1, .inr (6, [.ref (q 27), .int 0])), (q 2, .inr (2, [.ref (q 1), .ref (q 28), .int 0, .int (-1), .int 0, .int 0, .int 0, .int 0]))] s.heap := hF.1
  have hK := hF.2.1
  have hl := lv_entry ([.ref (q 0), .int p0, .int p1, .int p2]) (n := 4) (Nat.le_of_ble_eq_true rfl)
  rw [lg_entry_eq]
  generalize (lg_sl ([.ref (q 0), .int p0, .int p1, .int p2]) ++ List.replicate (4 - (lg_sl ([.ref (q 0), .int p0, .int p1, .int p2])).length) Slot.unset).toArray = ls at hl ⊢
  have hl : lv_has ls 4 [(0, .ref (q 0)), (1, .int p0), (2, .int p1), (3, .int p2)] := hl
  refine lv_iload_n hx hb dX9_canDraw_0 rfl (lv_at hl 1 rfl) ?_
  refine lv_if_lt (tgt := 39) hx hb dX9_canDraw_1 (by decide) (fun c_1 => ?_) (fun c_1 => ?_)
  · skip
    refine lv_iconst (v := 0) hx hb dX9_canDraw_39 (by decide) ?_
    exact W.zret (v := 0) (ty := .boolean) hx hb hr rfl (fun t ht hW => ⟨0, rfl, rfl, ht⟩) (fun _ h9 => by cases h9) dX9_canDraw_40
  · skip
    refine lv_iload_n hx hb dX9_canDraw_4 rfl (lv_at hl 1 rfl) ?_
    refine lv_ldcw (v := 2000000000) hx hb hown (hT _ t1176) dX9_canDraw_5 ?_
    refine lv_icmp_gt (tgt := 39) hx hb dX9_canDraw_8 (by decide) (fun c_2 => ?_) (fun c_2 => ?_)
    · skip
      refine lv_iconst (v := 0) hx hb dX9_canDraw_39 (by decide) ?_
      exact W.zret (v := 0) (ty := .boolean) hx hb hr rfl (fun t ht hW => ⟨0, rfl, rfl, ht⟩) (fun _ h9 => by cases h9) dX9_canDraw_40
    · skip
      refine lv_aload_n hx hb dX9_canDraw_11 rfl (lv_at hl 0 rfl) ?_
      refine va_get (D := D) (ci := 9) (v := .ref (q 3)) (C := RX9) (T := TX9) (N := 11) hx hb hT in_X9 hown hK hP 0 rfl rfl 2 (by decide) (hT _ t453) (fun _ h9 => h9) rfl dX9_canDraw_12 ?_
      refine va_get (D := D) (ci := 8) (v := .ref (q 12)) (C := RX8) (T := TX8) (N := 6) hx hb hT in_X8 hown hK hP 1 rfl rfl 0 (by decide) (hT _ t312) (fun _ h9 => h9) rfl dX9_canDraw_15 ?_
      refine lv_iload_n hx hb dX9_canDraw_18 rfl (lv_at hl 2 rfl) ?_
      refine ro_V (As := [.int p1]) (rest := []) S (c_X1_isCart l D k q wf p1) lkX9_147 ok_X1_isCart ⟨rfl, rfl, Nat.le_of_ble_eq_true rfl, Nat.le_of_ble_eq_true rfl⟩ (fw_V (ci := 1) (q0 := 2) hF rfl rfl) rfl hl.1 rfl (Nat.le_of_ble_eq_true rfl) ⟨Nat.zero_le _, Nat.zero_le _⟩ dX9_canDraw_19 (fun r_3 er_3 => ?_)
      subst er_3
      refine lv_if_eq (tgt := 39) hx hb dX9_canDraw_22 (by decide) (fun c_4 => ?_) (fun c_4 => ?_)
      rotate_left
      · first | exact absurd c_4 (by decide) | exact absurd (by decide) c_4
      refine lv_iconst (v := 0) hx hb dX9_canDraw_39 (by decide) ?_
      exact W.zret (v := 0) (ty := .boolean) hx hb hr rfl (fun t ht hW => ⟨0, rfl, rfl, ht⟩) (fun _ h9 => by cases h9) dX9_canDraw_40
set_option maxHeartbeats 4000000 in
set_option maxRecDepth 100000 in
theorem c_X9_follow (l : Launch) (D : va_G) (k : Nat → ClassId) (q : Nat → Nat) (wf : Nat → Int32) (p0 : Int32) (p1 : Int32)  : Met l yX9_follow (.code yX9_follow cX9_follow 7 (some .int) :: TB) (rmk 2) (va_Pc [.ref (q 0), .int p0, .int p1] (fun U => FWH D k q wf U U.heap)) (vp_Si (fun r => r = (-2))) 0 0 (fun _ => False) := by
  refine Met.ofW (cc := cX9_follow) (maxL := 7) (ret := (some .int)) (by decide) rfl ?_
  intro p e s m args below meth c s₁ B hml hv
  obtain ⟨rfl, hF⟩ := hv
  have hx := B.exec
  have hb := B.bytes
  have hr := B.returns
  have hT : ∀ w ∈ TB, w.before ([.ref (q 0), .int p0, .int p1] : List Value).toArray s = true := fun w h => atoms_spec (ws := .code yX9_follow cX9_follow 7 (some .int) :: TB) B.pre w (List.mem_cons_of_mem _ h)
  have hown : s.vm.findClass RX9 = some m.cls := findClass_of_methodNamed B.named
  have S : CallFix p m c cX9_follow 7 s _ TB RX9 := ⟨hx, hb, hml, hown, hT⟩
  have hP : va_P D vwCl [(q 0, .inr (9, [.ref (q 1), .ref (q 2), .ref (q 3), .ref (q 4), .ref (q 5), .ref (q 6), .ref (q 7), .ref (q 8), .ref (q 9), .ref (q 10), .ref (q 11)])), (q 3, .inr (8, [.ref (q 12), .ref (q 13), .int 0, .ref (q 14), .ref (q 15), .ref (q 16)])), (q 12, .inr (1, [.int 0, .int 0, .int 0, .int 0, .int 0, .int 0, .int 0, .ref (q 17), .ref (q 18), .ref (q 19), .ref (q 20), .ref (q 21), .ref (q 22), .ref (q 23)])), (q 6, .inr (4, [.ref (q 24), .ref (q 25), .ref (q 26)])), (q 24, .inl (k 0, 4, .inl wf)), (q 5, .inl (k 3, 3, .inl (fun _ => 0))), (q 1, .inr (6, [.ref (q 27), .int 0])), (q 2, .inr (2, [.ref (q 1), .ref (q 28), .int 0, .int (-1), .int 0, .int 0, .int 0, .int 0]))] s.heap := hF.1
  have hK := hF.2.1
  have hl := lv_entry ([.ref (q 0), .int p0, .int p1]) (n := 7) (Nat.le_of_ble_eq_true rfl)
  rw [lg_entry_eq]
  generalize (lg_sl ([.ref (q 0), .int p0, .int p1]) ++ List.replicate (7 - (lg_sl ([.ref (q 0), .int p0, .int p1])).length) Slot.unset).toArray = ls at hl ⊢
  have hl : lv_has ls 7 [(0, .ref (q 0)), (1, .int p0), (2, .int p1)] := hl
  refine lv_aload_n hx hb dX9_follow_0 rfl (lv_at hl 0 rfl) ?_
  refine va_get (D := D) (ci := 9) (v := .ref (q 6)) (C := RX9) (T := TX9) (N := 11) hx hb hT in_X9 hown hK hP 0 rfl rfl 5 (by decide) (hT _ t456) (fun _ h9 => h9) rfl dX9_follow_1 ?_
  refine lv_iload_n hx hb dX9_follow_4 rfl (lv_at hl 1 rfl) ?_
  refine ro_V (As := [.int p0]) (rest := []) S (c_X4_isSlot l D k q wf p0) lkX9_238 ok_X4_isSlot ⟨rfl, rfl, Nat.le_of_ble_eq_true rfl, Nat.le_of_ble_eq_true rfl⟩ (fw_V (ci := 4) (q0 := 3) hF rfl rfl) rfl hl.1 rfl (Nat.le_of_ble_eq_true rfl) ⟨Nat.zero_le _, Nat.zero_le _⟩ dX9_follow_5 (fun r_1 er_1 => ?_)
  rcases er_1 with ⟨er_1, gr_1⟩ | ⟨er_1, gr_1⟩
  · subst er_1
    refine lv_if_eq (tgt := 25) hx hb dX9_follow_8 (by decide) (fun c_2 => ?_) (fun c_2 => ?_)
    · first | exact absurd c_2 (by decide) | exact absurd (by decide) c_2
    refine lv_aload_n hx hb dX9_follow_11 rfl (lv_at hl 0 rfl) ?_
    refine va_get (D := D) (ci := 9) (v := .ref (q 3)) (C := RX9) (T := TX9) (N := 11) hx hb hT in_X9 hown hK hP 0 rfl rfl 2 (by decide) (hT _ t453) (fun _ h9 => h9) rfl dX9_follow_12 ?_
    refine va_get (D := D) (ci := 8) (v := .ref (q 12)) (C := RX8) (T := TX8) (N := 6) hx hb hT in_X8 hown hK hP 1 rfl rfl 0 (by decide) (hT _ t312) (fun _ h9 => h9) rfl dX9_follow_15 ?_
    refine lv_iload_n hx hb dX9_follow_18 rfl (lv_at hl 2 rfl) ?_
    refine ro_V (As := [.int p1]) (rest := []) S (c_X1_isCart l D k q wf p1) lkX9_147 ok_X1_isCart ⟨rfl, rfl, Nat.le_of_ble_eq_true rfl, Nat.le_of_ble_eq_true rfl⟩ (fw_V (ci := 1) (q0 := 2) hF rfl rfl) rfl hl.1 rfl (Nat.le_of_ble_eq_true rfl) ⟨Nat.zero_le _, Nat.zero_le _⟩ dX9_follow_19 (fun r_3 er_3 => ?_)
    subst er_3
    refine lv_if_ne (tgt := 28) hx hb dX9_follow_22 (by decide) (fun c_4 => ?_) (fun c_4 => ?_)
    · first | exact absurd c_4 (by decide) | exact absurd (by decide) c_4
    refine lv_bipush (v := (-2)) hx hb dX9_follow_25 (by decide) ?_
    exact W.iret (v := (-2)) hx hb hr (fun t ht hW => ⟨(-2), rfl, rfl, ht⟩) (fun _ h9 => by cases h9) dX9_follow_27
  · subst er_1
    refine lv_if_eq (tgt := 25) hx hb dX9_follow_8 (by decide) (fun c_5 => ?_) (fun c_5 => ?_)
    rotate_left
    · first | exact absurd c_5 (by decide) | exact absurd (by decide) c_5
    refine lv_bipush (v := (-2)) hx hb dX9_follow_25 (by decide) ?_
    exact W.iret (v := (-2)) hx hb hr (fun t ht hW => ⟨(-2), rfl, rfl, ht⟩) (fun _ h9 => by cases h9) dX9_follow_27
set_option maxHeartbeats 4000000 in
set_option maxRecDepth 100000 in
theorem c_X9_fitting (l : Launch) (D : va_G) (k : Nat → ClassId) (q : Nat → Nat) (wf : Nat → Int32) (p0 : Int32)  : Met l yX9_fitting (.code yX9_fitting cX9_fitting 9 (some .int) :: TB) (rmk 2) (va_Pc [.ref (q 0), .int p0] (fun U => FWH D k q wf U U.heap)) (vp_Si (fun r => r = (-2))) 0 0 (fun _ => False) := by
  refine Met.ofW (cc := cX9_fitting) (maxL := 9) (ret := (some .int)) (by decide) rfl ?_
  intro p e s m args below meth c s₁ B hml hv
  obtain ⟨rfl, hF⟩ := hv
  have hx := B.exec
  have hb := B.bytes
  have hr := B.returns
  have hT : ∀ w ∈ TB, w.before ([.ref (q 0), .int p0] : List Value).toArray s = true := fun w h => atoms_spec (ws := .code yX9_fitting cX9_fitting 9 (some .int) :: TB) B.pre w (List.mem_cons_of_mem _ h)
  have hown : s.vm.findClass RX9 = some m.cls := findClass_of_methodNamed B.named
  have S : CallFix p m c cX9_fitting 9 s _ TB RX9 := ⟨hx, hb, hml, hown, hT⟩
  have hP : va_P D vwCl [(q 0, .inr (9, [.ref (q 1), .ref (q 2), .ref (q 3), .ref (q 4), .ref (q 5), .ref (q 6), .ref (q 7), .ref (q 8), .ref (q 9), .ref (q 10), .ref (q 11)])), (q 3, .inr (8, [.ref (q 12), .ref (q 13), .int 0, .ref (q 14), .ref (q 15), .ref (q 16)])), (q 12, .inr (1, [.int 0, .int 0, .int 0, .int 0, .int 0, .int 0, .int 0, .ref (q 17), .ref (q 18), .ref (q 19), .ref (q 20), .ref (q 21), .ref (q 22), .ref (q 23)])), (q 6, .inr (4, [.ref (q 24), .ref (q 25), .ref (q 26)])), (q 24, .inl (k 0, 4, .inl wf)), (q 5, .inl (k 3, 3, .inl (fun _ => 0))), (q 1, .inr (6, [.ref (q 27), .int 0])), (q 2, .inr (2, [.ref (q 1), .ref (q 28), .int 0, .int (-1), .int 0, .int 0, .int 0, .int 0]))] s.heap := hF.1
  have hK := hF.2.1
  have hl := lv_entry ([.ref (q 0), .int p0]) (n := 9) (Nat.le_of_ble_eq_true rfl)
  rw [lg_entry_eq]
  generalize (lg_sl ([.ref (q 0), .int p0]) ++ List.replicate (9 - (lg_sl ([.ref (q 0), .int p0])).length) Slot.unset).toArray = ls at hl ⊢
  have hl : lv_has ls 9 [(0, .ref (q 0)), (1, .int p0)] := hl
  refine lv_aload_n hx hb dX9_fitting_0 rfl (lv_at hl 0 rfl) ?_
  refine va_get (D := D) (ci := 9) (v := .ref (q 6)) (C := RX9) (T := TX9) (N := 11) hx hb hT in_X9 hown hK hP 0 rfl rfl 5 (by decide) (hT _ t456) (fun _ h9 => h9) rfl dX9_fitting_1 ?_
  refine lv_iload_n hx hb dX9_fitting_4 rfl (lv_at hl 1 rfl) ?_
  refine ro_V (As := [.int p0]) (rest := []) S (c_X4_isSlot l D k q wf p0) lkX9_238 ok_X4_isSlot ⟨rfl, rfl, Nat.le_of_ble_eq_true rfl, Nat.le_of_ble_eq_true rfl⟩ (fw_V (ci := 4) (q0 := 3) hF rfl rfl) rfl hl.1 rfl (Nat.le_of_ble_eq_true rfl) ⟨Nat.zero_le _, Nat.zero_le _⟩ dX9_fitting_5 (fun r_1 er_1 => ?_)
  rcases er_1 with ⟨er_1, gr_1⟩ | ⟨er_1, gr_1⟩
  · subst er_1
    refine lv_if_eq (tgt := 24) hx hb dX9_fitting_8 (by decide) (fun c_2 => ?_) (fun c_2 => ?_)
    · first | exact absurd c_2 (by decide) | exact absurd (by decide) c_2
    refine lv_aload_n hx hb dX9_fitting_11 rfl (lv_at hl 0 rfl) ?_
    refine va_get (D := D) (ci := 9) (v := .ref (q 3)) (C := RX9) (T := TX9) (N := 11) hx hb hT in_X9 hown hK hP 0 rfl rfl 2 (by decide) (hT _ t453) (fun _ h9 => h9) rfl dX9_fitting_12 ?_
    refine va_get (D := D) (ci := 8) (v := .ref (q 12)) (C := RX8) (T := TX8) (N := 6) hx hb hT in_X8 hown hK hP 1 rfl rfl 0 (by decide) (hT _ t312) (fun _ h9 => h9) rfl dX9_fitting_15 ?_
    refine ro_V (As := []) (rest := []) S (c_X1_isTold l D k q wf ) lkX9_211 ok_X1_isTold ⟨rfl, rfl, Nat.le_of_ble_eq_true rfl, Nat.le_of_ble_eq_true rfl⟩ (fw_V (ci := 1) (q0 := 2) hF rfl rfl) rfl hl.1 rfl (Nat.le_of_ble_eq_true rfl) ⟨Nat.zero_le _, Nat.zero_le _⟩ dX9_fitting_18 (fun r_3 er_3 => ?_)
    subst er_3
    refine lv_if_ne (tgt := 27) hx hb dX9_fitting_21 (by decide) (fun c_4 => ?_) (fun c_4 => ?_)
    · first | exact absurd c_4 (by decide) | exact absurd (by decide) c_4
    refine lv_bipush (v := (-2)) hx hb dX9_fitting_24 (by decide) ?_
    exact W.iret (v := (-2)) hx hb hr (fun t ht hW => ⟨(-2), rfl, rfl, ht⟩) (fun _ h9 => by cases h9) dX9_fitting_26
  · subst er_1
    refine lv_if_eq (tgt := 24) hx hb dX9_fitting_8 (by decide) (fun c_5 => ?_) (fun c_5 => ?_)
    rotate_left
    · first | exact absurd c_5 (by decide) | exact absurd (by decide) c_5
    refine lv_bipush (v := (-2)) hx hb dX9_fitting_24 (by decide) ?_
    exact W.iret (v := (-2)) hx hb hr (fun t ht hW => ⟨(-2), rfl, rfl, ht⟩) (fun _ h9 => by cases h9) dX9_fitting_26
set_option maxHeartbeats 4000000 in
set_option maxRecDepth 100000 in
theorem c_X9_road (l : Launch) (D : va_G) (k : Nat → ClassId) (q : Nat → Nat) (wf : Nat → Int32) (p0 : Int32) (p1 : Int32)  : Met l yX9_road (.code yX9_road cX9_road 3 (some .int) :: TB) (rmk 2) (va_Pc [.ref (q 0), .int p0, .int p1] (fun U => FWH D k q wf U U.heap)) (vp_Si (fun r => r = (-2))) 0 0 (fun _ => False) := by
  refine Met.ofW (cc := cX9_road) (maxL := 3) (ret := (some .int)) (by decide) rfl ?_
  intro p e s m args below meth c s₁ B hml hv
  obtain ⟨rfl, hF⟩ := hv
  have hx := B.exec
  have hb := B.bytes
  have hr := B.returns
  have hT : ∀ w ∈ TB, w.before ([.ref (q 0), .int p0, .int p1] : List Value).toArray s = true := fun w h => atoms_spec (ws := .code yX9_road cX9_road 3 (some .int) :: TB) B.pre w (List.mem_cons_of_mem _ h)
  have hown : s.vm.findClass RX9 = some m.cls := findClass_of_methodNamed B.named
  have S : CallFix p m c cX9_road 3 s _ TB RX9 := ⟨hx, hb, hml, hown, hT⟩
  have hP : va_P D vwCl [(q 0, .inr (9, [.ref (q 1), .ref (q 2), .ref (q 3), .ref (q 4), .ref (q 5), .ref (q 6), .ref (q 7), .ref (q 8), .ref (q 9), .ref (q 10), .ref (q 11)])), (q 3, .inr (8, [.ref (q 12), .ref (q 13), .int 0, .ref (q 14), .ref (q 15), .ref (q 16)])), (q 12, .inr (1, [.int 0, .int 0, .int 0, .int 0, .int 0, .int 0, .int 0, .ref (q 17), .ref (q 18), .ref (q 19), .ref (q 20), .ref (q 21), .ref (q 22), .ref (q 23)])), (q 6, .inr (4, [.ref (q 24), .ref (q 25), .ref (q 26)])), (q 24, .inl (k 0, 4, .inl wf)), (q 5, .inl (k 3, 3, .inl (fun _ => 0))), (q 1, .inr (6, [.ref (q 27), .int 0])), (q 2, .inr (2, [.ref (q 1), .ref (q 28), .int 0, .int (-1), .int 0, .int 0, .int 0, .int 0]))] s.heap := hF.1
  have hK := hF.2.1
  have hl := lv_entry ([.ref (q 0), .int p0, .int p1]) (n := 3) (Nat.le_of_ble_eq_true rfl)
  rw [lg_entry_eq]
  generalize (lg_sl ([.ref (q 0), .int p0, .int p1]) ++ List.replicate (3 - (lg_sl ([.ref (q 0), .int p0, .int p1])).length) Slot.unset).toArray = ls at hl ⊢
  have hl : lv_has ls 3 [(0, .ref (q 0)), (1, .int p0), (2, .int p1)] := hl
  refine lv_aload_n hx hb dX9_road_0 rfl (lv_at hl 0 rfl) ?_
  refine va_get (D := D) (ci := 9) (v := .ref (q 3)) (C := RX9) (T := TX9) (N := 11) hx hb hT in_X9 hown hK hP 0 rfl rfl 2 (by decide) (hT _ t453) (fun _ h9 => h9) rfl dX9_road_1 ?_
  refine va_get (D := D) (ci := 8) (v := .ref (q 12)) (C := RX8) (T := TX8) (N := 6) hx hb hT in_X8 hown hK hP 1 rfl rfl 0 (by decide) (hT _ t312) (fun _ h9 => h9) rfl dX9_road_4 ?_
  refine lv_iload_n hx hb dX9_road_7 rfl (lv_at hl 1 rfl) ?_
  refine ro_V (As := [.int p0]) (rest := []) S (c_X1_isRoad l D k q wf p0) lkX9_114 ok_X1_isRoad ⟨rfl, rfl, Nat.le_of_ble_eq_true rfl, Nat.le_of_ble_eq_true rfl⟩ (fw_V (ci := 1) (q0 := 2) hF rfl rfl) rfl hl.1 rfl (Nat.le_of_ble_eq_true rfl) ⟨Nat.zero_le _, Nat.zero_le _⟩ dX9_road_8 (fun r_1 er_1 => ?_)
  subst er_1
  refine lv_if_ne (tgt := 17) hx hb dX9_road_11 (by decide) (fun c_2 => ?_) (fun c_2 => ?_)
  · first | exact absurd c_2 (by decide) | exact absurd (by decide) c_2
  refine lv_bipush (v := (-2)) hx hb dX9_road_14 (by decide) ?_
  exact W.iret (v := (-2)) hx hb hr (fun t ht hW => ⟨(-2), rfl, rfl, ht⟩) (fun _ h9 => by cases h9) dX9_road_16
set_option maxHeartbeats 4000000 in
set_option maxRecDepth 100000 in
theorem c_X9_likes (l : Launch) (D : va_G) (k : Nat → ClassId) (q : Nat → Nat) (wf : Nat → Int32) (p0 : Int32) (p1 : Int32)  : Met l yX9_likes (.code yX9_likes cX9_likes 3 (some .int) :: TB) (rmk 2) (va_Pc [.ref (q 0), .int p0, .int p1] (fun U => FWH D k q wf U U.heap)) (vp_Si (fun r => r = (-2))) 0 0 (fun _ => False) := by
  refine Met.ofW (cc := cX9_likes) (maxL := 3) (ret := (some .int)) (by decide) rfl ?_
  intro p e s m args below meth c s₁ B hml hv
  obtain ⟨rfl, hF⟩ := hv
  have hx := B.exec
  have hb := B.bytes
  have hr := B.returns
  have hT : ∀ w ∈ TB, w.before ([.ref (q 0), .int p0, .int p1] : List Value).toArray s = true := fun w h => atoms_spec (ws := .code yX9_likes cX9_likes 3 (some .int) :: TB) B.pre w (List.mem_cons_of_mem _ h)
  have hown : s.vm.findClass RX9 = some m.cls := findClass_of_methodNamed B.named
  have S : CallFix p m c cX9_likes 3 s _ TB RX9 := ⟨hx, hb, hml, hown, hT⟩
  have hP : va_P D vwCl [(q 0, .inr (9, [.ref (q 1), .ref (q 2), .ref (q 3), .ref (q 4), .ref (q 5), .ref (q 6), .ref (q 7), .ref (q 8), .ref (q 9), .ref (q 10), .ref (q 11)])), (q 3, .inr (8, [.ref (q 12), .ref (q 13), .int 0, .ref (q 14), .ref (q 15), .ref (q 16)])), (q 12, .inr (1, [.int 0, .int 0, .int 0, .int 0, .int 0, .int 0, .int 0, .ref (q 17), .ref (q 18), .ref (q 19), .ref (q 20), .ref (q 21), .ref (q 22), .ref (q 23)])), (q 6, .inr (4, [.ref (q 24), .ref (q 25), .ref (q 26)])), (q 24, .inl (k 0, 4, .inl wf)), (q 5, .inl (k 3, 3, .inl (fun _ => 0))), (q 1, .inr (6, [.ref (q 27), .int 0])), (q 2, .inr (2, [.ref (q 1), .ref (q 28), .int 0, .int (-1), .int 0, .int 0, .int 0, .int 0]))] s.heap := hF.1
  have hK := hF.2.1
  have hl := lv_entry ([.ref (q 0), .int p0, .int p1]) (n := 3) (Nat.le_of_ble_eq_true rfl)
  rw [lg_entry_eq]
  generalize (lg_sl ([.ref (q 0), .int p0, .int p1]) ++ List.replicate (3 - (lg_sl ([.ref (q 0), .int p0, .int p1])).length) Slot.unset).toArray = ls at hl ⊢
  have hl : lv_has ls 3 [(0, .ref (q 0)), (1, .int p0), (2, .int p1)] := hl
  refine lv_aload_n hx hb dX9_likes_0 rfl (lv_at hl 0 rfl) ?_
  refine va_get (D := D) (ci := 9) (v := .ref (q 3)) (C := RX9) (T := TX9) (N := 11) hx hb hT in_X9 hown hK hP 0 rfl rfl 2 (by decide) (hT _ t453) (fun _ h9 => h9) rfl dX9_likes_1 ?_
  refine va_get (D := D) (ci := 8) (v := .ref (q 12)) (C := RX8) (T := TX8) (N := 6) hx hb hT in_X8 hown hK hP 1 rfl rfl 0 (by decide) (hT _ t312) (fun _ h9 => h9) rfl dX9_likes_4 ?_
  refine lv_iload_n hx hb dX9_likes_7 rfl (lv_at hl 1 rfl) ?_
  refine ro_V (As := [.int p0]) (rest := []) S (c_X1_isWheel l D k q wf p0) lkX9_127 ok_X1_isWheel ⟨rfl, rfl, Nat.le_of_ble_eq_true rfl, Nat.le_of_ble_eq_true rfl⟩ (fw_V (ci := 1) (q0 := 2) hF rfl rfl) rfl hl.1 rfl (Nat.le_of_ble_eq_true rfl) ⟨Nat.zero_le _, Nat.zero_le _⟩ dX9_likes_8 (fun r_1 er_1 => ?_)
  subst er_1
  refine lv_if_eq (tgt := 28) hx hb dX9_likes_11 (by decide) (fun c_2 => ?_) (fun c_2 => ?_)
  rotate_left
  · first | exact absurd c_2 (by decide) | exact absurd (by decide) c_2
  refine lv_bipush (v := (-2)) hx hb dX9_likes_28 (by decide) ?_
  exact W.iret (v := (-2)) hx hb hr (fun t ht hW => ⟨(-2), rfl, rfl, ht⟩) (fun _ h9 => by cases h9) dX9_likes_30
set_option maxHeartbeats 4000000 in
set_option maxRecDepth 100000 in
theorem c_X9_wheel (l : Launch) (D : va_G) (k : Nat → ClassId) (q : Nat → Nat) (wf : Nat → Int32) (p0 : Int32) (p1 : Int32)  : Met l yX9_wheel (.code yX9_wheel cX9_wheel 3 (some .int) :: TB) (rmk 2) (va_Pc [.ref (q 0), .int p0, .int p1] (fun U => FWH D k q wf U U.heap)) (vp_Si (fun r => r = (-2))) 0 0 (fun _ => False) := by
  refine Met.ofW (cc := cX9_wheel) (maxL := 3) (ret := (some .int)) (by decide) rfl ?_
  intro p e s m args below meth c s₁ B hml hv
  obtain ⟨rfl, hF⟩ := hv
  have hx := B.exec
  have hb := B.bytes
  have hr := B.returns
  have hT : ∀ w ∈ TB, w.before ([.ref (q 0), .int p0, .int p1] : List Value).toArray s = true := fun w h => atoms_spec (ws := .code yX9_wheel cX9_wheel 3 (some .int) :: TB) B.pre w (List.mem_cons_of_mem _ h)
  have hown : s.vm.findClass RX9 = some m.cls := findClass_of_methodNamed B.named
  have S : CallFix p m c cX9_wheel 3 s _ TB RX9 := ⟨hx, hb, hml, hown, hT⟩
  have hP : va_P D vwCl [(q 0, .inr (9, [.ref (q 1), .ref (q 2), .ref (q 3), .ref (q 4), .ref (q 5), .ref (q 6), .ref (q 7), .ref (q 8), .ref (q 9), .ref (q 10), .ref (q 11)])), (q 3, .inr (8, [.ref (q 12), .ref (q 13), .int 0, .ref (q 14), .ref (q 15), .ref (q 16)])), (q 12, .inr (1, [.int 0, .int 0, .int 0, .int 0, .int 0, .int 0, .int 0, .ref (q 17), .ref (q 18), .ref (q 19), .ref (q 20), .ref (q 21), .ref (q 22), .ref (q 23)])), (q 6, .inr (4, [.ref (q 24), .ref (q 25), .ref (q 26)])), (q 24, .inl (k 0, 4, .inl wf)), (q 5, .inl (k 3, 3, .inl (fun _ => 0))), (q 1, .inr (6, [.ref (q 27), .int 0])), (q 2, .inr (2, [.ref (q 1), .ref (q 28), .int 0, .int (-1), .int 0, .int 0, .int 0, .int 0]))] s.heap := hF.1
  have hK := hF.2.1
  have hl := lv_entry ([.ref (q 0), .int p0, .int p1]) (n := 3) (Nat.le_of_ble_eq_true rfl)
  rw [lg_entry_eq]
  generalize (lg_sl ([.ref (q 0), .int p0, .int p1]) ++ List.replicate (3 - (lg_sl ([.ref (q 0), .int p0, .int p1])).length) Slot.unset).toArray = ls at hl ⊢
  have hl : lv_has ls 3 [(0, .ref (q 0)), (1, .int p0), (2, .int p1)] := hl
  refine lv_aload_n hx hb dX9_wheel_0 rfl (lv_at hl 0 rfl) ?_
  refine va_get (D := D) (ci := 9) (v := .ref (q 3)) (C := RX9) (T := TX9) (N := 11) hx hb hT in_X9 hown hK hP 0 rfl rfl 2 (by decide) (hT _ t453) (fun _ h9 => h9) rfl dX9_wheel_1 ?_
  refine va_get (D := D) (ci := 8) (v := .ref (q 12)) (C := RX8) (T := TX8) (N := 6) hx hb hT in_X8 hown hK hP 1 rfl rfl 0 (by decide) (hT _ t312) (fun _ h9 => h9) rfl dX9_wheel_4 ?_
  refine lv_iload_n hx hb dX9_wheel_7 rfl (lv_at hl 1 rfl) ?_
  refine ro_V (As := [.int p0]) (rest := []) S (c_X1_isWheel l D k q wf p0) lkX9_127 ok_X1_isWheel ⟨rfl, rfl, Nat.le_of_ble_eq_true rfl, Nat.le_of_ble_eq_true rfl⟩ (fw_V (ci := 1) (q0 := 2) hF rfl rfl) rfl hl.1 rfl (Nat.le_of_ble_eq_true rfl) ⟨Nat.zero_le _, Nat.zero_le _⟩ dX9_wheel_8 (fun r_1 er_1 => ?_)
  subst er_1
  refine lv_if_ne (tgt := 17) hx hb dX9_wheel_11 (by decide) (fun c_2 => ?_) (fun c_2 => ?_)
  · first | exact absurd c_2 (by decide) | exact absurd (by decide) c_2
  refine lv_bipush (v := (-2)) hx hb dX9_wheel_14 (by decide) ?_
  exact W.iret (v := (-2)) hx hb hr (fun t ht hW => ⟨(-2), rfl, rfl, ht⟩) (fun _ h9 => by cases h9) dX9_wheel_16
set_option maxHeartbeats 4000000 in
set_option maxRecDepth 100000 in
theorem c_X9_cart (l : Launch) (D : va_G) (k : Nat → ClassId) (q : Nat → Nat) (wf : Nat → Int32) (p0 : Int32) (p1 : Int32)  : Met l yX9_cart (.code yX9_cart cX9_cart 3 (some .int) :: TB) (rmk 2) (va_Pc [.ref (q 0), .int p0, .int p1] (fun U => FWH D k q wf U U.heap)) (vp_Si (fun r => r = (-2))) 0 0 (fun _ => False) := by
  refine Met.ofW (cc := cX9_cart) (maxL := 3) (ret := (some .int)) (by decide) rfl ?_
  intro p e s m args below meth c s₁ B hml hv
  obtain ⟨rfl, hF⟩ := hv
  have hx := B.exec
  have hb := B.bytes
  have hr := B.returns
  have hT : ∀ w ∈ TB, w.before ([.ref (q 0), .int p0, .int p1] : List Value).toArray s = true := fun w h => atoms_spec (ws := .code yX9_cart cX9_cart 3 (some .int) :: TB) B.pre w (List.mem_cons_of_mem _ h)
  have hown : s.vm.findClass RX9 = some m.cls := findClass_of_methodNamed B.named
  have S : CallFix p m c cX9_cart 3 s _ TB RX9 := ⟨hx, hb, hml, hown, hT⟩
  have hP : va_P D vwCl [(q 0, .inr (9, [.ref (q 1), .ref (q 2), .ref (q 3), .ref (q 4), .ref (q 5), .ref (q 6), .ref (q 7), .ref (q 8), .ref (q 9), .ref (q 10), .ref (q 11)])), (q 3, .inr (8, [.ref (q 12), .ref (q 13), .int 0, .ref (q 14), .ref (q 15), .ref (q 16)])), (q 12, .inr (1, [.int 0, .int 0, .int 0, .int 0, .int 0, .int 0, .int 0, .ref (q 17), .ref (q 18), .ref (q 19), .ref (q 20), .ref (q 21), .ref (q 22), .ref (q 23)])), (q 6, .inr (4, [.ref (q 24), .ref (q 25), .ref (q 26)])), (q 24, .inl (k 0, 4, .inl wf)), (q 5, .inl (k 3, 3, .inl (fun _ => 0))), (q 1, .inr (6, [.ref (q 27), .int 0])), (q 2, .inr (2, [.ref (q 1), .ref (q 28), .int 0, .int (-1), .int 0, .int 0, .int 0, .int 0]))] s.heap := hF.1
  have hK := hF.2.1
  have hl := lv_entry ([.ref (q 0), .int p0, .int p1]) (n := 3) (Nat.le_of_ble_eq_true rfl)
  rw [lg_entry_eq]
  generalize (lg_sl ([.ref (q 0), .int p0, .int p1]) ++ List.replicate (3 - (lg_sl ([.ref (q 0), .int p0, .int p1])).length) Slot.unset).toArray = ls at hl ⊢
  have hl : lv_has ls 3 [(0, .ref (q 0)), (1, .int p0), (2, .int p1)] := hl
  refine lv_aload_n hx hb dX9_cart_0 rfl (lv_at hl 0 rfl) ?_
  refine va_get (D := D) (ci := 9) (v := .ref (q 3)) (C := RX9) (T := TX9) (N := 11) hx hb hT in_X9 hown hK hP 0 rfl rfl 2 (by decide) (hT _ t453) (fun _ h9 => h9) rfl dX9_cart_1 ?_
  refine va_get (D := D) (ci := 8) (v := .ref (q 12)) (C := RX8) (T := TX8) (N := 6) hx hb hT in_X8 hown hK hP 1 rfl rfl 0 (by decide) (hT _ t312) (fun _ h9 => h9) rfl dX9_cart_4 ?_
  refine lv_iload_n hx hb dX9_cart_7 rfl (lv_at hl 1 rfl) ?_
  refine ro_V (As := [.int p0]) (rest := []) S (c_X1_isCart l D k q wf p0) lkX9_147 ok_X1_isCart ⟨rfl, rfl, Nat.le_of_ble_eq_true rfl, Nat.le_of_ble_eq_true rfl⟩ (fw_V (ci := 1) (q0 := 2) hF rfl rfl) rfl hl.1 rfl (Nat.le_of_ble_eq_true rfl) ⟨Nat.zero_le _, Nat.zero_le _⟩ dX9_cart_8 (fun r_1 er_1 => ?_)
  subst er_1
  refine lv_if_ne (tgt := 17) hx hb dX9_cart_11 (by decide) (fun c_2 => ?_) (fun c_2 => ?_)
  · first | exact absurd c_2 (by decide) | exact absurd (by decide) c_2
  refine lv_bipush (v := (-2)) hx hb dX9_cart_14 (by decide) ?_
  exact W.iret (v := (-2)) hx hb hr (fun t ht hW => ⟨(-2), rfl, rfl, ht⟩) (fun _ h9 => by cases h9) dX9_cart_16
set_option maxHeartbeats 4000000 in
set_option maxRecDepth 100000 in
theorem c_X9_errand (l : Launch) (D : va_G) (k : Nat → ClassId) (q : Nat → Nat) (wf : Nat → Int32) (p0 : Int32) (p1 : Int32)  : Met l yX9_errand (.code yX9_errand cX9_errand 3 (some .int) :: TB) (rmk 2) (va_Pc [.ref (q 0), .int p0, .int p1] (fun U => FWH D k q wf U U.heap)) (vp_Si (fun r => r = (-2))) 0 0 (fun _ => False) := by
  refine Met.ofW (cc := cX9_errand) (maxL := 3) (ret := (some .int)) (by decide) rfl ?_
  intro p e s m args below meth c s₁ B hml hv
  obtain ⟨rfl, hF⟩ := hv
  have hx := B.exec
  have hb := B.bytes
  have hr := B.returns
  have hT : ∀ w ∈ TB, w.before ([.ref (q 0), .int p0, .int p1] : List Value).toArray s = true := fun w h => atoms_spec (ws := .code yX9_errand cX9_errand 3 (some .int) :: TB) B.pre w (List.mem_cons_of_mem _ h)
  have hown : s.vm.findClass RX9 = some m.cls := findClass_of_methodNamed B.named
  have S : CallFix p m c cX9_errand 3 s _ TB RX9 := ⟨hx, hb, hml, hown, hT⟩
  have hP : va_P D vwCl [(q 0, .inr (9, [.ref (q 1), .ref (q 2), .ref (q 3), .ref (q 4), .ref (q 5), .ref (q 6), .ref (q 7), .ref (q 8), .ref (q 9), .ref (q 10), .ref (q 11)])), (q 3, .inr (8, [.ref (q 12), .ref (q 13), .int 0, .ref (q 14), .ref (q 15), .ref (q 16)])), (q 12, .inr (1, [.int 0, .int 0, .int 0, .int 0, .int 0, .int 0, .int 0, .ref (q 17), .ref (q 18), .ref (q 19), .ref (q 20), .ref (q 21), .ref (q 22), .ref (q 23)])), (q 6, .inr (4, [.ref (q 24), .ref (q 25), .ref (q 26)])), (q 24, .inl (k 0, 4, .inl wf)), (q 5, .inl (k 3, 3, .inl (fun _ => 0))), (q 1, .inr (6, [.ref (q 27), .int 0])), (q 2, .inr (2, [.ref (q 1), .ref (q 28), .int 0, .int (-1), .int 0, .int 0, .int 0, .int 0]))] s.heap := hF.1
  have hK := hF.2.1
  have hl := lv_entry ([.ref (q 0), .int p0, .int p1]) (n := 3) (Nat.le_of_ble_eq_true rfl)
  rw [lg_entry_eq]
  generalize (lg_sl ([.ref (q 0), .int p0, .int p1]) ++ List.replicate (3 - (lg_sl ([.ref (q 0), .int p0, .int p1])).length) Slot.unset).toArray = ls at hl ⊢
  have hl : lv_has ls 3 [(0, .ref (q 0)), (1, .int p0), (2, .int p1)] := hl
  refine lv_aload_n hx hb dX9_errand_0 rfl (lv_at hl 0 rfl) ?_
  refine va_get (D := D) (ci := 9) (v := .ref (q 3)) (C := RX9) (T := TX9) (N := 11) hx hb hT in_X9 hown hK hP 0 rfl rfl 2 (by decide) (hT _ t453) (fun _ h9 => h9) rfl dX9_errand_1 ?_
  refine va_get (D := D) (ci := 8) (v := .ref (q 12)) (C := RX8) (T := TX8) (N := 6) hx hb hT in_X8 hown hK hP 1 rfl rfl 0 (by decide) (hT _ t312) (fun _ h9 => h9) rfl dX9_errand_4 ?_
  refine lv_iload_n hx hb dX9_errand_7 rfl (lv_at hl 1 rfl) ?_
  refine ro_V (As := [.int p0]) (rest := []) S (c_X1_isErrand l D k q wf p0) lkX9_159 ok_X1_isErrand ⟨rfl, rfl, Nat.le_of_ble_eq_true rfl, Nat.le_of_ble_eq_true rfl⟩ (fw_V (ci := 1) (q0 := 2) hF rfl rfl) rfl hl.1 rfl (Nat.le_of_ble_eq_true rfl) ⟨Nat.zero_le _, Nat.zero_le _⟩ dX9_errand_8 (fun r_1 er_1 => ?_)
  subst er_1
  refine lv_if_ne (tgt := 17) hx hb dX9_errand_11 (by decide) (fun c_2 => ?_) (fun c_2 => ?_)
  · first | exact absurd c_2 (by decide) | exact absurd (by decide) c_2
  refine lv_bipush (v := (-2)) hx hb dX9_errand_14 (by decide) ?_
  exact W.iret (v := (-2)) hx hb hr (fun t ht hW => ⟨(-2), rfl, rfl, ht⟩) (fun _ h9 => by cases h9) dX9_errand_16
set_option maxHeartbeats 4000000 in
set_option maxRecDepth 100000 in
theorem c_X9_roads (l : Launch) (D : va_G) (k : Nat → ClassId) (q : Nat → Nat) (wf : Nat → Int32) (p0 : Int32)  : Met l yX9_roads (.code yX9_roads cX9_roads 2 (some .int) :: TB) (rmk 2) (va_Pc [.ref (q 0), .int p0] (fun U => FWH D k q wf U U.heap)) (vp_Si (fun r => r = (-2))) 0 0 (fun _ => False) := by
  refine Met.ofW (cc := cX9_roads) (maxL := 2) (ret := (some .int)) (by decide) rfl ?_
  intro p e s m args below meth c s₁ B hml hv
  obtain ⟨rfl, hF⟩ := hv
  have hx := B.exec
  have hb := B.bytes
  have hr := B.returns
  have hT : ∀ w ∈ TB, w.before ([.ref (q 0), .int p0] : List Value).toArray s = true := fun w h => atoms_spec (ws := .code yX9_roads cX9_roads 2 (some .int) :: TB) B.pre w (List.mem_cons_of_mem _ h)
  have hown : s.vm.findClass RX9 = some m.cls := findClass_of_methodNamed B.named
  have S : CallFix p m c cX9_roads 2 s _ TB RX9 := ⟨hx, hb, hml, hown, hT⟩
  have hP : va_P D vwCl [(q 0, .inr (9, [.ref (q 1), .ref (q 2), .ref (q 3), .ref (q 4), .ref (q 5), .ref (q 6), .ref (q 7), .ref (q 8), .ref (q 9), .ref (q 10), .ref (q 11)])), (q 3, .inr (8, [.ref (q 12), .ref (q 13), .int 0, .ref (q 14), .ref (q 15), .ref (q 16)])), (q 12, .inr (1, [.int 0, .int 0, .int 0, .int 0, .int 0, .int 0, .int 0, .ref (q 17), .ref (q 18), .ref (q 19), .ref (q 20), .ref (q 21), .ref (q 22), .ref (q 23)])), (q 6, .inr (4, [.ref (q 24), .ref (q 25), .ref (q 26)])), (q 24, .inl (k 0, 4, .inl wf)), (q 5, .inl (k 3, 3, .inl (fun _ => 0))), (q 1, .inr (6, [.ref (q 27), .int 0])), (q 2, .inr (2, [.ref (q 1), .ref (q 28), .int 0, .int (-1), .int 0, .int 0, .int 0, .int 0]))] s.heap := hF.1
  have hK := hF.2.1
  have hl := lv_entry ([.ref (q 0), .int p0]) (n := 2) (Nat.le_of_ble_eq_true rfl)
  rw [lg_entry_eq]
  generalize (lg_sl ([.ref (q 0), .int p0]) ++ List.replicate (2 - (lg_sl ([.ref (q 0), .int p0])).length) Slot.unset).toArray = ls at hl ⊢
  have hl : lv_has ls 2 [(0, .ref (q 0)), (1, .int p0)] := hl
  refine lv_aload_n hx hb dX9_roads_0 rfl (lv_at hl 0 rfl) ?_
  refine va_get (D := D) (ci := 9) (v := .ref (q 3)) (C := RX9) (T := TX9) (N := 11) hx hb hT in_X9 hown hK hP 0 rfl rfl 2 (by decide) (hT _ t453) (fun _ h9 => h9) rfl dX9_roads_1 ?_
  refine va_get (D := D) (ci := 8) (v := .ref (q 12)) (C := RX8) (T := TX8) (N := 6) hx hb hT in_X8 hown hK hP 1 rfl rfl 0 (by decide) (hT _ t312) (fun _ h9 => h9) rfl dX9_roads_4 ?_
  refine lv_iload_n hx hb dX9_roads_7 rfl (lv_at hl 1 rfl) ?_
  refine ro_V (As := [.int p0]) (rest := []) S (c_X1_isPlace l D k q wf p0) lkX9_171 ok_X1_isPlace ⟨rfl, rfl, Nat.le_of_ble_eq_true rfl, Nat.le_of_ble_eq_true rfl⟩ (fw_V (ci := 1) (q0 := 2) hF rfl rfl) rfl hl.1 rfl (Nat.le_of_ble_eq_true rfl) ⟨Nat.zero_le _, Nat.zero_le _⟩ dX9_roads_8 (fun r_1 er_1 => ?_)
  subst er_1
  refine lv_if_eq (tgt := 28) hx hb dX9_roads_11 (by decide) (fun c_2 => ?_) (fun c_2 => ?_)
  rotate_left
  · first | exact absurd c_2 (by decide) | exact absurd (by decide) c_2
  refine lv_bipush (v := (-2)) hx hb dX9_roads_28 (by decide) ?_
  exact W.iret (v := (-2)) hx hb hr (fun t ht hW => ⟨(-2), rfl, rfl, ht⟩) (fun _ h9 => by cases h9) dX9_roads_30
set_option maxHeartbeats 4000000 in
set_option maxRecDepth 100000 in
theorem c_X9_pull (l : Launch) (D : va_G) (k : Nat → ClassId) (q : Nat → Nat) (wf : Nat → Int32) (p0 : Int32) (p1 : Int32)  : Met l yX9_pull (.code yX9_pull cX9_pull 3 (some .int) :: TB) (rmk 2) (va_Pc [.ref (q 0), .int p0, .int p1] (fun U => FWH D k q wf U U.heap)) (vp_Si (fun r => r = (-2))) 0 0 (fun _ => False) := by
  refine Met.ofW (cc := cX9_pull) (maxL := 3) (ret := (some .int)) (by decide) rfl ?_
  intro p e s m args below meth c s₁ B hml hv
  obtain ⟨rfl, hF⟩ := hv
  have hx := B.exec
  have hb := B.bytes
  have hr := B.returns
  have hT : ∀ w ∈ TB, w.before ([.ref (q 0), .int p0, .int p1] : List Value).toArray s = true := fun w h => atoms_spec (ws := .code yX9_pull cX9_pull 3 (some .int) :: TB) B.pre w (List.mem_cons_of_mem _ h)
  have hown : s.vm.findClass RX9 = some m.cls := findClass_of_methodNamed B.named
  have S : CallFix p m c cX9_pull 3 s _ TB RX9 := ⟨hx, hb, hml, hown, hT⟩
  have hP : va_P D vwCl [(q 0, .inr (9, [.ref (q 1), .ref (q 2), .ref (q 3), .ref (q 4), .ref (q 5), .ref (q 6), .ref (q 7), .ref (q 8), .ref (q 9), .ref (q 10), .ref (q 11)])), (q 3, .inr (8, [.ref (q 12), .ref (q 13), .int 0, .ref (q 14), .ref (q 15), .ref (q 16)])), (q 12, .inr (1, [.int 0, .int 0, .int 0, .int 0, .int 0, .int 0, .int 0, .ref (q 17), .ref (q 18), .ref (q 19), .ref (q 20), .ref (q 21), .ref (q 22), .ref (q 23)])), (q 6, .inr (4, [.ref (q 24), .ref (q 25), .ref (q 26)])), (q 24, .inl (k 0, 4, .inl wf)), (q 5, .inl (k 3, 3, .inl (fun _ => 0))), (q 1, .inr (6, [.ref (q 27), .int 0])), (q 2, .inr (2, [.ref (q 1), .ref (q 28), .int 0, .int (-1), .int 0, .int 0, .int 0, .int 0]))] s.heap := hF.1
  have hK := hF.2.1
  have hl := lv_entry ([.ref (q 0), .int p0, .int p1]) (n := 3) (Nat.le_of_ble_eq_true rfl)
  rw [lg_entry_eq]
  generalize (lg_sl ([.ref (q 0), .int p0, .int p1]) ++ List.replicate (3 - (lg_sl ([.ref (q 0), .int p0, .int p1])).length) Slot.unset).toArray = ls at hl ⊢
  have hl : lv_has ls 3 [(0, .ref (q 0)), (1, .int p0), (2, .int p1)] := hl
  refine lv_aload_n hx hb dX9_pull_0 rfl (lv_at hl 0 rfl) ?_
  refine va_get (D := D) (ci := 9) (v := .ref (q 3)) (C := RX9) (T := TX9) (N := 11) hx hb hT in_X9 hown hK hP 0 rfl rfl 2 (by decide) (hT _ t453) (fun _ h9 => h9) rfl dX9_pull_1 ?_
  refine va_get (D := D) (ci := 8) (v := .ref (q 12)) (C := RX8) (T := TX8) (N := 6) hx hb hT in_X8 hown hK hP 1 rfl rfl 0 (by decide) (hT _ t312) (fun _ h9 => h9) rfl dX9_pull_4 ?_
  refine lv_iload_n hx hb dX9_pull_7 rfl (lv_at hl 1 rfl) ?_
  refine ro_V (As := [.int p0]) (rest := []) S (c_X1_isCart l D k q wf p0) lkX9_147 ok_X1_isCart ⟨rfl, rfl, Nat.le_of_ble_eq_true rfl, Nat.le_of_ble_eq_true rfl⟩ (fw_V (ci := 1) (q0 := 2) hF rfl rfl) rfl hl.1 rfl (Nat.le_of_ble_eq_true rfl) ⟨Nat.zero_le _, Nat.zero_le _⟩ dX9_pull_8 (fun r_1 er_1 => ?_)
  subst er_1
  refine lv_if_eq (tgt := 28) hx hb dX9_pull_11 (by decide) (fun c_2 => ?_) (fun c_2 => ?_)
  rotate_left
  · first | exact absurd c_2 (by decide) | exact absurd (by decide) c_2
  refine lv_bipush (v := (-2)) hx hb dX9_pull_28 (by decide) ?_
  exact W.iret (v := (-2)) hx hb hr (fun t ht hW => ⟨(-2), rfl, rfl, ht⟩) (fun _ h9 => by cases h9) dX9_pull_30
set_option maxHeartbeats 4000000 in
set_option maxRecDepth 100000 in
theorem c_X9_aside (l : Launch) (D : va_G) (k : Nat → ClassId) (q : Nat → Nat) (wf : Nat → Int32) (p0 : Int32)  : Met l yX9_aside (.code yX9_aside cX9_aside 4 (some .int) :: TB) (rmk 2) (va_Pc [.ref (q 0), .int p0] (fun U => FWH D k q wf U U.heap)) (vp_Si (fun r => r = (-2))) 0 0 (fun _ => False) := by
  refine Met.ofW (cc := cX9_aside) (maxL := 4) (ret := (some .int)) (by decide) rfl ?_
  intro p e s m args below meth c s₁ B hml hv
  obtain ⟨rfl, hF⟩ := hv
  have hx := B.exec
  have hb := B.bytes
  have hr := B.returns
  have hT : ∀ w ∈ TB, w.before ([.ref (q 0), .int p0] : List Value).toArray s = true := fun w h => atoms_spec (ws := .code yX9_aside cX9_aside 4 (some .int) :: TB) B.pre w (List.mem_cons_of_mem _ h)
  have hown : s.vm.findClass RX9 = some m.cls := findClass_of_methodNamed B.named
  have S : CallFix p m c cX9_aside 4 s _ TB RX9 := ⟨hx, hb, hml, hown, hT⟩
  have hP : va_P D vwCl [(q 0, .inr (9, [.ref (q 1), .ref (q 2), .ref (q 3), .ref (q 4), .ref (q 5), .ref (q 6), .ref (q 7), .ref (q 8), .ref (q 9), .ref (q 10), .ref (q 11)])), (q 3, .inr (8, [.ref (q 12), .ref (q 13), .int 0, .ref (q 14), .ref (q 15), .ref (q 16)])), (q 12, .inr (1, [.int 0, .int 0, .int 0, .int 0, .int 0, .int 0, .int 0, .ref (q 17), .ref (q 18), .ref (q 19), .ref (q 20), .ref (q 21), .ref (q 22), .ref (q 23)])), (q 6, .inr (4, [.ref (q 24), .ref (q 25), .ref (q 26)])), (q 24, .inl (k 0, 4, .inl wf)), (q 5, .inl (k 3, 3, .inl (fun _ => 0))), (q 1, .inr (6, [.ref (q 27), .int 0])), (q 2, .inr (2, [.ref (q 1), .ref (q 28), .int 0, .int (-1), .int 0, .int 0, .int 0, .int 0]))] s.heap := hF.1
  have hK := hF.2.1
  have hl := lv_entry ([.ref (q 0), .int p0]) (n := 4) (Nat.le_of_ble_eq_true rfl)
  rw [lg_entry_eq]
  generalize (lg_sl ([.ref (q 0), .int p0]) ++ List.replicate (4 - (lg_sl ([.ref (q 0), .int p0])).length) Slot.unset).toArray = ls at hl ⊢
  have hl : lv_has ls 4 [(0, .ref (q 0)), (1, .int p0)] := hl
  refine lv_aload_n hx hb dX9_aside_0 rfl (lv_at hl 0 rfl) ?_
  refine va_get (D := D) (ci := 9) (v := .ref (q 3)) (C := RX9) (T := TX9) (N := 11) hx hb hT in_X9 hown hK hP 0 rfl rfl 2 (by decide) (hT _ t453) (fun _ h9 => h9) rfl dX9_aside_1 ?_
  refine va_get (D := D) (ci := 8) (v := .ref (q 12)) (C := RX8) (T := TX8) (N := 6) hx hb hT in_X8 hown hK hP 1 rfl rfl 0 (by decide) (hT _ t312) (fun _ h9 => h9) rfl dX9_aside_4 ?_
  refine lv_iload_n hx hb dX9_aside_7 rfl (lv_at hl 1 rfl) ?_
  refine ro_V (As := [.int p0]) (rest := []) S (c_X1_isCart l D k q wf p0) lkX9_147 ok_X1_isCart ⟨rfl, rfl, Nat.le_of_ble_eq_true rfl, Nat.le_of_ble_eq_true rfl⟩ (fw_V (ci := 1) (q0 := 2) hF rfl rfl) rfl hl.1 rfl (Nat.le_of_ble_eq_true rfl) ⟨Nat.zero_le _, Nat.zero_le _⟩ dX9_aside_8 (fun r_1 er_1 => ?_)
  subst er_1
  refine lv_if_ne (tgt := 17) hx hb dX9_aside_11 (by decide) (fun c_2 => ?_) (fun c_2 => ?_)
  · first | exact absurd c_2 (by decide) | exact absurd (by decide) c_2
  refine lv_bipush (v := (-2)) hx hb dX9_aside_14 (by decide) ?_
  exact W.iret (v := (-2)) hx hb hr (fun t ht hW => ⟨(-2), rfl, rfl, ht⟩) (fun _ h9 => by cases h9) dX9_aside_16
set_option maxHeartbeats 4000000 in
set_option maxRecDepth 100000 in
theorem c_X9_swap (l : Launch) (D : va_G) (k : Nat → ClassId) (q : Nat → Nat) (wf : Nat → Int32) (p0 : Int32) (p1 : Int32)  : Met l yX9_swap (.code yX9_swap cX9_swap 3 (some .int) :: TB) (rmk 2) (va_Pc [.ref (q 0), .int p0, .int p1] (fun U => FWH D k q wf U U.heap)) (vp_Si (fun r => r = (-2))) 0 0 (fun _ => False) := by
  refine Met.ofW (cc := cX9_swap) (maxL := 3) (ret := (some .int)) (by decide) rfl ?_
  intro p e s m args below meth c s₁ B hml hv
  obtain ⟨rfl, hF⟩ := hv
  have hx := B.exec
  have hb := B.bytes
  have hr := B.returns
  have hT : ∀ w ∈ TB, w.before ([.ref (q 0), .int p0, .int p1] : List Value).toArray s = true := fun w h => atoms_spec (ws := .code yX9_swap cX9_swap 3 (some .int) :: TB) B.pre w (List.mem_cons_of_mem _ h)
  have hown : s.vm.findClass RX9 = some m.cls := findClass_of_methodNamed B.named
  have S : CallFix p m c cX9_swap 3 s _ TB RX9 := ⟨hx, hb, hml, hown, hT⟩
  have hP : va_P D vwCl [(q 0, .inr (9, [.ref (q 1), .ref (q 2), .ref (q 3), .ref (q 4), .ref (q 5), .ref (q 6), .ref (q 7), .ref (q 8), .ref (q 9), .ref (q 10), .ref (q 11)])), (q 3, .inr (8, [.ref (q 12), .ref (q 13), .int 0, .ref (q 14), .ref (q 15), .ref (q 16)])), (q 12, .inr (1, [.int 0, .int 0, .int 0, .int 0, .int 0, .int 0, .int 0, .ref (q 17), .ref (q 18), .ref (q 19), .ref (q 20), .ref (q 21), .ref (q 22), .ref (q 23)])), (q 6, .inr (4, [.ref (q 24), .ref (q 25), .ref (q 26)])), (q 24, .inl (k 0, 4, .inl wf)), (q 5, .inl (k 3, 3, .inl (fun _ => 0))), (q 1, .inr (6, [.ref (q 27), .int 0])), (q 2, .inr (2, [.ref (q 1), .ref (q 28), .int 0, .int (-1), .int 0, .int 0, .int 0, .int 0]))] s.heap := hF.1
  have hK := hF.2.1
  have hl := lv_entry ([.ref (q 0), .int p0, .int p1]) (n := 3) (Nat.le_of_ble_eq_true rfl)
  rw [lg_entry_eq]
  generalize (lg_sl ([.ref (q 0), .int p0, .int p1]) ++ List.replicate (3 - (lg_sl ([.ref (q 0), .int p0, .int p1])).length) Slot.unset).toArray = ls at hl ⊢
  have hl : lv_has ls 3 [(0, .ref (q 0)), (1, .int p0), (2, .int p1)] := hl
  refine lv_aload_n hx hb dX9_swap_0 rfl (lv_at hl 0 rfl) ?_
  refine va_get (D := D) (ci := 9) (v := .ref (q 3)) (C := RX9) (T := TX9) (N := 11) hx hb hT in_X9 hown hK hP 0 rfl rfl 2 (by decide) (hT _ t453) (fun _ h9 => h9) rfl dX9_swap_1 ?_
  refine va_get (D := D) (ci := 8) (v := .ref (q 12)) (C := RX8) (T := TX8) (N := 6) hx hb hT in_X8 hown hK hP 1 rfl rfl 0 (by decide) (hT _ t312) (fun _ h9 => h9) rfl dX9_swap_4 ?_
  refine lv_iload_n hx hb dX9_swap_7 rfl (lv_at hl 1 rfl) ?_
  refine ro_V (As := [.int p0]) (rest := []) S (c_X1_isWheel l D k q wf p0) lkX9_127 ok_X1_isWheel ⟨rfl, rfl, Nat.le_of_ble_eq_true rfl, Nat.le_of_ble_eq_true rfl⟩ (fw_V (ci := 1) (q0 := 2) hF rfl rfl) rfl hl.1 rfl (Nat.le_of_ble_eq_true rfl) ⟨Nat.zero_le _, Nat.zero_le _⟩ dX9_swap_8 (fun r_1 er_1 => ?_)
  subst er_1
  refine lv_if_eq (tgt := 33) hx hb dX9_swap_11 (by decide) (fun c_2 => ?_) (fun c_2 => ?_)
  rotate_left
  · first | exact absurd c_2 (by decide) | exact absurd (by decide) c_2
  refine lv_bipush (v := (-2)) hx hb dX9_swap_33 (by decide) ?_
  exact W.iret (v := (-2)) hx hb hr (fun t ht hW => ⟨(-2), rfl, rfl, ht⟩) (fun _ h9 => by cases h9) dX9_swap_35
set_option maxHeartbeats 4000000 in
set_option maxRecDepth 100000 in
theorem c_X9_grease (l : Launch) (D : va_G) (k : Nat → ClassId) (q : Nat → Nat) (wf : Nat → Int32) (p0 : Int32)  : Met l yX9_grease (.code yX9_grease cX9_grease 3 (some .int) :: TB) (rmk 2) (va_Pc [.ref (q 0), .int p0] (fun U => FWH D k q wf U U.heap)) (vp_Si (fun r => r = (-2))) 0 0 (fun _ => False) := by
  refine Met.ofW (cc := cX9_grease) (maxL := 3) (ret := (some .int)) (by decide) rfl ?_
  intro p e s m args below meth c s₁ B hml hv
  obtain ⟨rfl, hF⟩ := hv
  have hx := B.exec
  have hb := B.bytes
  have hr := B.returns
  have hT : ∀ w ∈ TB, w.before ([.ref (q 0), .int p0] : List Value).toArray s = true := fun w h => atoms_spec (ws := .code yX9_grease cX9_grease 3 (some .int) :: TB) B.pre w (List.mem_cons_of_mem _ h)
  have hown : s.vm.findClass RX9 = some m.cls := findClass_of_methodNamed B.named
  have S : CallFix p m c cX9_grease 3 s _ TB RX9 := ⟨hx, hb, hml, hown, hT⟩
  have hP : va_P D vwCl [(q 0, .inr (9, [.ref (q 1), .ref (q 2), .ref (q 3), .ref (q 4), .ref (q 5), .ref (q 6), .ref (q 7), .ref (q 8), .ref (q 9), .ref (q 10), .ref (q 11)])), (q 3, .inr (8, [.ref (q 12), .ref (q 13), .int 0, .ref (q 14), .ref (q 15), .ref (q 16)])), (q 12, .inr (1, [.int 0, .int 0, .int 0, .int 0, .int 0, .int 0, .int 0, .ref (q 17), .ref (q 18), .ref (q 19), .ref (q 20), .ref (q 21), .ref (q 22), .ref (q 23)])), (q 6, .inr (4, [.ref (q 24), .ref (q 25), .ref (q 26)])), (q 24, .inl (k 0, 4, .inl wf)), (q 5, .inl (k 3, 3, .inl (fun _ => 0))), (q 1, .inr (6, [.ref (q 27), .int 0])), (q 2, .inr (2, [.ref (q 1), .ref (q 28), .int 0, .int (-1), .int 0, .int 0, .int 0, .int 0]))] s.heap := hF.1
  have hK := hF.2.1
  have hl := lv_entry ([.ref (q 0), .int p0]) (n := 3) (Nat.le_of_ble_eq_true rfl)
  rw [lg_entry_eq]
  generalize (lg_sl ([.ref (q 0), .int p0]) ++ List.replicate (3 - (lg_sl ([.ref (q 0), .int p0])).length) Slot.unset).toArray = ls at hl ⊢
  have hl : lv_has ls 3 [(0, .ref (q 0)), (1, .int p0)] := hl
  refine lv_aload_n hx hb dX9_grease_0 rfl (lv_at hl 0 rfl) ?_
  refine va_get (D := D) (ci := 9) (v := .ref (q 3)) (C := RX9) (T := TX9) (N := 11) hx hb hT in_X9 hown hK hP 0 rfl rfl 2 (by decide) (hT _ t453) (fun _ h9 => h9) rfl dX9_grease_1 ?_
  refine va_get (D := D) (ci := 8) (v := .ref (q 12)) (C := RX8) (T := TX8) (N := 6) hx hb hT in_X8 hown hK hP 1 rfl rfl 0 (by decide) (hT _ t312) (fun _ h9 => h9) rfl dX9_grease_4 ?_
  refine lv_iload_n hx hb dX9_grease_7 rfl (lv_at hl 1 rfl) ?_
  refine ro_V (As := [.int p0]) (rest := []) S (c_X1_isWheel l D k q wf p0) lkX9_127 ok_X1_isWheel ⟨rfl, rfl, Nat.le_of_ble_eq_true rfl, Nat.le_of_ble_eq_true rfl⟩ (fw_V (ci := 1) (q0 := 2) hF rfl rfl) rfl hl.1 rfl (Nat.le_of_ble_eq_true rfl) ⟨Nat.zero_le _, Nat.zero_le _⟩ dX9_grease_8 (fun r_1 er_1 => ?_)
  subst er_1
  refine lv_if_ne (tgt := 17) hx hb dX9_grease_11 (by decide) (fun c_2 => ?_) (fun c_2 => ?_)
  · first | exact absurd c_2 (by decide) | exact absurd (by decide) c_2
  refine lv_bipush (v := (-2)) hx hb dX9_grease_14 (by decide) ?_
  exact W.iret (v := (-2)) hx hb hr (fun t ht hW => ⟨(-2), rfl, rfl, ht⟩) (fun _ h9 => by cases h9) dX9_grease_16
set_option maxHeartbeats 4000000 in
set_option maxRecDepth 100000 in
theorem c_X9_undo (l : Launch) (D : va_G) (k : Nat → ClassId) (q : Nat → Nat) (wf : Nat → Int32)   : Met l yX9_undo (.code yX9_undo cX9_undo 1 (some .int) :: TB) (rmk 2) (va_Pc [.ref (q 0)] (fun U => FWH D k q wf U U.heap)) (vp_Si (fun r => r = (-2))) 0 0 (fun _ => False) := by
  refine Met.ofW (cc := cX9_undo) (maxL := 1) (ret := (some .int)) (by decide) rfl ?_
  intro p e s m args below meth c s₁ B hml hv
  obtain ⟨rfl, hF⟩ := hv
  have hx := B.exec
  have hb := B.bytes
  have hr := B.returns
  have hT : ∀ w ∈ TB, w.before ([.ref (q 0)] : List Value).toArray s = true := fun w h => atoms_spec (ws := .code yX9_undo cX9_undo 1 (some .int) :: TB) B.pre w (List.mem_cons_of_mem _ h)
  have hown : s.vm.findClass RX9 = some m.cls := findClass_of_methodNamed B.named
  have S : CallFix p m c cX9_undo 1 s _ TB RX9 := ⟨hx, hb, hml, hown, hT⟩
  have hP : va_P D vwCl [(q 0, .inr (9, [.ref (q 1), .ref (q 2), .ref (q 3), .ref (q 4), .ref (q 5), .ref (q 6), .ref (q 7), .ref (q 8), .ref (q 9), .ref (q 10), .ref (q 11)])), (q 3, .inr (8, [.ref (q 12), .ref (q 13), .int 0, .ref (q 14), .ref (q 15), .ref (q 16)])), (q 12, .inr (1, [.int 0, .int 0, .int 0, .int 0, .int 0, .int 0, .int 0, .ref (q 17), .ref (q 18), .ref (q 19), .ref (q 20), .ref (q 21), .ref (q 22), .ref (q 23)])), (q 6, .inr (4, [.ref (q 24), .ref (q 25), .ref (q 26)])), (q 24, .inl (k 0, 4, .inl wf)), (q 5, .inl (k 3, 3, .inl (fun _ => 0))), (q 1, .inr (6, [.ref (q 27), .int 0])), (q 2, .inr (2, [.ref (q 1), .ref (q 28), .int 0, .int (-1), .int 0, .int 0, .int 0, .int 0]))] s.heap := hF.1
  have hK := hF.2.1
  have hl := lv_entry ([.ref (q 0)]) (n := 1) (Nat.le_of_ble_eq_true rfl)
  rw [lg_entry_eq]
  generalize (lg_sl ([.ref (q 0)]) ++ List.replicate (1 - (lg_sl ([.ref (q 0)])).length) Slot.unset).toArray = ls at hl ⊢
  have hl : lv_has ls 1 [(0, .ref (q 0))] := hl
  refine lv_aload_n hx hb dX9_undo_0 rfl (lv_at hl 0 rfl) ?_
  refine va_get (D := D) (ci := 9) (v := .ref (q 3)) (C := RX9) (T := TX9) (N := 11) hx hb hT in_X9 hown hK hP 0 rfl rfl 2 (by decide) (hT _ t453) (fun _ h9 => h9) rfl dX9_undo_1 ?_
  refine va_get (D := D) (ci := 8) (v := .ref (q 12)) (C := RX8) (T := TX8) (N := 6) hx hb hT in_X8 hown hK hP 1 rfl rfl 0 (by decide) (hT _ t312) (fun _ h9 => h9) rfl dX9_undo_4 ?_
  refine ro_V (As := []) (rest := []) S (c_X1_isTold l D k q wf ) lkX9_211 ok_X1_isTold ⟨rfl, rfl, Nat.le_of_ble_eq_true rfl, Nat.le_of_ble_eq_true rfl⟩ (fw_V (ci := 1) (q0 := 2) hF rfl rfl) rfl hl.1 rfl (Nat.le_of_ble_eq_true rfl) ⟨Nat.zero_le _, Nat.zero_le _⟩ dX9_undo_7 (fun r_1 er_1 => ?_)
  subst er_1
  refine lv_if_ne (tgt := 16) hx hb dX9_undo_10 (by decide) (fun c_2 => ?_) (fun c_2 => ?_)
  · first | exact absurd c_2 (by decide) | exact absurd (by decide) c_2
  refine lv_bipush (v := (-2)) hx hb dX9_undo_13 (by decide) ?_
  exact W.iret (v := (-2)) hx hb hr (fun t ht hW => ⟨(-2), rfl, rfl, ht⟩) (fun _ h9 => by cases h9) dX9_undo_15
set_option maxHeartbeats 4000000 in
set_option maxRecDepth 100000 in
theorem c_X9_anew (l : Launch) (D : va_G) (k : Nat → ClassId) (q : Nat → Nat) (wf : Nat → Int32)   : Met l yX9_anew (.code yX9_anew cX9_anew 2 (some .int) :: TB) (rmk 2) (va_Pc [.ref (q 0)] (fun U => FWH D k q wf U U.heap)) (vp_Si (fun r => r = (-2))) 0 0 (fun _ => False) := by
  refine Met.ofW (cc := cX9_anew) (maxL := 2) (ret := (some .int)) (by decide) rfl ?_
  intro p e s m args below meth c s₁ B hml hv
  obtain ⟨rfl, hF⟩ := hv
  have hx := B.exec
  have hb := B.bytes
  have hr := B.returns
  have hT : ∀ w ∈ TB, w.before ([.ref (q 0)] : List Value).toArray s = true := fun w h => atoms_spec (ws := .code yX9_anew cX9_anew 2 (some .int) :: TB) B.pre w (List.mem_cons_of_mem _ h)
  have hown : s.vm.findClass RX9 = some m.cls := findClass_of_methodNamed B.named
  have S : CallFix p m c cX9_anew 2 s _ TB RX9 := ⟨hx, hb, hml, hown, hT⟩
  have hP : va_P D vwCl [(q 0, .inr (9, [.ref (q 1), .ref (q 2), .ref (q 3), .ref (q 4), .ref (q 5), .ref (q 6), .ref (q 7), .ref (q 8), .ref (q 9), .ref (q 10), .ref (q 11)])), (q 3, .inr (8, [.ref (q 12), .ref (q 13), .int 0, .ref (q 14), .ref (q 15), .ref (q 16)])), (q 12, .inr (1, [.int 0, .int 0, .int 0, .int 0, .int 0, .int 0, .int 0, .ref (q 17), .ref (q 18), .ref (q 19), .ref (q 20), .ref (q 21), .ref (q 22), .ref (q 23)])), (q 6, .inr (4, [.ref (q 24), .ref (q 25), .ref (q 26)])), (q 24, .inl (k 0, 4, .inl wf)), (q 5, .inl (k 3, 3, .inl (fun _ => 0))), (q 1, .inr (6, [.ref (q 27), .int 0])), (q 2, .inr (2, [.ref (q 1), .ref (q 28), .int 0, .int (-1), .int 0, .int 0, .int 0, .int 0]))] s.heap := hF.1
  have hK := hF.2.1
  have hl := lv_entry ([.ref (q 0)]) (n := 2) (Nat.le_of_ble_eq_true rfl)
  rw [lg_entry_eq]
  generalize (lg_sl ([.ref (q 0)]) ++ List.replicate (2 - (lg_sl ([.ref (q 0)])).length) Slot.unset).toArray = ls at hl ⊢
  have hl : lv_has ls 2 [(0, .ref (q 0))] := hl
  refine lv_aload_n hx hb dX9_anew_0 rfl (lv_at hl 0 rfl) ?_
  refine va_get (D := D) (ci := 9) (v := .ref (q 3)) (C := RX9) (T := TX9) (N := 11) hx hb hT in_X9 hown hK hP 0 rfl rfl 2 (by decide) (hT _ t453) (fun _ h9 => h9) rfl dX9_anew_1 ?_
  refine va_get (D := D) (ci := 8) (v := .ref (q 12)) (C := RX8) (T := TX8) (N := 6) hx hb hT in_X8 hown hK hP 1 rfl rfl 0 (by decide) (hT _ t312) (fun _ h9 => h9) rfl dX9_anew_4 ?_
  refine ro_V (As := []) (rest := []) S (c_X1_isTold l D k q wf ) lkX9_211 ok_X1_isTold ⟨rfl, rfl, Nat.le_of_ble_eq_true rfl, Nat.le_of_ble_eq_true rfl⟩ (fw_V (ci := 1) (q0 := 2) hF rfl rfl) rfl hl.1 rfl (Nat.le_of_ble_eq_true rfl) ⟨Nat.zero_le _, Nat.zero_le _⟩ dX9_anew_7 (fun r_1 er_1 => ?_)
  subst er_1
  refine lv_if_ne (tgt := 16) hx hb dX9_anew_10 (by decide) (fun c_2 => ?_) (fun c_2 => ?_)
  · first | exact absurd c_2 (by decide) | exact absurd (by decide) c_2
  refine lv_bipush (v := (-2)) hx hb dX9_anew_13 (by decide) ?_
  exact W.iret (v := (-2)) hx hb hr (fun t ht hW => ⟨(-2), rfl, rfl, ht⟩) (fun _ h9 => by cases h9) dX9_anew_15
set_option maxHeartbeats 4000000 in
set_option maxRecDepth 100000 in
theorem c_X9_way (l : Launch) (D : va_G) (k : Nat → ClassId) (q : Nat → Nat) (wf : Nat → Int32) (p0 : Int32) (p1 : Int32)  : Met l yX9_way (.code yX9_way cX9_way 3 (some .int) :: TB) (rmk 2) (va_Pc [.ref (q 0), .int p0, .int p1] (fun U => FWH D k q wf U U.heap)) (vp_Si (fun r => r = (-2))) 0 0 (fun _ => False) := by
  refine Met.ofW (cc := cX9_way) (maxL := 3) (ret := (some .int)) (by decide) rfl ?_
  intro p e s m args below meth c s₁ B hml hv
  obtain ⟨rfl, hF⟩ := hv
  have hx := B.exec
  have hb := B.bytes
  have hr := B.returns
  have hT : ∀ w ∈ TB, w.before ([.ref (q 0), .int p0, .int p1] : List Value).toArray s = true := fun w h => atoms_spec (ws := .code yX9_way cX9_way 3 (some .int) :: TB) B.pre w (List.mem_cons_of_mem _ h)
  have hown : s.vm.findClass RX9 = some m.cls := findClass_of_methodNamed B.named
  have S : CallFix p m c cX9_way 3 s _ TB RX9 := ⟨hx, hb, hml, hown, hT⟩
  have hP : va_P D vwCl [(q 0, .inr (9, [.ref (q 1), .ref (q 2), .ref (q 3), .ref (q 4), .ref (q 5), .ref (q 6), .ref (q 7), .ref (q 8), .ref (q 9), .ref (q 10), .ref (q 11)])), (q 3, .inr (8, [.ref (q 12), .ref (q 13), .int 0, .ref (q 14), .ref (q 15), .ref (q 16)])), (q 12, .inr (1, [.int 0, .int 0, .int 0, .int 0, .int 0, .int 0, .int 0, .ref (q 17), .ref (q 18), .ref (q 19), .ref (q 20), .ref (q 21), .ref (q 22), .ref (q 23)])), (q 6, .inr (4, [.ref (q 24), .ref (q 25), .ref (q 26)])), (q 24, .inl (k 0, 4, .inl wf)), (q 5, .inl (k 3, 3, .inl (fun _ => 0))), (q 1, .inr (6, [.ref (q 27), .int 0])), (q 2, .inr (2, [.ref (q 1), .ref (q 28), .int 0, .int (-1), .int 0, .int 0, .int 0, .int 0]))] s.heap := hF.1
  have hK := hF.2.1
  have hl := lv_entry ([.ref (q 0), .int p0, .int p1]) (n := 3) (Nat.le_of_ble_eq_true rfl)
  rw [lg_entry_eq]
  generalize (lg_sl ([.ref (q 0), .int p0, .int p1]) ++ List.replicate (3 - (lg_sl ([.ref (q 0), .int p0, .int p1])).length) Slot.unset).toArray = ls at hl ⊢
  have hl : lv_has ls 3 [(0, .ref (q 0)), (1, .int p0), (2, .int p1)] := hl
  refine lv_aload_n hx hb dX9_way_0 rfl (lv_at hl 0 rfl) ?_
  refine va_get (D := D) (ci := 9) (v := .ref (q 3)) (C := RX9) (T := TX9) (N := 11) hx hb hT in_X9 hown hK hP 0 rfl rfl 2 (by decide) (hT _ t453) (fun _ h9 => h9) rfl dX9_way_1 ?_
  refine va_get (D := D) (ci := 8) (v := .ref (q 12)) (C := RX8) (T := TX8) (N := 6) hx hb hT in_X8 hown hK hP 1 rfl rfl 0 (by decide) (hT _ t312) (fun _ h9 => h9) rfl dX9_way_4 ?_
  refine lv_iload_n hx hb dX9_way_7 rfl (lv_at hl 1 rfl) ?_
  refine ro_V (As := [.int p0]) (rest := []) S (c_X1_isCart l D k q wf p0) lkX9_147 ok_X1_isCart ⟨rfl, rfl, Nat.le_of_ble_eq_true rfl, Nat.le_of_ble_eq_true rfl⟩ (fw_V (ci := 1) (q0 := 2) hF rfl rfl) rfl hl.1 rfl (Nat.le_of_ble_eq_true rfl) ⟨Nat.zero_le _, Nat.zero_le _⟩ dX9_way_8 (fun r_1 er_1 => ?_)
  subst er_1
  refine lv_if_eq (tgt := 28) hx hb dX9_way_11 (by decide) (fun c_2 => ?_) (fun c_2 => ?_)
  rotate_left
  · first | exact absurd c_2 (by decide) | exact absurd (by decide) c_2
  refine lv_bipush (v := (-2)) hx hb dX9_way_28 (by decide) ?_
  exact W.iret (v := (-2)) hx hb hr (fun t ht hW => ⟨(-2), rfl, rfl, ht⟩) (fun _ h9 => by cases h9) dX9_way_30
set_option maxHeartbeats 4000000 in
set_option maxRecDepth 100000 in
theorem c_X9_wants (l : Launch) (D : va_G) (k : Nat → ClassId) (q : Nat → Nat) (wf : Nat → Int32) (p0 : Int32) (p1 : Int32) (p2 : Int32)  : Met l yX9_wants (.code yX9_wants cX9_wants 4 (some .int) :: TB) (rmk 2) (va_Pc [.ref (q 0), .int p0, .int p1, .int p2] (fun U => FWH D k q wf U U.heap)) (vp_Si (fun r => r = (-2))) 0 0 (fun _ => False) := by
  refine Met.ofW (cc := cX9_wants) (maxL := 4) (ret := (some .int)) (by decide) rfl ?_
  intro p e s m args below meth c s₁ B hml hv
  obtain ⟨rfl, hF⟩ := hv
  have hx := B.exec
  have hb := B.bytes
  have hr := B.returns
  have hT : ∀ w ∈ TB, w.before ([.ref (q 0), .int p0, .int p1, .int p2] : List Value).toArray s = true := fun w h => atoms_spec (ws := .code yX9_wants cX9_wants 4 (some .int) :: TB) B.pre w (List.mem_cons_of_mem _ h)
  have hown : s.vm.findClass RX9 = some m.cls := findClass_of_methodNamed B.named
  have S : CallFix p m c cX9_wants 4 s _ TB RX9 := ⟨hx, hb, hml, hown, hT⟩
  have hP : va_P D vwCl [(q 0, .inr (9, [.ref (q 1), .ref (q 2), .ref (q 3), .ref (q 4), .ref (q 5), .ref (q 6), .ref (q 7), .ref (q 8), .ref (q 9), .ref (q 10), .ref (q 11)])), (q 3, .inr (8, [.ref (q 12), .ref (q 13), .int 0, .ref (q 14), .ref (q 15), .ref (q 16)])), (q 12, .inr (1, [.int 0, .int 0, .int 0, .int 0, .int 0, .int 0, .int 0, .ref (q 17), .ref (q 18), .ref (q 19), .ref (q 20), .ref (q 21), .ref (q 22), .ref (q 23)])), (q 6, .inr (4, [.ref (q 24), .ref (q 25), .ref (q 26)])), (q 24, .inl (k 0, 4, .inl wf)), (q 5, .inl (k 3, 3, .inl (fun _ => 0))), (q 1, .inr (6, [.ref (q 27), .int 0])), (q 2, .inr (2, [.ref (q 1), .ref (q 28), .int 0, .int (-1), .int 0, .int 0, .int 0, .int 0]))] s.heap := hF.1
  have hK := hF.2.1
  have hl := lv_entry ([.ref (q 0), .int p0, .int p1, .int p2]) (n := 4) (Nat.le_of_ble_eq_true rfl)
  rw [lg_entry_eq]
  generalize (lg_sl ([.ref (q 0), .int p0, .int p1, .int p2]) ++ List.replicate (4 - (lg_sl ([.ref (q 0), .int p0, .int p1, .int p2])).length) Slot.unset).toArray = ls at hl ⊢
  have hl : lv_has ls 4 [(0, .ref (q 0)), (1, .int p0), (2, .int p1), (3, .int p2)] := hl
  refine lv_aload_n hx hb dX9_wants_0 rfl (lv_at hl 0 rfl) ?_
  refine va_get (D := D) (ci := 9) (v := .ref (q 3)) (C := RX9) (T := TX9) (N := 11) hx hb hT in_X9 hown hK hP 0 rfl rfl 2 (by decide) (hT _ t453) (fun _ h9 => h9) rfl dX9_wants_1 ?_
  refine va_get (D := D) (ci := 8) (v := .ref (q 12)) (C := RX8) (T := TX8) (N := 6) hx hb hT in_X8 hown hK hP 1 rfl rfl 0 (by decide) (hT _ t312) (fun _ h9 => h9) rfl dX9_wants_4 ?_
  refine lv_iload_n hx hb dX9_wants_7 rfl (lv_at hl 1 rfl) ?_
  refine ro_V (As := [.int p0]) (rest := []) S (c_X1_isCart l D k q wf p0) lkX9_147 ok_X1_isCart ⟨rfl, rfl, Nat.le_of_ble_eq_true rfl, Nat.le_of_ble_eq_true rfl⟩ (fw_V (ci := 1) (q0 := 2) hF rfl rfl) rfl hl.1 rfl (Nat.le_of_ble_eq_true rfl) ⟨Nat.zero_le _, Nat.zero_le _⟩ dX9_wants_8 (fun r_1 er_1 => ?_)
  subst er_1
  refine lv_if_eq (tgt := 28) hx hb dX9_wants_11 (by decide) (fun c_2 => ?_) (fun c_2 => ?_)
  rotate_left
  · first | exact absurd c_2 (by decide) | exact absurd (by decide) c_2
  refine lv_bipush (v := (-2)) hx hb dX9_wants_28 (by decide) ?_
  exact W.iret (v := (-2)) hx hb hr (fun t ht hW => ⟨(-2), rfl, rfl, ht⟩) (fun _ h9 => by cases h9) dX9_wants_30
set_option maxHeartbeats 4000000 in
set_option maxRecDepth 100000 in
theorem c_X9_reach (l : Launch) (D : va_G) (k : Nat → ClassId) (q : Nat → Nat) (wf : Nat → Int32) (p0 : Int32)  : Met l yX9_reach (.code yX9_reach cX9_reach 4 (some .int) :: TB) (rmk 2) (va_Pc [.ref (q 0), .int p0] (fun U => FWH D k q wf U U.heap)) (vp_Si (fun r => r = (-2))) 0 0 (fun _ => False) := by
  refine Met.ofW (cc := cX9_reach) (maxL := 4) (ret := (some .int)) (by decide) rfl ?_
  intro p e s m args below meth c s₁ B hml hv
  obtain ⟨rfl, hF⟩ := hv
  have hx := B.exec
  have hb := B.bytes
  have hr := B.returns
  have hT : ∀ w ∈ TB, w.before ([.ref (q 0), .int p0] : List Value).toArray s = true := fun w h => atoms_spec (ws := .code yX9_reach cX9_reach 4 (some .int) :: TB) B.pre w (List.mem_cons_of_mem _ h)
  have hown : s.vm.findClass RX9 = some m.cls := findClass_of_methodNamed B.named
  have S : CallFix p m c cX9_reach 4 s _ TB RX9 := ⟨hx, hb, hml, hown, hT⟩
  have hP : va_P D vwCl [(q 0, .inr (9, [.ref (q 1), .ref (q 2), .ref (q 3), .ref (q 4), .ref (q 5), .ref (q 6), .ref (q 7), .ref (q 8), .ref (q 9), .ref (q 10), .ref (q 11)])), (q 3, .inr (8, [.ref (q 12), .ref (q 13), .int 0, .ref (q 14), .ref (q 15), .ref (q 16)])), (q 12, .inr (1, [.int 0, .int 0, .int 0, .int 0, .int 0, .int 0, .int 0, .ref (q 17), .ref (q 18), .ref (q 19), .ref (q 20), .ref (q 21), .ref (q 22), .ref (q 23)])), (q 6, .inr (4, [.ref (q 24), .ref (q 25), .ref (q 26)])), (q 24, .inl (k 0, 4, .inl wf)), (q 5, .inl (k 3, 3, .inl (fun _ => 0))), (q 1, .inr (6, [.ref (q 27), .int 0])), (q 2, .inr (2, [.ref (q 1), .ref (q 28), .int 0, .int (-1), .int 0, .int 0, .int 0, .int 0]))] s.heap := hF.1
  have hK := hF.2.1
  have hl := lv_entry ([.ref (q 0), .int p0]) (n := 4) (Nat.le_of_ble_eq_true rfl)
  rw [lg_entry_eq]
  generalize (lg_sl ([.ref (q 0), .int p0]) ++ List.replicate (4 - (lg_sl ([.ref (q 0), .int p0])).length) Slot.unset).toArray = ls at hl ⊢
  have hl : lv_has ls 4 [(0, .ref (q 0)), (1, .int p0)] := hl
  refine lv_aload_n hx hb dX9_reach_0 rfl (lv_at hl 0 rfl) ?_
  refine va_get (D := D) (ci := 9) (v := .ref (q 3)) (C := RX9) (T := TX9) (N := 11) hx hb hT in_X9 hown hK hP 0 rfl rfl 2 (by decide) (hT _ t453) (fun _ h9 => h9) rfl dX9_reach_1 ?_
  refine va_get (D := D) (ci := 8) (v := .ref (q 12)) (C := RX8) (T := TX8) (N := 6) hx hb hT in_X8 hown hK hP 1 rfl rfl 0 (by decide) (hT _ t312) (fun _ h9 => h9) rfl dX9_reach_4 ?_
  refine lv_iload_n hx hb dX9_reach_7 rfl (lv_at hl 1 rfl) ?_
  refine ro_V (As := [.int p0]) (rest := []) S (c_X1_isCart l D k q wf p0) lkX9_147 ok_X1_isCart ⟨rfl, rfl, Nat.le_of_ble_eq_true rfl, Nat.le_of_ble_eq_true rfl⟩ (fw_V (ci := 1) (q0 := 2) hF rfl rfl) rfl hl.1 rfl (Nat.le_of_ble_eq_true rfl) ⟨Nat.zero_le _, Nat.zero_le _⟩ dX9_reach_8 (fun r_1 er_1 => ?_)
  subst er_1
  refine lv_if_ne (tgt := 17) hx hb dX9_reach_11 (by decide) (fun c_2 => ?_) (fun c_2 => ?_)
  · first | exact absurd c_2 (by decide) | exact absurd (by decide) c_2
  refine lv_bipush (v := (-2)) hx hb dX9_reach_14 (by decide) ?_
  exact W.iret (v := (-2)) hx hb hr (fun t ht hW => ⟨(-2), rfl, rfl, ht⟩) (fun _ h9 => by cases h9) dX9_reach_16
set_option maxHeartbeats 4000000 in
set_option maxRecDepth 100000 in
theorem c_X9_far (l : Launch) (D : va_G) (k : Nat → ClassId) (q : Nat → Nat) (wf : Nat → Int32) (p0 : Int32) (p1 : Int32)  : Met l yX9_far (.code yX9_far cX9_far 3 (some .int) :: TB) (rmk 2) (va_Pc [.ref (q 0), .int p0, .int p1] (fun U => FWH D k q wf U U.heap)) (vp_Si (fun r => r = (-2))) 0 0 (fun _ => False) := by
  refine Met.ofW (cc := cX9_far) (maxL := 3) (ret := (some .int)) (by decide) rfl ?_
  intro p e s m args below meth c s₁ B hml hv
  obtain ⟨rfl, hF⟩ := hv
  have hx := B.exec
  have hb := B.bytes
  have hr := B.returns
  have hT : ∀ w ∈ TB, w.before ([.ref (q 0), .int p0, .int p1] : List Value).toArray s = true := fun w h => atoms_spec (ws := .code yX9_far cX9_far 3 (some .int) :: TB) B.pre w (List.mem_cons_of_mem _ h)
  have hown : s.vm.findClass RX9 = some m.cls := findClass_of_methodNamed B.named
  have S : CallFix p m c cX9_far 3 s _ TB RX9 := ⟨hx, hb, hml, hown, hT⟩
  have hP : va_P D vwCl [(q 0, .inr (9, [.ref (q 1), .ref (q 2), .ref (q 3), .ref (q 4), .ref (q 5), .ref (q 6), .ref (q 7), .ref (q 8), .ref (q 9), .ref (q 10), .ref (q 11)])), (q 3, .inr (8, [.ref (q 12), .ref (q 13), .int 0, .ref (q 14), .ref (q 15), .ref (q 16)])), (q 12, .inr (1, [.int 0, .int 0, .int 0, .int 0, .int 0, .int 0, .int 0, .ref (q 17), .ref (q 18), .ref (q 19), .ref (q 20), .ref (q 21), .ref (q 22), .ref (q 23)])), (q 6, .inr (4, [.ref (q 24), .ref (q 25), .ref (q 26)])), (q 24, .inl (k 0, 4, .inl wf)), (q 5, .inl (k 3, 3, .inl (fun _ => 0))), (q 1, .inr (6, [.ref (q 27), .int 0])), (q 2, .inr (2, [.ref (q 1), .ref (q 28), .int 0, .int (-1), .int 0, .int 0, .int 0, .int 0]))] s.heap := hF.1
  have hK := hF.2.1
  have hl := lv_entry ([.ref (q 0), .int p0, .int p1]) (n := 3) (Nat.le_of_ble_eq_true rfl)
  rw [lg_entry_eq]
  generalize (lg_sl ([.ref (q 0), .int p0, .int p1]) ++ List.replicate (3 - (lg_sl ([.ref (q 0), .int p0, .int p1])).length) Slot.unset).toArray = ls at hl ⊢
  have hl : lv_has ls 3 [(0, .ref (q 0)), (1, .int p0), (2, .int p1)] := hl
  refine lv_aload_n hx hb dX9_far_0 rfl (lv_at hl 0 rfl) ?_
  refine va_get (D := D) (ci := 9) (v := .ref (q 3)) (C := RX9) (T := TX9) (N := 11) hx hb hT in_X9 hown hK hP 0 rfl rfl 2 (by decide) (hT _ t453) (fun _ h9 => h9) rfl dX9_far_1 ?_
  refine va_get (D := D) (ci := 8) (v := .ref (q 12)) (C := RX8) (T := TX8) (N := 6) hx hb hT in_X8 hown hK hP 1 rfl rfl 0 (by decide) (hT _ t312) (fun _ h9 => h9) rfl dX9_far_4 ?_
  refine lv_iload_n hx hb dX9_far_7 rfl (lv_at hl 1 rfl) ?_
  refine ro_V (As := [.int p0]) (rest := []) S (c_X1_isPlace l D k q wf p0) lkX9_171 ok_X1_isPlace ⟨rfl, rfl, Nat.le_of_ble_eq_true rfl, Nat.le_of_ble_eq_true rfl⟩ (fw_V (ci := 1) (q0 := 2) hF rfl rfl) rfl hl.1 rfl (Nat.le_of_ble_eq_true rfl) ⟨Nat.zero_le _, Nat.zero_le _⟩ dX9_far_8 (fun r_1 er_1 => ?_)
  subst er_1
  refine lv_if_eq (tgt := 28) hx hb dX9_far_11 (by decide) (fun c_2 => ?_) (fun c_2 => ?_)
  rotate_left
  · first | exact absurd c_2 (by decide) | exact absurd (by decide) c_2
  refine lv_bipush (v := (-2)) hx hb dX9_far_28 (by decide) ?_
  exact W.iret (v := (-2)) hx hb hr (fun t ht hW => ⟨(-2), rfl, rfl, ht⟩) (fun _ h9 => by cases h9) dX9_far_30
set_option maxHeartbeats 4000000 in
set_option maxRecDepth 100000 in
theorem c_X9_dues (l : Launch) (D : va_G) (k : Nat → ClassId) (q : Nat → Nat) (wf : Nat → Int32)   : Met l yX9_dues (.code yX9_dues cX9_dues 4 (some .int) :: TB) (rmk 2) (va_Pc [.ref (q 0)] (fun U => FWH D k q wf U U.heap)) (vp_Si (fun r => r = (-2))) 0 0 (fun _ => False) := by
  refine Met.ofW (cc := cX9_dues) (maxL := 4) (ret := (some .int)) (by decide) rfl ?_
  intro p e s m args below meth c s₁ B hml hv
  obtain ⟨rfl, hF⟩ := hv
  have hx := B.exec
  have hb := B.bytes
  have hr := B.returns
  have hT : ∀ w ∈ TB, w.before ([.ref (q 0)] : List Value).toArray s = true := fun w h => atoms_spec (ws := .code yX9_dues cX9_dues 4 (some .int) :: TB) B.pre w (List.mem_cons_of_mem _ h)
  have hown : s.vm.findClass RX9 = some m.cls := findClass_of_methodNamed B.named
  have S : CallFix p m c cX9_dues 4 s _ TB RX9 := ⟨hx, hb, hml, hown, hT⟩
  have hP : va_P D vwCl [(q 0, .inr (9, [.ref (q 1), .ref (q 2), .ref (q 3), .ref (q 4), .ref (q 5), .ref (q 6), .ref (q 7), .ref (q 8), .ref (q 9), .ref (q 10), .ref (q 11)])), (q 3, .inr (8, [.ref (q 12), .ref (q 13), .int 0, .ref (q 14), .ref (q 15), .ref (q 16)])), (q 12, .inr (1, [.int 0, .int 0, .int 0, .int 0, .int 0, .int 0, .int 0, .ref (q 17), .ref (q 18), .ref (q 19), .ref (q 20), .ref (q 21), .ref (q 22), .ref (q 23)])), (q 6, .inr (4, [.ref (q 24), .ref (q 25), .ref (q 26)])), (q 24, .inl (k 0, 4, .inl wf)), (q 5, .inl (k 3, 3, .inl (fun _ => 0))), (q 1, .inr (6, [.ref (q 27), .int 0])), (q 2, .inr (2, [.ref (q 1), .ref (q 28), .int 0, .int (-1), .int 0, .int 0, .int 0, .int 0]))] s.heap := hF.1
  have hK := hF.2.1
  have hl := lv_entry ([.ref (q 0)]) (n := 4) (Nat.le_of_ble_eq_true rfl)
  rw [lg_entry_eq]
  generalize (lg_sl ([.ref (q 0)]) ++ List.replicate (4 - (lg_sl ([.ref (q 0)])).length) Slot.unset).toArray = ls at hl ⊢
  have hl : lv_has ls 4 [(0, .ref (q 0))] := hl
  refine lv_aload_n hx hb dX9_dues_0 rfl (lv_at hl 0 rfl) ?_
  refine va_get (D := D) (ci := 9) (v := .ref (q 3)) (C := RX9) (T := TX9) (N := 11) hx hb hT in_X9 hown hK hP 0 rfl rfl 2 (by decide) (hT _ t453) (fun _ h9 => h9) rfl dX9_dues_1 ?_
  refine va_get (D := D) (ci := 8) (v := .ref (q 12)) (C := RX8) (T := TX8) (N := 6) hx hb hT in_X8 hown hK hP 1 rfl rfl 0 (by decide) (hT _ t312) (fun _ h9 => h9) rfl dX9_dues_4 ?_
  refine ro_V (As := []) (rest := []) S (c_X1_isTold l D k q wf ) lkX9_211 ok_X1_isTold ⟨rfl, rfl, Nat.le_of_ble_eq_true rfl, Nat.le_of_ble_eq_true rfl⟩ (fw_V (ci := 1) (q0 := 2) hF rfl rfl) rfl hl.1 rfl (Nat.le_of_ble_eq_true rfl) ⟨Nat.zero_le _, Nat.zero_le _⟩ dX9_dues_7 (fun r_1 er_1 => ?_)
  subst er_1
  refine lv_if_ne (tgt := 16) hx hb dX9_dues_10 (by decide) (fun c_2 => ?_) (fun c_2 => ?_)
  · first | exact absurd c_2 (by decide) | exact absurd (by decide) c_2
  refine lv_bipush (v := (-2)) hx hb dX9_dues_13 (by decide) ?_
  exact W.iret (v := (-2)) hx hb hr (fun t ht hW => ⟨(-2), rfl, rfl, ht⟩) (fun _ h9 => by cases h9) dX9_dues_15
set_option maxHeartbeats 4000000 in
set_option maxRecDepth 100000 in
theorem c_X9_choose (l : Launch) (D : va_G) (k : Nat → ClassId) (q : Nat → Nat) (wf : Nat → Int32) (p0 : Int32) (p1 : Int32)  : Met l yX9_choose (.code yX9_choose cX9_choose 3 (some .int) :: TB) (rmk 2) (va_Pc [.ref (q 0), .int p0, .int p1] (fun U => FWH D k q wf U U.heap)) (vp_Si (fun r => r = (-2))) 0 0 (fun _ => False) := by
  refine Met.ofW (cc := cX9_choose) (maxL := 3) (ret := (some .int)) (by decide) rfl ?_
  intro p e s m args below meth c s₁ B hml hv
  obtain ⟨rfl, hF⟩ := hv
  have hx := B.exec
  have hb := B.bytes
  have hr := B.returns
  have hT : ∀ w ∈ TB, w.before ([.ref (q 0), .int p0, .int p1] : List Value).toArray s = true := fun w h => atoms_spec (ws := .code yX9_choose cX9_choose 3 (some .int) :: TB) B.pre w (List.mem_cons_of_mem _ h)
  have hown : s.vm.findClass RX9 = some m.cls := findClass_of_methodNamed B.named
  have S : CallFix p m c cX9_choose 3 s _ TB RX9 := ⟨hx, hb, hml, hown, hT⟩
  have hP : va_P D vwCl [(q 0, .inr (9, [.ref (q 1), .ref (q 2), .ref (q 3), .ref (q 4), .ref (q 5), .ref (q 6), .ref (q 7), .ref (q 8), .ref (q 9), .ref (q 10), .ref (q 11)])), (q 3, .inr (8, [.ref (q 12), .ref (q 13), .int 0, .ref (q 14), .ref (q 15), .ref (q 16)])), (q 12, .inr (1, [.int 0, .int 0, .int 0, .int 0, .int 0, .int 0, .int 0, .ref (q 17), .ref (q 18), .ref (q 19), .ref (q 20), .ref (q 21), .ref (q 22), .ref (q 23)])), (q 6, .inr (4, [.ref (q 24), .ref (q 25), .ref (q 26)])), (q 24, .inl (k 0, 4, .inl wf)), (q 5, .inl (k 3, 3, .inl (fun _ => 0))), (q 1, .inr (6, [.ref (q 27), .int 0])), (q 2, .inr (2, [.ref (q 1), .ref (q 28), .int 0, .int (-1), .int 0, .int 0, .int 0, .int 0]))] s.heap := hF.1
  have hK := hF.2.1
  have hl := lv_entry ([.ref (q 0), .int p0, .int p1]) (n := 3) (Nat.le_of_ble_eq_true rfl)
  rw [lg_entry_eq]
  generalize (lg_sl ([.ref (q 0), .int p0, .int p1]) ++ List.replicate (3 - (lg_sl ([.ref (q 0), .int p0, .int p1])).length) Slot.unset).toArray = ls at hl ⊢
  have hl : lv_has ls 3 [(0, .ref (q 0)), (1, .int p0), (2, .int p1)] := hl
  refine lv_aload_n hx hb dX9_choose_0 rfl (lv_at hl 0 rfl) ?_
  refine va_get (D := D) (ci := 9) (v := .ref (q 3)) (C := RX9) (T := TX9) (N := 11) hx hb hT in_X9 hown hK hP 0 rfl rfl 2 (by decide) (hT _ t453) (fun _ h9 => h9) rfl dX9_choose_1 ?_
  refine va_get (D := D) (ci := 8) (v := .ref (q 12)) (C := RX8) (T := TX8) (N := 6) hx hb hT in_X8 hown hK hP 1 rfl rfl 0 (by decide) (hT _ t312) (fun _ h9 => h9) rfl dX9_choose_4 ?_
  refine lv_iload_n hx hb dX9_choose_7 rfl (lv_at hl 1 rfl) ?_
  refine ro_V (As := [.int p0]) (rest := []) S (c_X1_isCart l D k q wf p0) lkX9_147 ok_X1_isCart ⟨rfl, rfl, Nat.le_of_ble_eq_true rfl, Nat.le_of_ble_eq_true rfl⟩ (fw_V (ci := 1) (q0 := 2) hF rfl rfl) rfl hl.1 rfl (Nat.le_of_ble_eq_true rfl) ⟨Nat.zero_le _, Nat.zero_le _⟩ dX9_choose_8 (fun r_1 er_1 => ?_)
  subst er_1
  refine lv_if_eq (tgt := 28) hx hb dX9_choose_11 (by decide) (fun c_2 => ?_) (fun c_2 => ?_)
  rotate_left
  · first | exact absurd c_2 (by decide) | exact absurd (by decide) c_2
  refine lv_bipush (v := (-2)) hx hb dX9_choose_28 (by decide) ?_
  exact W.iret (v := (-2)) hx hb hr (fun t ht hW => ⟨(-2), rfl, rfl, ht⟩) (fun _ h9 => by cases h9) dX9_choose_30
set_option maxHeartbeats 4000000 in
set_option maxRecDepth 100000 in
theorem c_X9_chosen (l : Launch) (D : va_G) (k : Nat → ClassId) (q : Nat → Nat) (wf : Nat → Int32) (p0 : Int32) (p1 : Int32)  : Met l yX9_chosen (.code yX9_chosen cX9_chosen 3 (some .int) :: TB) (rmk 2) (va_Pc [.ref (q 0), .int p0, .int p1] (fun U => FWH D k q wf U U.heap)) (vp_Si (fun r => r = (-2))) 0 0 (fun _ => False) := by
  refine Met.ofW (cc := cX9_chosen) (maxL := 3) (ret := (some .int)) (by decide) rfl ?_
  intro p e s m args below meth c s₁ B hml hv
  obtain ⟨rfl, hF⟩ := hv
  have hx := B.exec
  have hb := B.bytes
  have hr := B.returns
  have hT : ∀ w ∈ TB, w.before ([.ref (q 0), .int p0, .int p1] : List Value).toArray s = true := fun w h => atoms_spec (ws := .code yX9_chosen cX9_chosen 3 (some .int) :: TB) B.pre w (List.mem_cons_of_mem _ h)
  have hown : s.vm.findClass RX9 = some m.cls := findClass_of_methodNamed B.named
  have S : CallFix p m c cX9_chosen 3 s _ TB RX9 := ⟨hx, hb, hml, hown, hT⟩
  have hP : va_P D vwCl [(q 0, .inr (9, [.ref (q 1), .ref (q 2), .ref (q 3), .ref (q 4), .ref (q 5), .ref (q 6), .ref (q 7), .ref (q 8), .ref (q 9), .ref (q 10), .ref (q 11)])), (q 3, .inr (8, [.ref (q 12), .ref (q 13), .int 0, .ref (q 14), .ref (q 15), .ref (q 16)])), (q 12, .inr (1, [.int 0, .int 0, .int 0, .int 0, .int 0, .int 0, .int 0, .ref (q 17), .ref (q 18), .ref (q 19), .ref (q 20), .ref (q 21), .ref (q 22), .ref (q 23)])), (q 6, .inr (4, [.ref (q 24), .ref (q 25), .ref (q 26)])), (q 24, .inl (k 0, 4, .inl wf)), (q 5, .inl (k 3, 3, .inl (fun _ => 0))), (q 1, .inr (6, [.ref (q 27), .int 0])), (q 2, .inr (2, [.ref (q 1), .ref (q 28), .int 0, .int (-1), .int 0, .int 0, .int 0, .int 0]))] s.heap := hF.1
  have hK := hF.2.1
  have hl := lv_entry ([.ref (q 0), .int p0, .int p1]) (n := 3) (Nat.le_of_ble_eq_true rfl)
  rw [lg_entry_eq]
  generalize (lg_sl ([.ref (q 0), .int p0, .int p1]) ++ List.replicate (3 - (lg_sl ([.ref (q 0), .int p0, .int p1])).length) Slot.unset).toArray = ls at hl ⊢
  have hl : lv_has ls 3 [(0, .ref (q 0)), (1, .int p0), (2, .int p1)] := hl
  refine lv_aload_n hx hb dX9_chosen_0 rfl (lv_at hl 0 rfl) ?_
  refine va_get (D := D) (ci := 9) (v := .ref (q 3)) (C := RX9) (T := TX9) (N := 11) hx hb hT in_X9 hown hK hP 0 rfl rfl 2 (by decide) (hT _ t453) (fun _ h9 => h9) rfl dX9_chosen_1 ?_
  refine va_get (D := D) (ci := 8) (v := .ref (q 12)) (C := RX8) (T := TX8) (N := 6) hx hb hT in_X8 hown hK hP 1 rfl rfl 0 (by decide) (hT _ t312) (fun _ h9 => h9) rfl dX9_chosen_4 ?_
  refine lv_iload_n hx hb dX9_chosen_7 rfl (lv_at hl 1 rfl) ?_
  refine ro_V (As := [.int p0]) (rest := []) S (c_X1_isCart l D k q wf p0) lkX9_147 ok_X1_isCart ⟨rfl, rfl, Nat.le_of_ble_eq_true rfl, Nat.le_of_ble_eq_true rfl⟩ (fw_V (ci := 1) (q0 := 2) hF rfl rfl) rfl hl.1 rfl (Nat.le_of_ble_eq_true rfl) ⟨Nat.zero_le _, Nat.zero_le _⟩ dX9_chosen_8 (fun r_1 er_1 => ?_)
  subst er_1
  refine lv_if_eq (tgt := 28) hx hb dX9_chosen_11 (by decide) (fun c_2 => ?_) (fun c_2 => ?_)
  rotate_left
  · first | exact absurd c_2 (by decide) | exact absurd (by decide) c_2
  refine lv_bipush (v := (-2)) hx hb dX9_chosen_28 (by decide) ?_
  exact W.iret (v := (-2)) hx hb hr (fun t ht hW => ⟨(-2), rfl, rfl, ht⟩) (fun _ h9 => by cases h9) dX9_chosen_30
set_option maxHeartbeats 4000000 in
set_option maxRecDepth 100000 in
theorem c_X9_roams (l : Launch) (D : va_G) (k : Nat → ClassId) (q : Nat → Nat) (wf : Nat → Int32) (p0 : Int32) (p1 : Int32)  : Met l yX9_roams (.code yX9_roams cX9_roams 4 (some .int) :: TB) (rmk 2) (va_Pc [.ref (q 0), .int p0, .int p1] (fun U => FWH D k q wf U U.heap)) (vp_Si (fun r => r = (-2))) 0 0 (fun _ => False) := by
  refine Met.ofW (cc := cX9_roams) (maxL := 4) (ret := (some .int)) (by decide) rfl ?_
  intro p e s m args below meth c s₁ B hml hv
  obtain ⟨rfl, hF⟩ := hv
  have hx := B.exec
  have hb := B.bytes
  have hr := B.returns
  have hT : ∀ w ∈ TB, w.before ([.ref (q 0), .int p0, .int p1] : List Value).toArray s = true := fun w h => atoms_spec (ws := .code yX9_roams cX9_roams 4 (some .int) :: TB) B.pre w (List.mem_cons_of_mem _ h)
  have hown : s.vm.findClass RX9 = some m.cls := findClass_of_methodNamed B.named
  have S : CallFix p m c cX9_roams 4 s _ TB RX9 := ⟨hx, hb, hml, hown, hT⟩
  have hP : va_P D vwCl [(q 0, .inr (9, [.ref (q 1), .ref (q 2), .ref (q 3), .ref (q 4), .ref (q 5), .ref (q 6), .ref (q 7), .ref (q 8), .ref (q 9), .ref (q 10), .ref (q 11)])), (q 3, .inr (8, [.ref (q 12), .ref (q 13), .int 0, .ref (q 14), .ref (q 15), .ref (q 16)])), (q 12, .inr (1, [.int 0, .int 0, .int 0, .int 0, .int 0, .int 0, .int 0, .ref (q 17), .ref (q 18), .ref (q 19), .ref (q 20), .ref (q 21), .ref (q 22), .ref (q 23)])), (q 6, .inr (4, [.ref (q 24), .ref (q 25), .ref (q 26)])), (q 24, .inl (k 0, 4, .inl wf)), (q 5, .inl (k 3, 3, .inl (fun _ => 0))), (q 1, .inr (6, [.ref (q 27), .int 0])), (q 2, .inr (2, [.ref (q 1), .ref (q 28), .int 0, .int (-1), .int 0, .int 0, .int 0, .int 0]))] s.heap := hF.1
  have hK := hF.2.1
  have hl := lv_entry ([.ref (q 0), .int p0, .int p1]) (n := 4) (Nat.le_of_ble_eq_true rfl)
  rw [lg_entry_eq]
  generalize (lg_sl ([.ref (q 0), .int p0, .int p1]) ++ List.replicate (4 - (lg_sl ([.ref (q 0), .int p0, .int p1])).length) Slot.unset).toArray = ls at hl ⊢
  have hl : lv_has ls 4 [(0, .ref (q 0)), (1, .int p0), (2, .int p1)] := hl
  refine lv_aload_n hx hb dX9_roams_0 rfl (lv_at hl 0 rfl) ?_
  refine va_get (D := D) (ci := 9) (v := .ref (q 3)) (C := RX9) (T := TX9) (N := 11) hx hb hT in_X9 hown hK hP 0 rfl rfl 2 (by decide) (hT _ t453) (fun _ h9 => h9) rfl dX9_roams_1 ?_
  refine va_get (D := D) (ci := 8) (v := .ref (q 12)) (C := RX8) (T := TX8) (N := 6) hx hb hT in_X8 hown hK hP 1 rfl rfl 0 (by decide) (hT _ t312) (fun _ h9 => h9) rfl dX9_roams_4 ?_
  refine lv_iload_n hx hb dX9_roams_7 rfl (lv_at hl 1 rfl) ?_
  refine ro_V (As := [.int p0]) (rest := []) S (c_X1_isCart l D k q wf p0) lkX9_147 ok_X1_isCart ⟨rfl, rfl, Nat.le_of_ble_eq_true rfl, Nat.le_of_ble_eq_true rfl⟩ (fw_V (ci := 1) (q0 := 2) hF rfl rfl) rfl hl.1 rfl (Nat.le_of_ble_eq_true rfl) ⟨Nat.zero_le _, Nat.zero_le _⟩ dX9_roams_8 (fun r_1 er_1 => ?_)
  subst er_1
  refine lv_if_eq (tgt := 24) hx hb dX9_roams_11 (by decide) (fun c_2 => ?_) (fun c_2 => ?_)
  rotate_left
  · first | exact absurd c_2 (by decide) | exact absurd (by decide) c_2
  refine lv_bipush (v := (-2)) hx hb dX9_roams_24 (by decide) ?_
  exact W.iret (v := (-2)) hx hb hr (fun t ht hW => ⟨(-2), rfl, rfl, ht⟩) (fun _ h9 => by cases h9) dX9_roams_26
set_option maxHeartbeats 4000000 in
set_option maxRecDepth 100000 in
theorem c_X9_circle (l : Launch) (D : va_G) (k : Nat → ClassId) (q : Nat → Nat) (wf : Nat → Int32) (p0 : Int32)  : Met l yX9_circle (.code yX9_circle cX9_circle 5 (some .int) :: TB) (rmk 2) (va_Pc [.ref (q 0), .int p0] (fun U => FWH D k q wf U U.heap)) (vp_Si (fun r => r = (-2))) 0 0 (fun _ => False) := by
  refine Met.ofW (cc := cX9_circle) (maxL := 5) (ret := (some .int)) (by decide) rfl ?_
  intro p e s m args below meth c s₁ B hml hv
  obtain ⟨rfl, hF⟩ := hv
  have hx := B.exec
  have hb := B.bytes
  have hr := B.returns
  have hT : ∀ w ∈ TB, w.before ([.ref (q 0), .int p0] : List Value).toArray s = true := fun w h => atoms_spec (ws := .code yX9_circle cX9_circle 5 (some .int) :: TB) B.pre w (List.mem_cons_of_mem _ h)
  have hown : s.vm.findClass RX9 = some m.cls := findClass_of_methodNamed B.named
  have S : CallFix p m c cX9_circle 5 s _ TB RX9 := ⟨hx, hb, hml, hown, hT⟩
  have hP : va_P D vwCl [(q 0, .inr (9, [.ref (q 1), .ref (q 2), .ref (q 3), .ref (q 4), .ref (q 5), .ref (q 6), .ref (q 7), .ref (q 8), .ref (q 9), .ref (q 10), .ref (q 11)])), (q 3, .inr (8, [.ref (q 12), .ref (q 13), .int 0, .ref (q 14), .ref (q 15), .ref (q 16)])), (q 12, .inr (1, [.int 0, .int 0, .int 0, .int 0, .int 0, .int 0, .int 0, .ref (q 17), .ref (q 18), .ref (q 19), .ref (q 20), .ref (q 21), .ref (q 22), .ref (q 23)])), (q 6, .inr (4, [.ref (q 24), .ref (q 25), .ref (q 26)])), (q 24, .inl (k 0, 4, .inl wf)), (q 5, .inl (k 3, 3, .inl (fun _ => 0))), (q 1, .inr (6, [.ref (q 27), .int 0])), (q 2, .inr (2, [.ref (q 1), .ref (q 28), .int 0, .int (-1), .int 0, .int 0, .int 0, .int 0]))] s.heap := hF.1
  have hK := hF.2.1
  have hl := lv_entry ([.ref (q 0), .int p0]) (n := 5) (Nat.le_of_ble_eq_true rfl)
  rw [lg_entry_eq]
  generalize (lg_sl ([.ref (q 0), .int p0]) ++ List.replicate (5 - (lg_sl ([.ref (q 0), .int p0])).length) Slot.unset).toArray = ls at hl ⊢
  have hl : lv_has ls 5 [(0, .ref (q 0)), (1, .int p0)] := hl
  refine lv_aload_n hx hb dX9_circle_0 rfl (lv_at hl 0 rfl) ?_
  refine va_get (D := D) (ci := 9) (v := .ref (q 3)) (C := RX9) (T := TX9) (N := 11) hx hb hT in_X9 hown hK hP 0 rfl rfl 2 (by decide) (hT _ t453) (fun _ h9 => h9) rfl dX9_circle_1 ?_
  refine va_get (D := D) (ci := 8) (v := .ref (q 12)) (C := RX8) (T := TX8) (N := 6) hx hb hT in_X8 hown hK hP 1 rfl rfl 0 (by decide) (hT _ t312) (fun _ h9 => h9) rfl dX9_circle_4 ?_
  refine lv_iload_n hx hb dX9_circle_7 rfl (lv_at hl 1 rfl) ?_
  refine ro_V (As := [.int p0]) (rest := []) S (c_X1_isCart l D k q wf p0) lkX9_147 ok_X1_isCart ⟨rfl, rfl, Nat.le_of_ble_eq_true rfl, Nat.le_of_ble_eq_true rfl⟩ (fw_V (ci := 1) (q0 := 2) hF rfl rfl) rfl hl.1 rfl (Nat.le_of_ble_eq_true rfl) ⟨Nat.zero_le _, Nat.zero_le _⟩ dX9_circle_8 (fun r_1 er_1 => ?_)
  subst er_1
  refine lv_if_ne (tgt := 17) hx hb dX9_circle_11 (by decide) (fun c_2 => ?_) (fun c_2 => ?_)
  · first | exact absurd c_2 (by decide) | exact absurd (by decide) c_2
  refine lv_bipush (v := (-2)) hx hb dX9_circle_14 (by decide) ?_
  exact W.iret (v := (-2)) hx hb hr (fun t ht hW => ⟨(-2), rfl, rfl, ht⟩) (fun _ h9 => by cases h9) dX9_circle_16
end
section
set_option maxHeartbeats 4000000 in
set_option maxRecDepth 100000 in
theorem c_X9_haunts (l : Launch) (D : va_G) (k : Nat → ClassId) (q : Nat → Nat) (wf : Nat → Int32) (p0 : Int32)  : Met l yX9_haunts (.code yX9_haunts cX9_haunts 4 (some .int) :: TB) (rmk 2) (va_Pc [.ref (q 0), .int p0] (fun U => FWH D k q wf U U.heap)) (vp_Si (fun r => r = (-2))) 0 0 (fun _ => False) := by
  refine Met.ofW (cc := cX9_haunts) (maxL := 4) (ret := (some .int)) (by decide) rfl ?_
  intro p e s m args below meth c s₁ B hml hv
  obtain ⟨rfl, hF⟩ := hv
  have hx := B.exec
  have hb := B.bytes
  have hr := B.returns
  have hT : ∀ w ∈ TB, w.before ([.ref (q 0), .int p0] : List Value).toArray s = true := fun w h => atoms_spec (ws := .code yX9_haunts cX9_haunts 4 (some .int) :: TB) B.pre w (List.mem_cons_of_mem _ h)
  have hown : s.vm.findClass RX9 = some m.cls := findClass_of_methodNamed B.named
  have S : CallFix p m c cX9_haunts 4 s _ TB RX9 := ⟨hx, hb, hml, hown, hT⟩
  have hP : va_P D vwCl [(q 0, .inr (9, [.ref (q 1), .ref (q 2), .ref (q 3), .ref (q 4), .ref (q 5), .ref (q 6), .ref (q 7), .ref (q 8), .ref (q 9), .ref (q 10), .ref (q 11)])), (q 3, .inr (8, [.ref (q 12), .ref (q 13), .int 0, .ref (q 14), .ref (q 15), .ref (q 16)])), (q 12, .inr (1, [.int 0, .int 0, .int 0, .int 0, .int 0, .int 0, .int 0, .ref (q 17), .ref (q 18), .ref (q 19), .ref (q 20), .ref (q 21), .ref (q 22), .ref (q 23)])), (q 6, .inr (4, [.ref (q 24), .ref (q 25), .ref (q 26)])), (q 24, .inl (k 0, 4, .inl wf)), (q 5, .inl (k 3, 3, .inl (fun _ => 0))), (q 1, .inr (6, [.ref (q 27), .int 0])), (q 2, .inr (2, [.ref (q 1), .ref (q 28), .int 0, .int (-1), .int 0, .int 0, .int 0, .int 0]))] s.heap := hF.1
  have hK := hF.2.1
  have hl := lv_entry ([.ref (q 0), .int p0]) (n := 4) (Nat.le_of_ble_eq_true rfl)
  rw [lg_entry_eq]
  generalize (lg_sl ([.ref (q 0), .int p0]) ++ List.replicate (4 - (lg_sl ([.ref (q 0), .int p0])).length) Slot.unset).toArray = ls at hl ⊢
  have hl : lv_has ls 4 [(0, .ref (q 0)), (1, .int p0)] := hl
  refine lv_aload_n hx hb dX9_haunts_0 rfl (lv_at hl 0 rfl) ?_
  refine va_get (D := D) (ci := 9) (v := .ref (q 3)) (C := RX9) (T := TX9) (N := 11) hx hb hT in_X9 hown hK hP 0 rfl rfl 2 (by decide) (hT _ t453) (fun _ h9 => h9) rfl dX9_haunts_1 ?_
  refine va_get (D := D) (ci := 8) (v := .ref (q 12)) (C := RX8) (T := TX8) (N := 6) hx hb hT in_X8 hown hK hP 1 rfl rfl 0 (by decide) (hT _ t312) (fun _ h9 => h9) rfl dX9_haunts_4 ?_
  refine lv_iload_n hx hb dX9_haunts_7 rfl (lv_at hl 1 rfl) ?_
  refine ro_V (As := [.int p0]) (rest := []) S (c_X1_isCart l D k q wf p0) lkX9_147 ok_X1_isCart ⟨rfl, rfl, Nat.le_of_ble_eq_true rfl, Nat.le_of_ble_eq_true rfl⟩ (fw_V (ci := 1) (q0 := 2) hF rfl rfl) rfl hl.1 rfl (Nat.le_of_ble_eq_true rfl) ⟨Nat.zero_le _, Nat.zero_le _⟩ dX9_haunts_8 (fun r_1 er_1 => ?_)
  subst er_1
  refine lv_if_ne (tgt := 17) hx hb dX9_haunts_11 (by decide) (fun c_2 => ?_) (fun c_2 => ?_)
  · first | exact absurd c_2 (by decide) | exact absurd (by decide) c_2
  refine lv_bipush (v := (-2)) hx hb dX9_haunts_14 (by decide) ?_
  exact W.iret (v := (-2)) hx hb hr (fun t ht hW => ⟨(-2), rfl, rfl, ht⟩) (fun _ h9 => by cases h9) dX9_haunts_16
set_option maxHeartbeats 4000000 in
set_option maxRecDepth 100000 in
theorem c_X9_meet (l : Launch) (D : va_G) (k : Nat → ClassId) (q : Nat → Nat) (wf : Nat → Int32) (p0 : Int32) (p1 : Int32)  : Met l yX9_meet (.code yX9_meet cX9_meet 3 (some .int) :: TB) (rmk 2) (va_Pc [.ref (q 0), .int p0, .int p1] (fun U => FWH D k q wf U U.heap)) (vp_Si (fun r => r = (-2))) 0 0 (fun _ => False) := by
  refine Met.ofW (cc := cX9_meet) (maxL := 3) (ret := (some .int)) (by decide) rfl ?_
  intro p e s m args below meth c s₁ B hml hv
  obtain ⟨rfl, hF⟩ := hv
  have hx := B.exec
  have hb := B.bytes
  have hr := B.returns
  have hT : ∀ w ∈ TB, w.before ([.ref (q 0), .int p0, .int p1] : List Value).toArray s = true := fun w h => atoms_spec (ws := .code yX9_meet cX9_meet 3 (some .int) :: TB) B.pre w (List.mem_cons_of_mem _ h)
  have hown : s.vm.findClass RX9 = some m.cls := findClass_of_methodNamed B.named
  have S : CallFix p m c cX9_meet 3 s _ TB RX9 := ⟨hx, hb, hml, hown, hT⟩
  have hP : va_P D vwCl [(q 0, .inr (9, [.ref (q 1), .ref (q 2), .ref (q 3), .ref (q 4), .ref (q 5), .ref (q 6), .ref (q 7), .ref (q 8), .ref (q 9), .ref (q 10), .ref (q 11)])), (q 3, .inr (8, [.ref (q 12), .ref (q 13), .int 0, .ref (q 14), .ref (q 15), .ref (q 16)])), (q 12, .inr (1, [.int 0, .int 0, .int 0, .int 0, .int 0, .int 0, .int 0, .ref (q 17), .ref (q 18), .ref (q 19), .ref (q 20), .ref (q 21), .ref (q 22), .ref (q 23)])), (q 6, .inr (4, [.ref (q 24), .ref (q 25), .ref (q 26)])), (q 24, .inl (k 0, 4, .inl wf)), (q 5, .inl (k 3, 3, .inl (fun _ => 0))), (q 1, .inr (6, [.ref (q 27), .int 0])), (q 2, .inr (2, [.ref (q 1), .ref (q 28), .int 0, .int (-1), .int 0, .int 0, .int 0, .int 0]))] s.heap := hF.1
  have hK := hF.2.1
  have hl := lv_entry ([.ref (q 0), .int p0, .int p1]) (n := 3) (Nat.le_of_ble_eq_true rfl)
  rw [lg_entry_eq]
  generalize (lg_sl ([.ref (q 0), .int p0, .int p1]) ++ List.replicate (3 - (lg_sl ([.ref (q 0), .int p0, .int p1])).length) Slot.unset).toArray = ls at hl ⊢
  have hl : lv_has ls 3 [(0, .ref (q 0)), (1, .int p0), (2, .int p1)] := hl
  refine lv_aload_n hx hb dX9_meet_0 rfl (lv_at hl 0 rfl) ?_
  refine va_get (D := D) (ci := 9) (v := .ref (q 3)) (C := RX9) (T := TX9) (N := 11) hx hb hT in_X9 hown hK hP 0 rfl rfl 2 (by decide) (hT _ t453) (fun _ h9 => h9) rfl dX9_meet_1 ?_
  refine va_get (D := D) (ci := 8) (v := .ref (q 12)) (C := RX8) (T := TX8) (N := 6) hx hb hT in_X8 hown hK hP 1 rfl rfl 0 (by decide) (hT _ t312) (fun _ h9 => h9) rfl dX9_meet_4 ?_
  refine lv_iload_n hx hb dX9_meet_7 rfl (lv_at hl 1 rfl) ?_
  refine ro_V (As := [.int p0]) (rest := []) S (c_X1_isCart l D k q wf p0) lkX9_147 ok_X1_isCart ⟨rfl, rfl, Nat.le_of_ble_eq_true rfl, Nat.le_of_ble_eq_true rfl⟩ (fw_V (ci := 1) (q0 := 2) hF rfl rfl) rfl hl.1 rfl (Nat.le_of_ble_eq_true rfl) ⟨Nat.zero_le _, Nat.zero_le _⟩ dX9_meet_8 (fun r_1 er_1 => ?_)
  subst er_1
  refine lv_if_eq (tgt := 28) hx hb dX9_meet_11 (by decide) (fun c_2 => ?_) (fun c_2 => ?_)
  rotate_left
  · first | exact absurd c_2 (by decide) | exact absurd (by decide) c_2
  refine lv_bipush (v := (-2)) hx hb dX9_meet_28 (by decide) ?_
  exact W.iret (v := (-2)) hx hb hr (fun t ht hW => ⟨(-2), rfl, rfl, ht⟩) (fun _ h9 => by cases h9) dX9_meet_30
set_option maxHeartbeats 4000000 in
set_option maxRecDepth 100000 in
theorem c_X9_met (l : Launch) (D : va_G) (k : Nat → ClassId) (q : Nat → Nat) (wf : Nat → Int32) (p0 : Int32) (p1 : Int32)  : Met l yX9_met (.code yX9_met cX9_met 3 (some .int) :: TB) (rmk 2) (va_Pc [.ref (q 0), .int p0, .int p1] (fun U => FWH D k q wf U U.heap)) (vp_Si (fun r => r = (-2))) 0 0 (fun _ => False) := by
  refine Met.ofW (cc := cX9_met) (maxL := 3) (ret := (some .int)) (by decide) rfl ?_
  intro p e s m args below meth c s₁ B hml hv
  obtain ⟨rfl, hF⟩ := hv
  have hx := B.exec
  have hb := B.bytes
  have hr := B.returns
  have hT : ∀ w ∈ TB, w.before ([.ref (q 0), .int p0, .int p1] : List Value).toArray s = true := fun w h => atoms_spec (ws := .code yX9_met cX9_met 3 (some .int) :: TB) B.pre w (List.mem_cons_of_mem _ h)
  have hown : s.vm.findClass RX9 = some m.cls := findClass_of_methodNamed B.named
  have S : CallFix p m c cX9_met 3 s _ TB RX9 := ⟨hx, hb, hml, hown, hT⟩
  have hP : va_P D vwCl [(q 0, .inr (9, [.ref (q 1), .ref (q 2), .ref (q 3), .ref (q 4), .ref (q 5), .ref (q 6), .ref (q 7), .ref (q 8), .ref (q 9), .ref (q 10), .ref (q 11)])), (q 3, .inr (8, [.ref (q 12), .ref (q 13), .int 0, .ref (q 14), .ref (q 15), .ref (q 16)])), (q 12, .inr (1, [.int 0, .int 0, .int 0, .int 0, .int 0, .int 0, .int 0, .ref (q 17), .ref (q 18), .ref (q 19), .ref (q 20), .ref (q 21), .ref (q 22), .ref (q 23)])), (q 6, .inr (4, [.ref (q 24), .ref (q 25), .ref (q 26)])), (q 24, .inl (k 0, 4, .inl wf)), (q 5, .inl (k 3, 3, .inl (fun _ => 0))), (q 1, .inr (6, [.ref (q 27), .int 0])), (q 2, .inr (2, [.ref (q 1), .ref (q 28), .int 0, .int (-1), .int 0, .int 0, .int 0, .int 0]))] s.heap := hF.1
  have hK := hF.2.1
  have hl := lv_entry ([.ref (q 0), .int p0, .int p1]) (n := 3) (Nat.le_of_ble_eq_true rfl)
  rw [lg_entry_eq]
  generalize (lg_sl ([.ref (q 0), .int p0, .int p1]) ++ List.replicate (3 - (lg_sl ([.ref (q 0), .int p0, .int p1])).length) Slot.unset).toArray = ls at hl ⊢
  have hl : lv_has ls 3 [(0, .ref (q 0)), (1, .int p0), (2, .int p1)] := hl
  refine lv_aload_n hx hb dX9_met_0 rfl (lv_at hl 0 rfl) ?_
  refine va_get (D := D) (ci := 9) (v := .ref (q 3)) (C := RX9) (T := TX9) (N := 11) hx hb hT in_X9 hown hK hP 0 rfl rfl 2 (by decide) (hT _ t453) (fun _ h9 => h9) rfl dX9_met_1 ?_
  refine va_get (D := D) (ci := 8) (v := .ref (q 12)) (C := RX8) (T := TX8) (N := 6) hx hb hT in_X8 hown hK hP 1 rfl rfl 0 (by decide) (hT _ t312) (fun _ h9 => h9) rfl dX9_met_4 ?_
  refine lv_iload_n hx hb dX9_met_7 rfl (lv_at hl 1 rfl) ?_
  refine ro_V (As := [.int p0]) (rest := []) S (c_X1_isCart l D k q wf p0) lkX9_147 ok_X1_isCart ⟨rfl, rfl, Nat.le_of_ble_eq_true rfl, Nat.le_of_ble_eq_true rfl⟩ (fw_V (ci := 1) (q0 := 2) hF rfl rfl) rfl hl.1 rfl (Nat.le_of_ble_eq_true rfl) ⟨Nat.zero_le _, Nat.zero_le _⟩ dX9_met_8 (fun r_1 er_1 => ?_)
  subst er_1
  refine lv_if_eq (tgt := 28) hx hb dX9_met_11 (by decide) (fun c_2 => ?_) (fun c_2 => ?_)
  rotate_left
  · first | exact absurd c_2 (by decide) | exact absurd (by decide) c_2
  refine lv_bipush (v := (-2)) hx hb dX9_met_28 (by decide) ?_
  exact W.iret (v := (-2)) hx hb hr (fun t ht hW => ⟨(-2), rfl, rfl, ht⟩) (fun _ h9 => by cases h9) dX9_met_30
set_option maxHeartbeats 4000000 in
set_option maxRecDepth 100000 in
theorem c_X9_votes (l : Launch) (D : va_G) (k : Nat → ClassId) (q : Nat → Nat) (wf : Nat → Int32) (p0 : Int32) (p1 : Int32)  : Met l yX9_votes (.code yX9_votes cX9_votes 3 (some .int) :: TB) (rmk 2) (va_Pc [.ref (q 0), .int p0, .int p1] (fun U => FWH D k q wf U U.heap)) (vp_Si (fun r => r = (-2))) 0 0 (fun _ => False) := by
  refine Met.ofW (cc := cX9_votes) (maxL := 3) (ret := (some .int)) (by decide) rfl ?_
  intro p e s m args below meth c s₁ B hml hv
  obtain ⟨rfl, hF⟩ := hv
  have hx := B.exec
  have hb := B.bytes
  have hr := B.returns
  have hT : ∀ w ∈ TB, w.before ([.ref (q 0), .int p0, .int p1] : List Value).toArray s = true := fun w h => atoms_spec (ws := .code yX9_votes cX9_votes 3 (some .int) :: TB) B.pre w (List.mem_cons_of_mem _ h)
  have hown : s.vm.findClass RX9 = some m.cls := findClass_of_methodNamed B.named
  have S : CallFix p m c cX9_votes 3 s _ TB RX9 := ⟨hx, hb, hml, hown, hT⟩
  have hP : va_P D vwCl [(q 0, .inr (9, [.ref (q 1), .ref (q 2), .ref (q 3), .ref (q 4), .ref (q 5), .ref (q 6), .ref (q 7), .ref (q 8), .ref (q 9), .ref (q 10), .ref (q 11)])), (q 3, .inr (8, [.ref (q 12), .ref (q 13), .int 0, .ref (q 14), .ref (q 15), .ref (q 16)])), (q 12, .inr (1, [.int 0, .int 0, .int 0, .int 0, .int 0, .int 0, .int 0, .ref (q 17), .ref (q 18), .ref (q 19), .ref (q 20), .ref (q 21), .ref (q 22), .ref (q 23)])), (q 6, .inr (4, [.ref (q 24), .ref (q 25), .ref (q 26)])), (q 24, .inl (k 0, 4, .inl wf)), (q 5, .inl (k 3, 3, .inl (fun _ => 0))), (q 1, .inr (6, [.ref (q 27), .int 0])), (q 2, .inr (2, [.ref (q 1), .ref (q 28), .int 0, .int (-1), .int 0, .int 0, .int 0, .int 0]))] s.heap := hF.1
  have hK := hF.2.1
  have hl := lv_entry ([.ref (q 0), .int p0, .int p1]) (n := 3) (Nat.le_of_ble_eq_true rfl)
  rw [lg_entry_eq]
  generalize (lg_sl ([.ref (q 0), .int p0, .int p1]) ++ List.replicate (3 - (lg_sl ([.ref (q 0), .int p0, .int p1])).length) Slot.unset).toArray = ls at hl ⊢
  have hl : lv_has ls 3 [(0, .ref (q 0)), (1, .int p0), (2, .int p1)] := hl
  refine lv_aload_n hx hb dX9_votes_0 rfl (lv_at hl 0 rfl) ?_
  refine va_get (D := D) (ci := 9) (v := .ref (q 3)) (C := RX9) (T := TX9) (N := 11) hx hb hT in_X9 hown hK hP 0 rfl rfl 2 (by decide) (hT _ t453) (fun _ h9 => h9) rfl dX9_votes_1 ?_
  refine va_get (D := D) (ci := 8) (v := .ref (q 12)) (C := RX8) (T := TX8) (N := 6) hx hb hT in_X8 hown hK hP 1 rfl rfl 0 (by decide) (hT _ t312) (fun _ h9 => h9) rfl dX9_votes_4 ?_
  refine lv_iload_n hx hb dX9_votes_7 rfl (lv_at hl 1 rfl) ?_
  refine ro_V (As := [.int p0]) (rest := []) S (c_X1_isPlace l D k q wf p0) lkX9_171 ok_X1_isPlace ⟨rfl, rfl, Nat.le_of_ble_eq_true rfl, Nat.le_of_ble_eq_true rfl⟩ (fw_V (ci := 1) (q0 := 2) hF rfl rfl) rfl hl.1 rfl (Nat.le_of_ble_eq_true rfl) ⟨Nat.zero_le _, Nat.zero_le _⟩ dX9_votes_8 (fun r_1 er_1 => ?_)
  subst er_1
  refine lv_if_eq (tgt := 29) hx hb dX9_votes_11 (by decide) (fun c_2 => ?_) (fun c_2 => ?_)
  rotate_left
  · first | exact absurd c_2 (by decide) | exact absurd (by decide) c_2
  refine lv_bipush (v := (-2)) hx hb dX9_votes_29 (by decide) ?_
  exact W.iret (v := (-2)) hx hb hr (fun t ht hW => ⟨(-2), rfl, rfl, ht⟩) (fun _ h9 => by cases h9) dX9_votes_31
set_option maxHeartbeats 4000000 in
set_option maxRecDepth 100000 in
theorem c_X9_loved (l : Launch) (D : va_G) (k : Nat → ClassId) (q : Nat → Nat) (wf : Nat → Int32) (p0 : Int32)  : Met l yX9_loved (.code yX9_loved cX9_loved 2 (some .int) :: TB) (rmk 2) (va_Pc [.ref (q 0), .int p0] (fun U => FWH D k q wf U U.heap)) (vp_Si (fun r => r = (-2))) 0 0 (fun _ => False) := by
  refine Met.ofW (cc := cX9_loved) (maxL := 2) (ret := (some .int)) (by decide) rfl ?_
  intro p e s m args below meth c s₁ B hml hv
  obtain ⟨rfl, hF⟩ := hv
  have hx := B.exec
  have hb := B.bytes
  have hr := B.returns
  have hT : ∀ w ∈ TB, w.before ([.ref (q 0), .int p0] : List Value).toArray s = true := fun w h => atoms_spec (ws := .code yX9_loved cX9_loved 2 (some .int) :: TB) B.pre w (List.mem_cons_of_mem _ h)
  have hown : s.vm.findClass RX9 = some m.cls := findClass_of_methodNamed B.named
  have S : CallFix p m c cX9_loved 2 s _ TB RX9 := ⟨hx, hb, hml, hown, hT⟩
  have hP : va_P D vwCl [(q 0, .inr (9, [.ref (q 1), .ref (q 2), .ref (q 3), .ref (q 4), .ref (q 5), .ref (q 6), .ref (q 7), .ref (q 8), .ref (q 9), .ref (q 10), .ref (q 11)])), (q 3, .inr (8, [.ref (q 12), .ref (q 13), .int 0, .ref (q 14), .ref (q 15), .ref (q 16)])), (q 12, .inr (1, [.int 0, .int 0, .int 0, .int 0, .int 0, .int 0, .int 0, .ref (q 17), .ref (q 18), .ref (q 19), .ref (q 20), .ref (q 21), .ref (q 22), .ref (q 23)])), (q 6, .inr (4, [.ref (q 24), .ref (q 25), .ref (q 26)])), (q 24, .inl (k 0, 4, .inl wf)), (q 5, .inl (k 3, 3, .inl (fun _ => 0))), (q 1, .inr (6, [.ref (q 27), .int 0])), (q 2, .inr (2, [.ref (q 1), .ref (q 28), .int 0, .int (-1), .int 0, .int 0, .int 0, .int 0]))] s.heap := hF.1
  have hK := hF.2.1
  have hl := lv_entry ([.ref (q 0), .int p0]) (n := 2) (Nat.le_of_ble_eq_true rfl)
  rw [lg_entry_eq]
  generalize (lg_sl ([.ref (q 0), .int p0]) ++ List.replicate (2 - (lg_sl ([.ref (q 0), .int p0])).length) Slot.unset).toArray = ls at hl ⊢
  have hl : lv_has ls 2 [(0, .ref (q 0)), (1, .int p0)] := hl
  refine lv_aload_n hx hb dX9_loved_0 rfl (lv_at hl 0 rfl) ?_
  refine va_get (D := D) (ci := 9) (v := .ref (q 3)) (C := RX9) (T := TX9) (N := 11) hx hb hT in_X9 hown hK hP 0 rfl rfl 2 (by decide) (hT _ t453) (fun _ h9 => h9) rfl dX9_loved_1 ?_
  refine va_get (D := D) (ci := 8) (v := .ref (q 12)) (C := RX8) (T := TX8) (N := 6) hx hb hT in_X8 hown hK hP 1 rfl rfl 0 (by decide) (hT _ t312) (fun _ h9 => h9) rfl dX9_loved_4 ?_
  refine lv_iload_n hx hb dX9_loved_7 rfl (lv_at hl 1 rfl) ?_
  refine ro_V (As := [.int p0]) (rest := []) S (c_X1_isRoad l D k q wf p0) lkX9_114 ok_X1_isRoad ⟨rfl, rfl, Nat.le_of_ble_eq_true rfl, Nat.le_of_ble_eq_true rfl⟩ (fw_V (ci := 1) (q0 := 2) hF rfl rfl) rfl hl.1 rfl (Nat.le_of_ble_eq_true rfl) ⟨Nat.zero_le _, Nat.zero_le _⟩ dX9_loved_8 (fun r_1 er_1 => ?_)
  subst er_1
  refine lv_if_eq (tgt := 31) hx hb dX9_loved_11 (by decide) (fun c_2 => ?_) (fun c_2 => ?_)
  rotate_left
  · first | exact absurd c_2 (by decide) | exact absurd (by decide) c_2
  refine lv_bipush (v := (-2)) hx hb dX9_loved_31 (by decide) ?_
  exact W.iret (v := (-2)) hx hb hr (fun t ht hW => ⟨(-2), rfl, rfl, ht⟩) (fun _ h9 => by cases h9) dX9_loved_33
set_option maxHeartbeats 4000000 in
set_option maxRecDepth 100000 in
theorem c_X9_dearest (l : Launch) (D : va_G) (k : Nat → ClassId) (q : Nat → Nat) (wf : Nat → Int32)   : Met l yX9_dearest (.code yX9_dearest cX9_dearest 5 (some .int) :: TB) (rmk 2) (va_Pc [.ref (q 0)] (fun U => FWH D k q wf U U.heap)) (vp_Si (fun r => r = (-2))) 0 0 (fun _ => False) := by
  refine Met.ofW (cc := cX9_dearest) (maxL := 5) (ret := (some .int)) (by decide) rfl ?_
  intro p e s m args below meth c s₁ B hml hv
  obtain ⟨rfl, hF⟩ := hv
  have hx := B.exec
  have hb := B.bytes
  have hr := B.returns
  have hT : ∀ w ∈ TB, w.before ([.ref (q 0)] : List Value).toArray s = true := fun w h => atoms_spec (ws := .code yX9_dearest cX9_dearest 5 (some .int) :: TB) B.pre w (List.mem_cons_of_mem _ h)
  have hown : s.vm.findClass RX9 = some m.cls := findClass_of_methodNamed B.named
  have S : CallFix p m c cX9_dearest 5 s _ TB RX9 := ⟨hx, hb, hml, hown, hT⟩
  have hP : va_P D vwCl [(q 0, .inr (9, [.ref (q 1), .ref (q 2), .ref (q 3), .ref (q 4), .ref (q 5), .ref (q 6), .ref (q 7), .ref (q 8), .ref (q 9), .ref (q 10), .ref (q 11)])), (q 3, .inr (8, [.ref (q 12), .ref (q 13), .int 0, .ref (q 14), .ref (q 15), .ref (q 16)])), (q 12, .inr (1, [.int 0, .int 0, .int 0, .int 0, .int 0, .int 0, .int 0, .ref (q 17), .ref (q 18), .ref (q 19), .ref (q 20), .ref (q 21), .ref (q 22), .ref (q 23)])), (q 6, .inr (4, [.ref (q 24), .ref (q 25), .ref (q 26)])), (q 24, .inl (k 0, 4, .inl wf)), (q 5, .inl (k 3, 3, .inl (fun _ => 0))), (q 1, .inr (6, [.ref (q 27), .int 0])), (q 2, .inr (2, [.ref (q 1), .ref (q 28), .int 0, .int (-1), .int 0, .int 0, .int 0, .int 0]))] s.heap := hF.1
  have hK := hF.2.1
  have hl := lv_entry ([.ref (q 0)]) (n := 5) (Nat.le_of_ble_eq_true rfl)
  rw [lg_entry_eq]
  generalize (lg_sl ([.ref (q 0)]) ++ List.replicate (5 - (lg_sl ([.ref (q 0)])).length) Slot.unset).toArray = ls at hl ⊢
  have hl : lv_has ls 5 [(0, .ref (q 0))] := hl
  refine lv_aload_n hx hb dX9_dearest_0 rfl (lv_at hl 0 rfl) ?_
  refine va_get (D := D) (ci := 9) (v := .ref (q 3)) (C := RX9) (T := TX9) (N := 11) hx hb hT in_X9 hown hK hP 0 rfl rfl 2 (by decide) (hT _ t453) (fun _ h9 => h9) rfl dX9_dearest_1 ?_
  refine va_get (D := D) (ci := 8) (v := .ref (q 12)) (C := RX8) (T := TX8) (N := 6) hx hb hT in_X8 hown hK hP 1 rfl rfl 0 (by decide) (hT _ t312) (fun _ h9 => h9) rfl dX9_dearest_4 ?_
  refine ro_V (As := []) (rest := []) S (c_X1_isTold l D k q wf ) lkX9_211 ok_X1_isTold ⟨rfl, rfl, Nat.le_of_ble_eq_true rfl, Nat.le_of_ble_eq_true rfl⟩ (fw_V (ci := 1) (q0 := 2) hF rfl rfl) rfl hl.1 rfl (Nat.le_of_ble_eq_true rfl) ⟨Nat.zero_le _, Nat.zero_le _⟩ dX9_dearest_7 (fun r_1 er_1 => ?_)
  subst er_1
  refine lv_if_ne (tgt := 16) hx hb dX9_dearest_10 (by decide) (fun c_2 => ?_) (fun c_2 => ?_)
  · first | exact absurd c_2 (by decide) | exact absurd (by decide) c_2
  refine lv_bipush (v := (-2)) hx hb dX9_dearest_13 (by decide) ?_
  exact W.iret (v := (-2)) hx hb hr (fun t ht hW => ⟨(-2), rfl, rfl, ht⟩) (fun _ h9 => by cases h9) dX9_dearest_15
set_option maxHeartbeats 4000000 in
set_option maxRecDepth 100000 in
theorem c_X9_agree (l : Launch) (D : va_G) (k : Nat → ClassId) (q : Nat → Nat) (wf : Nat → Int32) (p0 : Int32) (p1 : Int32)  : Met l yX9_agree (.code yX9_agree cX9_agree 3 (some .int) :: TB) (rmk 2) (va_Pc [.ref (q 0), .int p0, .int p1] (fun U => FWH D k q wf U U.heap)) (vp_Si (fun r => r = (-2))) 0 0 (fun _ => False) := by
  refine Met.ofW (cc := cX9_agree) (maxL := 3) (ret := (some .int)) (by decide) rfl ?_
  intro p e s m args below meth c s₁ B hml hv
  obtain ⟨rfl, hF⟩ := hv
  have hx := B.exec
  have hb := B.bytes
  have hr := B.returns
  have hT : ∀ w ∈ TB, w.before ([.ref (q 0), .int p0, .int p1] : List Value).toArray s = true := fun w h => atoms_spec (ws := .code yX9_agree cX9_agree 3 (some .int) :: TB) B.pre w (List.mem_cons_of_mem _ h)
  have hown : s.vm.findClass RX9 = some m.cls := findClass_of_methodNamed B.named
  have S : CallFix p m c cX9_agree 3 s _ TB RX9 := ⟨hx, hb, hml, hown, hT⟩
  have hP : va_P D vwCl [(q 0, .inr (9, [.ref (q 1), .ref (q 2), .ref (q 3), .ref (q 4), .ref (q 5), .ref (q 6), .ref (q 7), .ref (q 8), .ref (q 9), .ref (q 10), .ref (q 11)])), (q 3, .inr (8, [.ref (q 12), .ref (q 13), .int 0, .ref (q 14), .ref (q 15), .ref (q 16)])), (q 12, .inr (1, [.int 0, .int 0, .int 0, .int 0, .int 0, .int 0, .int 0, .ref (q 17), .ref (q 18), .ref (q 19), .ref (q 20), .ref (q 21), .ref (q 22), .ref (q 23)])), (q 6, .inr (4, [.ref (q 24), .ref (q 25), .ref (q 26)])), (q 24, .inl (k 0, 4, .inl wf)), (q 5, .inl (k 3, 3, .inl (fun _ => 0))), (q 1, .inr (6, [.ref (q 27), .int 0])), (q 2, .inr (2, [.ref (q 1), .ref (q 28), .int 0, .int (-1), .int 0, .int 0, .int 0, .int 0]))] s.heap := hF.1
  have hK := hF.2.1
  have hl := lv_entry ([.ref (q 0), .int p0, .int p1]) (n := 3) (Nat.le_of_ble_eq_true rfl)
  rw [lg_entry_eq]
  generalize (lg_sl ([.ref (q 0), .int p0, .int p1]) ++ List.replicate (3 - (lg_sl ([.ref (q 0), .int p0, .int p1])).length) Slot.unset).toArray = ls at hl ⊢
  have hl : lv_has ls 3 [(0, .ref (q 0)), (1, .int p0), (2, .int p1)] := hl
  refine lv_aload_n hx hb dX9_agree_0 rfl (lv_at hl 0 rfl) ?_
  refine va_get (D := D) (ci := 9) (v := .ref (q 3)) (C := RX9) (T := TX9) (N := 11) hx hb hT in_X9 hown hK hP 0 rfl rfl 2 (by decide) (hT _ t453) (fun _ h9 => h9) rfl dX9_agree_1 ?_
  refine va_get (D := D) (ci := 8) (v := .ref (q 12)) (C := RX8) (T := TX8) (N := 6) hx hb hT in_X8 hown hK hP 1 rfl rfl 0 (by decide) (hT _ t312) (fun _ h9 => h9) rfl dX9_agree_4 ?_
  refine lv_iload_n hx hb dX9_agree_7 rfl (lv_at hl 1 rfl) ?_
  refine ro_V (As := [.int p0]) (rest := []) S (c_X1_isWheel l D k q wf p0) lkX9_127 ok_X1_isWheel ⟨rfl, rfl, Nat.le_of_ble_eq_true rfl, Nat.le_of_ble_eq_true rfl⟩ (fw_V (ci := 1) (q0 := 2) hF rfl rfl) rfl hl.1 rfl (Nat.le_of_ble_eq_true rfl) ⟨Nat.zero_le _, Nat.zero_le _⟩ dX9_agree_8 (fun r_1 er_1 => ?_)
  subst er_1
  refine lv_if_eq (tgt := 28) hx hb dX9_agree_11 (by decide) (fun c_2 => ?_) (fun c_2 => ?_)
  rotate_left
  · first | exact absurd c_2 (by decide) | exact absurd (by decide) c_2
  refine lv_bipush (v := (-2)) hx hb dX9_agree_28 (by decide) ?_
  exact W.iret (v := (-2)) hx hb hr (fun t ht hW => ⟨(-2), rfl, rfl, ht⟩) (fun _ h9 => by cases h9) dX9_agree_30
set_option maxHeartbeats 4000000 in
set_option maxRecDepth 100000 in
theorem c_X9_mate (l : Launch) (D : va_G) (k : Nat → ClassId) (q : Nat → Nat) (wf : Nat → Int32) (p0 : Int32)  : Met l yX9_mate (.code yX9_mate cX9_mate 6 (some .int) :: TB) (rmk 2) (va_Pc [.ref (q 0), .int p0] (fun U => FWH D k q wf U U.heap)) (vp_Si (fun r => r = (-2))) 0 0 (fun _ => False) := by
  refine Met.ofW (cc := cX9_mate) (maxL := 6) (ret := (some .int)) (by decide) rfl ?_
  intro p e s m args below meth c s₁ B hml hv
  obtain ⟨rfl, hF⟩ := hv
  have hx := B.exec
  have hb := B.bytes
  have hr := B.returns
  have hT : ∀ w ∈ TB, w.before ([.ref (q 0), .int p0] : List Value).toArray s = true := fun w h => atoms_spec (ws := .code yX9_mate cX9_mate 6 (some .int) :: TB) B.pre w (List.mem_cons_of_mem _ h)
  have hown : s.vm.findClass RX9 = some m.cls := findClass_of_methodNamed B.named
  have S : CallFix p m c cX9_mate 6 s _ TB RX9 := ⟨hx, hb, hml, hown, hT⟩
  have hP : va_P D vwCl [(q 0, .inr (9, [.ref (q 1), .ref (q 2), .ref (q 3), .ref (q 4), .ref (q 5), .ref (q 6), .ref (q 7), .ref (q 8), .ref (q 9), .ref (q 10), .ref (q 11)])), (q 3, .inr (8, [.ref (q 12), .ref (q 13), .int 0, .ref (q 14), .ref (q 15), .ref (q 16)])), (q 12, .inr (1, [.int 0, .int 0, .int 0, .int 0, .int 0, .int 0, .int 0, .ref (q 17), .ref (q 18), .ref (q 19), .ref (q 20), .ref (q 21), .ref (q 22), .ref (q 23)])), (q 6, .inr (4, [.ref (q 24), .ref (q 25), .ref (q 26)])), (q 24, .inl (k 0, 4, .inl wf)), (q 5, .inl (k 3, 3, .inl (fun _ => 0))), (q 1, .inr (6, [.ref (q 27), .int 0])), (q 2, .inr (2, [.ref (q 1), .ref (q 28), .int 0, .int (-1), .int 0, .int 0, .int 0, .int 0]))] s.heap := hF.1
  have hK := hF.2.1
  have hl := lv_entry ([.ref (q 0), .int p0]) (n := 6) (Nat.le_of_ble_eq_true rfl)
  rw [lg_entry_eq]
  generalize (lg_sl ([.ref (q 0), .int p0]) ++ List.replicate (6 - (lg_sl ([.ref (q 0), .int p0])).length) Slot.unset).toArray = ls at hl ⊢
  have hl : lv_has ls 6 [(0, .ref (q 0)), (1, .int p0)] := hl
  refine lv_aload_n hx hb dX9_mate_0 rfl (lv_at hl 0 rfl) ?_
  refine va_get (D := D) (ci := 9) (v := .ref (q 3)) (C := RX9) (T := TX9) (N := 11) hx hb hT in_X9 hown hK hP 0 rfl rfl 2 (by decide) (hT _ t453) (fun _ h9 => h9) rfl dX9_mate_1 ?_
  refine va_get (D := D) (ci := 8) (v := .ref (q 12)) (C := RX8) (T := TX8) (N := 6) hx hb hT in_X8 hown hK hP 1 rfl rfl 0 (by decide) (hT _ t312) (fun _ h9 => h9) rfl dX9_mate_4 ?_
  refine lv_iload_n hx hb dX9_mate_7 rfl (lv_at hl 1 rfl) ?_
  refine ro_V (As := [.int p0]) (rest := []) S (c_X1_isWheel l D k q wf p0) lkX9_127 ok_X1_isWheel ⟨rfl, rfl, Nat.le_of_ble_eq_true rfl, Nat.le_of_ble_eq_true rfl⟩ (fw_V (ci := 1) (q0 := 2) hF rfl rfl) rfl hl.1 rfl (Nat.le_of_ble_eq_true rfl) ⟨Nat.zero_le _, Nat.zero_le _⟩ dX9_mate_8 (fun r_1 er_1 => ?_)
  subst er_1
  refine lv_if_ne (tgt := 17) hx hb dX9_mate_11 (by decide) (fun c_2 => ?_) (fun c_2 => ?_)
  · first | exact absurd c_2 (by decide) | exact absurd (by decide) c_2
  refine lv_bipush (v := (-2)) hx hb dX9_mate_14 (by decide) ?_
  exact W.iret (v := (-2)) hx hb hr (fun t ht hW => ⟨(-2), rfl, rfl, ht⟩) (fun _ h9 => by cases h9) dX9_mate_16
set_option maxHeartbeats 4000000 in
set_option maxRecDepth 100000 in
theorem c_X9_teach (l : Launch) (D : va_G) (k : Nat → ClassId) (q : Nat → Nat) (wf : Nat → Int32) (p0 : Int32) (p1 : Int32)  : Met l yX9_teach (.code yX9_teach cX9_teach 4 (some .int) :: TB) (rmk 2) (va_Pc [.ref (q 0), .int p0, .int p1] (fun U => FWH D k q wf U U.heap)) (vp_Si (fun r => r = (-2))) 0 0 (fun _ => False) := by
  refine Met.ofW (cc := cX9_teach) (maxL := 4) (ret := (some .int)) (by decide) rfl ?_
  intro p e s m args below meth c s₁ B hml hv
  obtain ⟨rfl, hF⟩ := hv
  have hx := B.exec
  have hb := B.bytes
  have hr := B.returns
  have hT : ∀ w ∈ TB, w.before ([.ref (q 0), .int p0, .int p1] : List Value).toArray s = true := fun w h => atoms_spec (ws := .code yX9_teach cX9_teach 4 (some .int) :: TB) B.pre w (List.mem_cons_of_mem _ h)
  have hown : s.vm.findClass RX9 = some m.cls := findClass_of_methodNamed B.named
  have S : CallFix p m c cX9_teach 4 s _ TB RX9 := ⟨hx, hb, hml, hown, hT⟩
  have hP : va_P D vwCl [(q 0, .inr (9, [.ref (q 1), .ref (q 2), .ref (q 3), .ref (q 4), .ref (q 5), .ref (q 6), .ref (q 7), .ref (q 8), .ref (q 9), .ref (q 10), .ref (q 11)])), (q 3, .inr (8, [.ref (q 12), .ref (q 13), .int 0, .ref (q 14), .ref (q 15), .ref (q 16)])), (q 12, .inr (1, [.int 0, .int 0, .int 0, .int 0, .int 0, .int 0, .int 0, .ref (q 17), .ref (q 18), .ref (q 19), .ref (q 20), .ref (q 21), .ref (q 22), .ref (q 23)])), (q 6, .inr (4, [.ref (q 24), .ref (q 25), .ref (q 26)])), (q 24, .inl (k 0, 4, .inl wf)), (q 5, .inl (k 3, 3, .inl (fun _ => 0))), (q 1, .inr (6, [.ref (q 27), .int 0])), (q 2, .inr (2, [.ref (q 1), .ref (q 28), .int 0, .int (-1), .int 0, .int 0, .int 0, .int 0]))] s.heap := hF.1
  have hK := hF.2.1
  have hl := lv_entry ([.ref (q 0), .int p0, .int p1]) (n := 4) (Nat.le_of_ble_eq_true rfl)
  rw [lg_entry_eq]
  generalize (lg_sl ([.ref (q 0), .int p0, .int p1]) ++ List.replicate (4 - (lg_sl ([.ref (q 0), .int p0, .int p1])).length) Slot.unset).toArray = ls at hl ⊢
  have hl : lv_has ls 4 [(0, .ref (q 0)), (1, .int p0), (2, .int p1)] := hl
  refine lv_aload_n hx hb dX9_teach_0 rfl (lv_at hl 0 rfl) ?_
  refine va_get (D := D) (ci := 9) (v := .ref (q 3)) (C := RX9) (T := TX9) (N := 11) hx hb hT in_X9 hown hK hP 0 rfl rfl 2 (by decide) (hT _ t453) (fun _ h9 => h9) rfl dX9_teach_1 ?_
  refine va_get (D := D) (ci := 8) (v := .ref (q 12)) (C := RX8) (T := TX8) (N := 6) hx hb hT in_X8 hown hK hP 1 rfl rfl 0 (by decide) (hT _ t312) (fun _ h9 => h9) rfl dX9_teach_4 ?_
  refine lv_iload_n hx hb dX9_teach_7 rfl (lv_at hl 1 rfl) ?_
  refine ro_V (As := [.int p0]) (rest := []) S (c_X1_isWheel l D k q wf p0) lkX9_127 ok_X1_isWheel ⟨rfl, rfl, Nat.le_of_ble_eq_true rfl, Nat.le_of_ble_eq_true rfl⟩ (fw_V (ci := 1) (q0 := 2) hF rfl rfl) rfl hl.1 rfl (Nat.le_of_ble_eq_true rfl) ⟨Nat.zero_le _, Nat.zero_le _⟩ dX9_teach_8 (fun r_1 er_1 => ?_)
  subst er_1
  refine lv_if_eq (tgt := 28) hx hb dX9_teach_11 (by decide) (fun c_2 => ?_) (fun c_2 => ?_)
  rotate_left
  · first | exact absurd c_2 (by decide) | exact absurd (by decide) c_2
  refine lv_bipush (v := (-2)) hx hb dX9_teach_28 (by decide) ?_
  exact W.iret (v := (-2)) hx hb hr (fun t ht hW => ⟨(-2), rfl, rfl, ht⟩) (fun _ h9 => by cases h9) dX9_teach_30
set_option maxHeartbeats 4000000 in
set_option maxRecDepth 100000 in
theorem c_X9_lasts (l : Launch) (D : va_G) (k : Nat → ClassId) (q : Nat → Nat) (wf : Nat → Int32) (p0 : Int32) (p1 : Int32)  : Met l yX9_lasts (.code yX9_lasts cX9_lasts 3 (some .int) :: TB) (rmk 2) (va_Pc [.ref (q 0), .int p0, .int p1] (fun U => FWH D k q wf U U.heap)) (vp_Si (fun r => r = (-2))) 0 0 (fun _ => False) := by
  refine Met.ofW (cc := cX9_lasts) (maxL := 3) (ret := (some .int)) (by decide) rfl ?_
  intro p e s m args below meth c s₁ B hml hv
  obtain ⟨rfl, hF⟩ := hv
  have hx := B.exec
  have hb := B.bytes
  have hr := B.returns
  have hT : ∀ w ∈ TB, w.before ([.ref (q 0), .int p0, .int p1] : List Value).toArray s = true := fun w h => atoms_spec (ws := .code yX9_lasts cX9_lasts 3 (some .int) :: TB) B.pre w (List.mem_cons_of_mem _ h)
  have hown : s.vm.findClass RX9 = some m.cls := findClass_of_methodNamed B.named
  have S : CallFix p m c cX9_lasts 3 s _ TB RX9 := ⟨hx, hb, hml, hown, hT⟩
  have hP : va_P D vwCl [(q 0, .inr (9, [.ref (q 1), .ref (q 2), .ref (q 3), .ref (q 4), .ref (q 5), .ref (q 6), .ref (q 7), .ref (q 8), .ref (q 9), .ref (q 10), .ref (q 11)])), (q 3, .inr (8, [.ref (q 12), .ref (q 13), .int 0, .ref (q 14), .ref (q 15), .ref (q 16)])), (q 12, .inr (1, [.int 0, .int 0, .int 0, .int 0, .int 0, .int 0, .int 0, .ref (q 17), .ref (q 18), .ref (q 19), .ref (q 20), .ref (q 21), .ref (q 22), .ref (q 23)])), (q 6, .inr (4, [.ref (q 24), .ref (q 25), .ref (q 26)])), (q 24, .inl (k 0, 4, .inl wf)), (q 5, .inl (k 3, 3, .inl (fun _ => 0))), (q 1, .inr (6, [.ref (q 27), .int 0])), (q 2, .inr (2, [.ref (q 1), .ref (q 28), .int 0, .int (-1), .int 0, .int 0, .int 0, .int 0]))] s.heap := hF.1
  have hK := hF.2.1
  have hl := lv_entry ([.ref (q 0), .int p0, .int p1]) (n := 3) (Nat.le_of_ble_eq_true rfl)
  rw [lg_entry_eq]
  generalize (lg_sl ([.ref (q 0), .int p0, .int p1]) ++ List.replicate (3 - (lg_sl ([.ref (q 0), .int p0, .int p1])).length) Slot.unset).toArray = ls at hl ⊢
  have hl : lv_has ls 3 [(0, .ref (q 0)), (1, .int p0), (2, .int p1)] := hl
  refine lv_aload_n hx hb dX9_lasts_0 rfl (lv_at hl 0 rfl) ?_
  refine va_get (D := D) (ci := 9) (v := .ref (q 3)) (C := RX9) (T := TX9) (N := 11) hx hb hT in_X9 hown hK hP 0 rfl rfl 2 (by decide) (hT _ t453) (fun _ h9 => h9) rfl dX9_lasts_1 ?_
  refine va_get (D := D) (ci := 8) (v := .ref (q 12)) (C := RX8) (T := TX8) (N := 6) hx hb hT in_X8 hown hK hP 1 rfl rfl 0 (by decide) (hT _ t312) (fun _ h9 => h9) rfl dX9_lasts_4 ?_
  refine lv_iload_n hx hb dX9_lasts_7 rfl (lv_at hl 1 rfl) ?_
  refine ro_V (As := [.int p0]) (rest := []) S (c_X1_isWheel l D k q wf p0) lkX9_127 ok_X1_isWheel ⟨rfl, rfl, Nat.le_of_ble_eq_true rfl, Nat.le_of_ble_eq_true rfl⟩ (fw_V (ci := 1) (q0 := 2) hF rfl rfl) rfl hl.1 rfl (Nat.le_of_ble_eq_true rfl) ⟨Nat.zero_le _, Nat.zero_le _⟩ dX9_lasts_8 (fun r_1 er_1 => ?_)
  subst er_1
  refine lv_if_eq (tgt := 25) hx hb dX9_lasts_11 (by decide) (fun c_2 => ?_) (fun c_2 => ?_)
  rotate_left
  · first | exact absurd c_2 (by decide) | exact absurd (by decide) c_2
  refine lv_bipush (v := (-2)) hx hb dX9_lasts_25 (by decide) ?_
  exact W.iret (v := (-2)) hx hb hr (fun t ht hW => ⟨(-2), rfl, rfl, ht⟩) (fun _ h9 => by cases h9) dX9_lasts_27
set_option maxHeartbeats 4000000 in
set_option maxRecDepth 100000 in
theorem c_X9_share (l : Launch) (D : va_G) (k : Nat → ClassId) (q : Nat → Nat) (wf : Nat → Int32) (p0 : Int32) (p1 : Int32) (p2 : Int32)  : Met l yX9_share (.code yX9_share cX9_share 9 (some .int) :: TB) (rmk 2) (va_Pc [.ref (q 0), .int p0, .int p1, .int p2] (fun U => FWH D k q wf U U.heap)) (vp_Si (fun r => r = (-2))) 0 0 (fun _ => False) := by
  refine Met.ofW (cc := cX9_share) (maxL := 9) (ret := (some .int)) (by decide) rfl ?_
  intro p e s m args below meth c s₁ B hml hv
  obtain ⟨rfl, hF⟩ := hv
  have hx := B.exec
  have hb := B.bytes
  have hr := B.returns
  have hT : ∀ w ∈ TB, w.before ([.ref (q 0), .int p0, .int p1, .int p2] : List Value).toArray s = true := fun w h => atoms_spec (ws := .code yX9_share cX9_share 9 (some .int) :: TB) B.pre w (List.mem_cons_of_mem _ h)
  have hown : s.vm.findClass RX9 = some m.cls := findClass_of_methodNamed B.named
  have S : CallFix p m c cX9_share 9 s _ TB RX9 := ⟨hx, hb, hml, hown, hT⟩
  have hP : va_P D vwCl [(q 0, .inr (9, [.ref (q 1), .ref (q 2), .ref (q 3), .ref (q 4), .ref (q 5), .ref (q 6), .ref (q 7), .ref (q 8), .ref (q 9), .ref (q 10), .ref (q 11)])), (q 3, .inr (8, [.ref (q 12), .ref (q 13), .int 0, .ref (q 14), .ref (q 15), .ref (q 16)])), (q 12, .inr (1, [.int 0, .int 0, .int 0, .int 0, .int 0, .int 0, .int 0, .ref (q 17), .ref (q 18), .ref (q 19), .ref (q 20), .ref (q 21), .ref (q 22), .ref (q 23)])), (q 6, .inr (4, [.ref (q 24), .ref (q 25), .ref (q 26)])), (q 24, .inl (k 0, 4, .inl wf)), (q 5, .inl (k 3, 3, .inl (fun _ => 0))), (q 1, .inr (6, [.ref (q 27), .int 0])), (q 2, .inr (2, [.ref (q 1), .ref (q 28), .int 0, .int (-1), .int 0, .int 0, .int 0, .int 0]))] s.heap := hF.1
  have hK := hF.2.1
  have hl := lv_entry ([.ref (q 0), .int p0, .int p1, .int p2]) (n := 9) (Nat.le_of_ble_eq_true rfl)
  rw [lg_entry_eq]
  generalize (lg_sl ([.ref (q 0), .int p0, .int p1, .int p2]) ++ List.replicate (9 - (lg_sl ([.ref (q 0), .int p0, .int p1, .int p2])).length) Slot.unset).toArray = ls at hl ⊢
  have hl : lv_has ls 9 [(0, .ref (q 0)), (1, .int p0), (2, .int p1), (3, .int p2)] := hl
  refine lv_aload_n hx hb dX9_share_0 rfl (lv_at hl 0 rfl) ?_
  refine va_get (D := D) (ci := 9) (v := .ref (q 3)) (C := RX9) (T := TX9) (N := 11) hx hb hT in_X9 hown hK hP 0 rfl rfl 2 (by decide) (hT _ t453) (fun _ h9 => h9) rfl dX9_share_1 ?_
  refine va_get (D := D) (ci := 8) (v := .ref (q 12)) (C := RX8) (T := TX8) (N := 6) hx hb hT in_X8 hown hK hP 1 rfl rfl 0 (by decide) (hT _ t312) (fun _ h9 => h9) rfl dX9_share_4 ?_
  refine lv_iload_n hx hb dX9_share_7 rfl (lv_at hl 1 rfl) ?_
  refine ro_V (As := [.int p0]) (rest := []) S (c_X1_isCart l D k q wf p0) lkX9_147 ok_X1_isCart ⟨rfl, rfl, Nat.le_of_ble_eq_true rfl, Nat.le_of_ble_eq_true rfl⟩ (fw_V (ci := 1) (q0 := 2) hF rfl rfl) rfl hl.1 rfl (Nat.le_of_ble_eq_true rfl) ⟨Nat.zero_le _, Nat.zero_le _⟩ dX9_share_8 (fun r_1 er_1 => ?_)
  subst er_1
  refine lv_if_eq (tgt := 55) hx hb dX9_share_11 (by decide) (fun c_2 => ?_) (fun c_2 => ?_)
  rotate_left
  · first | exact absurd c_2 (by decide) | exact absurd (by decide) c_2
  refine lv_bipush (v := (-2)) hx hb dX9_share_55 (by decide) ?_
  exact W.iret (v := (-2)) hx hb hr (fun t ht hW => ⟨(-2), rfl, rfl, ht⟩) (fun _ h9 => by cases h9) dX9_share_57
set_option maxHeartbeats 4000000 in
set_option maxRecDepth 100000 in
theorem c_X9_worth (l : Launch) (D : va_G) (k : Nat → ClassId) (q : Nat → Nat) (wf : Nat → Int32) (p0 : Int32)  : Met l yX9_worth (.code yX9_worth cX9_worth 2 (some .int) :: TB) (rmk 2) (va_Pc [.ref (q 0), .int p0] (fun U => FWH D k q wf U U.heap)) (vp_Si (fun r => r = (-2))) 0 0 (fun _ => False) := by
  refine Met.ofW (cc := cX9_worth) (maxL := 2) (ret := (some .int)) (by decide) rfl ?_
  intro p e s m args below meth c s₁ B hml hv
  obtain ⟨rfl, hF⟩ := hv
  have hx := B.exec
  have hb := B.bytes
  have hr := B.returns
  have hT : ∀ w ∈ TB, w.before ([.ref (q 0), .int p0] : List Value).toArray s = true := fun w h => atoms_spec (ws := .code yX9_worth cX9_worth 2 (some .int) :: TB) B.pre w (List.mem_cons_of_mem _ h)
  have hown : s.vm.findClass RX9 = some m.cls := findClass_of_methodNamed B.named
  have S : CallFix p m c cX9_worth 2 s _ TB RX9 := ⟨hx, hb, hml, hown, hT⟩
  have hP : va_P D vwCl [(q 0, .inr (9, [.ref (q 1), .ref (q 2), .ref (q 3), .ref (q 4), .ref (q 5), .ref (q 6), .ref (q 7), .ref (q 8), .ref (q 9), .ref (q 10), .ref (q 11)])), (q 3, .inr (8, [.ref (q 12), .ref (q 13), .int 0, .ref (q 14), .ref (q 15), .ref (q 16)])), (q 12, .inr (1, [.int 0, .int 0, .int 0, .int 0, .int 0, .int 0, .int 0, .ref (q 17), .ref (q 18), .ref (q 19), .ref (q 20), .ref (q 21), .ref (q 22), .ref (q 23)])), (q 6, .inr (4, [.ref (q 24), .ref (q 25), .ref (q 26)])), (q 24, .inl (k 0, 4, .inl wf)), (q 5, .inl (k 3, 3, .inl (fun _ => 0))), (q 1, .inr (6, [.ref (q 27), .int 0])), (q 2, .inr (2, [.ref (q 1), .ref (q 28), .int 0, .int (-1), .int 0, .int 0, .int 0, .int 0]))] s.heap := hF.1
  have hK := hF.2.1
  have hl := lv_entry ([.ref (q 0), .int p0]) (n := 2) (Nat.le_of_ble_eq_true rfl)
  rw [lg_entry_eq]
  generalize (lg_sl ([.ref (q 0), .int p0]) ++ List.replicate (2 - (lg_sl ([.ref (q 0), .int p0])).length) Slot.unset).toArray = ls at hl ⊢
  have hl : lv_has ls 2 [(0, .ref (q 0)), (1, .int p0)] := hl
  refine lv_aload_n hx hb dX9_worth_0 rfl (lv_at hl 0 rfl) ?_
  refine va_get (D := D) (ci := 9) (v := .ref (q 3)) (C := RX9) (T := TX9) (N := 11) hx hb hT in_X9 hown hK hP 0 rfl rfl 2 (by decide) (hT _ t453) (fun _ h9 => h9) rfl dX9_worth_1 ?_
  refine va_get (D := D) (ci := 8) (v := .ref (q 12)) (C := RX8) (T := TX8) (N := 6) hx hb hT in_X8 hown hK hP 1 rfl rfl 0 (by decide) (hT _ t312) (fun _ h9 => h9) rfl dX9_worth_4 ?_
  refine lv_iload_n hx hb dX9_worth_7 rfl (lv_at hl 1 rfl) ?_
  refine ro_V (As := [.int p0]) (rest := []) S (c_X1_isWheel l D k q wf p0) lkX9_127 ok_X1_isWheel ⟨rfl, rfl, Nat.le_of_ble_eq_true rfl, Nat.le_of_ble_eq_true rfl⟩ (fw_V (ci := 1) (q0 := 2) hF rfl rfl) rfl hl.1 rfl (Nat.le_of_ble_eq_true rfl) ⟨Nat.zero_le _, Nat.zero_le _⟩ dX9_worth_8 (fun r_1 er_1 => ?_)
  subst er_1
  refine lv_if_eq (tgt := 35) hx hb dX9_worth_11 (by decide) (fun c_2 => ?_) (fun c_2 => ?_)
  rotate_left
  · first | exact absurd c_2 (by decide) | exact absurd (by decide) c_2
  refine lv_bipush (v := (-2)) hx hb dX9_worth_35 (by decide) ?_
  exact W.iret (v := (-2)) hx hb hr (fun t ht hW => ⟨(-2), rfl, rfl, ht⟩) (fun _ h9 => by cases h9) dX9_worth_37
set_option maxHeartbeats 4000000 in
set_option maxRecDepth 100000 in
theorem c_X9_picks (l : Launch) (D : va_G) (k : Nat → ClassId) (q : Nat → Nat) (wf : Nat → Int32)   : Met l yX9_picks (.code yX9_picks cX9_picks 1 (some .int) :: TB) (rmk 2) (va_Pc [.ref (q 0)] (fun U => FWH D k q wf U U.heap)) (vp_Si (fun r => r = (-2))) 0 0 (fun _ => False) := by
  refine Met.ofW (cc := cX9_picks) (maxL := 1) (ret := (some .int)) (by decide) rfl ?_
  intro p e s m args below meth c s₁ B hml hv
  obtain ⟨rfl, hF⟩ := hv
  have hx := B.exec
  have hb := B.bytes
  have hr := B.returns
  have hT : ∀ w ∈ TB, w.before ([.ref (q 0)] : List Value).toArray s = true := fun w h => atoms_spec (ws := .code yX9_picks cX9_picks 1 (some .int) :: TB) B.pre w (List.mem_cons_of_mem _ h)
  have hown : s.vm.findClass RX9 = some m.cls := findClass_of_methodNamed B.named
  have S : CallFix p m c cX9_picks 1 s _ TB RX9 := ⟨hx, hb, hml, hown, hT⟩
  have hP : va_P D vwCl [(q 0, .inr (9, [.ref (q 1), .ref (q 2), .ref (q 3), .ref (q 4), .ref (q 5), .ref (q 6), .ref (q 7), .ref (q 8), .ref (q 9), .ref (q 10), .ref (q 11)])), (q 3, .inr (8, [.ref (q 12), .ref (q 13), .int 0, .ref (q 14), .ref (q 15), .ref (q 16)])), (q 12, .inr (1, [.int 0, .int 0, .int 0, .int 0, .int 0, .int 0, .int 0, .ref (q 17), .ref (q 18), .ref (q 19), .ref (q 20), .ref (q 21), .ref (q 22), .ref (q 23)])), (q 6, .inr (4, [.ref (q 24), .ref (q 25), .ref (q 26)])), (q 24, .inl (k 0, 4, .inl wf)), (q 5, .inl (k 3, 3, .inl (fun _ => 0))), (q 1, .inr (6, [.ref (q 27), .int 0])), (q 2, .inr (2, [.ref (q 1), .ref (q 28), .int 0, .int (-1), .int 0, .int 0, .int 0, .int 0]))] s.heap := hF.1
  have hK := hF.2.1
  have hl := lv_entry ([.ref (q 0)]) (n := 1) (Nat.le_of_ble_eq_true rfl)
  rw [lg_entry_eq]
  generalize (lg_sl ([.ref (q 0)]) ++ List.replicate (1 - (lg_sl ([.ref (q 0)])).length) Slot.unset).toArray = ls at hl ⊢
  have hl : lv_has ls 1 [(0, .ref (q 0))] := hl
  refine lv_aload_n hx hb dX9_picks_0 rfl (lv_at hl 0 rfl) ?_
  refine va_get (D := D) (ci := 9) (v := .ref (q 3)) (C := RX9) (T := TX9) (N := 11) hx hb hT in_X9 hown hK hP 0 rfl rfl 2 (by decide) (hT _ t453) (fun _ h9 => h9) rfl dX9_picks_1 ?_
  refine va_get (D := D) (ci := 8) (v := .ref (q 12)) (C := RX8) (T := TX8) (N := 6) hx hb hT in_X8 hown hK hP 1 rfl rfl 0 (by decide) (hT _ t312) (fun _ h9 => h9) rfl dX9_picks_4 ?_
  refine ro_V (As := []) (rest := []) S (c_X1_isTold l D k q wf ) lkX9_211 ok_X1_isTold ⟨rfl, rfl, Nat.le_of_ble_eq_true rfl, Nat.le_of_ble_eq_true rfl⟩ (fw_V (ci := 1) (q0 := 2) hF rfl rfl) rfl hl.1 rfl (Nat.le_of_ble_eq_true rfl) ⟨Nat.zero_le _, Nat.zero_le _⟩ dX9_picks_7 (fun r_1 er_1 => ?_)
  subst er_1
  refine lv_if_ne (tgt := 16) hx hb dX9_picks_10 (by decide) (fun c_2 => ?_) (fun c_2 => ?_)
  · first | exact absurd c_2 (by decide) | exact absurd (by decide) c_2
  refine lv_bipush (v := (-2)) hx hb dX9_picks_13 (by decide) ?_
  exact W.iret (v := (-2)) hx hb hr (fun t ht hW => ⟨(-2), rfl, rfl, ht⟩) (fun _ h9 => by cases h9) dX9_picks_15
set_option maxHeartbeats 4000000 in
set_option maxRecDepth 100000 in
theorem c_X9_tell (l : Launch) (D : va_G) (k : Nat → ClassId) (q : Nat → Nat) (wf : Nat → Int32) (p0 : Int32) (p1 : Int32) (p2 : Int32)  : Met l yX9_tell (.code yX9_tell cX9_tell 5 (some .int) :: TB) (rmk 2) (va_Pc [.ref (q 0), .int p0, .int p1, .int p2] (fun U => FWH D k q wf U U.heap)) (vp_Si (fun r => r = (-2))) 0 0 (fun _ => False) := by
  refine Met.ofW (cc := cX9_tell) (maxL := 5) (ret := (some .int)) (by decide) rfl ?_
  intro p e s m args below meth c s₁ B hml hv
  obtain ⟨rfl, hF⟩ := hv
  have hx := B.exec
  have hb := B.bytes
  have hr := B.returns
  have hT : ∀ w ∈ TB, w.before ([.ref (q 0), .int p0, .int p1, .int p2] : List Value).toArray s = true := fun w h => atoms_spec (ws := .code yX9_tell cX9_tell 5 (some .int) :: TB) B.pre w (List.mem_cons_of_mem _ h)
  have hown : s.vm.findClass RX9 = some m.cls := findClass_of_methodNamed B.named
  have S : CallFix p m c cX9_tell 5 s _ TB RX9 := ⟨hx, hb, hml, hown, hT⟩
  have hP : va_P D vwCl [(q 0, .inr (9, [.ref (q 1), .ref (q 2), .ref (q 3), .ref (q 4), .ref (q 5), .ref (q 6), .ref (q 7), .ref (q 8), .ref (q 9), .ref (q 10), .ref (q 11)])), (q 3, .inr (8, [.ref (q 12), .ref (q 13), .int 0, .ref (q 14), .ref (q 15), .ref (q 16)])), (q 12, .inr (1, [.int 0, .int 0, .int 0, .int 0, .int 0, .int 0, .int 0, .ref (q 17), .ref (q 18), .ref (q 19), .ref (q 20), .ref (q 21), .ref (q 22), .ref (q 23)])), (q 6, .inr (4, [.ref (q 24), .ref (q 25), .ref (q 26)])), (q 24, .inl (k 0, 4, .inl wf)), (q 5, .inl (k 3, 3, .inl (fun _ => 0))), (q 1, .inr (6, [.ref (q 27), .int 0])), (q 2, .inr (2, [.ref (q 1), .ref (q 28), .int 0, .int (-1), .int 0, .int 0, .int 0, .int 0]))] s.heap := hF.1
  have hK := hF.2.1
  have hl := lv_entry ([.ref (q 0), .int p0, .int p1, .int p2]) (n := 5) (Nat.le_of_ble_eq_true rfl)
  rw [lg_entry_eq]
  generalize (lg_sl ([.ref (q 0), .int p0, .int p1, .int p2]) ++ List.replicate (5 - (lg_sl ([.ref (q 0), .int p0, .int p1, .int p2])).length) Slot.unset).toArray = ls at hl ⊢
  have hl : lv_has ls 5 [(0, .ref (q 0)), (1, .int p0), (2, .int p1), (3, .int p2)] := hl
  refine lv_aload_n hx hb dX9_tell_0 rfl (lv_at hl 0 rfl) ?_
  refine va_get (D := D) (ci := 9) (v := .ref (q 3)) (C := RX9) (T := TX9) (N := 11) hx hb hT in_X9 hown hK hP 0 rfl rfl 2 (by decide) (hT _ t453) (fun _ h9 => h9) rfl dX9_tell_1 ?_
  refine va_get (D := D) (ci := 8) (v := .ref (q 12)) (C := RX8) (T := TX8) (N := 6) hx hb hT in_X8 hown hK hP 1 rfl rfl 0 (by decide) (hT _ t312) (fun _ h9 => h9) rfl dX9_tell_4 ?_
  refine lv_iload_n hx hb dX9_tell_7 rfl (lv_at hl 1 rfl) ?_
  refine ro_V (As := [.int p0]) (rest := []) S (c_X1_isWheel l D k q wf p0) lkX9_127 ok_X1_isWheel ⟨rfl, rfl, Nat.le_of_ble_eq_true rfl, Nat.le_of_ble_eq_true rfl⟩ (fw_V (ci := 1) (q0 := 2) hF rfl rfl) rfl hl.1 rfl (Nat.le_of_ble_eq_true rfl) ⟨Nat.zero_le _, Nat.zero_le _⟩ dX9_tell_8 (fun r_1 er_1 => ?_)
  subst er_1
  refine lv_if_eq (tgt := 38) hx hb dX9_tell_11 (by decide) (fun c_2 => ?_) (fun c_2 => ?_)
  rotate_left
  · first | exact absurd c_2 (by decide) | exact absurd (by decide) c_2
  refine lv_bipush (v := (-2)) hx hb dX9_tell_38 (by decide) ?_
  exact W.iret (v := (-2)) hx hb hr (fun t ht hW => ⟨(-2), rfl, rfl, ht⟩) (fun _ h9 => by cases h9) dX9_tell_40
set_option maxHeartbeats 4000000 in
set_option maxRecDepth 100000 in
theorem c_X9_hand (l : Launch) (D : va_G) (k : Nat → ClassId) (q : Nat → Nat) (wf : Nat → Int32) (p0 : Int32)  : Met l yX9_hand (.code yX9_hand cX9_hand 3 (some .int) :: TB) (rmk 2) (va_Pc [.ref (q 0), .int p0] (fun U => FWH D k q wf U U.heap)) (vp_Si (fun r => r = (-2))) 0 0 (fun _ => False) := by
  refine Met.ofW (cc := cX9_hand) (maxL := 3) (ret := (some .int)) (by decide) rfl ?_
  intro p e s m args below meth c s₁ B hml hv
  obtain ⟨rfl, hF⟩ := hv
  have hx := B.exec
  have hb := B.bytes
  have hr := B.returns
  have hT : ∀ w ∈ TB, w.before ([.ref (q 0), .int p0] : List Value).toArray s = true := fun w h => atoms_spec (ws := .code yX9_hand cX9_hand 3 (some .int) :: TB) B.pre w (List.mem_cons_of_mem _ h)
  have hown : s.vm.findClass RX9 = some m.cls := findClass_of_methodNamed B.named
  have S : CallFix p m c cX9_hand 3 s _ TB RX9 := ⟨hx, hb, hml, hown, hT⟩
  have hP : va_P D vwCl [(q 0, .inr (9, [.ref (q 1), .ref (q 2), .ref (q 3), .ref (q 4), .ref (q 5), .ref (q 6), .ref (q 7), .ref (q 8), .ref (q 9), .ref (q 10), .ref (q 11)])), (q 3, .inr (8, [.ref (q 12), .ref (q 13), .int 0, .ref (q 14), .ref (q 15), .ref (q 16)])), (q 12, .inr (1, [.int 0, .int 0, .int 0, .int 0, .int 0, .int 0, .int 0, .ref (q 17), .ref (q 18), .ref (q 19), .ref (q 20), .ref (q 21), .ref (q 22), .ref (q 23)])), (q 6, .inr (4, [.ref (q 24), .ref (q 25), .ref (q 26)])), (q 24, .inl (k 0, 4, .inl wf)), (q 5, .inl (k 3, 3, .inl (fun _ => 0))), (q 1, .inr (6, [.ref (q 27), .int 0])), (q 2, .inr (2, [.ref (q 1), .ref (q 28), .int 0, .int (-1), .int 0, .int 0, .int 0, .int 0]))] s.heap := hF.1
  have hK := hF.2.1
  have hl := lv_entry ([.ref (q 0), .int p0]) (n := 3) (Nat.le_of_ble_eq_true rfl)
  rw [lg_entry_eq]
  generalize (lg_sl ([.ref (q 0), .int p0]) ++ List.replicate (3 - (lg_sl ([.ref (q 0), .int p0])).length) Slot.unset).toArray = ls at hl ⊢
  have hl : lv_has ls 3 [(0, .ref (q 0)), (1, .int p0)] := hl
  refine lv_iload_n hx hb dX9_hand_0 rfl (lv_at hl 1 rfl) ?_
  refine lv_if_lt (tgt := 23) hx hb dX9_hand_1 (by decide) (fun c_1 => ?_) (fun c_1 => ?_)
  · skip
    refine lv_bipush (v := (-2)) hx hb dX9_hand_23 (by decide) ?_
    exact W.iret (v := (-2)) hx hb hr (fun t ht hW => ⟨(-2), rfl, rfl, ht⟩) (fun _ h9 => by cases h9) dX9_hand_25
  · skip
    refine lv_iload_n hx hb dX9_hand_4 rfl (lv_at hl 1 rfl) ?_
    refine lv_bipush (v := 40) hx hb dX9_hand_5 (by decide) ?_
    refine lv_icmp_gt (tgt := 23) hx hb dX9_hand_7 (by decide) (fun c_2 => ?_) (fun c_2 => ?_)
    · skip
      refine lv_bipush (v := (-2)) hx hb dX9_hand_23 (by decide) ?_
      exact W.iret (v := (-2)) hx hb hr (fun t ht hW => ⟨(-2), rfl, rfl, ht⟩) (fun _ h9 => by cases h9) dX9_hand_25
    · skip
      refine lv_aload_n hx hb dX9_hand_10 rfl (lv_at hl 0 rfl) ?_
      refine va_get (D := D) (ci := 9) (v := .ref (q 3)) (C := RX9) (T := TX9) (N := 11) hx hb hT in_X9 hown hK hP 0 rfl rfl 2 (by decide) (hT _ t453) (fun _ h9 => h9) rfl dX9_hand_11 ?_
      refine va_get (D := D) (ci := 8) (v := .ref (q 12)) (C := RX8) (T := TX8) (N := 6) hx hb hT in_X8 hown hK hP 1 rfl rfl 0 (by decide) (hT _ t312) (fun _ h9 => h9) rfl dX9_hand_14 ?_
      refine ro_V (As := []) (rest := []) S (c_X1_isTold l D k q wf ) lkX9_211 ok_X1_isTold ⟨rfl, rfl, Nat.le_of_ble_eq_true rfl, Nat.le_of_ble_eq_true rfl⟩ (fw_V (ci := 1) (q0 := 2) hF rfl rfl) rfl hl.1 rfl (Nat.le_of_ble_eq_true rfl) ⟨Nat.zero_le _, Nat.zero_le _⟩ dX9_hand_17 (fun r_3 er_3 => ?_)
      subst er_3
      refine lv_if_ne (tgt := 26) hx hb dX9_hand_20 (by decide) (fun c_4 => ?_) (fun c_4 => ?_)
      · first | exact absurd c_4 (by decide) | exact absurd (by decide) c_4
      refine lv_bipush (v := (-2)) hx hb dX9_hand_23 (by decide) ?_
      exact W.iret (v := (-2)) hx hb hr (fun t ht hW => ⟨(-2), rfl, rfl, ht⟩) (fun _ h9 => by cases h9) dX9_hand_25
set_option maxHeartbeats 4000000 in
set_option maxRecDepth 100000 in
theorem c_X9_takes (l : Launch) (D : va_G) (k : Nat → ClassId) (q : Nat → Nat) (wf : Nat → Int32) (p0 : Int32) (p1 : Int32)  : Met l yX9_takes (.code yX9_takes cX9_takes 3 (some .int) :: TB) (rmk 4) (va_Pc [.ref (q 0), .int p0, .int p1] (fun U => FWH D k q wf U U.heap)) (vp_Si (fun r => r = (-2))) 0 0 (fun _ => False) := by
  refine Met.ofW (cc := cX9_takes) (maxL := 3) (ret := (some .int)) (by decide) rfl ?_
  intro p e s m args below meth c s₁ B hml hv
  obtain ⟨rfl, hF⟩ := hv
  have hx := B.exec
  have hb := B.bytes
  have hr := B.returns
  have hT : ∀ w ∈ TB, w.before ([.ref (q 0), .int p0, .int p1] : List Value).toArray s = true := fun w h => atoms_spec (ws := .code yX9_takes cX9_takes 3 (some .int) :: TB) B.pre w (List.mem_cons_of_mem _ h)
  have hown : s.vm.findClass RX9 = some m.cls := findClass_of_methodNamed B.named
  have S : CallFix p m c cX9_takes 3 s _ TB RX9 := ⟨hx, hb, hml, hown, hT⟩
  have hP : va_P D vwCl [(q 0, .inr (9, [.ref (q 1), .ref (q 2), .ref (q 3), .ref (q 4), .ref (q 5), .ref (q 6), .ref (q 7), .ref (q 8), .ref (q 9), .ref (q 10), .ref (q 11)])), (q 3, .inr (8, [.ref (q 12), .ref (q 13), .int 0, .ref (q 14), .ref (q 15), .ref (q 16)])), (q 12, .inr (1, [.int 0, .int 0, .int 0, .int 0, .int 0, .int 0, .int 0, .ref (q 17), .ref (q 18), .ref (q 19), .ref (q 20), .ref (q 21), .ref (q 22), .ref (q 23)])), (q 6, .inr (4, [.ref (q 24), .ref (q 25), .ref (q 26)])), (q 24, .inl (k 0, 4, .inl wf)), (q 5, .inl (k 3, 3, .inl (fun _ => 0))), (q 1, .inr (6, [.ref (q 27), .int 0])), (q 2, .inr (2, [.ref (q 1), .ref (q 28), .int 0, .int (-1), .int 0, .int 0, .int 0, .int 0]))] s.heap := hF.1
  have hK := hF.2.1
  have hl := lv_entry ([.ref (q 0), .int p0, .int p1]) (n := 3) (Nat.le_of_ble_eq_true rfl)
  rw [lg_entry_eq]
  generalize (lg_sl ([.ref (q 0), .int p0, .int p1]) ++ List.replicate (3 - (lg_sl ([.ref (q 0), .int p0, .int p1])).length) Slot.unset).toArray = ls at hl ⊢
  have hl : lv_has ls 3 [(0, .ref (q 0)), (1, .int p0), (2, .int p1)] := hl
  refine lv_aload_n hx hb dX9_takes_0 rfl (lv_at hl 0 rfl) ?_
  refine lv_iload_n hx hb dX9_takes_1 rfl (lv_at hl 1 rfl) ?_
  refine lv_iload_n hx hb dX9_takes_2 rfl (lv_at hl 2 rfl) ?_
  refine ro_V (As := [.int p0, .int p1]) (rest := []) S (c_X9_canWant l D k q wf p0 p1) lkX9_180 ok_X9_canWant ⟨rfl, rfl, Nat.le_of_ble_eq_true rfl, Nat.le_of_ble_eq_true rfl⟩ (fw_V (ci := 9) (q0 := 0) hF rfl rfl) rfl hl.1 rfl (Nat.le_of_ble_eq_true rfl) ⟨Nat.zero_le _, Nat.zero_le _⟩ dX9_takes_3 (fun r_1 er_1 => ?_)
  subst er_1
  refine lv_if_ne (tgt := 12) hx hb dX9_takes_6 (by decide) (fun c_2 => ?_) (fun c_2 => ?_)
  · first | exact absurd c_2 (by decide) | exact absurd (by decide) c_2
  refine lv_bipush (v := (-2)) hx hb dX9_takes_9 (by decide) ?_
  exact W.iret (v := (-2)) hx hb hr (fun t ht hW => ⟨(-2), rfl, rfl, ht⟩) (fun _ h9 => by cases h9) dX9_takes_11
set_option maxHeartbeats 4000000 in
set_option maxRecDepth 100000 in
theorem c_X9_argue (l : Launch) (D : va_G) (k : Nat → ClassId) (q : Nat → Nat) (wf : Nat → Int32) (p0 : Int32) (p1 : Int32)  : Met l yX9_argue (.code yX9_argue cX9_argue 6 (some .int) :: TB) (rmk 3) (va_Pc [.ref (q 0), .int p0, .int p1] (fun U => FWH D k q wf U U.heap)) (vp_Si (fun r => r = (-2))) 0 0 (fun _ => False) := by
  refine Met.ofW (cc := cX9_argue) (maxL := 6) (ret := (some .int)) (by decide) rfl ?_
  intro p e s m args below meth c s₁ B hml hv
  obtain ⟨rfl, hF⟩ := hv
  have hx := B.exec
  have hb := B.bytes
  have hr := B.returns
  have hT : ∀ w ∈ TB, w.before ([.ref (q 0), .int p0, .int p1] : List Value).toArray s = true := fun w h => atoms_spec (ws := .code yX9_argue cX9_argue 6 (some .int) :: TB) B.pre w (List.mem_cons_of_mem _ h)
  have hown : s.vm.findClass RX9 = some m.cls := findClass_of_methodNamed B.named
  have S : CallFix p m c cX9_argue 6 s _ TB RX9 := ⟨hx, hb, hml, hown, hT⟩
  have hP : va_P D vwCl [(q 0, .inr (9, [.ref (q 1), .ref (q 2), .ref (q 3), .ref (q 4), .ref (q 5), .ref (q 6), .ref (q 7), .ref (q 8), .ref (q 9), .ref (q 10), .ref (q 11)])), (q 3, .inr (8, [.ref (q 12), .ref (q 13), .int 0, .ref (q 14), .ref (q 15), .ref (q 16)])), (q 12, .inr (1, [.int 0, .int 0, .int 0, .int 0, .int 0, .int 0, .int 0, .ref (q 17), .ref (q 18), .ref (q 19), .ref (q 20), .ref (q 21), .ref (q 22), .ref (q 23)])), (q 6, .inr (4, [.ref (q 24), .ref (q 25), .ref (q 26)])), (q 24, .inl (k 0, 4, .inl wf)), (q 5, .inl (k 3, 3, .inl (fun _ => 0))), (q 1, .inr (6, [.ref (q 27), .int 0])), (q 2, .inr (2, [.ref (q 1), .ref (q 28), .int 0, .int (-1), .int 0, .int 0, .int 0, .int 0]))] s.heap := hF.1
  have hK := hF.2.1
  have hl := lv_entry ([.ref (q 0), .int p0, .int p1]) (n := 6) (Nat.le_of_ble_eq_true rfl)
  rw [lg_entry_eq]
  generalize (lg_sl ([.ref (q 0), .int p0, .int p1]) ++ List.replicate (6 - (lg_sl ([.ref (q 0), .int p0, .int p1])).length) Slot.unset).toArray = ls at hl ⊢
  have hl : lv_has ls 6 [(0, .ref (q 0)), (1, .int p0), (2, .int p1)] := hl
  refine lv_aload_n hx hb dX9_argue_0 rfl (lv_at hl 0 rfl) ?_
  refine lv_iload_n hx hb dX9_argue_1 rfl (lv_at hl 1 rfl) ?_
  refine lv_iload_n hx hb dX9_argue_2 rfl (lv_at hl 2 rfl) ?_
  refine ro_V (As := [.int p0, .int p1]) (rest := []) S (c_X9_isByCart l D k q wf p0 p1) lkX9_191 ok_X9_isByCart ⟨rfl, rfl, Nat.le_of_ble_eq_true rfl, Nat.le_of_ble_eq_true rfl⟩ (fw_V (ci := 9) (q0 := 0) hF rfl rfl) rfl hl.1 rfl (Nat.le_of_ble_eq_true rfl) ⟨Nat.zero_le _, Nat.zero_le _⟩ dX9_argue_3 (fun r_1 er_1 => ?_)
  subst er_1
  refine lv_if_ne (tgt := 12) hx hb dX9_argue_6 (by decide) (fun c_2 => ?_) (fun c_2 => ?_)
  · first | exact absurd c_2 (by decide) | exact absurd (by decide) c_2
  refine lv_bipush (v := (-2)) hx hb dX9_argue_9 (by decide) ?_
  exact W.iret (v := (-2)) hx hb hr (fun t ht hW => ⟨(-2), rfl, rfl, ht⟩) (fun _ h9 => by cases h9) dX9_argue_11
set_option maxHeartbeats 4000000 in
set_option maxRecDepth 100000 in
theorem c_X9_drive (l : Launch) (D : va_G) (k : Nat → ClassId) (q : Nat → Nat) (wf : Nat → Int32) (p0 : Int32) (p1 : Int32)  : Met l yX9_drive (.code yX9_drive cX9_drive 3 (some .int) :: TB) (rmk 4) (va_Pc [.ref (q 0), .int p0, .int p1] (fun U => FWH D k q wf U U.heap)) (vp_Si (fun r => r = (-2))) 0 0 (fun _ => False) := by
  refine Met.ofW (cc := cX9_drive) (maxL := 3) (ret := (some .int)) (by decide) rfl ?_
  intro p e s m args below meth c s₁ B hml hv
  obtain ⟨rfl, hF⟩ := hv
  have hx := B.exec
  have hb := B.bytes
  have hr := B.returns
  have hT : ∀ w ∈ TB, w.before ([.ref (q 0), .int p0, .int p1] : List Value).toArray s = true := fun w h => atoms_spec (ws := .code yX9_drive cX9_drive 3 (some .int) :: TB) B.pre w (List.mem_cons_of_mem _ h)
  have hown : s.vm.findClass RX9 = some m.cls := findClass_of_methodNamed B.named
  have S : CallFix p m c cX9_drive 3 s _ TB RX9 := ⟨hx, hb, hml, hown, hT⟩
  have hP : va_P D vwCl [(q 0, .inr (9, [.ref (q 1), .ref (q 2), .ref (q 3), .ref (q 4), .ref (q 5), .ref (q 6), .ref (q 7), .ref (q 8), .ref (q 9), .ref (q 10), .ref (q 11)])), (q 3, .inr (8, [.ref (q 12), .ref (q 13), .int 0, .ref (q 14), .ref (q 15), .ref (q 16)])), (q 12, .inr (1, [.int 0, .int 0, .int 0, .int 0, .int 0, .int 0, .int 0, .ref (q 17), .ref (q 18), .ref (q 19), .ref (q 20), .ref (q 21), .ref (q 22), .ref (q 23)])), (q 6, .inr (4, [.ref (q 24), .ref (q 25), .ref (q 26)])), (q 24, .inl (k 0, 4, .inl wf)), (q 5, .inl (k 3, 3, .inl (fun _ => 0))), (q 1, .inr (6, [.ref (q 27), .int 0])), (q 2, .inr (2, [.ref (q 1), .ref (q 28), .int 0, .int (-1), .int 0, .int 0, .int 0, .int 0]))] s.heap := hF.1
  have hK := hF.2.1
  have hl := lv_entry ([.ref (q 0), .int p0, .int p1]) (n := 3) (Nat.le_of_ble_eq_true rfl)
  rw [lg_entry_eq]
  generalize (lg_sl ([.ref (q 0), .int p0, .int p1]) ++ List.replicate (3 - (lg_sl ([.ref (q 0), .int p0, .int p1])).length) Slot.unset).toArray = ls at hl ⊢
  have hl : lv_has ls 3 [(0, .ref (q 0)), (1, .int p0), (2, .int p1)] := hl
  refine lv_aload_n hx hb dX9_drive_0 rfl (lv_at hl 0 rfl) ?_
  refine lv_iload_n hx hb dX9_drive_1 rfl (lv_at hl 1 rfl) ?_
  refine lv_iload_n hx hb dX9_drive_2 rfl (lv_at hl 2 rfl) ?_
  refine ro_V (As := [.int p0, .int p1]) (rest := []) S (c_X9_canWant l D k q wf p0 p1) lkX9_180 ok_X9_canWant ⟨rfl, rfl, Nat.le_of_ble_eq_true rfl, Nat.le_of_ble_eq_true rfl⟩ (fw_V (ci := 9) (q0 := 0) hF rfl rfl) rfl hl.1 rfl (Nat.le_of_ble_eq_true rfl) ⟨Nat.zero_le _, Nat.zero_le _⟩ dX9_drive_3 (fun r_1 er_1 => ?_)
  subst er_1
  refine lv_if_ne (tgt := 12) hx hb dX9_drive_6 (by decide) (fun c_2 => ?_) (fun c_2 => ?_)
  · first | exact absurd c_2 (by decide) | exact absurd (by decide) c_2
  refine lv_bipush (v := (-2)) hx hb dX9_drive_9 (by decide) ?_
  exact W.iret (v := (-2)) hx hb hr (fun t ht hW => ⟨(-2), rfl, rfl, ht⟩) (fun _ h9 => by cases h9) dX9_drive_11
set_option maxHeartbeats 4000000 in
set_option maxRecDepth 100000 in
theorem c_X9_goes (l : Launch) (D : va_G) (k : Nat → ClassId) (q : Nat → Nat) (wf : Nat → Int32) (p0 : Int32) (p1 : Int32)  : Met l yX9_goes (.code yX9_goes cX9_goes 4 (some .int) :: TB) (rmk 3) (va_Pc [.ref (q 0), .int p0, .int p1] (fun U => FWH D k q wf U U.heap)) (vp_Si (fun r => r = (-2))) 0 0 (fun _ => False) := by
  refine Met.ofW (cc := cX9_goes) (maxL := 4) (ret := (some .int)) (by decide) rfl ?_
  intro p e s m args below meth c s₁ B hml hv
  obtain ⟨rfl, hF⟩ := hv
  have hx := B.exec
  have hb := B.bytes
  have hr := B.returns
  have hT : ∀ w ∈ TB, w.before ([.ref (q 0), .int p0, .int p1] : List Value).toArray s = true := fun w h => atoms_spec (ws := .code yX9_goes cX9_goes 4 (some .int) :: TB) B.pre w (List.mem_cons_of_mem _ h)
  have hown : s.vm.findClass RX9 = some m.cls := findClass_of_methodNamed B.named
  have S : CallFix p m c cX9_goes 4 s _ TB RX9 := ⟨hx, hb, hml, hown, hT⟩
  have hP : va_P D vwCl [(q 0, .inr (9, [.ref (q 1), .ref (q 2), .ref (q 3), .ref (q 4), .ref (q 5), .ref (q 6), .ref (q 7), .ref (q 8), .ref (q 9), .ref (q 10), .ref (q 11)])), (q 3, .inr (8, [.ref (q 12), .ref (q 13), .int 0, .ref (q 14), .ref (q 15), .ref (q 16)])), (q 12, .inr (1, [.int 0, .int 0, .int 0, .int 0, .int 0, .int 0, .int 0, .ref (q 17), .ref (q 18), .ref (q 19), .ref (q 20), .ref (q 21), .ref (q 22), .ref (q 23)])), (q 6, .inr (4, [.ref (q 24), .ref (q 25), .ref (q 26)])), (q 24, .inl (k 0, 4, .inl wf)), (q 5, .inl (k 3, 3, .inl (fun _ => 0))), (q 1, .inr (6, [.ref (q 27), .int 0])), (q 2, .inr (2, [.ref (q 1), .ref (q 28), .int 0, .int (-1), .int 0, .int 0, .int 0, .int 0]))] s.heap := hF.1
  have hK := hF.2.1
  have hl := lv_entry ([.ref (q 0), .int p0, .int p1]) (n := 4) (Nat.le_of_ble_eq_true rfl)
  rw [lg_entry_eq]
  generalize (lg_sl ([.ref (q 0), .int p0, .int p1]) ++ List.replicate (4 - (lg_sl ([.ref (q 0), .int p0, .int p1])).length) Slot.unset).toArray = ls at hl ⊢
  have hl : lv_has ls 4 [(0, .ref (q 0)), (1, .int p0), (2, .int p1)] := hl
  refine lv_aload_n hx hb dX9_goes_0 rfl (lv_at hl 0 rfl) ?_
  refine lv_iload_n hx hb dX9_goes_1 rfl (lv_at hl 1 rfl) ?_
  refine lv_iload_n hx hb dX9_goes_2 rfl (lv_at hl 2 rfl) ?_
  refine ro_V (As := [.int p0, .int p1]) (rest := []) S (c_X9_follow l D k q wf p0 p1) lkX9_220 ok_X9_follow ⟨rfl, rfl, Nat.le_of_ble_eq_true rfl, Nat.le_of_ble_eq_true rfl⟩ (fw_V (ci := 9) (q0 := 0) hF rfl rfl) rfl hl.1 rfl (Nat.le_of_ble_eq_true rfl) ⟨Nat.zero_le _, Nat.zero_le _⟩ dX9_goes_3 (fun r_1 er_1 => ?_)
  subst er_1
  refine lv_istore_n (lv' := [(3, .int (-2)), (0, .ref (q 0)), (1, .int p0), (2, .int p1)]) hx hb dX9_goes_6 rfl hl (by decide) rfl (fun ls hl => ?_)
  refine lv_iload_n hx hb dX9_goes_7 rfl (lv_at hl 0 rfl) ?_
  refine lv_if_eq (tgt := 15) hx hb dX9_goes_8 (by decide) (fun c_2 => ?_) (fun c_2 => ?_)
  · first | exact absurd c_2 (by decide) | exact absurd (by decide) c_2
  refine lv_iload_n hx hb dX9_goes_11 rfl (lv_at hl 0 rfl) ?_
  refine lv_goto (tgt := 22) hx hb dX9_goes_12 (by decide) ?_
  exact W.iret (v := (-2)) hx hb hr (fun t ht hW => ⟨(-2), rfl, rfl, ht⟩) (fun _ h9 => by cases h9) dX9_goes_22
set_option maxHeartbeats 4000000 in
set_option maxRecDepth 100000 in
theorem c_X9_ends (l : Launch) (D : va_G) (k : Nat → ClassId) (q : Nat → Nat) (wf : Nat → Int32) (p0 : Int32) (p1 : Int32)  : Met l yX9_ends (.code yX9_ends cX9_ends 4 (some .int) :: TB) (rmk 3) (va_Pc [.ref (q 0), .int p0, .int p1] (fun U => FWH D k q wf U U.heap)) (vp_Si (fun r => r = (-2))) 0 0 (fun _ => False) := by
  refine Met.ofW (cc := cX9_ends) (maxL := 4) (ret := (some .int)) (by decide) rfl ?_
  intro p e s m args below meth c s₁ B hml hv
  obtain ⟨rfl, hF⟩ := hv
  have hx := B.exec
  have hb := B.bytes
  have hr := B.returns
  have hT : ∀ w ∈ TB, w.before ([.ref (q 0), .int p0, .int p1] : List Value).toArray s = true := fun w h => atoms_spec (ws := .code yX9_ends cX9_ends 4 (some .int) :: TB) B.pre w (List.mem_cons_of_mem _ h)
  have hown : s.vm.findClass RX9 = some m.cls := findClass_of_methodNamed B.named
  have S : CallFix p m c cX9_ends 4 s _ TB RX9 := ⟨hx, hb, hml, hown, hT⟩
  have hP : va_P D vwCl [(q 0, .inr (9, [.ref (q 1), .ref (q 2), .ref (q 3), .ref (q 4), .ref (q 5), .ref (q 6), .ref (q 7), .ref (q 8), .ref (q 9), .ref (q 10), .ref (q 11)])), (q 3, .inr (8, [.ref (q 12), .ref (q 13), .int 0, .ref (q 14), .ref (q 15), .ref (q 16)])), (q 12, .inr (1, [.int 0, .int 0, .int 0, .int 0, .int 0, .int 0, .int 0, .ref (q 17), .ref (q 18), .ref (q 19), .ref (q 20), .ref (q 21), .ref (q 22), .ref (q 23)])), (q 6, .inr (4, [.ref (q 24), .ref (q 25), .ref (q 26)])), (q 24, .inl (k 0, 4, .inl wf)), (q 5, .inl (k 3, 3, .inl (fun _ => 0))), (q 1, .inr (6, [.ref (q 27), .int 0])), (q 2, .inr (2, [.ref (q 1), .ref (q 28), .int 0, .int (-1), .int 0, .int 0, .int 0, .int 0]))] s.heap := hF.1
  have hK := hF.2.1
  have hl := lv_entry ([.ref (q 0), .int p0, .int p1]) (n := 4) (Nat.le_of_ble_eq_true rfl)
  rw [lg_entry_eq]
  generalize (lg_sl ([.ref (q 0), .int p0, .int p1]) ++ List.replicate (4 - (lg_sl ([.ref (q 0), .int p0, .int p1])).length) Slot.unset).toArray = ls at hl ⊢
  have hl : lv_has ls 4 [(0, .ref (q 0)), (1, .int p0), (2, .int p1)] := hl
  refine lv_aload_n hx hb dX9_ends_0 rfl (lv_at hl 0 rfl) ?_
  refine lv_iload_n hx hb dX9_ends_1 rfl (lv_at hl 1 rfl) ?_
  refine lv_iload_n hx hb dX9_ends_2 rfl (lv_at hl 2 rfl) ?_
  refine ro_V (As := [.int p0, .int p1]) (rest := []) S (c_X9_follow l D k q wf p0 p1) lkX9_220 ok_X9_follow ⟨rfl, rfl, Nat.le_of_ble_eq_true rfl, Nat.le_of_ble_eq_true rfl⟩ (fw_V (ci := 9) (q0 := 0) hF rfl rfl) rfl hl.1 rfl (Nat.le_of_ble_eq_true rfl) ⟨Nat.zero_le _, Nat.zero_le _⟩ dX9_ends_3 (fun r_1 er_1 => ?_)
  subst er_1
  refine lv_istore_n (lv' := [(3, .int (-2)), (0, .ref (q 0)), (1, .int p0), (2, .int p1)]) hx hb dX9_ends_6 rfl hl (by decide) rfl (fun ls hl => ?_)
  refine lv_iload_n hx hb dX9_ends_7 rfl (lv_at hl 0 rfl) ?_
  refine lv_if_eq (tgt := 15) hx hb dX9_ends_8 (by decide) (fun c_2 => ?_) (fun c_2 => ?_)
  · first | exact absurd c_2 (by decide) | exact absurd (by decide) c_2
  refine lv_iload_n hx hb dX9_ends_11 rfl (lv_at hl 0 rfl) ?_
  refine lv_goto (tgt := 22) hx hb dX9_ends_12 (by decide) ?_
  exact W.iret (v := (-2)) hx hb hr (fun t ht hW => ⟨(-2), rfl, rfl, ht⟩) (fun _ h9 => by cases h9) dX9_ends_22
set_option maxHeartbeats 4000000 in
set_option maxRecDepth 100000 in
theorem c_X9_ran (l : Launch) (D : va_G) (k : Nat → ClassId) (q : Nat → Nat) (wf : Nat → Int32) (p0 : Int32) (p1 : Int32)  : Met l yX9_ran (.code yX9_ran cX9_ran 4 (some .int) :: TB) (rmk 3) (va_Pc [.ref (q 0), .int p0, .int p1] (fun U => FWH D k q wf U U.heap)) (vp_Si (fun r => r = (-2))) 0 0 (fun _ => False) := by
  refine Met.ofW (cc := cX9_ran) (maxL := 4) (ret := (some .int)) (by decide) rfl ?_
  intro p e s m args below meth c s₁ B hml hv
  obtain ⟨rfl, hF⟩ := hv
  have hx := B.exec
  have hb := B.bytes
  have hr := B.returns
  have hT : ∀ w ∈ TB, w.before ([.ref (q 0), .int p0, .int p1] : List Value).toArray s = true := fun w h => atoms_spec (ws := .code yX9_ran cX9_ran 4 (some .int) :: TB) B.pre w (List.mem_cons_of_mem _ h)
  have hown : s.vm.findClass RX9 = some m.cls := findClass_of_methodNamed B.named
  have S : CallFix p m c cX9_ran 4 s _ TB RX9 := ⟨hx, hb, hml, hown, hT⟩
  have hP : va_P D vwCl [(q 0, .inr (9, [.ref (q 1), .ref (q 2), .ref (q 3), .ref (q 4), .ref (q 5), .ref (q 6), .ref (q 7), .ref (q 8), .ref (q 9), .ref (q 10), .ref (q 11)])), (q 3, .inr (8, [.ref (q 12), .ref (q 13), .int 0, .ref (q 14), .ref (q 15), .ref (q 16)])), (q 12, .inr (1, [.int 0, .int 0, .int 0, .int 0, .int 0, .int 0, .int 0, .ref (q 17), .ref (q 18), .ref (q 19), .ref (q 20), .ref (q 21), .ref (q 22), .ref (q 23)])), (q 6, .inr (4, [.ref (q 24), .ref (q 25), .ref (q 26)])), (q 24, .inl (k 0, 4, .inl wf)), (q 5, .inl (k 3, 3, .inl (fun _ => 0))), (q 1, .inr (6, [.ref (q 27), .int 0])), (q 2, .inr (2, [.ref (q 1), .ref (q 28), .int 0, .int (-1), .int 0, .int 0, .int 0, .int 0]))] s.heap := hF.1
  have hK := hF.2.1
  have hl := lv_entry ([.ref (q 0), .int p0, .int p1]) (n := 4) (Nat.le_of_ble_eq_true rfl)
  rw [lg_entry_eq]
  generalize (lg_sl ([.ref (q 0), .int p0, .int p1]) ++ List.replicate (4 - (lg_sl ([.ref (q 0), .int p0, .int p1])).length) Slot.unset).toArray = ls at hl ⊢
  have hl : lv_has ls 4 [(0, .ref (q 0)), (1, .int p0), (2, .int p1)] := hl
  refine lv_aload_n hx hb dX9_ran_0 rfl (lv_at hl 0 rfl) ?_
  refine lv_iload_n hx hb dX9_ran_1 rfl (lv_at hl 1 rfl) ?_
  refine lv_iload_n hx hb dX9_ran_2 rfl (lv_at hl 2 rfl) ?_
  refine ro_V (As := [.int p0, .int p1]) (rest := []) S (c_X9_follow l D k q wf p0 p1) lkX9_220 ok_X9_follow ⟨rfl, rfl, Nat.le_of_ble_eq_true rfl, Nat.le_of_ble_eq_true rfl⟩ (fw_V (ci := 9) (q0 := 0) hF rfl rfl) rfl hl.1 rfl (Nat.le_of_ble_eq_true rfl) ⟨Nat.zero_le _, Nat.zero_le _⟩ dX9_ran_3 (fun r_1 er_1 => ?_)
  subst er_1
  refine lv_istore_n (lv' := [(3, .int (-2)), (0, .ref (q 0)), (1, .int p0), (2, .int p1)]) hx hb dX9_ran_6 rfl hl (by decide) rfl (fun ls hl => ?_)
  refine lv_iload_n hx hb dX9_ran_7 rfl (lv_at hl 0 rfl) ?_
  refine lv_if_eq (tgt := 15) hx hb dX9_ran_8 (by decide) (fun c_2 => ?_) (fun c_2 => ?_)
  · first | exact absurd c_2 (by decide) | exact absurd (by decide) c_2
  refine lv_iload_n hx hb dX9_ran_11 rfl (lv_at hl 0 rfl) ?_
  refine lv_goto (tgt := 22) hx hb dX9_ran_12 (by decide) ?_
  exact W.iret (v := (-2)) hx hb hr (fun t ht hW => ⟨(-2), rfl, rfl, ht⟩) (fun _ h9 => by cases h9) dX9_ran_22
set_option maxHeartbeats 4000000 in
set_option maxRecDepth 100000 in
theorem c_X9_astray (l : Launch) (D : va_G) (k : Nat → ClassId) (q : Nat → Nat) (wf : Nat → Int32) (p0 : Int32) (p1 : Int32)  : Met l yX9_astray (.code yX9_astray cX9_astray 4 (some .int) :: TB) (rmk 3) (va_Pc [.ref (q 0), .int p0, .int p1] (fun U => FWH D k q wf U U.heap)) (vp_Si (fun r => r = (-2))) 0 0 (fun _ => False) := by
  refine Met.ofW (cc := cX9_astray) (maxL := 4) (ret := (some .int)) (by decide) rfl ?_
  intro p e s m args below meth c s₁ B hml hv
  obtain ⟨rfl, hF⟩ := hv
  have hx := B.exec
  have hb := B.bytes
  have hr := B.returns
  have hT : ∀ w ∈ TB, w.before ([.ref (q 0), .int p0, .int p1] : List Value).toArray s = true := fun w h => atoms_spec (ws := .code yX9_astray cX9_astray 4 (some .int) :: TB) B.pre w (List.mem_cons_of_mem _ h)
  have hown : s.vm.findClass RX9 = some m.cls := findClass_of_methodNamed B.named
  have S : CallFix p m c cX9_astray 4 s _ TB RX9 := ⟨hx, hb, hml, hown, hT⟩
  have hP : va_P D vwCl [(q 0, .inr (9, [.ref (q 1), .ref (q 2), .ref (q 3), .ref (q 4), .ref (q 5), .ref (q 6), .ref (q 7), .ref (q 8), .ref (q 9), .ref (q 10), .ref (q 11)])), (q 3, .inr (8, [.ref (q 12), .ref (q 13), .int 0, .ref (q 14), .ref (q 15), .ref (q 16)])), (q 12, .inr (1, [.int 0, .int 0, .int 0, .int 0, .int 0, .int 0, .int 0, .ref (q 17), .ref (q 18), .ref (q 19), .ref (q 20), .ref (q 21), .ref (q 22), .ref (q 23)])), (q 6, .inr (4, [.ref (q 24), .ref (q 25), .ref (q 26)])), (q 24, .inl (k 0, 4, .inl wf)), (q 5, .inl (k 3, 3, .inl (fun _ => 0))), (q 1, .inr (6, [.ref (q 27), .int 0])), (q 2, .inr (2, [.ref (q 1), .ref (q 28), .int 0, .int (-1), .int 0, .int 0, .int 0, .int 0]))] s.heap := hF.1
  have hK := hF.2.1
  have hl := lv_entry ([.ref (q 0), .int p0, .int p1]) (n := 4) (Nat.le_of_ble_eq_true rfl)
  rw [lg_entry_eq]
  generalize (lg_sl ([.ref (q 0), .int p0, .int p1]) ++ List.replicate (4 - (lg_sl ([.ref (q 0), .int p0, .int p1])).length) Slot.unset).toArray = ls at hl ⊢
  have hl : lv_has ls 4 [(0, .ref (q 0)), (1, .int p0), (2, .int p1)] := hl
  refine lv_aload_n hx hb dX9_astray_0 rfl (lv_at hl 0 rfl) ?_
  refine lv_iload_n hx hb dX9_astray_1 rfl (lv_at hl 1 rfl) ?_
  refine lv_iload_n hx hb dX9_astray_2 rfl (lv_at hl 2 rfl) ?_
  refine ro_V (As := [.int p0, .int p1]) (rest := []) S (c_X9_follow l D k q wf p0 p1) lkX9_220 ok_X9_follow ⟨rfl, rfl, Nat.le_of_ble_eq_true rfl, Nat.le_of_ble_eq_true rfl⟩ (fw_V (ci := 9) (q0 := 0) hF rfl rfl) rfl hl.1 rfl (Nat.le_of_ble_eq_true rfl) ⟨Nat.zero_le _, Nat.zero_le _⟩ dX9_astray_3 (fun r_1 er_1 => ?_)
  subst er_1
  refine lv_istore_n (lv' := [(3, .int (-2)), (0, .ref (q 0)), (1, .int p0), (2, .int p1)]) hx hb dX9_astray_6 rfl hl (by decide) rfl (fun ls hl => ?_)
  refine lv_iload_n hx hb dX9_astray_7 rfl (lv_at hl 0 rfl) ?_
  refine lv_if_eq (tgt := 15) hx hb dX9_astray_8 (by decide) (fun c_2 => ?_) (fun c_2 => ?_)
  · first | exact absurd c_2 (by decide) | exact absurd (by decide) c_2
  refine lv_iload_n hx hb dX9_astray_11 rfl (lv_at hl 0 rfl) ?_
  refine lv_goto (tgt := 22) hx hb dX9_astray_12 (by decide) ?_
  exact W.iret (v := (-2)) hx hb hr (fun t ht hW => ⟨(-2), rfl, rfl, ht⟩) (fun _ h9 => by cases h9) dX9_astray_22
set_option maxHeartbeats 4000000 in
set_option maxRecDepth 100000 in
theorem c_X9_worn (l : Launch) (D : va_G) (k : Nat → ClassId) (q : Nat → Nat) (wf : Nat → Int32) (p0 : Int32) (p1 : Int32)  : Met l yX9_worn (.code yX9_worn cX9_worn 4 (some .int) :: TB) (rmk 3) (va_Pc [.ref (q 0), .int p0, .int p1] (fun U => FWH D k q wf U U.heap)) (vp_Si (fun r => r = (-2))) 0 0 (fun _ => False) := by
  refine Met.ofW (cc := cX9_worn) (maxL := 4) (ret := (some .int)) (by decide) rfl ?_
  intro p e s m args below meth c s₁ B hml hv
  obtain ⟨rfl, hF⟩ := hv
  have hx := B.exec
  have hb := B.bytes
  have hr := B.returns
  have hT : ∀ w ∈ TB, w.before ([.ref (q 0), .int p0, .int p1] : List Value).toArray s = true := fun w h => atoms_spec (ws := .code yX9_worn cX9_worn 4 (some .int) :: TB) B.pre w (List.mem_cons_of_mem _ h)
  have hown : s.vm.findClass RX9 = some m.cls := findClass_of_methodNamed B.named
  have S : CallFix p m c cX9_worn 4 s _ TB RX9 := ⟨hx, hb, hml, hown, hT⟩
  have hP : va_P D vwCl [(q 0, .inr (9, [.ref (q 1), .ref (q 2), .ref (q 3), .ref (q 4), .ref (q 5), .ref (q 6), .ref (q 7), .ref (q 8), .ref (q 9), .ref (q 10), .ref (q 11)])), (q 3, .inr (8, [.ref (q 12), .ref (q 13), .int 0, .ref (q 14), .ref (q 15), .ref (q 16)])), (q 12, .inr (1, [.int 0, .int 0, .int 0, .int 0, .int 0, .int 0, .int 0, .ref (q 17), .ref (q 18), .ref (q 19), .ref (q 20), .ref (q 21), .ref (q 22), .ref (q 23)])), (q 6, .inr (4, [.ref (q 24), .ref (q 25), .ref (q 26)])), (q 24, .inl (k 0, 4, .inl wf)), (q 5, .inl (k 3, 3, .inl (fun _ => 0))), (q 1, .inr (6, [.ref (q 27), .int 0])), (q 2, .inr (2, [.ref (q 1), .ref (q 28), .int 0, .int (-1), .int 0, .int 0, .int 0, .int 0]))] s.heap := hF.1
  have hK := hF.2.1
  have hl := lv_entry ([.ref (q 0), .int p0, .int p1]) (n := 4) (Nat.le_of_ble_eq_true rfl)
  rw [lg_entry_eq]
  generalize (lg_sl ([.ref (q 0), .int p0, .int p1]) ++ List.replicate (4 - (lg_sl ([.ref (q 0), .int p0, .int p1])).length) Slot.unset).toArray = ls at hl ⊢
  have hl : lv_has ls 4 [(0, .ref (q 0)), (1, .int p0), (2, .int p1)] := hl
  refine lv_aload_n hx hb dX9_worn_0 rfl (lv_at hl 0 rfl) ?_
  refine lv_iload_n hx hb dX9_worn_1 rfl (lv_at hl 1 rfl) ?_
  refine lv_iload_n hx hb dX9_worn_2 rfl (lv_at hl 2 rfl) ?_
  refine ro_V (As := [.int p0, .int p1]) (rest := []) S (c_X9_follow l D k q wf p0 p1) lkX9_220 ok_X9_follow ⟨rfl, rfl, Nat.le_of_ble_eq_true rfl, Nat.le_of_ble_eq_true rfl⟩ (fw_V (ci := 9) (q0 := 0) hF rfl rfl) rfl hl.1 rfl (Nat.le_of_ble_eq_true rfl) ⟨Nat.zero_le _, Nat.zero_le _⟩ dX9_worn_3 (fun r_1 er_1 => ?_)
  subst er_1
  refine lv_istore_n (lv' := [(3, .int (-2)), (0, .ref (q 0)), (1, .int p0), (2, .int p1)]) hx hb dX9_worn_6 rfl hl (by decide) rfl (fun ls hl => ?_)
  refine lv_iload_n hx hb dX9_worn_7 rfl (lv_at hl 0 rfl) ?_
  refine lv_if_eq (tgt := 15) hx hb dX9_worn_8 (by decide) (fun c_2 => ?_) (fun c_2 => ?_)
  · first | exact absurd c_2 (by decide) | exact absurd (by decide) c_2
  refine lv_iload_n hx hb dX9_worn_11 rfl (lv_at hl 0 rfl) ?_
  refine lv_goto (tgt := 22) hx hb dX9_worn_12 (by decide) ?_
  exact W.iret (v := (-2)) hx hb hr (fun t ht hW => ⟨(-2), rfl, rfl, ht⟩) (fun _ h9 => by cases h9) dX9_worn_22
set_option maxHeartbeats 4000000 in
set_option maxRecDepth 100000 in
theorem c_X9_fits (l : Launch) (D : va_G) (k : Nat → ClassId) (q : Nat → Nat) (wf : Nat → Int32) (p0 : Int32)  : Met l yX9_fits (.code yX9_fits cX9_fits 2 (some .int) :: TB) (rmk 3) (va_Pc [.ref (q 0), .int p0] (fun U => FWH D k q wf U U.heap)) (vp_Si (fun r => r = (-2))) 0 0 (fun _ => False) := by
  refine Met.ofW (cc := cX9_fits) (maxL := 2) (ret := (some .int)) (by decide) rfl ?_
  intro p e s m args below meth c s₁ B hml hv
  obtain ⟨rfl, hF⟩ := hv
  have hx := B.exec
  have hb := B.bytes
  have hr := B.returns
  have hT : ∀ w ∈ TB, w.before ([.ref (q 0), .int p0] : List Value).toArray s = true := fun w h => atoms_spec (ws := .code yX9_fits cX9_fits 2 (some .int) :: TB) B.pre w (List.mem_cons_of_mem _ h)
  have hown : s.vm.findClass RX9 = some m.cls := findClass_of_methodNamed B.named
  have S : CallFix p m c cX9_fits 2 s _ TB RX9 := ⟨hx, hb, hml, hown, hT⟩
  have hP : va_P D vwCl [(q 0, .inr (9, [.ref (q 1), .ref (q 2), .ref (q 3), .ref (q 4), .ref (q 5), .ref (q 6), .ref (q 7), .ref (q 8), .ref (q 9), .ref (q 10), .ref (q 11)])), (q 3, .inr (8, [.ref (q 12), .ref (q 13), .int 0, .ref (q 14), .ref (q 15), .ref (q 16)])), (q 12, .inr (1, [.int 0, .int 0, .int 0, .int 0, .int 0, .int 0, .int 0, .ref (q 17), .ref (q 18), .ref (q 19), .ref (q 20), .ref (q 21), .ref (q 22), .ref (q 23)])), (q 6, .inr (4, [.ref (q 24), .ref (q 25), .ref (q 26)])), (q 24, .inl (k 0, 4, .inl wf)), (q 5, .inl (k 3, 3, .inl (fun _ => 0))), (q 1, .inr (6, [.ref (q 27), .int 0])), (q 2, .inr (2, [.ref (q 1), .ref (q 28), .int 0, .int (-1), .int 0, .int 0, .int 0, .int 0]))] s.heap := hF.1
  have hK := hF.2.1
  have hl := lv_entry ([.ref (q 0), .int p0]) (n := 2) (Nat.le_of_ble_eq_true rfl)
  rw [lg_entry_eq]
  generalize (lg_sl ([.ref (q 0), .int p0]) ++ List.replicate (2 - (lg_sl ([.ref (q 0), .int p0])).length) Slot.unset).toArray = ls at hl ⊢
  have hl : lv_has ls 2 [(0, .ref (q 0)), (1, .int p0)] := hl
  refine lv_aload_n hx hb dX9_fits_0 rfl (lv_at hl 0 rfl) ?_
  refine lv_iload_n hx hb dX9_fits_1 rfl (lv_at hl 1 rfl) ?_
  refine ro_V (As := [.int p0]) (rest := []) S (c_X9_fitting l D k q wf p0) lkX9_332 ok_X9_fitting ⟨rfl, rfl, Nat.le_of_ble_eq_true rfl, Nat.le_of_ble_eq_true rfl⟩ (fw_V (ci := 9) (q0 := 0) hF rfl rfl) rfl hl.1 rfl (Nat.le_of_ble_eq_true rfl) ⟨Nat.zero_le _, Nat.zero_le _⟩ dX9_fits_2 (fun r_1 er_1 => ?_)
  subst er_1
  exact W.iret (v := (-2)) hx hb hr (fun t ht hW => ⟨(-2), rfl, rfl, ht⟩) (fun _ h9 => by cases h9) dX9_fits_5
set_option maxHeartbeats 4000000 in
set_option maxRecDepth 100000 in
theorem c_X9_ask (l : Launch) (D : va_G) (k : Nat → ClassId) (q : Nat → Nat) (wf : Nat → Int32) (p0 : Int32)  : Met l yX9_ask (.code yX9_ask cX9_ask 3 (some .int) :: TB) (rmk 3) (va_Pc [.ref (q 0), .int p0] (fun U => FWH D k q wf U U.heap)) (vp_Si (fun r => r = (-2))) 0 0 (fun _ => False) := by
  refine Met.ofW (cc := cX9_ask) (maxL := 3) (ret := (some .int)) (by decide) rfl ?_
  intro p e s m args below meth c s₁ B hml hv
  obtain ⟨rfl, hF⟩ := hv
  have hx := B.exec
  have hb := B.bytes
  have hr := B.returns
  have hT : ∀ w ∈ TB, w.before ([.ref (q 0), .int p0] : List Value).toArray s = true := fun w h => atoms_spec (ws := .code yX9_ask cX9_ask 3 (some .int) :: TB) B.pre w (List.mem_cons_of_mem _ h)
  have hown : s.vm.findClass RX9 = some m.cls := findClass_of_methodNamed B.named
  have S : CallFix p m c cX9_ask 3 s _ TB RX9 := ⟨hx, hb, hml, hown, hT⟩
  have hP : va_P D vwCl [(q 0, .inr (9, [.ref (q 1), .ref (q 2), .ref (q 3), .ref (q 4), .ref (q 5), .ref (q 6), .ref (q 7), .ref (q 8), .ref (q 9), .ref (q 10), .ref (q 11)])), (q 3, .inr (8, [.ref (q 12), .ref (q 13), .int 0, .ref (q 14), .ref (q 15), .ref (q 16)])), (q 12, .inr (1, [.int 0, .int 0, .int 0, .int 0, .int 0, .int 0, .int 0, .ref (q 17), .ref (q 18), .ref (q 19), .ref (q 20), .ref (q 21), .ref (q 22), .ref (q 23)])), (q 6, .inr (4, [.ref (q 24), .ref (q 25), .ref (q 26)])), (q 24, .inl (k 0, 4, .inl wf)), (q 5, .inl (k 3, 3, .inl (fun _ => 0))), (q 1, .inr (6, [.ref (q 27), .int 0])), (q 2, .inr (2, [.ref (q 1), .ref (q 28), .int 0, .int (-1), .int 0, .int 0, .int 0, .int 0]))] s.heap := hF.1
  have hK := hF.2.1
  have hl := lv_entry ([.ref (q 0), .int p0]) (n := 3) (Nat.le_of_ble_eq_true rfl)
  rw [lg_entry_eq]
  generalize (lg_sl ([.ref (q 0), .int p0]) ++ List.replicate (3 - (lg_sl ([.ref (q 0), .int p0])).length) Slot.unset).toArray = ls at hl ⊢
  have hl : lv_has ls 3 [(0, .ref (q 0)), (1, .int p0)] := hl
  refine lv_aload_n hx hb dX9_ask_0 rfl (lv_at hl 0 rfl) ?_
  refine lv_iload_n hx hb dX9_ask_1 rfl (lv_at hl 1 rfl) ?_
  refine ro_V (As := [.int p0]) (rest := []) S (c_X9_fitting l D k q wf p0) lkX9_332 ok_X9_fitting ⟨rfl, rfl, Nat.le_of_ble_eq_true rfl, Nat.le_of_ble_eq_true rfl⟩ (fw_V (ci := 9) (q0 := 0) hF rfl rfl) rfl hl.1 rfl (Nat.le_of_ble_eq_true rfl) ⟨Nat.zero_le _, Nat.zero_le _⟩ dX9_ask_2 (fun r_1 er_1 => ?_)
  subst er_1
  refine lv_istore_n (lv' := [(2, .int (-2)), (0, .ref (q 0)), (1, .int p0)]) hx hb dX9_ask_5 rfl hl (by decide) rfl (fun ls hl => ?_)
  refine lv_iload_n hx hb dX9_ask_6 rfl (lv_at hl 0 rfl) ?_
  refine lv_if_ge (tgt := 14) hx hb dX9_ask_7 (by decide) (fun c_2 => ?_) (fun c_2 => ?_)
  · first | exact absurd c_2 (by decide) | exact absurd (by decide) c_2
  refine lv_iload_n hx hb dX9_ask_10 rfl (lv_at hl 0 rfl) ?_
  refine lv_goto (tgt := 19) hx hb dX9_ask_11 (by decide) ?_
  exact W.iret (v := (-2)) hx hb hr (fun t ht hW => ⟨(-2), rfl, rfl, ht⟩) (fun _ h9 => by cases h9) dX9_ask_19
set_option maxHeartbeats 4000000 in
set_option maxRecDepth 100000 in
theorem c_X9_leaves (l : Launch) (D : va_G) (k : Nat → ClassId) (q : Nat → Nat) (wf : Nat → Int32) (p0 : Int32)  : Met l yX9_leaves (.code yX9_leaves cX9_leaves 4 (some .int) :: TB) (rmk 3) (va_Pc [.ref (q 0), .int p0] (fun U => FWH D k q wf U U.heap)) (vp_Si (fun r => r = (-2))) 0 0 (fun _ => False) := by
  refine Met.ofW (cc := cX9_leaves) (maxL := 4) (ret := (some .int)) (by decide) rfl ?_
  intro p e s m args below meth c s₁ B hml hv
  obtain ⟨rfl, hF⟩ := hv
  have hx := B.exec
  have hb := B.bytes
  have hr := B.returns
  have hT : ∀ w ∈ TB, w.before ([.ref (q 0), .int p0] : List Value).toArray s = true := fun w h => atoms_spec (ws := .code yX9_leaves cX9_leaves 4 (some .int) :: TB) B.pre w (List.mem_cons_of_mem _ h)
  have hown : s.vm.findClass RX9 = some m.cls := findClass_of_methodNamed B.named
  have S : CallFix p m c cX9_leaves 4 s _ TB RX9 := ⟨hx, hb, hml, hown, hT⟩
  have hP : va_P D vwCl [(q 0, .inr (9, [.ref (q 1), .ref (q 2), .ref (q 3), .ref (q 4), .ref (q 5), .ref (q 6), .ref (q 7), .ref (q 8), .ref (q 9), .ref (q 10), .ref (q 11)])), (q 3, .inr (8, [.ref (q 12), .ref (q 13), .int 0, .ref (q 14), .ref (q 15), .ref (q 16)])), (q 12, .inr (1, [.int 0, .int 0, .int 0, .int 0, .int 0, .int 0, .int 0, .ref (q 17), .ref (q 18), .ref (q 19), .ref (q 20), .ref (q 21), .ref (q 22), .ref (q 23)])), (q 6, .inr (4, [.ref (q 24), .ref (q 25), .ref (q 26)])), (q 24, .inl (k 0, 4, .inl wf)), (q 5, .inl (k 3, 3, .inl (fun _ => 0))), (q 1, .inr (6, [.ref (q 27), .int 0])), (q 2, .inr (2, [.ref (q 1), .ref (q 28), .int 0, .int (-1), .int 0, .int 0, .int 0, .int 0]))] s.heap := hF.1
  have hK := hF.2.1
  have hl := lv_entry ([.ref (q 0), .int p0]) (n := 4) (Nat.le_of_ble_eq_true rfl)
  rw [lg_entry_eq]
  generalize (lg_sl ([.ref (q 0), .int p0]) ++ List.replicate (4 - (lg_sl ([.ref (q 0), .int p0])).length) Slot.unset).toArray = ls at hl ⊢
  have hl : lv_has ls 4 [(0, .ref (q 0)), (1, .int p0)] := hl
  refine lv_aload_n hx hb dX9_leaves_0 rfl (lv_at hl 0 rfl) ?_
  refine lv_iload_n hx hb dX9_leaves_1 rfl (lv_at hl 1 rfl) ?_
  refine ro_V (As := [.int p0]) (rest := []) S (c_X9_fitting l D k q wf p0) lkX9_332 ok_X9_fitting ⟨rfl, rfl, Nat.le_of_ble_eq_true rfl, Nat.le_of_ble_eq_true rfl⟩ (fw_V (ci := 9) (q0 := 0) hF rfl rfl) rfl hl.1 rfl (Nat.le_of_ble_eq_true rfl) ⟨Nat.zero_le _, Nat.zero_le _⟩ dX9_leaves_2 (fun r_1 er_1 => ?_)
  subst er_1
  refine lv_istore_n (lv' := [(2, .int (-2)), (0, .ref (q 0)), (1, .int p0)]) hx hb dX9_leaves_5 rfl hl (by decide) rfl (fun ls hl => ?_)
  refine lv_iload_n hx hb dX9_leaves_6 rfl (lv_at hl 0 rfl) ?_
  refine lv_if_ge (tgt := 12) hx hb dX9_leaves_7 (by decide) (fun c_2 => ?_) (fun c_2 => ?_)
  · first | exact absurd c_2 (by decide) | exact absurd (by decide) c_2
  refine lv_iload_n hx hb dX9_leaves_10 rfl (lv_at hl 0 rfl) ?_
  exact W.iret (v := (-2)) hx hb hr (fun t ht hW => ⟨(-2), rfl, rfl, ht⟩) (fun _ h9 => by cases h9) dX9_leaves_11
set_option maxHeartbeats 4000000 in
set_option maxRecDepth 100000 in
theorem c_X9_blind (l : Launch) (D : va_G) (k : Nat → ClassId) (q : Nat → Nat) (wf : Nat → Int32) (p0 : Int32) (p1 : Int32)  : Met l yX9_blind (.code yX9_blind cX9_blind 4 (some .int) :: TB) (rmk 3) (va_Pc [.ref (q 0), .int p0, .int p1] (fun U => FWH D k q wf U U.heap)) (vp_Si (fun r => r = (-2))) 0 0 (fun _ => False) := by
  refine Met.ofW (cc := cX9_blind) (maxL := 4) (ret := (some .int)) (by decide) rfl ?_
  intro p e s m args below meth c s₁ B hml hv
  obtain ⟨rfl, hF⟩ := hv
  have hx := B.exec
  have hb := B.bytes
  have hr := B.returns
  have hT : ∀ w ∈ TB, w.before ([.ref (q 0), .int p0, .int p1] : List Value).toArray s = true := fun w h => atoms_spec (ws := .code yX9_blind cX9_blind 4 (some .int) :: TB) B.pre w (List.mem_cons_of_mem _ h)
  have hown : s.vm.findClass RX9 = some m.cls := findClass_of_methodNamed B.named
  have S : CallFix p m c cX9_blind 4 s _ TB RX9 := ⟨hx, hb, hml, hown, hT⟩
  have hP : va_P D vwCl [(q 0, .inr (9, [.ref (q 1), .ref (q 2), .ref (q 3), .ref (q 4), .ref (q 5), .ref (q 6), .ref (q 7), .ref (q 8), .ref (q 9), .ref (q 10), .ref (q 11)])), (q 3, .inr (8, [.ref (q 12), .ref (q 13), .int 0, .ref (q 14), .ref (q 15), .ref (q 16)])), (q 12, .inr (1, [.int 0, .int 0, .int 0, .int 0, .int 0, .int 0, .int 0, .ref (q 17), .ref (q 18), .ref (q 19), .ref (q 20), .ref (q 21), .ref (q 22), .ref (q 23)])), (q 6, .inr (4, [.ref (q 24), .ref (q 25), .ref (q 26)])), (q 24, .inl (k 0, 4, .inl wf)), (q 5, .inl (k 3, 3, .inl (fun _ => 0))), (q 1, .inr (6, [.ref (q 27), .int 0])), (q 2, .inr (2, [.ref (q 1), .ref (q 28), .int 0, .int (-1), .int 0, .int 0, .int 0, .int 0]))] s.heap := hF.1
  have hK := hF.2.1
  have hl := lv_entry ([.ref (q 0), .int p0, .int p1]) (n := 4) (Nat.le_of_ble_eq_true rfl)
  rw [lg_entry_eq]
  generalize (lg_sl ([.ref (q 0), .int p0, .int p1]) ++ List.replicate (4 - (lg_sl ([.ref (q 0), .int p0, .int p1])).length) Slot.unset).toArray = ls at hl ⊢
  have hl : lv_has ls 4 [(0, .ref (q 0)), (1, .int p0), (2, .int p1)] := hl
  refine lv_aload_n hx hb dX9_blind_0 rfl (lv_at hl 0 rfl) ?_
  refine lv_iload_n hx hb dX9_blind_1 rfl (lv_at hl 1 rfl) ?_
  refine lv_iload_n hx hb dX9_blind_2 rfl (lv_at hl 2 rfl) ?_
  refine ro_V (As := [.int p0, .int p1]) (rest := []) S (c_X9_isByCart l D k q wf p0 p1) lkX9_191 ok_X9_isByCart ⟨rfl, rfl, Nat.le_of_ble_eq_true rfl, Nat.le_of_ble_eq_true rfl⟩ (fw_V (ci := 9) (q0 := 0) hF rfl rfl) rfl hl.1 rfl (Nat.le_of_ble_eq_true rfl) ⟨Nat.zero_le _, Nat.zero_le _⟩ dX9_blind_3 (fun r_1 er_1 => ?_)
  subst er_1
  refine lv_if_ne (tgt := 12) hx hb dX9_blind_6 (by decide) (fun c_2 => ?_) (fun c_2 => ?_)
  · first | exact absurd c_2 (by decide) | exact absurd (by decide) c_2
  refine lv_bipush (v := (-2)) hx hb dX9_blind_9 (by decide) ?_
  exact W.iret (v := (-2)) hx hb hr (fun t ht hW => ⟨(-2), rfl, rfl, ht⟩) (fun _ h9 => by cases h9) dX9_blind_11
set_option maxHeartbeats 4000000 in
set_option maxRecDepth 100000 in
theorem c_X9_blinds (l : Launch) (D : va_G) (k : Nat → ClassId) (q : Nat → Nat) (wf : Nat → Int32) (p0 : Int32) (p1 : Int32)  : Met l yX9_blinds (.code yX9_blinds cX9_blinds 3 (some .int) :: TB) (rmk 3) (va_Pc [.ref (q 0), .int p0, .int p1] (fun U => FWH D k q wf U U.heap)) (vp_Si (fun r => r = (-2))) 0 0 (fun _ => False) := by
  refine Met.ofW (cc := cX9_blinds) (maxL := 3) (ret := (some .int)) (by decide) rfl ?_
  intro p e s m args below meth c s₁ B hml hv
  obtain ⟨rfl, hF⟩ := hv
  have hx := B.exec
  have hb := B.bytes
  have hr := B.returns
  have hT : ∀ w ∈ TB, w.before ([.ref (q 0), .int p0, .int p1] : List Value).toArray s = true := fun w h => atoms_spec (ws := .code yX9_blinds cX9_blinds 3 (some .int) :: TB) B.pre w (List.mem_cons_of_mem _ h)
  have hown : s.vm.findClass RX9 = some m.cls := findClass_of_methodNamed B.named
  have S : CallFix p m c cX9_blinds 3 s _ TB RX9 := ⟨hx, hb, hml, hown, hT⟩
  have hP : va_P D vwCl [(q 0, .inr (9, [.ref (q 1), .ref (q 2), .ref (q 3), .ref (q 4), .ref (q 5), .ref (q 6), .ref (q 7), .ref (q 8), .ref (q 9), .ref (q 10), .ref (q 11)])), (q 3, .inr (8, [.ref (q 12), .ref (q 13), .int 0, .ref (q 14), .ref (q 15), .ref (q 16)])), (q 12, .inr (1, [.int 0, .int 0, .int 0, .int 0, .int 0, .int 0, .int 0, .ref (q 17), .ref (q 18), .ref (q 19), .ref (q 20), .ref (q 21), .ref (q 22), .ref (q 23)])), (q 6, .inr (4, [.ref (q 24), .ref (q 25), .ref (q 26)])), (q 24, .inl (k 0, 4, .inl wf)), (q 5, .inl (k 3, 3, .inl (fun _ => 0))), (q 1, .inr (6, [.ref (q 27), .int 0])), (q 2, .inr (2, [.ref (q 1), .ref (q 28), .int 0, .int (-1), .int 0, .int 0, .int 0, .int 0]))] s.heap := hF.1
  have hK := hF.2.1
  have hl := lv_entry ([.ref (q 0), .int p0, .int p1]) (n := 3) (Nat.le_of_ble_eq_true rfl)
  rw [lg_entry_eq]
  generalize (lg_sl ([.ref (q 0), .int p0, .int p1]) ++ List.replicate (3 - (lg_sl ([.ref (q 0), .int p0, .int p1])).length) Slot.unset).toArray = ls at hl ⊢
  have hl : lv_has ls 3 [(0, .ref (q 0)), (1, .int p0), (2, .int p1)] := hl
  refine lv_aload_n hx hb dX9_blinds_0 rfl (lv_at hl 0 rfl) ?_
  refine lv_iload_n hx hb dX9_blinds_1 rfl (lv_at hl 1 rfl) ?_
  refine lv_iload_n hx hb dX9_blinds_2 rfl (lv_at hl 2 rfl) ?_
  refine ro_V (As := [.int p0, .int p1]) (rest := []) S (c_X9_isByCart l D k q wf p0 p1) lkX9_191 ok_X9_isByCart ⟨rfl, rfl, Nat.le_of_ble_eq_true rfl, Nat.le_of_ble_eq_true rfl⟩ (fw_V (ci := 9) (q0 := 0) hF rfl rfl) rfl hl.1 rfl (Nat.le_of_ble_eq_true rfl) ⟨Nat.zero_le _, Nat.zero_le _⟩ dX9_blinds_3 (fun r_1 er_1 => ?_)
  subst er_1
  refine lv_if_eq (tgt := 18) hx hb dX9_blinds_6 (by decide) (fun c_2 => ?_) (fun c_2 => ?_)
  rotate_left
  · first | exact absurd c_2 (by decide) | exact absurd (by decide) c_2
  refine lv_bipush (v := (-2)) hx hb dX9_blinds_18 (by decide) ?_
  exact W.iret (v := (-2)) hx hb hr (fun t ht hW => ⟨(-2), rfl, rfl, ht⟩) (fun _ h9 => by cases h9) dX9_blinds_20
set_option maxHeartbeats 4000000 in
set_option maxRecDepth 100000 in
theorem c_X9_drawn (l : Launch) (D : va_G) (k : Nat → ClassId) (q : Nat → Nat) (wf : Nat → Int32) (p0 : Int32) (p1 : Int32) (p2 : Int32) (p3 : Int32)  : Met l yX9_drawn (.code yX9_drawn cX9_drawn 5 (some .int) :: TB) (rmk 3) (va_Pc [.ref (q 0), .int p0, .int p1, .int p2, .int p3] (fun U => FWH D k q wf U U.heap)) (vp_Si (fun r => r = (-2))) 0 0 (fun _ => False) := by
  refine Met.ofW (cc := cX9_drawn) (maxL := 5) (ret := (some .int)) (by decide) rfl ?_
  intro p e s m args below meth c s₁ B hml hv
  obtain ⟨rfl, hF⟩ := hv
  have hx := B.exec
  have hb := B.bytes
  have hr := B.returns
  have hT : ∀ w ∈ TB, w.before ([.ref (q 0), .int p0, .int p1, .int p2, .int p3] : List Value).toArray s = true := fun w h => atoms_spec (ws := .code yX9_drawn cX9_drawn 5 (some .int) :: TB) B.pre w (List.mem_cons_of_mem _ h)
  have hown : s.vm.findClass RX9 = some m.cls := findClass_of_methodNamed B.named
  have S : CallFix p m c cX9_drawn 5 s _ TB RX9 := ⟨hx, hb, hml, hown, hT⟩
  have hP : va_P D vwCl [(q 0, .inr (9, [.ref (q 1), .ref (q 2), .ref (q 3), .ref (q 4), .ref (q 5), .ref (q 6), .ref (q 7), .ref (q 8), .ref (q 9), .ref (q 10), .ref (q 11)])), (q 3, .inr (8, [.ref (q 12), .ref (q 13), .int 0, .ref (q 14), .ref (q 15), .ref (q 16)])), (q 12, .inr (1, [.int 0, .int 0, .int 0, .int 0, .int 0, .int 0, .int 0, .ref (q 17), .ref (q 18), .ref (q 19), .ref (q 20), .ref (q 21), .ref (q 22), .ref (q 23)])), (q 6, .inr (4, [.ref (q 24), .ref (q 25), .ref (q 26)])), (q 24, .inl (k 0, 4, .inl wf)), (q 5, .inl (k 3, 3, .inl (fun _ => 0))), (q 1, .inr (6, [.ref (q 27), .int 0])), (q 2, .inr (2, [.ref (q 1), .ref (q 28), .int 0, .int (-1), .int 0, .int 0, .int 0, .int 0]))] s.heap := hF.1
  have hK := hF.2.1
  have hl := lv_entry ([.ref (q 0), .int p0, .int p1, .int p2, .int p3]) (n := 5) (Nat.le_of_ble_eq_true rfl)
  rw [lg_entry_eq]
  generalize (lg_sl ([.ref (q 0), .int p0, .int p1, .int p2, .int p3]) ++ List.replicate (5 - (lg_sl ([.ref (q 0), .int p0, .int p1, .int p2, .int p3])).length) Slot.unset).toArray = ls at hl ⊢
  have hl : lv_has ls 5 [(0, .ref (q 0)), (1, .int p0), (2, .int p1), (3, .int p2), (4, .int p3)] := hl
  refine lv_aload_n hx hb dX9_drawn_0 rfl (lv_at hl 0 rfl) ?_
  refine lv_iload_n hx hb dX9_drawn_1 rfl (lv_at hl 1 rfl) ?_
  refine lv_iload_n hx hb dX9_drawn_2 rfl (lv_at hl 2 rfl) ?_
  refine lv_iload_n hx hb dX9_drawn_3 rfl (lv_at hl 3 rfl) ?_
  refine ro_V (As := [.int p0, .int p1, .int p2]) (rest := []) S (c_X9_canDraw l D k q wf p0 p1 p2) lkX9_376 ok_X9_canDraw ⟨rfl, rfl, Nat.le_of_ble_eq_true rfl, Nat.le_of_ble_eq_true rfl⟩ (fw_V (ci := 9) (q0 := 0) hF rfl rfl) rfl hl.1 rfl (Nat.le_of_ble_eq_true rfl) ⟨Nat.zero_le _, Nat.zero_le _⟩ dX9_drawn_4 (fun r_1 er_1 => ?_)
  subst er_1
  refine lv_if_ne (tgt := 13) hx hb dX9_drawn_7 (by decide) (fun c_2 => ?_) (fun c_2 => ?_)
  · first | exact absurd c_2 (by decide) | exact absurd (by decide) c_2
  refine lv_bipush (v := (-2)) hx hb dX9_drawn_10 (by decide) ?_
  exact W.iret (v := (-2)) hx hb hr (fun t ht hW => ⟨(-2), rfl, rfl, ht⟩) (fun _ h9 => by cases h9) dX9_drawn_12
set_option maxHeartbeats 4000000 in
set_option maxRecDepth 100000 in
theorem c_X9_luck (l : Launch) (D : va_G) (k : Nat → ClassId) (q : Nat → Nat) (wf : Nat → Int32) (p0 : Int32) (p1 : Int32) (p2 : Int32) (p3 : Int32) (p4 : Int32)  : Met l yX9_luck (.code yX9_luck cX9_luck 8 (some .int) :: TB) (rmk 3) (va_Pc [.ref (q 0), .int p0, .int p1, .int p2, .int p3, .int p4] (fun U => FWH D k q wf U U.heap)) (vp_Si (fun r => r = (-2))) 0 0 (fun _ => False) := by
  refine Met.ofW (cc := cX9_luck) (maxL := 8) (ret := (some .int)) (by decide) rfl ?_
  intro p e s m args below meth c s₁ B hml hv
  obtain ⟨rfl, hF⟩ := hv
  have hx := B.exec
  have hb := B.bytes
  have hr := B.returns
  have hT : ∀ w ∈ TB, w.before ([.ref (q 0), .int p0, .int p1, .int p2, .int p3, .int p4] : List Value).toArray s = true := fun w h => atoms_spec (ws := .code yX9_luck cX9_luck 8 (some .int) :: TB) B.pre w (List.mem_cons_of_mem _ h)
  have hown : s.vm.findClass RX9 = some m.cls := findClass_of_methodNamed B.named
  have S : CallFix p m c cX9_luck 8 s _ TB RX9 := ⟨hx, hb, hml, hown, hT⟩
  have hP : va_P D vwCl [(q 0, .inr (9, [.ref (q 1), .ref (q 2), .ref (q 3), .ref (q 4), .ref (q 5), .ref (q 6), .ref (q 7), .ref (q 8), .ref (q 9), .ref (q 10), .ref (q 11)])), (q 3, .inr (8, [.ref (q 12), .ref (q 13), .int 0, .ref (q 14), .ref (q 15), .ref (q 16)])), (q 12, .inr (1, [.int 0, .int 0, .int 0, .int 0, .int 0, .int 0, .int 0, .ref (q 17), .ref (q 18), .ref (q 19), .ref (q 20), .ref (q 21), .ref (q 22), .ref (q 23)])), (q 6, .inr (4, [.ref (q 24), .ref (q 25), .ref (q 26)])), (q 24, .inl (k 0, 4, .inl wf)), (q 5, .inl (k 3, 3, .inl (fun _ => 0))), (q 1, .inr (6, [.ref (q 27), .int 0])), (q 2, .inr (2, [.ref (q 1), .ref (q 28), .int 0, .int (-1), .int 0, .int 0, .int 0, .int 0]))] s.heap := hF.1
  have hK := hF.2.1
  have hl := lv_entry ([.ref (q 0), .int p0, .int p1, .int p2, .int p3, .int p4]) (n := 8) (Nat.le_of_ble_eq_true rfl)
  rw [lg_entry_eq]
  generalize (lg_sl ([.ref (q 0), .int p0, .int p1, .int p2, .int p3, .int p4]) ++ List.replicate (8 - (lg_sl ([.ref (q 0), .int p0, .int p1, .int p2, .int p3, .int p4])).length) Slot.unset).toArray = ls at hl ⊢
  have hl : lv_has ls 8 [(0, .ref (q 0)), (1, .int p0), (2, .int p1), (3, .int p2), (4, .int p3), (5, .int p4)] := hl
  refine lv_aload_n hx hb dX9_luck_0 rfl (lv_at hl 0 rfl) ?_
  refine lv_iload_n hx hb dX9_luck_1 rfl (lv_at hl 1 rfl) ?_
  refine lv_iload_n hx hb dX9_luck_2 rfl (lv_at hl 3 rfl) ?_
  refine lv_iload hx hb dX9_luck_3 (lv_at hl 4 rfl) ?_
  refine ro_V (As := [.int p0, .int p2, .int p3]) (rest := []) S (c_X9_canDraw l D k q wf p0 p2 p3) lkX9_376 ok_X9_canDraw ⟨rfl, rfl, Nat.le_of_ble_eq_true rfl, Nat.le_of_ble_eq_true rfl⟩ (fw_V (ci := 9) (q0 := 0) hF rfl rfl) rfl hl.1 rfl (Nat.le_of_ble_eq_true rfl) ⟨Nat.zero_le _, Nat.zero_le _⟩ dX9_luck_5 (fun r_1 er_1 => ?_)
  subst er_1
  refine lv_if_eq (tgt := 37) hx hb dX9_luck_8 (by decide) (fun c_2 => ?_) (fun c_2 => ?_)
  rotate_left
  · first | exact absurd c_2 (by decide) | exact absurd (by decide) c_2
  refine lv_bipush (v := (-2)) hx hb dX9_luck_37 (by decide) ?_
  exact W.iret (v := (-2)) hx hb hr (fun t ht hW => ⟨(-2), rfl, rfl, ht⟩) (fun _ h9 => by cases h9) dX9_luck_39
set_option maxHeartbeats 4000000 in
set_option maxRecDepth 100000 in
theorem c_X9_smiths (l : Launch) (D : va_G) (k : Nat → ClassId) (q : Nat → Nat) (wf : Nat → Int32)   : Met l yX9_smiths (.code yX9_smiths cX9_smiths 1 (some .int) :: TB) (rmk 2) (va_Pc [.ref (q 0)] (fun U => FWH D k q wf U U.heap)) (vp_Si (fun r => r = (-2000000))) 0 0 (fun _ => False) := by
  refine Met.ofW (cc := cX9_smiths) (maxL := 1) (ret := (some .int)) (by decide) rfl ?_
  intro p e s m args below meth c s₁ B hml hv
  obtain ⟨rfl, hF⟩ := hv
  have hx := B.exec
  have hb := B.bytes
  have hr := B.returns
  have hT : ∀ w ∈ TB, w.before ([.ref (q 0)] : List Value).toArray s = true := fun w h => atoms_spec (ws := .code yX9_smiths cX9_smiths 1 (some .int) :: TB) B.pre w (List.mem_cons_of_mem _ h)
  have hown : s.vm.findClass RX9 = some m.cls := findClass_of_methodNamed B.named
  have S : CallFix p m c cX9_smiths 1 s _ TB RX9 := ⟨hx, hb, hml, hown, hT⟩
  have hP : va_P D vwCl [(q 0, .inr (9, [.ref (q 1), .ref (q 2), .ref (q 3), .ref (q 4), .ref (q 5), .ref (q 6), .ref (q 7), .ref (q 8), .ref (q 9), .ref (q 10), .ref (q 11)])), (q 3, .inr (8, [.ref (q 12), .ref (q 13), .int 0, .ref (q 14), .ref (q 15), .ref (q 16)])), (q 12, .inr (1, [.int 0, .int 0, .int 0, .int 0, .int 0, .int 0, .int 0, .ref (q 17), .ref (q 18), .ref (q 19), .ref (q 20), .ref (q 21), .ref (q 22), .ref (q 23)])), (q 6, .inr (4, [.ref (q 24), .ref (q 25), .ref (q 26)])), (q 24, .inl (k 0, 4, .inl wf)), (q 5, .inl (k 3, 3, .inl (fun _ => 0))), (q 1, .inr (6, [.ref (q 27), .int 0])), (q 2, .inr (2, [.ref (q 1), .ref (q 28), .int 0, .int (-1), .int 0, .int 0, .int 0, .int 0]))] s.heap := hF.1
  have hK := hF.2.1
  have hl := lv_entry ([.ref (q 0)]) (n := 1) (Nat.le_of_ble_eq_true rfl)
  rw [lg_entry_eq]
  generalize (lg_sl ([.ref (q 0)]) ++ List.replicate (1 - (lg_sl ([.ref (q 0)])).length) Slot.unset).toArray = ls at hl ⊢
  have hl : lv_has ls 1 [(0, .ref (q 0))] := hl
  refine lv_aload_n hx hb dX9_smiths_0 rfl (lv_at hl 0 rfl) ?_
  refine va_get (D := D) (ci := 9) (v := .ref (q 3)) (C := RX9) (T := TX9) (N := 11) hx hb hT in_X9 hown hK hP 0 rfl rfl 2 (by decide) (hT _ t453) (fun _ h9 => h9) rfl dX9_smiths_1 ?_
  refine va_get (D := D) (ci := 8) (v := .ref (q 12)) (C := RX8) (T := TX8) (N := 6) hx hb hT in_X8 hown hK hP 1 rfl rfl 0 (by decide) (hT _ t312) (fun _ h9 => h9) rfl dX9_smiths_4 ?_
  refine ro_V (As := []) (rest := []) S (c_X1_isTold l D k q wf ) lkX9_211 ok_X1_isTold ⟨rfl, rfl, Nat.le_of_ble_eq_true rfl, Nat.le_of_ble_eq_true rfl⟩ (fw_V (ci := 1) (q0 := 2) hF rfl rfl) rfl hl.1 rfl (Nat.le_of_ble_eq_true rfl) ⟨Nat.zero_le _, Nat.zero_le _⟩ dX9_smiths_7 (fun r_1 er_1 => ?_)
  subst er_1
  refine lv_if_ne (tgt := 17) hx hb dX9_smiths_10 (by decide) (fun c_2 => ?_) (fun c_2 => ?_)
  · first | exact absurd c_2 (by decide) | exact absurd (by decide) c_2
  refine lv_ldcw (v := (-2000000)) hx hb hown (hT _ t1141) dX9_smiths_13 ?_
  exact W.iret (v := (-2000000)) hx hb hr (fun t ht hW => ⟨(-2000000), rfl, rfl, ht⟩) (fun _ h9 => by cases h9) dX9_smiths_16
set_option maxHeartbeats 4000000 in
set_option maxRecDepth 100000 in
theorem c_X9_fault (l : Launch) (D : va_G) (k : Nat → ClassId) (q : Nat → Nat) (wf : Nat → Int32) (p0 : Int32)  : Met l yX9_fault (.code yX9_fault cX9_fault 2 (some .int) :: TB) (rmk 1) (va_Pc [.ref (q 0), .int p0] (fun U => FWH D k q wf U U.heap)) (vp_Si (fun r => r = a_fault p0)) 0 0 (fun _ => False) := by
  refine Met.ofW (cc := cX9_fault) (maxL := 2) (ret := (some .int)) (by decide) rfl ?_
  intro p e s m args below meth c s₁ B hml hv
  obtain ⟨rfl, hF⟩ := hv
  have hx := B.exec
  have hb := B.bytes
  have hr := B.returns
  have hT : ∀ w ∈ TB, w.before ([.ref (q 0), .int p0] : List Value).toArray s = true := fun w h => atoms_spec (ws := .code yX9_fault cX9_fault 2 (some .int) :: TB) B.pre w (List.mem_cons_of_mem _ h)
  have hown : s.vm.findClass RX9 = some m.cls := findClass_of_methodNamed B.named
  have S : CallFix p m c cX9_fault 2 s _ TB RX9 := ⟨hx, hb, hml, hown, hT⟩
  have hP : va_P D vwCl [(q 0, .inr (9, [.ref (q 1), .ref (q 2), .ref (q 3), .ref (q 4), .ref (q 5), .ref (q 6), .ref (q 7), .ref (q 8), .ref (q 9), .ref (q 10), .ref (q 11)])), (q 3, .inr (8, [.ref (q 12), .ref (q 13), .int 0, .ref (q 14), .ref (q 15), .ref (q 16)])), (q 12, .inr (1, [.int 0, .int 0, .int 0, .int 0, .int 0, .int 0, .int 0, .ref (q 17), .ref (q 18), .ref (q 19), .ref (q 20), .ref (q 21), .ref (q 22), .ref (q 23)])), (q 6, .inr (4, [.ref (q 24), .ref (q 25), .ref (q 26)])), (q 24, .inl (k 0, 4, .inl wf)), (q 5, .inl (k 3, 3, .inl (fun _ => 0))), (q 1, .inr (6, [.ref (q 27), .int 0])), (q 2, .inr (2, [.ref (q 1), .ref (q 28), .int 0, .int (-1), .int 0, .int 0, .int 0, .int 0]))] s.heap := hF.1
  have hK := hF.2.1
  have hl := lv_entry ([.ref (q 0), .int p0]) (n := 2) (Nat.le_of_ble_eq_true rfl)
  rw [lg_entry_eq]
  generalize (lg_sl ([.ref (q 0), .int p0]) ++ List.replicate (2 - (lg_sl ([.ref (q 0), .int p0])).length) Slot.unset).toArray = ls at hl ⊢
  have hl : lv_has ls 2 [(0, .ref (q 0)), (1, .int p0)] := hl
  refine lv_iload_n hx hb dX9_fault_0 rfl (lv_at hl 1 rfl) ?_
  refine lv_if_ne (tgt := 12) hx hb dX9_fault_1 (by decide) (fun c_1 => ?_) (fun c_1 => ?_)
  · skip
    refine lv_iload_n hx hb dX9_fault_12 rfl (lv_at hl 1 rfl) ?_
    refine lv_iconst (v := 1) hx hb dX9_fault_13 (by decide) ?_
    refine lv_icmp_ne (tgt := 27) hx hb dX9_fault_14 (by decide) (fun c_2 => ?_) (fun c_2 => ?_)
    · skip
      refine lv_iconst (v := (-1)) hx hb dX9_fault_27 (by decide) ?_
      exact W.iret (v := (-1)) hx hb hr (fun t ht hW => ⟨(-1), rfl, (by rw [a_fault, if_neg c_1]), ht⟩) (fun _ h9 => by cases h9) dX9_fault_28
    · skip
      refine lv_aload_n hx hb dX9_fault_17 rfl (lv_at hl 0 rfl) ?_
      refine va_get (D := D) (ci := 9) (v := .ref (q 2)) (C := RX9) (T := TX9) (N := 11) hx hb hT in_X9 hown hK hP 0 rfl rfl 1 (by decide) (hT _ t452) (fun _ h9 => h9) rfl dX9_fault_18 ?_
      refine va_get (D := D) (ci := 2) (v := .int (-1)) (C := RX2) (T := TX2) (N := 8) hx hb hT in_X2 hown hK hP 7 rfl rfl 3 (by decide) (hT _ t279) (fun _ h9 => h9) rfl dX9_fault_21 ?_
      refine lv_goto (tgt := 28) hx hb dX9_fault_24 (by decide) ?_
      exact W.iret (v := (-1)) hx hb hr (fun t ht hW => ⟨(-1), rfl, (by rw [a_fault, if_neg c_1]), ht⟩) (fun _ h9 => by cases h9) dX9_fault_28
  · skip
    refine lv_aload_n hx hb dX9_fault_4 rfl (lv_at hl 0 rfl) ?_
    refine va_get (D := D) (ci := 9) (v := .ref (q 2)) (C := RX9) (T := TX9) (N := 11) hx hb hT in_X9 hown hK hP 0 rfl rfl 1 (by decide) (hT _ t452) (fun _ h9 => h9) rfl dX9_fault_5 ?_
    refine va_get (D := D) (ci := 2) (v := .int 0) (C := RX2) (T := TX2) (N := 8) hx hb hT in_X2 hown hK hP 7 rfl rfl 2 (by decide) (hT _ t277) (fun _ h9 => h9) rfl dX9_fault_8 ?_
    exact W.iret (v := 0) hx hb hr (fun t ht hW => ⟨0, rfl, (by rw [a_fault, if_pos c_1]), ht⟩) (fun _ h9 => by cases h9) dX9_fault_11
set_option maxHeartbeats 4000000 in
set_option maxRecDepth 100000 in
theorem c_X9_count (l : Launch) (D : va_G) (k : Nat → ClassId) (q : Nat → Nat) (wf : Nat → Int32) (p0 : Int32)  : Met l yX9_count (.code yX9_count cX9_count 2 (some .int) :: TB) (rmk 3) (va_Pc [.ref (q 0), .int p0] (fun U => FWH D k q wf U U.heap)) (vp_Si (fun r => r = a_count p0)) 0 0 (fun _ => False) := by
  refine Met.ofW (cc := cX9_count) (maxL := 2) (ret := (some .int)) (by decide) rfl ?_
  intro p e s m args below meth c s₁ B hml hv
  obtain ⟨rfl, hF⟩ := hv
  have hx := B.exec
  have hb := B.bytes
  have hr := B.returns
  have hT : ∀ w ∈ TB, w.before ([.ref (q 0), .int p0] : List Value).toArray s = true := fun w h => atoms_spec (ws := .code yX9_count cX9_count 2 (some .int) :: TB) B.pre w (List.mem_cons_of_mem _ h)
  have hown : s.vm.findClass RX9 = some m.cls := findClass_of_methodNamed B.named
  have S : CallFix p m c cX9_count 2 s _ TB RX9 := ⟨hx, hb, hml, hown, hT⟩
  have hP : va_P D vwCl [(q 0, .inr (9, [.ref (q 1), .ref (q 2), .ref (q 3), .ref (q 4), .ref (q 5), .ref (q 6), .ref (q 7), .ref (q 8), .ref (q 9), .ref (q 10), .ref (q 11)])), (q 3, .inr (8, [.ref (q 12), .ref (q 13), .int 0, .ref (q 14), .ref (q 15), .ref (q 16)])), (q 12, .inr (1, [.int 0, .int 0, .int 0, .int 0, .int 0, .int 0, .int 0, .ref (q 17), .ref (q 18), .ref (q 19), .ref (q 20), .ref (q 21), .ref (q 22), .ref (q 23)])), (q 6, .inr (4, [.ref (q 24), .ref (q 25), .ref (q 26)])), (q 24, .inl (k 0, 4, .inl wf)), (q 5, .inl (k 3, 3, .inl (fun _ => 0))), (q 1, .inr (6, [.ref (q 27), .int 0])), (q 2, .inr (2, [.ref (q 1), .ref (q 28), .int 0, .int (-1), .int 0, .int 0, .int 0, .int 0]))] s.heap := hF.1
  have hK := hF.2.1
  have hl := lv_entry ([.ref (q 0), .int p0]) (n := 2) (Nat.le_of_ble_eq_true rfl)
  rw [lg_entry_eq]
  generalize (lg_sl ([.ref (q 0), .int p0]) ++ List.replicate (2 - (lg_sl ([.ref (q 0), .int p0])).length) Slot.unset).toArray = ls at hl ⊢
  have hl : lv_has ls 2 [(0, .ref (q 0)), (1, .int p0)] := hl
  refine lv_iload_n hx hb dX9_count_0 rfl (lv_at hl 1 rfl) ?_
  by_cases c_1 : p0.toInt < 0 ∨ 9 < p0.toInt
  · skip
    refine lv_tableOut (tgt := 157) hx hb dX9_count_1 c_1 (by decide) ?_
    refine lv_iconst (v := (-1)) hx hb dX9_count_157 (by decide) ?_
    exact W.iret (v := (-1)) hx hb hr (fun t ht hW => ⟨(-1), rfl, (by rw [a_count, if_pos c_1]), ht⟩) (fun _ h9 => by cases h9) dX9_count_158
  · skip
    have x_2 : p0 = 0 ∨ p0 = 1 ∨ p0 = 2 ∨ p0 = 3 ∨ p0 = 4 ∨ p0 = 5 ∨ p0 = 6 ∨ p0 = 7 ∨ p0 = 8 ∨ p0 = 9 := by
      have q1 : ¬ p0.toInt < 0 := fun z => c_1 (Or.inl z)
      have q2 : ¬ 9 < p0.toInt := fun z => c_1 (Or.inr z)
      have q3 : p0.toInt = 0 ∨ p0.toInt = 1 ∨ p0.toInt = 2 ∨ p0.toInt = 3 ∨ p0.toInt = 4 ∨ p0.toInt = 5 ∨ p0.toInt = 6 ∨ p0.toInt = 7 ∨ p0.toInt = 8 ∨ p0.toInt = 9 := by omega
      rcases q3 with q3 | q3 | q3 | q3 | q3 | q3 | q3 | q3 | q3 | q3
      · exact Or.inl (Int32.toInt_inj.mp (q3.trans (by decide)))
      · exact Or.inr (Or.inl (Int32.toInt_inj.mp (q3.trans (by decide))))
      · exact Or.inr (Or.inr (Or.inl (Int32.toInt_inj.mp (q3.trans (by decide)))))
      · exact Or.inr (Or.inr (Or.inr (Or.inl (Int32.toInt_inj.mp (q3.trans (by decide))))))
      · exact Or.inr (Or.inr (Or.inr (Or.inr (Or.inl (Int32.toInt_inj.mp (q3.trans (by decide)))))))
      · exact Or.inr (Or.inr (Or.inr (Or.inr (Or.inr (Or.inl (Int32.toInt_inj.mp (q3.trans (by decide))))))))
      · exact Or.inr (Or.inr (Or.inr (Or.inr (Or.inr (Or.inr (Or.inl (Int32.toInt_inj.mp (q3.trans (by decide)))))))))
      · exact Or.inr (Or.inr (Or.inr (Or.inr (Or.inr (Or.inr (Or.inr (Or.inl (Int32.toInt_inj.mp (q3.trans (by decide))))))))))
      · exact Or.inr (Or.inr (Or.inr (Or.inr (Or.inr (Or.inr (Or.inr (Or.inr (Or.inl (Int32.toInt_inj.mp (q3.trans (by decide)))))))))))
      · exact Or.inr (Or.inr (Or.inr (Or.inr (Or.inr (Or.inr (Or.inr (Or.inr (Or.inr ((Int32.toInt_inj.mp (q3.trans (by decide))))))))))))
    clear c_1
    rcases x_2 with rfl | rfl | rfl | rfl | rfl | rfl | rfl | rfl | rfl | rfl
    · skip
      refine lv_tableIn (off := 55) (tgt := 56) hx hb dX9_count_1 (by decide) (by decide) (by decide +kernel) (by decide) ?_
      refine lv_aload_n hx hb dX9_count_56 rfl (lv_at hl 0 rfl) ?_
      refine va_get (D := D) (ci := 9) (v := .ref (q 3)) (C := RX9) (T := TX9) (N := 11) hx hb hT in_X9 hown hK hP 0 rfl rfl 2 (by decide) (hT _ t453) (fun _ h9 => h9) rfl dX9_count_57 ?_
      refine va_get (D := D) (ci := 8) (v := .ref (q 12)) (C := RX8) (T := TX8) (N := 6) hx hb hT in_X8 hown hK hP 1 rfl rfl 0 (by decide) (hT _ t312) (fun _ h9 => h9) rfl dX9_count_60 ?_
      refine va_get (D := D) (ci := 1) (v := .int 0) (C := RX1) (T := TX1) (N := 14) hx hb hT in_X1 hown hK hP 2 rfl rfl 1 (by decide) (hT _ t201) (fun _ h9 => h9) rfl dX9_count_63 ?_
      exact W.iret (v := 0) hx hb hr (fun t ht hW => ⟨0, rfl, (by decide), ht⟩) (fun _ h9 => by cases h9) dX9_count_66
    · skip
      refine lv_tableIn (off := 66) (tgt := 67) hx hb dX9_count_1 (by decide) (by decide) (by decide +kernel) (by decide) ?_
      refine lv_aload_n hx hb dX9_count_67 rfl (lv_at hl 0 rfl) ?_
      refine va_get (D := D) (ci := 9) (v := .ref (q 3)) (C := RX9) (T := TX9) (N := 11) hx hb hT in_X9 hown hK hP 0 rfl rfl 2 (by decide) (hT _ t453) (fun _ h9 => h9) rfl dX9_count_68 ?_
      refine va_get (D := D) (ci := 8) (v := .ref (q 12)) (C := RX8) (T := TX8) (N := 6) hx hb hT in_X8 hown hK hP 1 rfl rfl 0 (by decide) (hT _ t312) (fun _ h9 => h9) rfl dX9_count_71 ?_
      refine va_get (D := D) (ci := 1) (v := .int 0) (C := RX1) (T := TX1) (N := 14) hx hb hT in_X1 hown hK hP 2 rfl rfl 3 (by decide) (hT _ t211) (fun _ h9 => h9) rfl dX9_count_74 ?_
      exact W.iret (v := 0) hx hb hr (fun t ht hW => ⟨0, rfl, (by decide), ht⟩) (fun _ h9 => by cases h9) dX9_count_77
    · skip
      refine lv_tableIn (off := 77) (tgt := 78) hx hb dX9_count_1 (by decide) (by decide) (by decide +kernel) (by decide) ?_
      refine lv_aload_n hx hb dX9_count_78 rfl (lv_at hl 0 rfl) ?_
      refine va_get (D := D) (ci := 9) (v := .ref (q 3)) (C := RX9) (T := TX9) (N := 11) hx hb hT in_X9 hown hK hP 0 rfl rfl 2 (by decide) (hT _ t453) (fun _ h9 => h9) rfl dX9_count_79 ?_
      refine va_get (D := D) (ci := 8) (v := .ref (q 12)) (C := RX8) (T := TX8) (N := 6) hx hb hT in_X8 hown hK hP 1 rfl rfl 0 (by decide) (hT _ t312) (fun _ h9 => h9) rfl dX9_count_82 ?_
      refine va_get (D := D) (ci := 1) (v := .int 0) (C := RX1) (T := TX1) (N := 14) hx hb hT in_X1 hown hK hP 2 rfl rfl 4 (by decide) (hT _ t215) (fun _ h9 => h9) rfl dX9_count_85 ?_
      exact W.iret (v := 0) hx hb hr (fun t ht hW => ⟨0, rfl, (by decide), ht⟩) (fun _ h9 => by cases h9) dX9_count_88
    · skip
      refine lv_tableIn (off := 88) (tgt := 89) hx hb dX9_count_1 (by decide) (by decide) (by decide +kernel) (by decide) ?_
      refine lv_aload_n hx hb dX9_count_89 rfl (lv_at hl 0 rfl) ?_
      refine va_get (D := D) (ci := 9) (v := .ref (q 3)) (C := RX9) (T := TX9) (N := 11) hx hb hT in_X9 hown hK hP 0 rfl rfl 2 (by decide) (hT _ t453) (fun _ h9 => h9) rfl dX9_count_90 ?_
      refine va_get (D := D) (ci := 8) (v := .ref (q 12)) (C := RX8) (T := TX8) (N := 6) hx hb hT in_X8 hown hK hP 1 rfl rfl 0 (by decide) (hT _ t312) (fun _ h9 => h9) rfl dX9_count_93 ?_
      refine va_get (D := D) (ci := 1) (v := .int 0) (C := RX1) (T := TX1) (N := 14) hx hb hT in_X1 hown hK hP 2 rfl rfl 5 (by decide) (hT _ t218) (fun _ h9 => h9) rfl dX9_count_96 ?_
      exact W.iret (v := 0) hx hb hr (fun t ht hW => ⟨0, rfl, (by decide), ht⟩) (fun _ h9 => by cases h9) dX9_count_99
    · skip
      refine lv_tableIn (off := 99) (tgt := 100) hx hb dX9_count_1 (by decide) (by decide) (by decide +kernel) (by decide) ?_
      refine lv_aload_n hx hb dX9_count_100 rfl (lv_at hl 0 rfl) ?_
      refine va_get (D := D) (ci := 9) (v := .ref (q 3)) (C := RX9) (T := TX9) (N := 11) hx hb hT in_X9 hown hK hP 0 rfl rfl 2 (by decide) (hT _ t453) (fun _ h9 => h9) rfl dX9_count_101 ?_
      refine va_get (D := D) (ci := 8) (v := .ref (q 12)) (C := RX8) (T := TX8) (N := 6) hx hb hT in_X8 hown hK hP 1 rfl rfl 0 (by decide) (hT _ t312) (fun _ h9 => h9) rfl dX9_count_104 ?_
      refine va_get (D := D) (ci := 1) (v := .int 0) (C := RX1) (T := TX1) (N := 14) hx hb hT in_X1 hown hK hP 2 rfl rfl 6 (by decide) (hT _ t221) (fun _ h9 => h9) rfl dX9_count_107 ?_
      exact W.iret (v := 0) hx hb hr (fun t ht hW => ⟨0, rfl, (by decide), ht⟩) (fun _ h9 => by cases h9) dX9_count_110
    · skip
      refine lv_tableIn (off := 110) (tgt := 111) hx hb dX9_count_1 (by decide) (by decide) (by decide +kernel) (by decide) ?_
      refine lv_aload_n hx hb dX9_count_111 rfl (lv_at hl 0 rfl) ?_
      refine va_get (D := D) (ci := 9) (v := .ref (q 3)) (C := RX9) (T := TX9) (N := 11) hx hb hT in_X9 hown hK hP 0 rfl rfl 2 (by decide) (hT _ t453) (fun _ h9 => h9) rfl dX9_count_112 ?_
      refine va_get (D := D) (ci := 8) (v := .ref (q 12)) (C := RX8) (T := TX8) (N := 6) hx hb hT in_X8 hown hK hP 1 rfl rfl 0 (by decide) (hT _ t312) (fun _ h9 => h9) rfl dX9_count_115 ?_
      refine va_get (D := D) (ci := 1) (v := .int 0) (C := RX1) (T := TX1) (N := 14) hx hb hT in_X1 hown hK hP 2 rfl rfl 2 (by decide) (hT _ t206) (fun _ h9 => h9) rfl dX9_count_118 ?_
      exact W.iret (v := 0) hx hb hr (fun t ht hW => ⟨0, rfl, (by decide), ht⟩) (fun _ h9 => by cases h9) dX9_count_121
    · skip
      refine lv_tableIn (off := 121) (tgt := 122) hx hb dX9_count_1 (by decide) (by decide) (by decide +kernel) (by decide) ?_
      refine lv_aload_n hx hb dX9_count_122 rfl (lv_at hl 0 rfl) ?_
      refine va_get (D := D) (ci := 9) (v := .ref (q 3)) (C := RX9) (T := TX9) (N := 11) hx hb hT in_X9 hown hK hP 0 rfl rfl 2 (by decide) (hT _ t453) (fun _ h9 => h9) rfl dX9_count_123 ?_
      refine va_get (D := D) (ci := 8) (v := .ref (q 12)) (C := RX8) (T := TX8) (N := 6) hx hb hT in_X8 hown hK hP 1 rfl rfl 0 (by decide) (hT _ t312) (fun _ h9 => h9) rfl dX9_count_126 ?_
      refine va_get (D := D) (ci := 1) (v := .int 0) (C := RX1) (T := TX1) (N := 14) hx hb hT in_X1 hown hK hP 2 rfl rfl 0 (by decide) (hT _ t197) (fun _ h9 => h9) rfl dX9_count_129 ?_
      exact W.iret (v := 0) hx hb hr (fun t ht hW => ⟨0, rfl, (by decide), ht⟩) (fun _ h9 => by cases h9) dX9_count_132
    · skip
      refine lv_tableIn (off := 132) (tgt := 133) hx hb dX9_count_1 (by decide) (by decide) (by decide +kernel) (by decide) ?_
      refine lv_aload_n hx hb dX9_count_133 rfl (lv_at hl 0 rfl) ?_
      refine va_get (D := D) (ci := 9) (v := .ref (q 1)) (C := RX9) (T := TX9) (N := 11) hx hb hT in_X9 hown hK hP 0 rfl rfl 0 (by decide) (hT _ t451) (fun _ h9 => h9) rfl dX9_count_134 ?_
      refine va_get (D := D) (ci := 6) (v := .int 0) (C := RX6) (T := TX6) (N := 2) hx hb hT in_X6 hown hK hP 6 rfl rfl 1 (by decide) (hT _ t145) (fun _ h9 => h9) rfl dX9_count_137 ?_
      exact W.iret (v := 0) hx hb hr (fun t ht hW => ⟨0, rfl, (by decide), ht⟩) (fun _ h9 => by cases h9) dX9_count_140
    · skip
      refine lv_tableIn (off := 140) (tgt := 141) hx hb dX9_count_1 (by decide) (by decide) (by decide +kernel) (by decide) ?_
      refine lv_aload_n hx hb dX9_count_141 rfl (lv_at hl 0 rfl) ?_
      refine va_get (D := D) (ci := 9) (v := .ref (q 3)) (C := RX9) (T := TX9) (N := 11) hx hb hT in_X9 hown hK hP 0 rfl rfl 2 (by decide) (hT _ t453) (fun _ h9 => h9) rfl dX9_count_142 ?_
      refine va_get (D := D) (ci := 8) (v := .int 0) (C := RX8) (T := TX8) (N := 6) hx hb hT in_X8 hown hK hP 1 rfl rfl 2 (by decide) (hT _ t316) (fun _ h9 => h9) rfl dX9_count_145 ?_
      exact W.iret (v := 0) hx hb hr (fun t ht hW => ⟨0, rfl, (by decide), ht⟩) (fun _ h9 => by cases h9) dX9_count_148
    · skip
      refine lv_tableIn (off := 148) (tgt := 149) hx hb dX9_count_1 (by decide) (by decide) (by decide +kernel) (by decide) ?_
      refine lv_aload_n hx hb dX9_count_149 rfl (lv_at hl 0 rfl) ?_
      refine va_get (D := D) (ci := 9) (v := .ref (q 6)) (C := RX9) (T := TX9) (N := 11) hx hb hT in_X9 hown hK hP 0 rfl rfl 5 (by decide) (hT _ t456) (fun _ h9 => h9) rfl dX9_count_150 ?_
      refine ro_V (As := []) (rest := []) S (c_X4_rowCount l D k q wf ) lkX9_410 ok_X4_rowCount ⟨rfl, rfl, Nat.le_of_ble_eq_true rfl, Nat.le_of_ble_eq_true rfl⟩ (fw_V (ci := 4) (q0 := 3) hF rfl rfl) rfl hl.1 rfl (Nat.le_of_ble_eq_true rfl) ⟨Nat.zero_le _, Nat.zero_le _⟩ dX9_count_153 (fun r_3 er_3 => ?_)
      subst er_3
      exact W.iret (v := 0) hx hb hr (fun t ht hW => ⟨0, rfl, (by decide), ht⟩) (fun _ h9 => by cases h9) dX9_count_156
set_option maxHeartbeats 4000000 in
set_option maxRecDepth 100000 in
theorem c_X9_back (l : Launch) (D : va_G) (k : Nat → ClassId) (q : Nat → Nat) (wf : Nat → Int32) (p0 : Int32)  : Met l yX9_back (.code yX9_back cX9_back 2 (some .int) :: TB) (rmk 1) (va_Pc [.ref (q 0), .int p0] (fun U => FWH D k q wf U U.heap)) (vp_Si (fun r => r = a_back p0)) 0 0 (fun _ => False) := by
  refine Met.ofW (cc := cX9_back) (maxL := 2) (ret := (some .int)) (by decide) rfl ?_
  intro p e s m args below meth c s₁ B hml hv
  obtain ⟨rfl, hF⟩ := hv
  have hx := B.exec
  have hb := B.bytes
  have hr := B.returns
  have hT : ∀ w ∈ TB, w.before ([.ref (q 0), .int p0] : List Value).toArray s = true := fun w h => atoms_spec (ws := .code yX9_back cX9_back 2 (some .int) :: TB) B.pre w (List.mem_cons_of_mem _ h)
  have hown : s.vm.findClass RX9 = some m.cls := findClass_of_methodNamed B.named
  have S : CallFix p m c cX9_back 2 s _ TB RX9 := ⟨hx, hb, hml, hown, hT⟩
  have hP : va_P D vwCl [(q 0, .inr (9, [.ref (q 1), .ref (q 2), .ref (q 3), .ref (q 4), .ref (q 5), .ref (q 6), .ref (q 7), .ref (q 8), .ref (q 9), .ref (q 10), .ref (q 11)])), (q 3, .inr (8, [.ref (q 12), .ref (q 13), .int 0, .ref (q 14), .ref (q 15), .ref (q 16)])), (q 12, .inr (1, [.int 0, .int 0, .int 0, .int 0, .int 0, .int 0, .int 0, .ref (q 17), .ref (q 18), .ref (q 19), .ref (q 20), .ref (q 21), .ref (q 22), .ref (q 23)])), (q 6, .inr (4, [.ref (q 24), .ref (q 25), .ref (q 26)])), (q 24, .inl (k 0, 4, .inl wf)), (q 5, .inl (k 3, 3, .inl (fun _ => 0))), (q 1, .inr (6, [.ref (q 27), .int 0])), (q 2, .inr (2, [.ref (q 1), .ref (q 28), .int 0, .int (-1), .int 0, .int 0, .int 0, .int 0]))] s.heap := hF.1
  have hK := hF.2.1
  have hl := lv_entry ([.ref (q 0), .int p0]) (n := 2) (Nat.le_of_ble_eq_true rfl)
  rw [lg_entry_eq]
  generalize (lg_sl ([.ref (q 0), .int p0]) ++ List.replicate (2 - (lg_sl ([.ref (q 0), .int p0])).length) Slot.unset).toArray = ls at hl ⊢
  have hl : lv_has ls 2 [(0, .ref (q 0)), (1, .int p0)] := hl
  refine lv_iload_n hx hb dX9_back_0 rfl (lv_at hl 1 rfl) ?_
  refine lv_if_lt (tgt := 9) hx hb dX9_back_1 (by decide) (fun c_1 => ?_) (fun c_1 => ?_)
  · skip
    refine lv_bipush (v := (-2)) hx hb dX9_back_9 (by decide) ?_
    exact W.iret (v := (-2)) hx hb hr (fun t ht hW => ⟨(-2), rfl, (by rw [a_back, if_pos (Or.inl c_1)]), ht⟩) (fun _ h9 => by cases h9) dX9_back_11
  · skip
    refine lv_iload_n hx hb dX9_back_4 rfl (lv_at hl 1 rfl) ?_
    refine lv_iconst (v := 3) hx hb dX9_back_5 (by decide) ?_
    refine lv_icmp_lt (tgt := 12) hx hb dX9_back_6 (by decide) (fun c_2 => ?_) (fun c_2 => ?_)
    · skip
      refine lv_aload_n hx hb dX9_back_12 rfl (lv_at hl 0 rfl) ?_
      refine va_get (D := D) (ci := 9) (v := .ref (q 5)) (C := RX9) (T := TX9) (N := 11) hx hb hT in_X9 hown hK hP 0 rfl rfl 4 (by decide) (hT _ t455) (fun _ h9 => h9) rfl dX9_back_13 ?_
      refine lv_iload_n hx hb dX9_back_16 rfl (lv_at hl 1 rfl) ?_
      refine va_zald hx hb hK hP 5 3 rfl rfl (i32_in 3 rfl c_1 c_2) dX9_back_17 ?_
      refine k_top (y := 0) rfl ?_
      refine lv_if_ne (tgt := 24) hx hb dX9_back_18 (by decide) (fun c_3 => ?_) (fun c_3 => ?_)
      · first | exact absurd c_3 (by decide) | exact absurd (by decide) c_3
      refine lv_bipush (v := (-6)) hx hb dX9_back_21 (by decide) ?_
      exact W.iret (v := (-6)) hx hb hr (fun t ht hW => ⟨(-6), rfl, (by rw [a_back, if_neg (fun z => z.elim c_1 (Int32.not_le.mpr c_2))]), ht⟩) (fun _ h9 => by cases h9) dX9_back_23
    · skip
      refine lv_bipush (v := (-2)) hx hb dX9_back_9 (by decide) ?_
      exact W.iret (v := (-2)) hx hb hr (fun t ht hW => ⟨(-2), rfl, (by rw [a_back, if_pos (Or.inr (Int32.not_lt.mp c_2))]), ht⟩) (fun _ h9 => by cases h9) dX9_back_11
set_option maxHeartbeats 4000000 in
set_option maxRecDepth 100000 in
theorem c_X9_write (l : Launch) (D : va_G) (k : Nat → ClassId) (q : Nat → Nat) (wf : Nat → Int32) (p0 : Int32) (p1 : Int32) (p2 : Int64)  : Met l yX9_write (.code yX9_write cX9_write 5 (some .int) :: TB) (rmk 2) (va_Pc [.ref (q 0), .int p0, .int p1, .long p2] (fun U => FWH D k q wf U U.heap)) (vp_Si (fun r => r = a_slot p0)) 0 0 (fun _ => False) := by
  refine Met.ofW (cc := cX9_write) (maxL := 5) (ret := (some .int)) (by decide) rfl ?_
  intro p e s m args below meth c s₁ B hml hv
  obtain ⟨rfl, hF⟩ := hv
  have hx := B.exec
  have hb := B.bytes
  have hr := B.returns
  have hT : ∀ w ∈ TB, w.before ([.ref (q 0), .int p0, .int p1, .long p2] : List Value).toArray s = true := fun w h => atoms_spec (ws := .code yX9_write cX9_write 5 (some .int) :: TB) B.pre w (List.mem_cons_of_mem _ h)
  have hown : s.vm.findClass RX9 = some m.cls := findClass_of_methodNamed B.named
  have S : CallFix p m c cX9_write 5 s _ TB RX9 := ⟨hx, hb, hml, hown, hT⟩
  have hP : va_P D vwCl [(q 0, .inr (9, [.ref (q 1), .ref (q 2), .ref (q 3), .ref (q 4), .ref (q 5), .ref (q 6), .ref (q 7), .ref (q 8), .ref (q 9), .ref (q 10), .ref (q 11)])), (q 3, .inr (8, [.ref (q 12), .ref (q 13), .int 0, .ref (q 14), .ref (q 15), .ref (q 16)])), (q 12, .inr (1, [.int 0, .int 0, .int 0, .int 0, .int 0, .int 0, .int 0, .ref (q 17), .ref (q 18), .ref (q 19), .ref (q 20), .ref (q 21), .ref (q 22), .ref (q 23)])), (q 6, .inr (4, [.ref (q 24), .ref (q 25), .ref (q 26)])), (q 24, .inl (k 0, 4, .inl wf)), (q 5, .inl (k 3, 3, .inl (fun _ => 0))), (q 1, .inr (6, [.ref (q 27), .int 0])), (q 2, .inr (2, [.ref (q 1), .ref (q 28), .int 0, .int (-1), .int 0, .int 0, .int 0, .int 0]))] s.heap := hF.1
  have hK := hF.2.1
  have hl := lv_entry ([.ref (q 0), .int p0, .int p1, .long p2]) (n := 5) (Nat.le_of_ble_eq_true rfl)
  rw [lg_entry_eq]
  generalize (lg_sl ([.ref (q 0), .int p0, .int p1, .long p2]) ++ List.replicate (5 - (lg_sl ([.ref (q 0), .int p0, .int p1, .long p2])).length) Slot.unset).toArray = ls at hl ⊢
  have hl : lv_has ls 5 [(0, .ref (q 0)), (1, .int p0), (2, .int p1), (3, .long p2)] := hl
  refine lv_aload_n hx hb dX9_write_0 rfl (lv_at hl 0 rfl) ?_
  refine va_get (D := D) (ci := 9) (v := .ref (q 6)) (C := RX9) (T := TX9) (N := 11) hx hb hT in_X9 hown hK hP 0 rfl rfl 5 (by decide) (hT _ t456) (fun _ h9 => h9) rfl dX9_write_1 ?_
  refine lv_iload_n hx hb dX9_write_4 rfl (lv_at hl 1 rfl) ?_
  refine ro_V (As := [.int p0]) (rest := []) S (c_X4_isSlot l D k q wf p0) lkX9_238 ok_X4_isSlot ⟨rfl, rfl, Nat.le_of_ble_eq_true rfl, Nat.le_of_ble_eq_true rfl⟩ (fw_V (ci := 4) (q0 := 3) hF rfl rfl) rfl hl.1 rfl (Nat.le_of_ble_eq_true rfl) ⟨Nat.zero_le _, Nat.zero_le _⟩ dX9_write_5 (fun r_1 er_1 => ?_)
  rcases er_1 with ⟨er_1, gr_1⟩ | ⟨er_1, gr_1⟩
  · subst er_1
    refine lv_if_ne (tgt := 14) hx hb dX9_write_8 (by decide) (fun c_2 => ?_) (fun c_2 => ?_)
    rotate_left
    · first | exact absurd c_2 (by decide) | exact absurd (by decide) c_2
    refine lv_aload_n hx hb dX9_write_14 rfl (lv_at hl 0 rfl) ?_
    refine va_get (D := D) (ci := 9) (v := .ref (q 6)) (C := RX9) (T := TX9) (N := 11) hx hb hT in_X9 hown hK hP 0 rfl rfl 5 (by decide) (hT _ t456) (fun _ h9 => h9) rfl dX9_write_15 ?_
    refine lv_iload_n hx hb dX9_write_18 rfl (lv_at hl 1 rfl) ?_
    refine ro_V (As := [.int p0]) (rest := []) S (c_X4_hasRow l D k q wf p0 (in4_vp gr_1)) lkX9_241 ok_X4_hasRow ⟨rfl, rfl, Nat.le_of_ble_eq_true rfl, Nat.le_of_ble_eq_true rfl⟩ (fw_V (ci := 4) (q0 := 3) hF rfl rfl) rfl hl.1 rfl (Nat.le_of_ble_eq_true rfl) ⟨Nat.zero_le _, Nat.zero_le _⟩ dX9_write_19 (fun r_3 er_3 => ?_)
    subst er_3
    refine lv_if_ne (tgt := 28) hx hb dX9_write_22 (by decide) (fun c_4 => ?_) (fun c_4 => ?_)
    · first | exact absurd c_4 (by decide) | exact absurd (by decide) c_4
    refine lv_bipush (v := (-6)) hx hb dX9_write_25 (by decide) ?_
    exact W.iret (v := (-6)) hx hb hr (fun t ht hW => ⟨(-6), rfl, (by rw [a_slot, if_neg (fun z => z.elim gr_1.1 (Int32.not_le.mpr gr_1.2))]), ht⟩) (fun _ h9 => by cases h9) dX9_write_27
  · subst er_1
    refine lv_if_ne (tgt := 14) hx hb dX9_write_8 (by decide) (fun c_5 => ?_) (fun c_5 => ?_)
    · first | exact absurd c_5 (by decide) | exact absurd (by decide) c_5
    refine lv_bipush (v := (-2)) hx hb dX9_write_11 (by decide) ?_
    exact W.iret (v := (-2)) hx hb hr (fun t ht hW => ⟨(-2), rfl, (by rw [a_slot, if_pos gr_1]), ht⟩) (fun _ h9 => by cases h9) dX9_write_13
set_option maxHeartbeats 4000000 in
set_option maxRecDepth 100000 in
theorem c_X9_paste (l : Launch) (D : va_G) (k : Nat → ClassId) (q : Nat → Nat) (wf : Nat → Int32) (p0 : Int32) (p1 : Int32) (p2 : Int32) (p3 : Int32) (p4 : Int32)  : Met l yX9_paste (.code yX9_paste cX9_paste 6 (some .int) :: TB) (rmk 2) (va_Pc [.ref (q 0), .int p0, .int p1, .int p2, .int p3, .int p4] (fun U => FWH D k q wf U U.heap)) (vp_Si (fun r => r = a_two p0 p2)) 0 0 (fun _ => False) := by
  refine Met.ofW (cc := cX9_paste) (maxL := 6) (ret := (some .int)) (by decide) rfl ?_
  intro p e s m args below meth c s₁ B hml hv
  obtain ⟨rfl, hF⟩ := hv
  have hx := B.exec
  have hb := B.bytes
  have hr := B.returns
  have hT : ∀ w ∈ TB, w.before ([.ref (q 0), .int p0, .int p1, .int p2, .int p3, .int p4] : List Value).toArray s = true := fun w h => atoms_spec (ws := .code yX9_paste cX9_paste 6 (some .int) :: TB) B.pre w (List.mem_cons_of_mem _ h)
  have hown : s.vm.findClass RX9 = some m.cls := findClass_of_methodNamed B.named
  have S : CallFix p m c cX9_paste 6 s _ TB RX9 := ⟨hx, hb, hml, hown, hT⟩
  have hP : va_P D vwCl [(q 0, .inr (9, [.ref (q 1), .ref (q 2), .ref (q 3), .ref (q 4), .ref (q 5), .ref (q 6), .ref (q 7), .ref (q 8), .ref (q 9), .ref (q 10), .ref (q 11)])), (q 3, .inr (8, [.ref (q 12), .ref (q 13), .int 0, .ref (q 14), .ref (q 15), .ref (q 16)])), (q 12, .inr (1, [.int 0, .int 0, .int 0, .int 0, .int 0, .int 0, .int 0, .ref (q 17), .ref (q 18), .ref (q 19), .ref (q 20), .ref (q 21), .ref (q 22), .ref (q 23)])), (q 6, .inr (4, [.ref (q 24), .ref (q 25), .ref (q 26)])), (q 24, .inl (k 0, 4, .inl wf)), (q 5, .inl (k 3, 3, .inl (fun _ => 0))), (q 1, .inr (6, [.ref (q 27), .int 0])), (q 2, .inr (2, [.ref (q 1), .ref (q 28), .int 0, .int (-1), .int 0, .int 0, .int 0, .int 0]))] s.heap := hF.1
  have hK := hF.2.1
  have hl := lv_entry ([.ref (q 0), .int p0, .int p1, .int p2, .int p3, .int p4]) (n := 6) (Nat.le_of_ble_eq_true rfl)
  rw [lg_entry_eq]
  generalize (lg_sl ([.ref (q 0), .int p0, .int p1, .int p2, .int p3, .int p4]) ++ List.replicate (6 - (lg_sl ([.ref (q 0), .int p0, .int p1, .int p2, .int p3, .int p4])).length) Slot.unset).toArray = ls at hl ⊢
  have hl : lv_has ls 6 [(0, .ref (q 0)), (1, .int p0), (2, .int p1), (3, .int p2), (4, .int p3), (5, .int p4)] := hl
  refine lv_aload_n hx hb dX9_paste_0 rfl (lv_at hl 0 rfl) ?_
  refine va_get (D := D) (ci := 9) (v := .ref (q 6)) (C := RX9) (T := TX9) (N := 11) hx hb hT in_X9 hown hK hP 0 rfl rfl 5 (by decide) (hT _ t456) (fun _ h9 => h9) rfl dX9_paste_1 ?_
  refine lv_iload_n hx hb dX9_paste_4 rfl (lv_at hl 1 rfl) ?_
  refine ro_V (As := [.int p0]) (rest := []) S (c_X4_isSlot l D k q wf p0) lkX9_238 ok_X4_isSlot ⟨rfl, rfl, Nat.le_of_ble_eq_true rfl, Nat.le_of_ble_eq_true rfl⟩ (fw_V (ci := 4) (q0 := 3) hF rfl rfl) rfl hl.1 rfl (Nat.le_of_ble_eq_true rfl) ⟨Nat.zero_le _, Nat.zero_le _⟩ dX9_paste_5 (fun r_1 er_1 => ?_)
  rcases er_1 with ⟨er_1, gr_1⟩ | ⟨er_1, gr_1⟩
  · subst er_1
    refine lv_if_eq (tgt := 22) hx hb dX9_paste_8 (by decide) (fun c_2 => ?_) (fun c_2 => ?_)
    · first | exact absurd c_2 (by decide) | exact absurd (by decide) c_2
    refine lv_aload_n hx hb dX9_paste_11 rfl (lv_at hl 0 rfl) ?_
    refine va_get (D := D) (ci := 9) (v := .ref (q 6)) (C := RX9) (T := TX9) (N := 11) hx hb hT in_X9 hown hK hP 0 rfl rfl 5 (by decide) (hT _ t456) (fun _ h9 => h9) rfl dX9_paste_12 ?_
    refine lv_iload_n hx hb dX9_paste_15 rfl (lv_at hl 3 rfl) ?_
    refine ro_V (As := [.int p2]) (rest := []) S (c_X4_isSlot l D k q wf p2) lkX9_238 ok_X4_isSlot ⟨rfl, rfl, Nat.le_of_ble_eq_true rfl, Nat.le_of_ble_eq_true rfl⟩ (fw_V (ci := 4) (q0 := 3) hF rfl rfl) rfl hl.1 rfl (Nat.le_of_ble_eq_true rfl) ⟨Nat.zero_le _, Nat.zero_le _⟩ dX9_paste_16 (fun r_3 er_3 => ?_)
    rcases er_3 with ⟨er_3, gr_3⟩ | ⟨er_3, gr_3⟩
    · subst er_3
      refine lv_if_ne (tgt := 25) hx hb dX9_paste_19 (by decide) (fun c_4 => ?_) (fun c_4 => ?_)
      rotate_left
      · first | exact absurd c_4 (by decide) | exact absurd (by decide) c_4
      refine lv_aload_n hx hb dX9_paste_25 rfl (lv_at hl 0 rfl) ?_
      refine va_get (D := D) (ci := 9) (v := .ref (q 6)) (C := RX9) (T := TX9) (N := 11) hx hb hT in_X9 hown hK hP 0 rfl rfl 5 (by decide) (hT _ t456) (fun _ h9 => h9) rfl dX9_paste_26 ?_
      refine lv_iload_n hx hb dX9_paste_29 rfl (lv_at hl 1 rfl) ?_
      refine ro_V (As := [.int p0]) (rest := []) S (c_X4_hasRow l D k q wf p0 (in4_vp gr_1)) lkX9_241 ok_X4_hasRow ⟨rfl, rfl, Nat.le_of_ble_eq_true rfl, Nat.le_of_ble_eq_true rfl⟩ (fw_V (ci := 4) (q0 := 3) hF rfl rfl) rfl hl.1 rfl (Nat.le_of_ble_eq_true rfl) ⟨Nat.zero_le _, Nat.zero_le _⟩ dX9_paste_30 (fun r_5 er_5 => ?_)
      subst er_5
      refine lv_if_eq (tgt := 47) hx hb dX9_paste_33 (by decide) (fun c_6 => ?_) (fun c_6 => ?_)
      rotate_left
      · first | exact absurd c_6 (by decide) | exact absurd (by decide) c_6
      refine lv_bipush (v := (-6)) hx hb dX9_paste_47 (by decide) ?_
      exact W.iret (v := (-6)) hx hb hr (fun t ht hW => ⟨(-6), rfl, (by rw [a_two, if_neg (fun z => z.elim (fun z => z.elim gr_1.1 (Int32.not_le.mpr gr_1.2)) (fun z => z.elim gr_3.1 (Int32.not_le.mpr gr_3.2)))]), ht⟩) (fun _ h9 => by cases h9) dX9_paste_49
    · subst er_3
      refine lv_if_ne (tgt := 25) hx hb dX9_paste_19 (by decide) (fun c_7 => ?_) (fun c_7 => ?_)
      · first | exact absurd c_7 (by decide) | exact absurd (by decide) c_7
      refine lv_bipush (v := (-2)) hx hb dX9_paste_22 (by decide) ?_
      exact W.iret (v := (-2)) hx hb hr (fun t ht hW => ⟨(-2), rfl, (by rw [a_two, if_pos (Or.inr gr_3)]), ht⟩) (fun _ h9 => by cases h9) dX9_paste_24
  · subst er_1
    refine lv_if_eq (tgt := 22) hx hb dX9_paste_8 (by decide) (fun c_8 => ?_) (fun c_8 => ?_)
    rotate_left
    · first | exact absurd c_8 (by decide) | exact absurd (by decide) c_8
    refine lv_bipush (v := (-2)) hx hb dX9_paste_22 (by decide) ?_
    exact W.iret (v := (-2)) hx hb hr (fun t ht hW => ⟨(-2), rfl, (by rw [a_two, if_pos (Or.inl gr_1)]), ht⟩) (fun _ h9 => by cases h9) dX9_paste_24
end
section
set_option maxHeartbeats 4000000 in
set_option maxRecDepth 100000 in
theorem c_X10_in (l : Launch) (D : va_G) (k : Nat → ClassId) (u : Nat → Nat) (mf : Nat → Int32) (p0 : Int64) (p1 : Int64) (p2 : Int64)  : Met l yX10_in (.code yX10_in cX10_in 6 (some .boolean) :: TB) (rmk 1) (va_Pc [.long p0, .long p1, .long p2] (fun U => MWH D k u mf U U.heap)) (vp_Si (fun r => (r = 1 ∧ (p1 ≤ p0 ∧ p0 ≤ p2)) ∨ (r = 0 ∧ ¬ (p1 ≤ p0 ∧ p0 ≤ p2)))) 0 0 (fun _ => False) := by
  refine Met.ofW (cc := cX10_in) (maxL := 6) (ret := (some .boolean)) (by decide) rfl ?_
  intro p e s m args below meth c s₁ B hml hv
  obtain ⟨rfl, hF⟩ := hv
  have hx := B.exec
  have hb := B.bytes
  have hr := B.returns
  have hT : ∀ w ∈ TB, w.before ([.long p0, .long p1, .long p2] : List Value).toArray s = true := fun w h => atoms_spec (ws := .code yX10_in cX10_in 6 (some .boolean) :: TB) B.pre w (List.mem_cons_of_mem _ h)
  have hown : s.vm.findClass RX10 = some m.cls := findClass_of_methodNamed B.named
  have S : CallFix p m c cX10_in 6 s _ TB RX10 := ⟨hx, hb, hml, hown, hT⟩
  have hP : va_P D vwCl [(u 0, .inr (10, [.int 0, .ref (u 1), .ref (u 2), .ref (u 3), .ref (u 4), .int 0, .ref (u 5), .int 0, .int 0, .int 0, .int 0, .int 0, .int 0, .int (-1), .ref (u 6), .ref (u 7), .ref (u 8), .ref (u 9), .ref (u 10), .ref (u 11), .int 0, .int 0, .int 0, .ref (u 12), .ref (u 13), .ref (u 14), .int 0, .int 0, .ref (u 15), .int 0, .ref (u 16), .int 0, .ref (u 17), .int 0, .ref (u 18), .ref (u 19), .ref (u 20), .ref (u 21)])), (u 1, .inl (k 0, 168, .inl (fun _ => 0))), (u 3, .inl (k 3, 3, .inl (fun _ => 0))), (u 18, .inl (k 0, 4, .inl mf))] s.heap := hF.1
  have hK := hF.2.1
  have hl := lv_entry ([.long p0, .long p1, .long p2]) (n := 6) (Nat.le_of_ble_eq_true rfl)
  rw [lg_entry_eq]
  generalize (lg_sl ([.long p0, .long p1, .long p2]) ++ List.replicate (6 - (lg_sl ([.long p0, .long p1, .long p2])).length) Slot.unset).toArray = ls at hl ⊢
  have hl : lv_has ls 6 [(0, .long p0), (2, .long p1), (4, .long p2)] := hl
  refine lv_lload_n hx hb dX10_in_0 rfl (lv_at hl 0 rfl) ?_
  refine lv_lload_n hx hb dX10_in_1 rfl (lv_at hl 1 rfl) ?_
  refine W.lcmp hx hb dX10_in_2 ?_
  refine lv_if_lt (tgt := 17) hx hb dX10_in_3 (by decide) (fun c_1 => ?_) (fun c_1 => ?_)
  · skip
    refine lv_iconst (v := 0) hx hb dX10_in_17 (by decide) ?_
    exact W.zret (v := 0) (ty := .boolean) hx hb hr rfl (fun t ht hW => ⟨0, rfl, Or.inr ⟨rfl, fun z => absurd ((lg_cmp_ge p0 p1).mpr z.1) (Int32.not_le.mpr c_1)⟩, ht⟩) (fun _ h9 => by cases h9) dX10_in_18
  · skip
    refine lv_lload_n hx hb dX10_in_6 rfl (lv_at hl 0 rfl) ?_
    refine lv_lload hx hb dX10_in_7 (lv_at hl 2 rfl) ?_
    refine W.lcmp hx hb dX10_in_9 ?_
    refine lv_if_gt (tgt := 17) hx hb dX10_in_10 (by decide) (fun c_2 => ?_) (fun c_2 => ?_)
    · skip
      refine lv_iconst (v := 0) hx hb dX10_in_17 (by decide) ?_
      exact W.zret (v := 0) (ty := .boolean) hx hb hr rfl (fun t ht hW => ⟨0, rfl, Or.inr ⟨rfl, fun z => absurd ((lg_cmp_le p0 p2).mpr z.2) (Int32.not_le.mpr c_2)⟩, ht⟩) (fun _ h9 => by cases h9) dX10_in_18
    · skip
      refine lv_iconst (v := 1) hx hb dX10_in_13 (by decide) ?_
      refine lv_goto (tgt := 18) hx hb dX10_in_14 (by decide) ?_
      exact W.zret (v := 1) (ty := .boolean) hx hb hr rfl (fun t ht hW => ⟨1, rfl, Or.inl ⟨rfl, (lg_cmp_ge p0 p1).mp (Int32.not_lt.mp c_1), (lg_cmp_le p0 p2).mp (Int32.not_lt.mp c_2)⟩, ht⟩) (fun _ h9 => by cases h9) dX10_in_18
set_option maxHeartbeats 4000000 in
set_option maxRecDepth 100000 in
theorem c_X10_isLand (l : Launch) (D : va_G) (k : Nat → ClassId) (u : Nat → Nat) (mf : Nat → Int32)   : Met l yX10_isLand (.code yX10_isLand cX10_isLand 1 (some .boolean) :: TB) (rmk 1) (va_Pc [.ref (u 0)] (fun U => MWH D k u mf U U.heap)) (vp_Si (fun r => r = 0)) 0 0 (fun _ => False) := by
  refine Met.ofW (cc := cX10_isLand) (maxL := 1) (ret := (some .boolean)) (by decide) rfl ?_
  intro p e s m args below meth c s₁ B hml hv
  obtain ⟨rfl, hF⟩ := hv
  have hx := B.exec
  have hb := B.bytes
  have hr := B.returns
  have hT : ∀ w ∈ TB, w.before ([.ref (u 0)] : List Value).toArray s = true := fun w h => atoms_spec (ws := .code yX10_isLand cX10_isLand 1 (some .boolean) :: TB) B.pre w (List.mem_cons_of_mem _ h)
  have hown : s.vm.findClass RX10 = some m.cls := findClass_of_methodNamed B.named
  have S : CallFix p m c cX10_isLand 1 s _ TB RX10 := ⟨hx, hb, hml, hown, hT⟩
  have hP : va_P D vwCl [(u 0, .inr (10, [.int 0, .ref (u 1), .ref (u 2), .ref (u 3), .ref (u 4), .int 0, .ref (u 5), .int 0, .int 0, .int 0, .int 0, .int 0, .int 0, .int (-1), .ref (u 6), .ref (u 7), .ref (u 8), .ref (u 9), .ref (u 10), .ref (u 11), .int 0, .int 0, .int 0, .ref (u 12), .ref (u 13), .ref (u 14), .int 0, .int 0, .ref (u 15), .int 0, .ref (u 16), .int 0, .ref (u 17), .int 0, .ref (u 18), .ref (u 19), .ref (u 20), .ref (u 21)])), (u 1, .inl (k 0, 168, .inl (fun _ => 0))), (u 3, .inl (k 3, 3, .inl (fun _ => 0))), (u 18, .inl (k 0, 4, .inl mf))] s.heap := hF.1
  have hK := hF.2.1
  have hl := lv_entry ([.ref (u 0)]) (n := 1) (Nat.le_of_ble_eq_true rfl)
  rw [lg_entry_eq]
  generalize (lg_sl ([.ref (u 0)]) ++ List.replicate (1 - (lg_sl ([.ref (u 0)])).length) Slot.unset).toArray = ls at hl ⊢
  have hl : lv_has ls 1 [(0, .ref (u 0))] := hl
  refine lv_aload_n hx hb dX10_isLand_0 rfl (lv_at hl 0 rfl) ?_
  refine va_get (D := D) (ci := 10) (v := .ref (u 1)) (C := RX10) (T := TX10) (N := 38) hx hb hT in_X10 hown hK hP 0 rfl rfl 1 (by decide) (hT _ t1263) (fun _ h9 => h9) rfl dX10_isLand_1 ?_
  refine lv_bipush (v := 6) hx hb dX10_isLand_4 (by decide) ?_
  refine va_iald hx hb hK hP 1 0 rfl rfl (by unfold vp_in; decide) dX10_isLand_6 ?_
  refine k_top (y := 0) rfl ?_
  refine lv_if_le (tgt := 14) hx hb dX10_isLand_7 (by decide) (fun c_1 => ?_) (fun c_1 => ?_)
  rotate_left
  · first | exact absurd c_1 (by decide) | exact absurd (by decide) c_1
  refine lv_iconst (v := 0) hx hb dX10_isLand_14 (by decide) ?_
  exact W.zret (v := 0) (ty := .boolean) hx hb hr rfl (fun t ht hW => ⟨0, rfl, rfl, ht⟩) (fun _ h9 => by cases h9) dX10_isLand_15
set_option maxHeartbeats 4000000 in
set_option maxRecDepth 100000 in
theorem c_X10_isPlace (l : Launch) (D : va_G) (k : Nat → ClassId) (u : Nat → Nat) (mf : Nat → Int32) (p0 : Int64)  : Met l yX10_isPlace (.code yX10_isPlace cX10_isPlace 3 (some .boolean) :: TB) (rmk 2) (va_Pc [.ref (u 0), .long p0] (fun U => MWH D k u mf U U.heap)) (vp_Si (fun r => r = 0)) 0 0 (fun _ => False) := by
  refine Met.ofW (cc := cX10_isPlace) (maxL := 3) (ret := (some .boolean)) (by decide) rfl ?_
  intro p e s m args below meth c s₁ B hml hv
  obtain ⟨rfl, hF⟩ := hv
  have hx := B.exec
  have hb := B.bytes
  have hr := B.returns
  have hT : ∀ w ∈ TB, w.before ([.ref (u 0), .long p0] : List Value).toArray s = true := fun w h => atoms_spec (ws := .code yX10_isPlace cX10_isPlace 3 (some .boolean) :: TB) B.pre w (List.mem_cons_of_mem _ h)
  have hown : s.vm.findClass RX10 = some m.cls := findClass_of_methodNamed B.named
  have S : CallFix p m c cX10_isPlace 3 s _ TB RX10 := ⟨hx, hb, hml, hown, hT⟩
  have hP : va_P D vwCl [(u 0, .inr (10, [.int 0, .ref (u 1), .ref (u 2), .ref (u 3), .ref (u 4), .int 0, .ref (u 5), .int 0, .int 0, .int 0, .int 0, .int 0, .int 0, .int (-1), .ref (u 6), .ref (u 7), .ref (u 8), .ref (u 9), .ref (u 10), .ref (u 11), .int 0, .int 0, .int 0, .ref (u 12), .ref (u 13), .ref (u 14), .int 0, .int 0, .ref (u 15), .int 0, .ref (u 16), .int 0, .ref (u 17), .int 0, .ref (u 18), .ref (u 19), .ref (u 20), .ref (u 21)])), (u 1, .inl (k 0, 168, .inl (fun _ => 0))), (u 3, .inl (k 3, 3, .inl (fun _ => 0))), (u 18, .inl (k 0, 4, .inl mf))] s.heap := hF.1
  have hK := hF.2.1
  have hl := lv_entry ([.ref (u 0), .long p0]) (n := 3) (Nat.le_of_ble_eq_true rfl)
  rw [lg_entry_eq]
  generalize (lg_sl ([.ref (u 0), .long p0]) ++ List.replicate (3 - (lg_sl ([.ref (u 0), .long p0])).length) Slot.unset).toArray = ls at hl ⊢
  have hl : lv_has ls 3 [(0, .ref (u 0)), (1, .long p0)] := hl
  refine lv_lload_n hx hb dX10_isPlace_0 rfl (lv_at hl 1 rfl) ?_
  refine lv_lconst (v := 0) hx hb dX10_isPlace_1 (by decide) ?_
  refine lv_aload_n hx hb dX10_isPlace_2 rfl (lv_at hl 0 rfl) ?_
  refine va_get (D := D) (ci := 10) (v := .ref (u 1)) (C := RX10) (T := TX10) (N := 38) hx hb hT in_X10 hown hK hP 0 rfl rfl 1 (by decide) (hT _ t1263) (fun _ h9 => h9) rfl dX10_isPlace_3 ?_
  refine lv_iconst (v := 0) hx hb dX10_isPlace_6 (by decide) ?_
  refine va_iald hx hb hK hP 1 0 rfl rfl (by unfold vp_in; decide) dX10_isPlace_7 ?_
  refine k_top (y := 0) rfl ?_
  refine lv_iconst (v := 1) hx hb dX10_isPlace_8 (by decide) ?_
  refine lv_isub hx hb dX10_isPlace_9 ?_
  refine k_top (y := (-1)) (by decide) ?_
  refine lv_i2l (v := (-1)) hx hb dX10_isPlace_10 (by decide) ?_
  refine ro_S (As := [.long p0, .long 0, .long (-1)]) (rest := []) S (c_X10_in l D k u mf p0 0 (-1)) lkX10_85 ok_X10_in ⟨rfl, rfl, Nat.le_of_ble_eq_true rfl, Nat.le_of_ble_eq_true rfl⟩ (mw_S hF) rfl hl.1 rfl (Nat.le_of_ble_eq_true rfl) ⟨Nat.zero_le _, Nat.zero_le _⟩ dX10_isPlace_11 (fun r_1 er_1 => ?_)
  rcases er_1 with ⟨er_1, gr_1⟩ | ⟨er_1, gr_1⟩
  · subst er_1
    exact absurd gr_1 (no_in _)
  · subst er_1
    exact W.zret (v := 0) (ty := .boolean) hx hb hr rfl (fun t ht hW => ⟨0, rfl, rfl, ht⟩) (fun _ h9 => by cases h9) dX10_isPlace_14
set_option maxHeartbeats 4000000 in
set_option maxRecDepth 100000 in
theorem c_X10_isRoad (l : Launch) (D : va_G) (k : Nat → ClassId) (u : Nat → Nat) (mf : Nat → Int32) (p0 : Int64)  : Met l yX10_isRoad (.code yX10_isRoad cX10_isRoad 3 (some .boolean) :: TB) (rmk 2) (va_Pc [.ref (u 0), .long p0] (fun U => MWH D k u mf U U.heap)) (vp_Si (fun r => r = 0)) 0 0 (fun _ => False) := by
  refine Met.ofW (cc := cX10_isRoad) (maxL := 3) (ret := (some .boolean)) (by decide) rfl ?_
  intro p e s m args below meth c s₁ B hml hv
  obtain ⟨rfl, hF⟩ := hv
  have hx := B.exec
  have hb := B.bytes
  have hr := B.returns
  have hT : ∀ w ∈ TB, w.before ([.ref (u 0), .long p0] : List Value).toArray s = true := fun w h => atoms_spec (ws := .code yX10_isRoad cX10_isRoad 3 (some .boolean) :: TB) B.pre w (List.mem_cons_of_mem _ h)
  have hown : s.vm.findClass RX10 = some m.cls := findClass_of_methodNamed B.named
  have S : CallFix p m c cX10_isRoad 3 s _ TB RX10 := ⟨hx, hb, hml, hown, hT⟩
  have hP : va_P D vwCl [(u 0, .inr (10, [.int 0, .ref (u 1), .ref (u 2), .ref (u 3), .ref (u 4), .int 0, .ref (u 5), .int 0, .int 0, .int 0, .int 0, .int 0, .int 0, .int (-1), .ref (u 6), .ref (u 7), .ref (u 8), .ref (u 9), .ref (u 10), .ref (u 11), .int 0, .int 0, .int 0, .ref (u 12), .ref (u 13), .ref (u 14), .int 0, .int 0, .ref (u 15), .int 0, .ref (u 16), .int 0, .ref (u 17), .int 0, .ref (u 18), .ref (u 19), .ref (u 20), .ref (u 21)])), (u 1, .inl (k 0, 168, .inl (fun _ => 0))), (u 3, .inl (k 3, 3, .inl (fun _ => 0))), (u 18, .inl (k 0, 4, .inl mf))] s.heap := hF.1
  have hK := hF.2.1
  have hl := lv_entry ([.ref (u 0), .long p0]) (n := 3) (Nat.le_of_ble_eq_true rfl)
  rw [lg_entry_eq]
  generalize (lg_sl ([.ref (u 0), .long p0]) ++ List.replicate (3 - (lg_sl ([.ref (u 0), .long p0])).length) Slot.unset).toArray = ls at hl ⊢
  have hl : lv_has ls 3 [(0, .ref (u 0)), (1, .long p0)] := hl
  refine lv_lload_n hx hb dX10_isRoad_0 rfl (lv_at hl 1 rfl) ?_
  refine lv_lconst (v := 0) hx hb dX10_isRoad_1 (by decide) ?_
  refine lv_aload_n hx hb dX10_isRoad_2 rfl (lv_at hl 0 rfl) ?_
  refine va_get (D := D) (ci := 10) (v := .ref (u 1)) (C := RX10) (T := TX10) (N := 38) hx hb hT in_X10 hown hK hP 0 rfl rfl 1 (by decide) (hT _ t1263) (fun _ h9 => h9) rfl dX10_isRoad_3 ?_
  refine lv_iconst (v := 2) hx hb dX10_isRoad_6 (by decide) ?_
  refine va_iald hx hb hK hP 1 0 rfl rfl (by unfold vp_in; decide) dX10_isRoad_7 ?_
  refine k_top (y := 0) rfl ?_
  refine lv_iconst (v := 1) hx hb dX10_isRoad_8 (by decide) ?_
  refine lv_isub hx hb dX10_isRoad_9 ?_
  refine k_top (y := (-1)) (by decide) ?_
  refine lv_i2l (v := (-1)) hx hb dX10_isRoad_10 (by decide) ?_
  refine ro_S (As := [.long p0, .long 0, .long (-1)]) (rest := []) S (c_X10_in l D k u mf p0 0 (-1)) lkX10_85 ok_X10_in ⟨rfl, rfl, Nat.le_of_ble_eq_true rfl, Nat.le_of_ble_eq_true rfl⟩ (mw_S hF) rfl hl.1 rfl (Nat.le_of_ble_eq_true rfl) ⟨Nat.zero_le _, Nat.zero_le _⟩ dX10_isRoad_11 (fun r_1 er_1 => ?_)
  rcases er_1 with ⟨er_1, gr_1⟩ | ⟨er_1, gr_1⟩
  · subst er_1
    exact absurd gr_1 (no_in _)
  · subst er_1
    exact W.zret (v := 0) (ty := .boolean) hx hb hr rfl (fun t ht hW => ⟨0, rfl, rfl, ht⟩) (fun _ h9 => by cases h9) dX10_isRoad_14
set_option maxHeartbeats 4000000 in
set_option maxRecDepth 100000 in
theorem c_X10_isWheel (l : Launch) (D : va_G) (k : Nat → ClassId) (u : Nat → Nat) (mf : Nat → Int32) (p0 : Int32)  : Met l yX10_isWheel (.code yX10_isWheel cX10_isWheel 2 (some .boolean) :: TB) (rmk 2) (va_Pc [.ref (u 0), .int p0] (fun U => MWH D k u mf U U.heap)) (vp_Si (fun r => r = 0)) 0 0 (fun _ => False) := by
  refine Met.ofW (cc := cX10_isWheel) (maxL := 2) (ret := (some .boolean)) (by decide) rfl ?_
  intro p e s m args below meth c s₁ B hml hv
  obtain ⟨rfl, hF⟩ := hv
  have hx := B.exec
  have hb := B.bytes
  have hr := B.returns
  have hT : ∀ w ∈ TB, w.before ([.ref (u 0), .int p0] : List Value).toArray s = true := fun w h => atoms_spec (ws := .code yX10_isWheel cX10_isWheel 2 (some .boolean) :: TB) B.pre w (List.mem_cons_of_mem _ h)
  have hown : s.vm.findClass RX10 = some m.cls := findClass_of_methodNamed B.named
  have S : CallFix p m c cX10_isWheel 2 s _ TB RX10 := ⟨hx, hb, hml, hown, hT⟩
  have hP : va_P D vwCl [(u 0, .inr (10, [.int 0, .ref (u 1), .ref (u 2), .ref (u 3), .ref (u 4), .int 0, .ref (u 5), .int 0, .int 0, .int 0, .int 0, .int 0, .int 0, .int (-1), .ref (u 6), .ref (u 7), .ref (u 8), .ref (u 9), .ref (u 10), .ref (u 11), .int 0, .int 0, .int 0, .ref (u 12), .ref (u 13), .ref (u 14), .int 0, .int 0, .ref (u 15), .int 0, .ref (u 16), .int 0, .ref (u 17), .int 0, .ref (u 18), .ref (u 19), .ref (u 20), .ref (u 21)])), (u 1, .inl (k 0, 168, .inl (fun _ => 0))), (u 3, .inl (k 3, 3, .inl (fun _ => 0))), (u 18, .inl (k 0, 4, .inl mf))] s.heap := hF.1
  have hK := hF.2.1
  have hl := lv_entry ([.ref (u 0), .int p0]) (n := 2) (Nat.le_of_ble_eq_true rfl)
  rw [lg_entry_eq]
  generalize (lg_sl ([.ref (u 0), .int p0]) ++ List.replicate (2 - (lg_sl ([.ref (u 0), .int p0])).length) Slot.unset).toArray = ls at hl ⊢
  have hl : lv_has ls 2 [(0, .ref (u 0)), (1, .int p0)] := hl
  refine lv_iload_n hx hb dX10_isWheel_0 rfl (lv_at hl 1 rfl) ?_
  refine lv_i2l (v := p0.toInt64) hx hb dX10_isWheel_1 rfl ?_
  refine lv_lconst (v := 0) hx hb dX10_isWheel_2 (by decide) ?_
  refine lv_aload_n hx hb dX10_isWheel_3 rfl (lv_at hl 0 rfl) ?_
  refine va_get (D := D) (ci := 10) (v := .ref (u 1)) (C := RX10) (T := TX10) (N := 38) hx hb hT in_X10 hown hK hP 0 rfl rfl 1 (by decide) (hT _ t1263) (fun _ h9 => h9) rfl dX10_isWheel_4 ?_
  refine lv_iconst (v := 3) hx hb dX10_isWheel_7 (by decide) ?_
  refine va_iald hx hb hK hP 1 0 rfl rfl (by unfold vp_in; decide) dX10_isWheel_8 ?_
  refine k_top (y := 0) rfl ?_
  refine lv_iconst (v := 1) hx hb dX10_isWheel_9 (by decide) ?_
  refine lv_isub hx hb dX10_isWheel_10 ?_
  refine k_top (y := (-1)) (by decide) ?_
  refine lv_i2l (v := (-1)) hx hb dX10_isWheel_11 (by decide) ?_
  refine ro_S (As := [.long p0.toInt64, .long 0, .long (-1)]) (rest := []) S (c_X10_in l D k u mf p0.toInt64 0 (-1)) lkX10_85 ok_X10_in ⟨rfl, rfl, Nat.le_of_ble_eq_true rfl, Nat.le_of_ble_eq_true rfl⟩ (mw_S hF) rfl hl.1 rfl (Nat.le_of_ble_eq_true rfl) ⟨Nat.zero_le _, Nat.zero_le _⟩ dX10_isWheel_12 (fun r_1 er_1 => ?_)
  rcases er_1 with ⟨er_1, gr_1⟩ | ⟨er_1, gr_1⟩
  · subst er_1
    exact absurd gr_1 (no_in _)
  · subst er_1
    exact W.zret (v := 0) (ty := .boolean) hx hb hr rfl (fun t ht hW => ⟨0, rfl, rfl, ht⟩) (fun _ h9 => by cases h9) dX10_isWheel_15
set_option maxHeartbeats 4000000 in
set_option maxRecDepth 100000 in
theorem c_X10_isCart (l : Launch) (D : va_G) (k : Nat → ClassId) (u : Nat → Nat) (mf : Nat → Int32) (p0 : Int32)  : Met l yX10_isCart (.code yX10_isCart cX10_isCart 2 (some .boolean) :: TB) (rmk 2) (va_Pc [.ref (u 0), .int p0] (fun U => MWH D k u mf U U.heap)) (vp_Si (fun r => r = 0)) 0 0 (fun _ => False) := by
  refine Met.ofW (cc := cX10_isCart) (maxL := 2) (ret := (some .boolean)) (by decide) rfl ?_
  intro p e s m args below meth c s₁ B hml hv
  obtain ⟨rfl, hF⟩ := hv
  have hx := B.exec
  have hb := B.bytes
  have hr := B.returns
  have hT : ∀ w ∈ TB, w.before ([.ref (u 0), .int p0] : List Value).toArray s = true := fun w h => atoms_spec (ws := .code yX10_isCart cX10_isCart 2 (some .boolean) :: TB) B.pre w (List.mem_cons_of_mem _ h)
  have hown : s.vm.findClass RX10 = some m.cls := findClass_of_methodNamed B.named
  have S : CallFix p m c cX10_isCart 2 s _ TB RX10 := ⟨hx, hb, hml, hown, hT⟩
  have hP : va_P D vwCl [(u 0, .inr (10, [.int 0, .ref (u 1), .ref (u 2), .ref (u 3), .ref (u 4), .int 0, .ref (u 5), .int 0, .int 0, .int 0, .int 0, .int 0, .int 0, .int (-1), .ref (u 6), .ref (u 7), .ref (u 8), .ref (u 9), .ref (u 10), .ref (u 11), .int 0, .int 0, .int 0, .ref (u 12), .ref (u 13), .ref (u 14), .int 0, .int 0, .ref (u 15), .int 0, .ref (u 16), .int 0, .ref (u 17), .int 0, .ref (u 18), .ref (u 19), .ref (u 20), .ref (u 21)])), (u 1, .inl (k 0, 168, .inl (fun _ => 0))), (u 3, .inl (k 3, 3, .inl (fun _ => 0))), (u 18, .inl (k 0, 4, .inl mf))] s.heap := hF.1
  have hK := hF.2.1
  have hl := lv_entry ([.ref (u 0), .int p0]) (n := 2) (Nat.le_of_ble_eq_true rfl)
  rw [lg_entry_eq]
  generalize (lg_sl ([.ref (u 0), .int p0]) ++ List.replicate (2 - (lg_sl ([.ref (u 0), .int p0])).length) Slot.unset).toArray = ls at hl ⊢
  have hl : lv_has ls 2 [(0, .ref (u 0)), (1, .int p0)] := hl
  refine lv_iload_n hx hb dX10_isCart_0 rfl (lv_at hl 1 rfl) ?_
  refine lv_i2l (v := p0.toInt64) hx hb dX10_isCart_1 rfl ?_
  refine lv_lconst (v := 0) hx hb dX10_isCart_2 (by decide) ?_
  refine lv_aload_n hx hb dX10_isCart_3 rfl (lv_at hl 0 rfl) ?_
  refine va_get (D := D) (ci := 10) (v := .ref (u 1)) (C := RX10) (T := TX10) (N := 38) hx hb hT in_X10 hown hK hP 0 rfl rfl 1 (by decide) (hT _ t1263) (fun _ h9 => h9) rfl dX10_isCart_4 ?_
  refine lv_iconst (v := 4) hx hb dX10_isCart_7 (by decide) ?_
  refine va_iald hx hb hK hP 1 0 rfl rfl (by unfold vp_in; decide) dX10_isCart_8 ?_
  refine k_top (y := 0) rfl ?_
  refine lv_iconst (v := 1) hx hb dX10_isCart_9 (by decide) ?_
  refine lv_isub hx hb dX10_isCart_10 ?_
  refine k_top (y := (-1)) (by decide) ?_
  refine lv_i2l (v := (-1)) hx hb dX10_isCart_11 (by decide) ?_
  refine ro_S (As := [.long p0.toInt64, .long 0, .long (-1)]) (rest := []) S (c_X10_in l D k u mf p0.toInt64 0 (-1)) lkX10_85 ok_X10_in ⟨rfl, rfl, Nat.le_of_ble_eq_true rfl, Nat.le_of_ble_eq_true rfl⟩ (mw_S hF) rfl hl.1 rfl (Nat.le_of_ble_eq_true rfl) ⟨Nat.zero_le _, Nat.zero_le _⟩ dX10_isCart_12 (fun r_1 er_1 => ?_)
  rcases er_1 with ⟨er_1, gr_1⟩ | ⟨er_1, gr_1⟩
  · subst er_1
    exact absurd gr_1 (no_in _)
  · subst er_1
    exact W.zret (v := 0) (ty := .boolean) hx hb hr rfl (fun t ht hW => ⟨0, rfl, rfl, ht⟩) (fun _ h9 => by cases h9) dX10_isCart_15
set_option maxHeartbeats 4000000 in
set_option maxRecDepth 100000 in
theorem c_X10_isSlot (l : Launch) (D : va_G) (k : Nat → ClassId) (u : Nat → Nat) (mf : Nat → Int32) (p0 : Int32)  : Met l yX10_isSlot (.code yX10_isSlot cX10_isSlot 1 (some .boolean) :: TB) (rmk 2) (va_Pc [.int p0] (fun U => MWH D k u mf U U.heap)) (vp_Si (fun r => (r = 1 ∧ in4 p0) ∨ (r = 0 ∧ (p0 < 0 ∨ 4 ≤ p0)))) 0 0 (fun _ => False) := by
  refine Met.ofW (cc := cX10_isSlot) (maxL := 1) (ret := (some .boolean)) (by decide) rfl ?_
  intro p e s m args below meth c s₁ B hml hv
  obtain ⟨rfl, hF⟩ := hv
  have hx := B.exec
  have hb := B.bytes
  have hr := B.returns
  have hT : ∀ w ∈ TB, w.before ([.int p0] : List Value).toArray s = true := fun w h => atoms_spec (ws := .code yX10_isSlot cX10_isSlot 1 (some .boolean) :: TB) B.pre w (List.mem_cons_of_mem _ h)
  have hown : s.vm.findClass RX10 = some m.cls := findClass_of_methodNamed B.named
  have S : CallFix p m c cX10_isSlot 1 s _ TB RX10 := ⟨hx, hb, hml, hown, hT⟩
  have hP : va_P D vwCl [(u 0, .inr (10, [.int 0, .ref (u 1), .ref (u 2), .ref (u 3), .ref (u 4), .int 0, .ref (u 5), .int 0, .int 0, .int 0, .int 0, .int 0, .int 0, .int (-1), .ref (u 6), .ref (u 7), .ref (u 8), .ref (u 9), .ref (u 10), .ref (u 11), .int 0, .int 0, .int 0, .ref (u 12), .ref (u 13), .ref (u 14), .int 0, .int 0, .ref (u 15), .int 0, .ref (u 16), .int 0, .ref (u 17), .int 0, .ref (u 18), .ref (u 19), .ref (u 20), .ref (u 21)])), (u 1, .inl (k 0, 168, .inl (fun _ => 0))), (u 3, .inl (k 3, 3, .inl (fun _ => 0))), (u 18, .inl (k 0, 4, .inl mf))] s.heap := hF.1
  have hK := hF.2.1
  have hl := lv_entry ([.int p0]) (n := 1) (Nat.le_of_ble_eq_true rfl)
  rw [lg_entry_eq]
  generalize (lg_sl ([.int p0]) ++ List.replicate (1 - (lg_sl ([.int p0])).length) Slot.unset).toArray = ls at hl ⊢
  have hl : lv_has ls 1 [(0, .int p0)] := hl
  refine lv_iload_n hx hb dX10_isSlot_0 rfl (lv_at hl 0 rfl) ?_
  refine lv_i2l (v := p0.toInt64) hx hb dX10_isSlot_1 rfl ?_
  refine lv_lconst (v := 0) hx hb dX10_isSlot_2 (by decide) ?_
  refine lv_ldc2 (v := 3) hx hb hown (hT _ t1665) dX10_isSlot_3 ?_
  refine ro_S (As := [.long p0.toInt64, .long 0, .long 3]) (rest := []) S (c_X10_in l D k u mf p0.toInt64 0 3) lkX10_85 ok_X10_in ⟨rfl, rfl, Nat.le_of_ble_eq_true rfl, Nat.le_of_ble_eq_true rfl⟩ (mw_S hF) rfl hl.1 rfl (Nat.le_of_ble_eq_true rfl) ⟨Nat.zero_le _, Nat.zero_le _⟩ dX10_isSlot_6 (fun r_1 er_1 => ?_)
  rcases er_1 with ⟨er_1, gr_1⟩ | ⟨er_1, gr_1⟩
  · subst er_1
    exact W.zret (v := 1) (ty := .boolean) hx hb hr rfl (fun t ht hW => ⟨1, rfl, Or.inl ⟨rfl, in4_of gr_1⟩, ht⟩) (fun _ h9 => by cases h9) dX10_isSlot_9
  · subst er_1
    exact W.zret (v := 0) (ty := .boolean) hx hb hr rfl (fun t ht hW => ⟨0, rfl, Or.inr ⟨rfl, out4_of gr_1⟩, ht⟩) (fun _ h9 => by cases h9) dX10_isSlot_9
set_option maxHeartbeats 4000000 in
set_option maxRecDepth 100000 in
theorem c_X10_canWant (l : Launch) (D : va_G) (k : Nat → ClassId) (u : Nat → Nat) (mf : Nat → Int32) (p0 : Int32) (p1 : Int64)  : Met l yX10_canWant (.code yX10_canWant cX10_canWant 4 (some .boolean) :: TB) (rmk 3) (va_Pc [.ref (u 0), .int p0, .long p1] (fun U => MWH D k u mf U U.heap)) (vp_Si (fun r => r = 0)) 0 0 (fun _ => False) := by
  refine Met.ofW (cc := cX10_canWant) (maxL := 4) (ret := (some .boolean)) (by decide) rfl ?_
  intro p e s m args below meth c s₁ B hml hv
  obtain ⟨rfl, hF⟩ := hv
  have hx := B.exec
  have hb := B.bytes
  have hr := B.returns
  have hT : ∀ w ∈ TB, w.before ([.ref (u 0), .int p0, .long p1] : List Value).toArray s = true := fun w h => atoms_spec (ws := .code yX10_canWant cX10_canWant 4 (some .boolean) :: TB) B.pre w (List.mem_cons_of_mem _ h)
  have hown : s.vm.findClass RX10 = some m.cls := findClass_of_methodNamed B.named
  have S : CallFix p m c cX10_canWant 4 s _ TB RX10 := ⟨hx, hb, hml, hown, hT⟩
  have hP : va_P D vwCl [(u 0, .inr (10, [.int 0, .ref (u 1), .ref (u 2), .ref (u 3), .ref (u 4), .int 0, .ref (u 5), .int 0, .int 0, .int 0, .int 0, .int 0, .int 0, .int (-1), .ref (u 6), .ref (u 7), .ref (u 8), .ref (u 9), .ref (u 10), .ref (u 11), .int 0, .int 0, .int 0, .ref (u 12), .ref (u 13), .ref (u 14), .int 0, .int 0, .ref (u 15), .int 0, .ref (u 16), .int 0, .ref (u 17), .int 0, .ref (u 18), .ref (u 19), .ref (u 20), .ref (u 21)])), (u 1, .inl (k 0, 168, .inl (fun _ => 0))), (u 3, .inl (k 3, 3, .inl (fun _ => 0))), (u 18, .inl (k 0, 4, .inl mf))] s.heap := hF.1
  have hK := hF.2.1
  have hl := lv_entry ([.ref (u 0), .int p0, .long p1]) (n := 4) (Nat.le_of_ble_eq_true rfl)
  rw [lg_entry_eq]
  generalize (lg_sl ([.ref (u 0), .int p0, .long p1]) ++ List.replicate (4 - (lg_sl ([.ref (u 0), .int p0, .long p1])).length) Slot.unset).toArray = ls at hl ⊢
  have hl : lv_has ls 4 [(0, .ref (u 0)), (1, .int p0), (2, .long p1)] := hl
  refine lv_aload_n hx hb dX10_canWant_0 rfl (lv_at hl 0 rfl) ?_
  refine lv_iload_n hx hb dX10_canWant_1 rfl (lv_at hl 1 rfl) ?_
  refine ro_V (As := [.int p0]) (rest := []) S (c_X10_isCart l D k u mf p0) lkX10_279 ok_X10_isCart ⟨rfl, rfl, Nat.le_of_ble_eq_true rfl, Nat.le_of_ble_eq_true rfl⟩ (mw_V (ci := 10) (q0 := 0) hF rfl rfl) rfl hl.1 rfl (Nat.le_of_ble_eq_true rfl) ⟨Nat.zero_le _, Nat.zero_le _⟩ dX10_canWant_2 (fun r_1 er_1 => ?_)
  subst er_1
  refine lv_if_eq (tgt := 24) hx hb dX10_canWant_5 (by decide) (fun c_2 => ?_) (fun c_2 => ?_)
  rotate_left
  · first | exact absurd c_2 (by decide) | exact absurd (by decide) c_2
  refine lv_iconst (v := 0) hx hb dX10_canWant_24 (by decide) ?_
  exact W.zret (v := 0) (ty := .boolean) hx hb hr rfl (fun t ht hW => ⟨0, rfl, rfl, ht⟩) (fun _ h9 => by cases h9) dX10_canWant_25
set_option maxHeartbeats 4000000 in
set_option maxRecDepth 100000 in
theorem c_X10_asksRow (l : Launch) (D : va_G) (k : Nat → ClassId) (u : Nat → Nat) (mf : Nat → Int32) (p0 : Int32) (p1 : Int32)  : Met l yX10_asksRow (.code yX10_asksRow cX10_asksRow 4 (some .int) :: TB) (rmk 3) (va_Pc [.ref (u 0), .int p0, .int p1] (fun U => MWH D k u mf U U.heap)) (vp_Si (fun r => r = (-2))) 0 0 (fun _ => False) := by
  refine Met.ofW (cc := cX10_asksRow) (maxL := 4) (ret := (some .int)) (by decide) rfl ?_
  intro p e s m args below meth c s₁ B hml hv
  obtain ⟨rfl, hF⟩ := hv
  have hx := B.exec
  have hb := B.bytes
  have hr := B.returns
  have hT : ∀ w ∈ TB, w.before ([.ref (u 0), .int p0, .int p1] : List Value).toArray s = true := fun w h => atoms_spec (ws := .code yX10_asksRow cX10_asksRow 4 (some .int) :: TB) B.pre w (List.mem_cons_of_mem _ h)
  have hown : s.vm.findClass RX10 = some m.cls := findClass_of_methodNamed B.named
  have S : CallFix p m c cX10_asksRow 4 s _ TB RX10 := ⟨hx, hb, hml, hown, hT⟩
  have hP : va_P D vwCl [(u 0, .inr (10, [.int 0, .ref (u 1), .ref (u 2), .ref (u 3), .ref (u 4), .int 0, .ref (u 5), .int 0, .int 0, .int 0, .int 0, .int 0, .int 0, .int (-1), .ref (u 6), .ref (u 7), .ref (u 8), .ref (u 9), .ref (u 10), .ref (u 11), .int 0, .int 0, .int 0, .ref (u 12), .ref (u 13), .ref (u 14), .int 0, .int 0, .ref (u 15), .int 0, .ref (u 16), .int 0, .ref (u 17), .int 0, .ref (u 18), .ref (u 19), .ref (u 20), .ref (u 21)])), (u 1, .inl (k 0, 168, .inl (fun _ => 0))), (u 3, .inl (k 3, 3, .inl (fun _ => 0))), (u 18, .inl (k 0, 4, .inl mf))] s.heap := hF.1
  have hK := hF.2.1
  have hl := lv_entry ([.ref (u 0), .int p0, .int p1]) (n := 4) (Nat.le_of_ble_eq_true rfl)
  rw [lg_entry_eq]
  generalize (lg_sl ([.ref (u 0), .int p0, .int p1]) ++ List.replicate (4 - (lg_sl ([.ref (u 0), .int p0, .int p1])).length) Slot.unset).toArray = ls at hl ⊢
  have hl : lv_has ls 4 [(0, .ref (u 0)), (1, .int p0), (2, .int p1)] := hl
  refine lv_iload_n hx hb dX10_asksRow_0 rfl (lv_at hl 1 rfl) ?_
  refine ro_S (As := [.int p0]) (rest := []) S (c_X10_isSlot l D k u mf p0) lkX10_300 ok_X10_isSlot ⟨rfl, rfl, Nat.le_of_ble_eq_true rfl, Nat.le_of_ble_eq_true rfl⟩ (mw_S hF) rfl hl.1 rfl (Nat.le_of_ble_eq_true rfl) ⟨Nat.zero_le _, Nat.zero_le _⟩ dX10_asksRow_1 (fun r_1 er_1 => ?_)
  rcases er_1 with ⟨er_1, gr_1⟩ | ⟨er_1, gr_1⟩
  · subst er_1
    refine lv_if_eq (tgt := 15) hx hb dX10_asksRow_4 (by decide) (fun c_2 => ?_) (fun c_2 => ?_)
    · first | exact absurd c_2 (by decide) | exact absurd (by decide) c_2
    refine lv_aload_n hx hb dX10_asksRow_7 rfl (lv_at hl 0 rfl) ?_
    refine lv_iload_n hx hb dX10_asksRow_8 rfl (lv_at hl 2 rfl) ?_
    refine ro_V (As := [.int p1]) (rest := []) S (c_X10_isCart l D k u mf p1) lkX10_279 ok_X10_isCart ⟨rfl, rfl, Nat.le_of_ble_eq_true rfl, Nat.le_of_ble_eq_true rfl⟩ (mw_V (ci := 10) (q0 := 0) hF rfl rfl) rfl hl.1 rfl (Nat.le_of_ble_eq_true rfl) ⟨Nat.zero_le _, Nat.zero_le _⟩ dX10_asksRow_9 (fun r_3 er_3 => ?_)
    subst er_3
    refine lv_if_ne (tgt := 18) hx hb dX10_asksRow_12 (by decide) (fun c_4 => ?_) (fun c_4 => ?_)
    · first | exact absurd c_4 (by decide) | exact absurd (by decide) c_4
    refine lv_bipush (v := (-2)) hx hb dX10_asksRow_15 (by decide) ?_
    exact W.iret (v := (-2)) hx hb hr (fun t ht hW => ⟨(-2), rfl, rfl, ht⟩) (fun _ h9 => by cases h9) dX10_asksRow_17
  · subst er_1
    refine lv_if_eq (tgt := 15) hx hb dX10_asksRow_4 (by decide) (fun c_5 => ?_) (fun c_5 => ?_)
    rotate_left
    · first | exact absurd c_5 (by decide) | exact absurd (by decide) c_5
    refine lv_bipush (v := (-2)) hx hb dX10_asksRow_15 (by decide) ?_
    exact W.iret (v := (-2)) hx hb hr (fun t ht hW => ⟨(-2), rfl, rfl, ht⟩) (fun _ h9 => by cases h9) dX10_asksRow_17
set_option maxHeartbeats 4000000 in
set_option maxRecDepth 100000 in
theorem c_X10_asksSeen (l : Launch) (D : va_G) (k : Nat → ClassId) (u : Nat → Nat) (mf : Nat → Int32) (p0 : Int32)  : Met l yX10_asksSeen (.code yX10_asksSeen cX10_asksSeen 3 (some .int) :: TB) (rmk 3) (va_Pc [.ref (u 0), .int p0] (fun U => MWH D k u mf U U.heap)) (vp_Si (fun r => r = (-2))) 0 0 (fun _ => False) := by
  refine Met.ofW (cc := cX10_asksSeen) (maxL := 3) (ret := (some .int)) (by decide) rfl ?_
  intro p e s m args below meth c s₁ B hml hv
  obtain ⟨rfl, hF⟩ := hv
  have hx := B.exec
  have hb := B.bytes
  have hr := B.returns
  have hT : ∀ w ∈ TB, w.before ([.ref (u 0), .int p0] : List Value).toArray s = true := fun w h => atoms_spec (ws := .code yX10_asksSeen cX10_asksSeen 3 (some .int) :: TB) B.pre w (List.mem_cons_of_mem _ h)
  have hown : s.vm.findClass RX10 = some m.cls := findClass_of_methodNamed B.named
  have S : CallFix p m c cX10_asksSeen 3 s _ TB RX10 := ⟨hx, hb, hml, hown, hT⟩
  have hP : va_P D vwCl [(u 0, .inr (10, [.int 0, .ref (u 1), .ref (u 2), .ref (u 3), .ref (u 4), .int 0, .ref (u 5), .int 0, .int 0, .int 0, .int 0, .int 0, .int 0, .int (-1), .ref (u 6), .ref (u 7), .ref (u 8), .ref (u 9), .ref (u 10), .ref (u 11), .int 0, .int 0, .int 0, .ref (u 12), .ref (u 13), .ref (u 14), .int 0, .int 0, .ref (u 15), .int 0, .ref (u 16), .int 0, .ref (u 17), .int 0, .ref (u 18), .ref (u 19), .ref (u 20), .ref (u 21)])), (u 1, .inl (k 0, 168, .inl (fun _ => 0))), (u 3, .inl (k 3, 3, .inl (fun _ => 0))), (u 18, .inl (k 0, 4, .inl mf))] s.heap := hF.1
  have hK := hF.2.1
  have hl := lv_entry ([.ref (u 0), .int p0]) (n := 3) (Nat.le_of_ble_eq_true rfl)
  rw [lg_entry_eq]
  generalize (lg_sl ([.ref (u 0), .int p0]) ++ List.replicate (3 - (lg_sl ([.ref (u 0), .int p0])).length) Slot.unset).toArray = ls at hl ⊢
  have hl : lv_has ls 3 [(0, .ref (u 0)), (1, .int p0)] := hl
  refine lv_iload_n hx hb dX10_asksSeen_0 rfl (lv_at hl 1 rfl) ?_
  refine ro_S (As := [.int p0]) (rest := []) S (c_X10_isSlot l D k u mf p0) lkX10_300 ok_X10_isSlot ⟨rfl, rfl, Nat.le_of_ble_eq_true rfl, Nat.le_of_ble_eq_true rfl⟩ (mw_S hF) rfl hl.1 rfl (Nat.le_of_ble_eq_true rfl) ⟨Nat.zero_le _, Nat.zero_le _⟩ dX10_asksSeen_1 (fun r_1 er_1 => ?_)
  rcases er_1 with ⟨er_1, gr_1⟩ | ⟨er_1, gr_1⟩
  · subst er_1
    refine lv_if_eq (tgt := 14) hx hb dX10_asksSeen_4 (by decide) (fun c_2 => ?_) (fun c_2 => ?_)
    · first | exact absurd c_2 (by decide) | exact absurd (by decide) c_2
    refine lv_aload_n hx hb dX10_asksSeen_7 rfl (lv_at hl 0 rfl) ?_
    refine ro_V (As := []) (rest := []) S (c_X10_isLand l D k u mf ) lkX10_297 ok_X10_isLand ⟨rfl, rfl, Nat.le_of_ble_eq_true rfl, Nat.le_of_ble_eq_true rfl⟩ (mw_V (ci := 10) (q0 := 0) hF rfl rfl) rfl hl.1 rfl (Nat.le_of_ble_eq_true rfl) ⟨Nat.zero_le _, Nat.zero_le _⟩ dX10_asksSeen_8 (fun r_3 er_3 => ?_)
    subst er_3
    refine lv_if_ne (tgt := 17) hx hb dX10_asksSeen_11 (by decide) (fun c_4 => ?_) (fun c_4 => ?_)
    · first | exact absurd c_4 (by decide) | exact absurd (by decide) c_4
    refine lv_bipush (v := (-2)) hx hb dX10_asksSeen_14 (by decide) ?_
    exact W.iret (v := (-2)) hx hb hr (fun t ht hW => ⟨(-2), rfl, rfl, ht⟩) (fun _ h9 => by cases h9) dX10_asksSeen_16
  · subst er_1
    refine lv_if_eq (tgt := 14) hx hb dX10_asksSeen_4 (by decide) (fun c_5 => ?_) (fun c_5 => ?_)
    rotate_left
    · first | exact absurd c_5 (by decide) | exact absurd (by decide) c_5
    refine lv_bipush (v := (-2)) hx hb dX10_asksSeen_14 (by decide) ?_
    exact W.iret (v := (-2)) hx hb hr (fun t ht hW => ⟨(-2), rfl, rfl, ht⟩) (fun _ h9 => by cases h9) dX10_asksSeen_16
set_option maxHeartbeats 4000000 in
set_option maxRecDepth 100000 in
theorem c_X10_isDrawn (l : Launch) (D : va_G) (k : Nat → ClassId) (u : Nat → Nat) (mf : Nat → Int32) (p0 : Int32) (p1 : Int32) (p2 : Int32)  : Met l yX10_isDrawn (.code yX10_isDrawn cX10_isDrawn 4 (some .boolean) :: TB) (rmk 3) (va_Pc [.ref (u 0), .int p0, .int p1, .int p2] (fun U => MWH D k u mf U U.heap)) (vp_Si (fun r => r = 0)) 0 0 (fun _ => False) := by
  refine Met.ofW (cc := cX10_isDrawn) (maxL := 4) (ret := (some .boolean)) (by decide) rfl ?_
  intro p e s m args below meth c s₁ B hml hv
  obtain ⟨rfl, hF⟩ := hv
  have hx := B.exec
  have hb := B.bytes
  have hr := B.returns
  have hT : ∀ w ∈ TB, w.before ([.ref (u 0), .int p0, .int p1, .int p2] : List Value).toArray s = true := fun w h => atoms_spec (ws := .code yX10_isDrawn cX10_isDrawn 4 (some .boolean) :: TB) B.pre w (List.mem_cons_of_mem _ h)
  have hown : s.vm.findClass RX10 = some m.cls := findClass_of_methodNamed B.named
  have S : CallFix p m c cX10_isDrawn 4 s _ TB RX10 := ⟨hx, hb, hml, hown, hT⟩
  have hP : va_P D vwCl [(u 0, .inr (10, [.int 0, .ref (u 1), .ref (u 2), .ref (u 3), .ref (u 4), .int 0, .ref (u 5), .int 0, .int 0, .int 0, .int 0, .int 0, .int 0, .int (-1), .ref (u 6), .ref (u 7), .ref (u 8), .ref (u 9), .ref (u 10), .ref (u 11), .int 0, .int 0, .int 0, .ref (u 12), .ref (u 13), .ref (u 14), .int 0, .int 0, .ref (u 15), .int 0, .ref (u 16), .int 0, .ref (u 17), .int 0, .ref (u 18), .ref (u 19), .ref (u 20), .ref (u 21)])), (u 1, .inl (k 0, 168, .inl (fun _ => 0))), (u 3, .inl (k 3, 3, .inl (fun _ => 0))), (u 18, .inl (k 0, 4, .inl mf))] s.heap := hF.1
  have hK := hF.2.1
  have hl := lv_entry ([.ref (u 0), .int p0, .int p1, .int p2]) (n := 4) (Nat.le_of_ble_eq_true rfl)
  rw [lg_entry_eq]
  generalize (lg_sl ([.ref (u 0), .int p0, .int p1, .int p2]) ++ List.replicate (4 - (lg_sl ([.ref (u 0), .int p0, .int p1, .int p2])).length) Slot.unset).toArray = ls at hl ⊢
  have hl : lv_has ls 4 [(0, .ref (u 0)), (1, .int p0), (2, .int p1), (3, .int p2)] := hl
  refine lv_iload_n hx hb dX10_isDrawn_0 rfl (lv_at hl 1 rfl) ?_
  refine lv_i2l (v := p0.toInt64) hx hb dX10_isDrawn_1 rfl ?_
  refine lv_lconst (v := 0) hx hb dX10_isDrawn_2 (by decide) ?_
  refine lv_ldc2 (v := 2000000000) hx hb hown (hT _ t1897) dX10_isDrawn_3 ?_
  refine ro_S (As := [.long p0.toInt64, .long 0, .long 2000000000]) (rest := []) S (c_X10_in l D k u mf p0.toInt64 0 2000000000) lkX10_85 ok_X10_in ⟨rfl, rfl, Nat.le_of_ble_eq_true rfl, Nat.le_of_ble_eq_true rfl⟩ (mw_S hF) rfl hl.1 rfl (Nat.le_of_ble_eq_true rfl) ⟨Nat.zero_le _, Nat.zero_le _⟩ dX10_isDrawn_6 (fun r_1 er_1 => ?_)
  rcases er_1 with ⟨er_1, gr_1⟩ | ⟨er_1, gr_1⟩
  · subst er_1
    refine lv_if_eq (tgt := 36) hx hb dX10_isDrawn_9 (by decide) (fun c_2 => ?_) (fun c_2 => ?_)
    · first | exact absurd c_2 (by decide) | exact absurd (by decide) c_2
    refine lv_aload_n hx hb dX10_isDrawn_12 rfl (lv_at hl 0 rfl) ?_
    refine lv_iload_n hx hb dX10_isDrawn_13 rfl (lv_at hl 2 rfl) ?_
    refine ro_V (As := [.int p1]) (rest := []) S (c_X10_isCart l D k u mf p1) lkX10_279 ok_X10_isCart ⟨rfl, rfl, Nat.le_of_ble_eq_true rfl, Nat.le_of_ble_eq_true rfl⟩ (mw_V (ci := 10) (q0 := 0) hF rfl rfl) rfl hl.1 rfl (Nat.le_of_ble_eq_true rfl) ⟨Nat.zero_le _, Nat.zero_le _⟩ dX10_isDrawn_14 (fun r_3 er_3 => ?_)
    subst er_3
    refine lv_if_eq (tgt := 36) hx hb dX10_isDrawn_17 (by decide) (fun c_4 => ?_) (fun c_4 => ?_)
    rotate_left
    · first | exact absurd c_4 (by decide) | exact absurd (by decide) c_4
    refine lv_iconst (v := 0) hx hb dX10_isDrawn_36 (by decide) ?_
    exact W.zret (v := 0) (ty := .boolean) hx hb hr rfl (fun t ht hW => ⟨0, rfl, rfl, ht⟩) (fun _ h9 => by cases h9) dX10_isDrawn_37
  · subst er_1
    refine lv_if_eq (tgt := 36) hx hb dX10_isDrawn_9 (by decide) (fun c_5 => ?_) (fun c_5 => ?_)
    rotate_left
    · first | exact absurd c_5 (by decide) | exact absurd (by decide) c_5
    refine lv_iconst (v := 0) hx hb dX10_isDrawn_36 (by decide) ?_
    exact W.zret (v := 0) (ty := .boolean) hx hb hr rfl (fun t ht hW => ⟨0, rfl, rfl, ht⟩) (fun _ h9 => by cases h9) dX10_isDrawn_37
set_option maxHeartbeats 4000000 in
set_option maxRecDepth 100000 in
theorem c_X10_road (l : Launch) (D : va_G) (k : Nat → ClassId) (u : Nat → Nat) (mf : Nat → Int32) (p0 : Int32) (p1 : Int32)  : Met l yX10_road (.code yX10_road cX10_road 3 (some .int) :: TB) (rmk 3) (va_Pc [.ref (u 0), .int p0, .int p1] (fun U => MWH D k u mf U U.heap)) (vp_Si (fun r => r = (-2))) 0 0 (fun _ => False) := by
  refine Met.ofW (cc := cX10_road) (maxL := 3) (ret := (some .int)) (by decide) rfl ?_
  intro p e s m args below meth c s₁ B hml hv
  obtain ⟨rfl, hF⟩ := hv
  have hx := B.exec
  have hb := B.bytes
  have hr := B.returns
  have hT : ∀ w ∈ TB, w.before ([.ref (u 0), .int p0, .int p1] : List Value).toArray s = true := fun w h => atoms_spec (ws := .code yX10_road cX10_road 3 (some .int) :: TB) B.pre w (List.mem_cons_of_mem _ h)
  have hown : s.vm.findClass RX10 = some m.cls := findClass_of_methodNamed B.named
  have S : CallFix p m c cX10_road 3 s _ TB RX10 := ⟨hx, hb, hml, hown, hT⟩
  have hP : va_P D vwCl [(u 0, .inr (10, [.int 0, .ref (u 1), .ref (u 2), .ref (u 3), .ref (u 4), .int 0, .ref (u 5), .int 0, .int 0, .int 0, .int 0, .int 0, .int 0, .int (-1), .ref (u 6), .ref (u 7), .ref (u 8), .ref (u 9), .ref (u 10), .ref (u 11), .int 0, .int 0, .int 0, .ref (u 12), .ref (u 13), .ref (u 14), .int 0, .int 0, .ref (u 15), .int 0, .ref (u 16), .int 0, .ref (u 17), .int 0, .ref (u 18), .ref (u 19), .ref (u 20), .ref (u 21)])), (u 1, .inl (k 0, 168, .inl (fun _ => 0))), (u 3, .inl (k 3, 3, .inl (fun _ => 0))), (u 18, .inl (k 0, 4, .inl mf))] s.heap := hF.1
  have hK := hF.2.1
  have hl := lv_entry ([.ref (u 0), .int p0, .int p1]) (n := 3) (Nat.le_of_ble_eq_true rfl)
  rw [lg_entry_eq]
  generalize (lg_sl ([.ref (u 0), .int p0, .int p1]) ++ List.replicate (3 - (lg_sl ([.ref (u 0), .int p0, .int p1])).length) Slot.unset).toArray = ls at hl ⊢
  have hl : lv_has ls 3 [(0, .ref (u 0)), (1, .int p0), (2, .int p1)] := hl
  refine lv_aload_n hx hb dX10_road_0 rfl (lv_at hl 0 rfl) ?_
  refine lv_iload_n hx hb dX10_road_1 rfl (lv_at hl 1 rfl) ?_
  refine lv_i2l (v := p0.toInt64) hx hb dX10_road_2 rfl ?_
  refine ro_V (As := [.long p0.toInt64]) (rest := []) S (c_X10_isRoad l D k u mf p0.toInt64) lkX10_265 ok_X10_isRoad ⟨rfl, rfl, Nat.le_of_ble_eq_true rfl, Nat.le_of_ble_eq_true rfl⟩ (mw_V (ci := 10) (q0 := 0) hF rfl rfl) rfl hl.1 rfl (Nat.le_of_ble_eq_true rfl) ⟨Nat.zero_le _, Nat.zero_le _⟩ dX10_road_3 (fun r_1 er_1 => ?_)
  subst er_1
  refine lv_if_eq (tgt := 30) hx hb dX10_road_6 (by decide) (fun c_2 => ?_) (fun c_2 => ?_)
  rotate_left
  · first | exact absurd c_2 (by decide) | exact absurd (by decide) c_2
  refine lv_bipush (v := (-2)) hx hb dX10_road_30 (by decide) ?_
  exact W.iret (v := (-2)) hx hb hr (fun t ht hW => ⟨(-2), rfl, rfl, ht⟩) (fun _ h9 => by cases h9) dX10_road_32
set_option maxHeartbeats 4000000 in
set_option maxRecDepth 100000 in
theorem c_X10_likes (l : Launch) (D : va_G) (k : Nat → ClassId) (u : Nat → Nat) (mf : Nat → Int32) (p0 : Int32) (p1 : Int32)  : Met l yX10_likes (.code yX10_likes cX10_likes 3 (some .int) :: TB) (rmk 3) (va_Pc [.ref (u 0), .int p0, .int p1] (fun U => MWH D k u mf U U.heap)) (vp_Si (fun r => r = (-2))) 0 0 (fun _ => False) := by
  refine Met.ofW (cc := cX10_likes) (maxL := 3) (ret := (some .int)) (by decide) rfl ?_
  intro p e s m args below meth c s₁ B hml hv
  obtain ⟨rfl, hF⟩ := hv
  have hx := B.exec
  have hb := B.bytes
  have hr := B.returns
  have hT : ∀ w ∈ TB, w.before ([.ref (u 0), .int p0, .int p1] : List Value).toArray s = true := fun w h => atoms_spec (ws := .code yX10_likes cX10_likes 3 (some .int) :: TB) B.pre w (List.mem_cons_of_mem _ h)
  have hown : s.vm.findClass RX10 = some m.cls := findClass_of_methodNamed B.named
  have S : CallFix p m c cX10_likes 3 s _ TB RX10 := ⟨hx, hb, hml, hown, hT⟩
  have hP : va_P D vwCl [(u 0, .inr (10, [.int 0, .ref (u 1), .ref (u 2), .ref (u 3), .ref (u 4), .int 0, .ref (u 5), .int 0, .int 0, .int 0, .int 0, .int 0, .int 0, .int (-1), .ref (u 6), .ref (u 7), .ref (u 8), .ref (u 9), .ref (u 10), .ref (u 11), .int 0, .int 0, .int 0, .ref (u 12), .ref (u 13), .ref (u 14), .int 0, .int 0, .ref (u 15), .int 0, .ref (u 16), .int 0, .ref (u 17), .int 0, .ref (u 18), .ref (u 19), .ref (u 20), .ref (u 21)])), (u 1, .inl (k 0, 168, .inl (fun _ => 0))), (u 3, .inl (k 3, 3, .inl (fun _ => 0))), (u 18, .inl (k 0, 4, .inl mf))] s.heap := hF.1
  have hK := hF.2.1
  have hl := lv_entry ([.ref (u 0), .int p0, .int p1]) (n := 3) (Nat.le_of_ble_eq_true rfl)
  rw [lg_entry_eq]
  generalize (lg_sl ([.ref (u 0), .int p0, .int p1]) ++ List.replicate (3 - (lg_sl ([.ref (u 0), .int p0, .int p1])).length) Slot.unset).toArray = ls at hl ⊢
  have hl : lv_has ls 3 [(0, .ref (u 0)), (1, .int p0), (2, .int p1)] := hl
  refine lv_aload_n hx hb dX10_likes_0 rfl (lv_at hl 0 rfl) ?_
  refine lv_iload_n hx hb dX10_likes_1 rfl (lv_at hl 1 rfl) ?_
  refine ro_V (As := [.int p0]) (rest := []) S (c_X10_isWheel l D k u mf p0) lkX10_269 ok_X10_isWheel ⟨rfl, rfl, Nat.le_of_ble_eq_true rfl, Nat.le_of_ble_eq_true rfl⟩ (mw_V (ci := 10) (q0 := 0) hF rfl rfl) rfl hl.1 rfl (Nat.le_of_ble_eq_true rfl) ⟨Nat.zero_le _, Nat.zero_le _⟩ dX10_likes_2 (fun r_1 er_1 => ?_)
  subst er_1
  refine lv_if_eq (tgt := 17) hx hb dX10_likes_5 (by decide) (fun c_2 => ?_) (fun c_2 => ?_)
  rotate_left
  · first | exact absurd c_2 (by decide) | exact absurd (by decide) c_2
  refine lv_bipush (v := (-2)) hx hb dX10_likes_17 (by decide) ?_
  exact W.iret (v := (-2)) hx hb hr (fun t ht hW => ⟨(-2), rfl, rfl, ht⟩) (fun _ h9 => by cases h9) dX10_likes_19
set_option maxHeartbeats 4000000 in
set_option maxRecDepth 100000 in
theorem c_X10_wheel (l : Launch) (D : va_G) (k : Nat → ClassId) (u : Nat → Nat) (mf : Nat → Int32) (p0 : Int32) (p1 : Int32)  : Met l yX10_wheel (.code yX10_wheel cX10_wheel 3 (some .int) :: TB) (rmk 3) (va_Pc [.ref (u 0), .int p0, .int p1] (fun U => MWH D k u mf U U.heap)) (vp_Si (fun r => r = (-2))) 0 0 (fun _ => False) := by
  refine Met.ofW (cc := cX10_wheel) (maxL := 3) (ret := (some .int)) (by decide) rfl ?_
  intro p e s m args below meth c s₁ B hml hv
  obtain ⟨rfl, hF⟩ := hv
  have hx := B.exec
  have hb := B.bytes
  have hr := B.returns
  have hT : ∀ w ∈ TB, w.before ([.ref (u 0), .int p0, .int p1] : List Value).toArray s = true := fun w h => atoms_spec (ws := .code yX10_wheel cX10_wheel 3 (some .int) :: TB) B.pre w (List.mem_cons_of_mem _ h)
  have hown : s.vm.findClass RX10 = some m.cls := findClass_of_methodNamed B.named
  have S : CallFix p m c cX10_wheel 3 s _ TB RX10 := ⟨hx, hb, hml, hown, hT⟩
  have hP : va_P D vwCl [(u 0, .inr (10, [.int 0, .ref (u 1), .ref (u 2), .ref (u 3), .ref (u 4), .int 0, .ref (u 5), .int 0, .int 0, .int 0, .int 0, .int 0, .int 0, .int (-1), .ref (u 6), .ref (u 7), .ref (u 8), .ref (u 9), .ref (u 10), .ref (u 11), .int 0, .int 0, .int 0, .ref (u 12), .ref (u 13), .ref (u 14), .int 0, .int 0, .ref (u 15), .int 0, .ref (u 16), .int 0, .ref (u 17), .int 0, .ref (u 18), .ref (u 19), .ref (u 20), .ref (u 21)])), (u 1, .inl (k 0, 168, .inl (fun _ => 0))), (u 3, .inl (k 3, 3, .inl (fun _ => 0))), (u 18, .inl (k 0, 4, .inl mf))] s.heap := hF.1
  have hK := hF.2.1
  have hl := lv_entry ([.ref (u 0), .int p0, .int p1]) (n := 3) (Nat.le_of_ble_eq_true rfl)
  rw [lg_entry_eq]
  generalize (lg_sl ([.ref (u 0), .int p0, .int p1]) ++ List.replicate (3 - (lg_sl ([.ref (u 0), .int p0, .int p1])).length) Slot.unset).toArray = ls at hl ⊢
  have hl : lv_has ls 3 [(0, .ref (u 0)), (1, .int p0), (2, .int p1)] := hl
  refine lv_aload_n hx hb dX10_wheel_0 rfl (lv_at hl 0 rfl) ?_
  refine lv_iload_n hx hb dX10_wheel_1 rfl (lv_at hl 1 rfl) ?_
  refine ro_V (As := [.int p0]) (rest := []) S (c_X10_isWheel l D k u mf p0) lkX10_269 ok_X10_isWheel ⟨rfl, rfl, Nat.le_of_ble_eq_true rfl, Nat.le_of_ble_eq_true rfl⟩ (mw_V (ci := 10) (q0 := 0) hF rfl rfl) rfl hl.1 rfl (Nat.le_of_ble_eq_true rfl) ⟨Nat.zero_le _, Nat.zero_le _⟩ dX10_wheel_2 (fun r_1 er_1 => ?_)
  subst er_1
  refine lv_if_eq (tgt := 20) hx hb dX10_wheel_5 (by decide) (fun c_2 => ?_) (fun c_2 => ?_)
  rotate_left
  · first | exact absurd c_2 (by decide) | exact absurd (by decide) c_2
  refine lv_bipush (v := (-2)) hx hb dX10_wheel_20 (by decide) ?_
  exact W.iret (v := (-2)) hx hb hr (fun t ht hW => ⟨(-2), rfl, rfl, ht⟩) (fun _ h9 => by cases h9) dX10_wheel_22
set_option maxHeartbeats 4000000 in
set_option maxRecDepth 100000 in
theorem c_X10_cart (l : Launch) (D : va_G) (k : Nat → ClassId) (u : Nat → Nat) (mf : Nat → Int32) (p0 : Int32) (p1 : Int32)  : Met l yX10_cart (.code yX10_cart cX10_cart 3 (some .int) :: TB) (rmk 3) (va_Pc [.ref (u 0), .int p0, .int p1] (fun U => MWH D k u mf U U.heap)) (vp_Si (fun r => r = (-2))) 0 0 (fun _ => False) := by
  refine Met.ofW (cc := cX10_cart) (maxL := 3) (ret := (some .int)) (by decide) rfl ?_
  intro p e s m args below meth c s₁ B hml hv
  obtain ⟨rfl, hF⟩ := hv
  have hx := B.exec
  have hb := B.bytes
  have hr := B.returns
  have hT : ∀ w ∈ TB, w.before ([.ref (u 0), .int p0, .int p1] : List Value).toArray s = true := fun w h => atoms_spec (ws := .code yX10_cart cX10_cart 3 (some .int) :: TB) B.pre w (List.mem_cons_of_mem _ h)
  have hown : s.vm.findClass RX10 = some m.cls := findClass_of_methodNamed B.named
  have S : CallFix p m c cX10_cart 3 s _ TB RX10 := ⟨hx, hb, hml, hown, hT⟩
  have hP : va_P D vwCl [(u 0, .inr (10, [.int 0, .ref (u 1), .ref (u 2), .ref (u 3), .ref (u 4), .int 0, .ref (u 5), .int 0, .int 0, .int 0, .int 0, .int 0, .int 0, .int (-1), .ref (u 6), .ref (u 7), .ref (u 8), .ref (u 9), .ref (u 10), .ref (u 11), .int 0, .int 0, .int 0, .ref (u 12), .ref (u 13), .ref (u 14), .int 0, .int 0, .ref (u 15), .int 0, .ref (u 16), .int 0, .ref (u 17), .int 0, .ref (u 18), .ref (u 19), .ref (u 20), .ref (u 21)])), (u 1, .inl (k 0, 168, .inl (fun _ => 0))), (u 3, .inl (k 3, 3, .inl (fun _ => 0))), (u 18, .inl (k 0, 4, .inl mf))] s.heap := hF.1
  have hK := hF.2.1
  have hl := lv_entry ([.ref (u 0), .int p0, .int p1]) (n := 3) (Nat.le_of_ble_eq_true rfl)
  rw [lg_entry_eq]
  generalize (lg_sl ([.ref (u 0), .int p0, .int p1]) ++ List.replicate (3 - (lg_sl ([.ref (u 0), .int p0, .int p1])).length) Slot.unset).toArray = ls at hl ⊢
  have hl : lv_has ls 3 [(0, .ref (u 0)), (1, .int p0), (2, .int p1)] := hl
  refine lv_aload_n hx hb dX10_cart_0 rfl (lv_at hl 0 rfl) ?_
  refine lv_iload_n hx hb dX10_cart_1 rfl (lv_at hl 1 rfl) ?_
  refine ro_V (As := [.int p0]) (rest := []) S (c_X10_isCart l D k u mf p0) lkX10_279 ok_X10_isCart ⟨rfl, rfl, Nat.le_of_ble_eq_true rfl, Nat.le_of_ble_eq_true rfl⟩ (mw_V (ci := 10) (q0 := 0) hF rfl rfl) rfl hl.1 rfl (Nat.le_of_ble_eq_true rfl) ⟨Nat.zero_le _, Nat.zero_le _⟩ dX10_cart_2 (fun r_1 er_1 => ?_)
  subst er_1
  refine lv_if_eq (tgt := 20) hx hb dX10_cart_5 (by decide) (fun c_2 => ?_) (fun c_2 => ?_)
  rotate_left
  · first | exact absurd c_2 (by decide) | exact absurd (by decide) c_2
  refine lv_bipush (v := (-2)) hx hb dX10_cart_20 (by decide) ?_
  exact W.iret (v := (-2)) hx hb hr (fun t ht hW => ⟨(-2), rfl, rfl, ht⟩) (fun _ h9 => by cases h9) dX10_cart_22
set_option maxHeartbeats 4000000 in
set_option maxRecDepth 100000 in
theorem c_X10_errand (l : Launch) (D : va_G) (k : Nat → ClassId) (u : Nat → Nat) (mf : Nat → Int32) (p0 : Int32) (p1 : Int32)  : Met l yX10_errand (.code yX10_errand cX10_errand 3 (some .int) :: TB) (rmk 2) (va_Pc [.ref (u 0), .int p0, .int p1] (fun U => MWH D k u mf U U.heap)) (vp_Si (fun r => r = (-2))) 0 0 (fun _ => False) := by
  refine Met.ofW (cc := cX10_errand) (maxL := 3) (ret := (some .int)) (by decide) rfl ?_
  intro p e s m args below meth c s₁ B hml hv
  obtain ⟨rfl, hF⟩ := hv
  have hx := B.exec
  have hb := B.bytes
  have hr := B.returns
  have hT : ∀ w ∈ TB, w.before ([.ref (u 0), .int p0, .int p1] : List Value).toArray s = true := fun w h => atoms_spec (ws := .code yX10_errand cX10_errand 3 (some .int) :: TB) B.pre w (List.mem_cons_of_mem _ h)
  have hown : s.vm.findClass RX10 = some m.cls := findClass_of_methodNamed B.named
  have S : CallFix p m c cX10_errand 3 s _ TB RX10 := ⟨hx, hb, hml, hown, hT⟩
  have hP : va_P D vwCl [(u 0, .inr (10, [.int 0, .ref (u 1), .ref (u 2), .ref (u 3), .ref (u 4), .int 0, .ref (u 5), .int 0, .int 0, .int 0, .int 0, .int 0, .int 0, .int (-1), .ref (u 6), .ref (u 7), .ref (u 8), .ref (u 9), .ref (u 10), .ref (u 11), .int 0, .int 0, .int 0, .ref (u 12), .ref (u 13), .ref (u 14), .int 0, .int 0, .ref (u 15), .int 0, .ref (u 16), .int 0, .ref (u 17), .int 0, .ref (u 18), .ref (u 19), .ref (u 20), .ref (u 21)])), (u 1, .inl (k 0, 168, .inl (fun _ => 0))), (u 3, .inl (k 3, 3, .inl (fun _ => 0))), (u 18, .inl (k 0, 4, .inl mf))] s.heap := hF.1
  have hK := hF.2.1
  have hl := lv_entry ([.ref (u 0), .int p0, .int p1]) (n := 3) (Nat.le_of_ble_eq_true rfl)
  rw [lg_entry_eq]
  generalize (lg_sl ([.ref (u 0), .int p0, .int p1]) ++ List.replicate (3 - (lg_sl ([.ref (u 0), .int p0, .int p1])).length) Slot.unset).toArray = ls at hl ⊢
  have hl : lv_has ls 3 [(0, .ref (u 0)), (1, .int p0), (2, .int p1)] := hl
  refine lv_iload_n hx hb dX10_errand_0 rfl (lv_at hl 1 rfl) ?_
  refine lv_i2l (v := p0.toInt64) hx hb dX10_errand_1 rfl ?_
  refine lv_lconst (v := 0) hx hb dX10_errand_2 (by decide) ?_
  refine lv_aload_n hx hb dX10_errand_3 rfl (lv_at hl 0 rfl) ?_
  refine va_get (D := D) (ci := 10) (v := .ref (u 1)) (C := RX10) (T := TX10) (N := 38) hx hb hT in_X10 hown hK hP 0 rfl rfl 1 (by decide) (hT _ t1263) (fun _ h9 => h9) rfl dX10_errand_4 ?_
  refine lv_iconst (v := 5) hx hb dX10_errand_7 (by decide) ?_
  refine va_iald hx hb hK hP 1 0 rfl rfl (by unfold vp_in; decide) dX10_errand_8 ?_
  refine k_top (y := 0) rfl ?_
  refine lv_iconst (v := 1) hx hb dX10_errand_9 (by decide) ?_
  refine lv_isub hx hb dX10_errand_10 ?_
  refine k_top (y := (-1)) (by decide) ?_
  refine lv_i2l (v := (-1)) hx hb dX10_errand_11 (by decide) ?_
  refine ro_S (As := [.long p0.toInt64, .long 0, .long (-1)]) (rest := []) S (c_X10_in l D k u mf p0.toInt64 0 (-1)) lkX10_85 ok_X10_in ⟨rfl, rfl, Nat.le_of_ble_eq_true rfl, Nat.le_of_ble_eq_true rfl⟩ (mw_S hF) rfl hl.1 rfl (Nat.le_of_ble_eq_true rfl) ⟨Nat.zero_le _, Nat.zero_le _⟩ dX10_errand_12 (fun r_1 er_1 => ?_)
  rcases er_1 with ⟨er_1, gr_1⟩ | ⟨er_1, gr_1⟩
  · subst er_1
    exact absurd gr_1 (no_in _)
  · subst er_1
    refine lv_if_eq (tgt := 46) hx hb dX10_errand_15 (by decide) (fun c_2 => ?_) (fun c_2 => ?_)
    rotate_left
    · first | exact absurd c_2 (by decide) | exact absurd (by decide) c_2
    refine lv_bipush (v := (-2)) hx hb dX10_errand_46 (by decide) ?_
    exact W.iret (v := (-2)) hx hb hr (fun t ht hW => ⟨(-2), rfl, rfl, ht⟩) (fun _ h9 => by cases h9) dX10_errand_48
set_option maxHeartbeats 4000000 in
set_option maxRecDepth 100000 in
theorem c_X10_roads (l : Launch) (D : va_G) (k : Nat → ClassId) (u : Nat → Nat) (mf : Nat → Int32) (p0 : Int32)  : Met l yX10_roads (.code yX10_roads cX10_roads 2 (some .int) :: TB) (rmk 3) (va_Pc [.ref (u 0), .int p0] (fun U => MWH D k u mf U U.heap)) (vp_Si (fun r => r = (-2))) 0 0 (fun _ => False) := by
  refine Met.ofW (cc := cX10_roads) (maxL := 2) (ret := (some .int)) (by decide) rfl ?_
  intro p e s m args below meth c s₁ B hml hv
  obtain ⟨rfl, hF⟩ := hv
  have hx := B.exec
  have hb := B.bytes
  have hr := B.returns
  have hT : ∀ w ∈ TB, w.before ([.ref (u 0), .int p0] : List Value).toArray s = true := fun w h => atoms_spec (ws := .code yX10_roads cX10_roads 2 (some .int) :: TB) B.pre w (List.mem_cons_of_mem _ h)
  have hown : s.vm.findClass RX10 = some m.cls := findClass_of_methodNamed B.named
  have S : CallFix p m c cX10_roads 2 s _ TB RX10 := ⟨hx, hb, hml, hown, hT⟩
  have hP : va_P D vwCl [(u 0, .inr (10, [.int 0, .ref (u 1), .ref (u 2), .ref (u 3), .ref (u 4), .int 0, .ref (u 5), .int 0, .int 0, .int 0, .int 0, .int 0, .int 0, .int (-1), .ref (u 6), .ref (u 7), .ref (u 8), .ref (u 9), .ref (u 10), .ref (u 11), .int 0, .int 0, .int 0, .ref (u 12), .ref (u 13), .ref (u 14), .int 0, .int 0, .ref (u 15), .int 0, .ref (u 16), .int 0, .ref (u 17), .int 0, .ref (u 18), .ref (u 19), .ref (u 20), .ref (u 21)])), (u 1, .inl (k 0, 168, .inl (fun _ => 0))), (u 3, .inl (k 3, 3, .inl (fun _ => 0))), (u 18, .inl (k 0, 4, .inl mf))] s.heap := hF.1
  have hK := hF.2.1
  have hl := lv_entry ([.ref (u 0), .int p0]) (n := 2) (Nat.le_of_ble_eq_true rfl)
  rw [lg_entry_eq]
  generalize (lg_sl ([.ref (u 0), .int p0]) ++ List.replicate (2 - (lg_sl ([.ref (u 0), .int p0])).length) Slot.unset).toArray = ls at hl ⊢
  have hl : lv_has ls 2 [(0, .ref (u 0)), (1, .int p0)] := hl
  refine lv_aload_n hx hb dX10_roads_0 rfl (lv_at hl 0 rfl) ?_
  refine lv_iload_n hx hb dX10_roads_1 rfl (lv_at hl 1 rfl) ?_
  refine lv_i2l (v := p0.toInt64) hx hb dX10_roads_2 rfl ?_
  refine ro_V (As := [.long p0.toInt64]) (rest := []) S (c_X10_isPlace l D k u mf p0.toInt64) lkX10_282 ok_X10_isPlace ⟨rfl, rfl, Nat.le_of_ble_eq_true rfl, Nat.le_of_ble_eq_true rfl⟩ (mw_V (ci := 10) (q0 := 0) hF rfl rfl) rfl hl.1 rfl (Nat.le_of_ble_eq_true rfl) ⟨Nat.zero_le _, Nat.zero_le _⟩ dX10_roads_3 (fun r_1 er_1 => ?_)
  subst er_1
  refine lv_if_eq (tgt := 17) hx hb dX10_roads_6 (by decide) (fun c_2 => ?_) (fun c_2 => ?_)
  rotate_left
  · first | exact absurd c_2 (by decide) | exact absurd (by decide) c_2
  refine lv_bipush (v := (-2)) hx hb dX10_roads_17 (by decide) ?_
  exact W.iret (v := (-2)) hx hb hr (fun t ht hW => ⟨(-2), rfl, rfl, ht⟩) (fun _ h9 => by cases h9) dX10_roads_19
set_option maxHeartbeats 4000000 in
set_option maxRecDepth 100000 in
theorem c_X10_pull (l : Launch) (D : va_G) (k : Nat → ClassId) (u : Nat → Nat) (mf : Nat → Int32) (p0 : Int32) (p1 : Int32)  : Met l yX10_pull (.code yX10_pull cX10_pull 3 (some .int) :: TB) (rmk 3) (va_Pc [.ref (u 0), .int p0, .int p1] (fun U => MWH D k u mf U U.heap)) (vp_Si (fun r => r = (-2))) 0 0 (fun _ => False) := by
  refine Met.ofW (cc := cX10_pull) (maxL := 3) (ret := (some .int)) (by decide) rfl ?_
  intro p e s m args below meth c s₁ B hml hv
  obtain ⟨rfl, hF⟩ := hv
  have hx := B.exec
  have hb := B.bytes
  have hr := B.returns
  have hT : ∀ w ∈ TB, w.before ([.ref (u 0), .int p0, .int p1] : List Value).toArray s = true := fun w h => atoms_spec (ws := .code yX10_pull cX10_pull 3 (some .int) :: TB) B.pre w (List.mem_cons_of_mem _ h)
  have hown : s.vm.findClass RX10 = some m.cls := findClass_of_methodNamed B.named
  have S : CallFix p m c cX10_pull 3 s _ TB RX10 := ⟨hx, hb, hml, hown, hT⟩
  have hP : va_P D vwCl [(u 0, .inr (10, [.int 0, .ref (u 1), .ref (u 2), .ref (u 3), .ref (u 4), .int 0, .ref (u 5), .int 0, .int 0, .int 0, .int 0, .int 0, .int 0, .int (-1), .ref (u 6), .ref (u 7), .ref (u 8), .ref (u 9), .ref (u 10), .ref (u 11), .int 0, .int 0, .int 0, .ref (u 12), .ref (u 13), .ref (u 14), .int 0, .int 0, .ref (u 15), .int 0, .ref (u 16), .int 0, .ref (u 17), .int 0, .ref (u 18), .ref (u 19), .ref (u 20), .ref (u 21)])), (u 1, .inl (k 0, 168, .inl (fun _ => 0))), (u 3, .inl (k 3, 3, .inl (fun _ => 0))), (u 18, .inl (k 0, 4, .inl mf))] s.heap := hF.1
  have hK := hF.2.1
  have hl := lv_entry ([.ref (u 0), .int p0, .int p1]) (n := 3) (Nat.le_of_ble_eq_true rfl)
  rw [lg_entry_eq]
  generalize (lg_sl ([.ref (u 0), .int p0, .int p1]) ++ List.replicate (3 - (lg_sl ([.ref (u 0), .int p0, .int p1])).length) Slot.unset).toArray = ls at hl ⊢
  have hl : lv_has ls 3 [(0, .ref (u 0)), (1, .int p0), (2, .int p1)] := hl
  refine lv_aload_n hx hb dX10_pull_0 rfl (lv_at hl 0 rfl) ?_
  refine lv_iload_n hx hb dX10_pull_1 rfl (lv_at hl 1 rfl) ?_
  refine ro_V (As := [.int p0]) (rest := []) S (c_X10_isCart l D k u mf p0) lkX10_279 ok_X10_isCart ⟨rfl, rfl, Nat.le_of_ble_eq_true rfl, Nat.le_of_ble_eq_true rfl⟩ (mw_V (ci := 10) (q0 := 0) hF rfl rfl) rfl hl.1 rfl (Nat.le_of_ble_eq_true rfl) ⟨Nat.zero_le _, Nat.zero_le _⟩ dX10_pull_2 (fun r_1 er_1 => ?_)
  subst er_1
  refine lv_if_eq (tgt := 17) hx hb dX10_pull_5 (by decide) (fun c_2 => ?_) (fun c_2 => ?_)
  rotate_left
  · first | exact absurd c_2 (by decide) | exact absurd (by decide) c_2
  refine lv_bipush (v := (-2)) hx hb dX10_pull_17 (by decide) ?_
  exact W.iret (v := (-2)) hx hb hr (fun t ht hW => ⟨(-2), rfl, rfl, ht⟩) (fun _ h9 => by cases h9) dX10_pull_19
set_option maxHeartbeats 4000000 in
set_option maxRecDepth 100000 in
theorem c_X10_takes_ (l : Launch) (D : va_G) (k : Nat → ClassId) (u : Nat → Nat) (mf : Nat → Int32) (p0 : Int32) (p1 : Int32)  : Met l yX10_takes_ (.code yX10_takes_ cX10_takes_ 3 (some .int) :: TB) (rmk 4) (va_Pc [.ref (u 0), .int p0, .int p1] (fun U => MWH D k u mf U U.heap)) (vp_Si (fun r => r = (-2))) 0 0 (fun _ => False) := by
  refine Met.ofW (cc := cX10_takes_) (maxL := 3) (ret := (some .int)) (by decide) rfl ?_
  intro p e s m args below meth c s₁ B hml hv
  obtain ⟨rfl, hF⟩ := hv
  have hx := B.exec
  have hb := B.bytes
  have hr := B.returns
  have hT : ∀ w ∈ TB, w.before ([.ref (u 0), .int p0, .int p1] : List Value).toArray s = true := fun w h => atoms_spec (ws := .code yX10_takes_ cX10_takes_ 3 (some .int) :: TB) B.pre w (List.mem_cons_of_mem _ h)
  have hown : s.vm.findClass RX10 = some m.cls := findClass_of_methodNamed B.named
  have S : CallFix p m c cX10_takes_ 3 s _ TB RX10 := ⟨hx, hb, hml, hown, hT⟩
  have hP : va_P D vwCl [(u 0, .inr (10, [.int 0, .ref (u 1), .ref (u 2), .ref (u 3), .ref (u 4), .int 0, .ref (u 5), .int 0, .int 0, .int 0, .int 0, .int 0, .int 0, .int (-1), .ref (u 6), .ref (u 7), .ref (u 8), .ref (u 9), .ref (u 10), .ref (u 11), .int 0, .int 0, .int 0, .ref (u 12), .ref (u 13), .ref (u 14), .int 0, .int 0, .ref (u 15), .int 0, .ref (u 16), .int 0, .ref (u 17), .int 0, .ref (u 18), .ref (u 19), .ref (u 20), .ref (u 21)])), (u 1, .inl (k 0, 168, .inl (fun _ => 0))), (u 3, .inl (k 3, 3, .inl (fun _ => 0))), (u 18, .inl (k 0, 4, .inl mf))] s.heap := hF.1
  have hK := hF.2.1
  have hl := lv_entry ([.ref (u 0), .int p0, .int p1]) (n := 3) (Nat.le_of_ble_eq_true rfl)
  rw [lg_entry_eq]
  generalize (lg_sl ([.ref (u 0), .int p0, .int p1]) ++ List.replicate (3 - (lg_sl ([.ref (u 0), .int p0, .int p1])).length) Slot.unset).toArray = ls at hl ⊢
  have hl : lv_has ls 3 [(0, .ref (u 0)), (1, .int p0), (2, .int p1)] := hl
  refine lv_aload_n hx hb dX10_takes__0 rfl (lv_at hl 0 rfl) ?_
  refine lv_iload_n hx hb dX10_takes__1 rfl (lv_at hl 1 rfl) ?_
  refine lv_iload_n hx hb dX10_takes__2 rfl (lv_at hl 2 rfl) ?_
  refine lv_i2l (v := p1.toInt64) hx hb dX10_takes__3 rfl ?_
  refine ro_V (As := [.int p0, .long p1.toInt64]) (rest := []) S (c_X10_canWant l D k u mf p0 p1.toInt64) lkX10_290 ok_X10_canWant ⟨rfl, rfl, Nat.le_of_ble_eq_true rfl, Nat.le_of_ble_eq_true rfl⟩ (mw_V (ci := 10) (q0 := 0) hF rfl rfl) rfl hl.1 rfl (Nat.le_of_ble_eq_true rfl) ⟨Nat.zero_le _, Nat.zero_le _⟩ dX10_takes__4 (fun r_1 er_1 => ?_)
  subst er_1
  refine lv_if_eq (tgt := 19) hx hb dX10_takes__7 (by decide) (fun c_2 => ?_) (fun c_2 => ?_)
  rotate_left
  · first | exact absurd c_2 (by decide) | exact absurd (by decide) c_2
  refine lv_bipush (v := (-2)) hx hb dX10_takes__19 (by decide) ?_
  exact W.iret (v := (-2)) hx hb hr (fun t ht hW => ⟨(-2), rfl, rfl, ht⟩) (fun _ h9 => by cases h9) dX10_takes__21
set_option maxHeartbeats 4000000 in
set_option maxRecDepth 100000 in
theorem c_X10_aside (l : Launch) (D : va_G) (k : Nat → ClassId) (u : Nat → Nat) (mf : Nat → Int32) (p0 : Int32)  : Met l yX10_aside (.code yX10_aside cX10_aside 4 (some .int) :: TB) (rmk 3) (va_Pc [.ref (u 0), .int p0] (fun U => MWH D k u mf U U.heap)) (vp_Si (fun r => r = (-2))) 0 0 (fun _ => False) := by
  refine Met.ofW (cc := cX10_aside) (maxL := 4) (ret := (some .int)) (by decide) rfl ?_
  intro p e s m args below meth c s₁ B hml hv
  obtain ⟨rfl, hF⟩ := hv
  have hx := B.exec
  have hb := B.bytes
  have hr := B.returns
  have hT : ∀ w ∈ TB, w.before ([.ref (u 0), .int p0] : List Value).toArray s = true := fun w h => atoms_spec (ws := .code yX10_aside cX10_aside 4 (some .int) :: TB) B.pre w (List.mem_cons_of_mem _ h)
  have hown : s.vm.findClass RX10 = some m.cls := findClass_of_methodNamed B.named
  have S : CallFix p m c cX10_aside 4 s _ TB RX10 := ⟨hx, hb, hml, hown, hT⟩
  have hP : va_P D vwCl [(u 0, .inr (10, [.int 0, .ref (u 1), .ref (u 2), .ref (u 3), .ref (u 4), .int 0, .ref (u 5), .int 0, .int 0, .int 0, .int 0, .int 0, .int 0, .int (-1), .ref (u 6), .ref (u 7), .ref (u 8), .ref (u 9), .ref (u 10), .ref (u 11), .int 0, .int 0, .int 0, .ref (u 12), .ref (u 13), .ref (u 14), .int 0, .int 0, .ref (u 15), .int 0, .ref (u 16), .int 0, .ref (u 17), .int 0, .ref (u 18), .ref (u 19), .ref (u 20), .ref (u 21)])), (u 1, .inl (k 0, 168, .inl (fun _ => 0))), (u 3, .inl (k 3, 3, .inl (fun _ => 0))), (u 18, .inl (k 0, 4, .inl mf))] s.heap := hF.1
  have hK := hF.2.1
  have hl := lv_entry ([.ref (u 0), .int p0]) (n := 4) (Nat.le_of_ble_eq_true rfl)
  rw [lg_entry_eq]
  generalize (lg_sl ([.ref (u 0), .int p0]) ++ List.replicate (4 - (lg_sl ([.ref (u 0), .int p0])).length) Slot.unset).toArray = ls at hl ⊢
  have hl : lv_has ls 4 [(0, .ref (u 0)), (1, .int p0)] := hl
  refine lv_aload_n hx hb dX10_aside_0 rfl (lv_at hl 0 rfl) ?_
  refine lv_iload_n hx hb dX10_aside_1 rfl (lv_at hl 1 rfl) ?_
  refine ro_V (As := [.int p0]) (rest := []) S (c_X10_isCart l D k u mf p0) lkX10_279 ok_X10_isCart ⟨rfl, rfl, Nat.le_of_ble_eq_true rfl, Nat.le_of_ble_eq_true rfl⟩ (mw_V (ci := 10) (q0 := 0) hF rfl rfl) rfl hl.1 rfl (Nat.le_of_ble_eq_true rfl) ⟨Nat.zero_le _, Nat.zero_le _⟩ dX10_aside_2 (fun r_1 er_1 => ?_)
  subst er_1
  refine lv_if_ne (tgt := 11) hx hb dX10_aside_5 (by decide) (fun c_2 => ?_) (fun c_2 => ?_)
  · first | exact absurd c_2 (by decide) | exact absurd (by decide) c_2
  refine lv_bipush (v := (-2)) hx hb dX10_aside_8 (by decide) ?_
  exact W.iret (v := (-2)) hx hb hr (fun t ht hW => ⟨(-2), rfl, rfl, ht⟩) (fun _ h9 => by cases h9) dX10_aside_10
set_option maxHeartbeats 4000000 in
set_option maxRecDepth 100000 in
theorem c_X10_argue (l : Launch) (D : va_G) (k : Nat → ClassId) (u : Nat → Nat) (mf : Nat → Int32) (p0 : Int32) (p1 : Int32)  : Met l yX10_argue (.code yX10_argue cX10_argue 4 (some .int) :: TB) (rmk 4) (va_Pc [.ref (u 0), .int p0, .int p1] (fun U => MWH D k u mf U U.heap)) (vp_Si (fun r => r = (-2))) 0 0 (fun _ => False) := by
  refine Met.ofW (cc := cX10_argue) (maxL := 4) (ret := (some .int)) (by decide) rfl ?_
  intro p e s m args below meth c s₁ B hml hv
  obtain ⟨rfl, hF⟩ := hv
  have hx := B.exec
  have hb := B.bytes
  have hr := B.returns
  have hT : ∀ w ∈ TB, w.before ([.ref (u 0), .int p0, .int p1] : List Value).toArray s = true := fun w h => atoms_spec (ws := .code yX10_argue cX10_argue 4 (some .int) :: TB) B.pre w (List.mem_cons_of_mem _ h)
  have hown : s.vm.findClass RX10 = some m.cls := findClass_of_methodNamed B.named
  have S : CallFix p m c cX10_argue 4 s _ TB RX10 := ⟨hx, hb, hml, hown, hT⟩
  have hP : va_P D vwCl [(u 0, .inr (10, [.int 0, .ref (u 1), .ref (u 2), .ref (u 3), .ref (u 4), .int 0, .ref (u 5), .int 0, .int 0, .int 0, .int 0, .int 0, .int 0, .int (-1), .ref (u 6), .ref (u 7), .ref (u 8), .ref (u 9), .ref (u 10), .ref (u 11), .int 0, .int 0, .int 0, .ref (u 12), .ref (u 13), .ref (u 14), .int 0, .int 0, .ref (u 15), .int 0, .ref (u 16), .int 0, .ref (u 17), .int 0, .ref (u 18), .ref (u 19), .ref (u 20), .ref (u 21)])), (u 1, .inl (k 0, 168, .inl (fun _ => 0))), (u 3, .inl (k 3, 3, .inl (fun _ => 0))), (u 18, .inl (k 0, 4, .inl mf))] s.heap := hF.1
  have hK := hF.2.1
  have hl := lv_entry ([.ref (u 0), .int p0, .int p1]) (n := 4) (Nat.le_of_ble_eq_true rfl)
  rw [lg_entry_eq]
  generalize (lg_sl ([.ref (u 0), .int p0, .int p1]) ++ List.replicate (4 - (lg_sl ([.ref (u 0), .int p0, .int p1])).length) Slot.unset).toArray = ls at hl ⊢
  have hl : lv_has ls 4 [(0, .ref (u 0)), (1, .int p0), (2, .int p1)] := hl
  refine lv_iload_n hx hb dX10_argue_0 rfl (lv_at hl 2 rfl) ?_
  refine lv_iconst (v := (-1)) hx hb dX10_argue_1 (by decide) ?_
  refine lv_icmp_eq (tgt := 15) hx hb dX10_argue_2 (by decide) (fun c_1 => ?_) (fun c_1 => ?_)
  · skip
    refine lv_bipush (v := (-2)) hx hb dX10_argue_15 (by decide) ?_
    exact W.iret (v := (-2)) hx hb hr (fun t ht hW => ⟨(-2), rfl, rfl, ht⟩) (fun _ h9 => by cases h9) dX10_argue_17
  · skip
    refine lv_aload_n hx hb dX10_argue_5 rfl (lv_at hl 0 rfl) ?_
    refine lv_iload_n hx hb dX10_argue_6 rfl (lv_at hl 1 rfl) ?_
    refine lv_iload_n hx hb dX10_argue_7 rfl (lv_at hl 2 rfl) ?_
    refine lv_i2l (v := p1.toInt64) hx hb dX10_argue_8 rfl ?_
    refine ro_V (As := [.int p0, .long p1.toInt64]) (rest := []) S (c_X10_canWant l D k u mf p0 p1.toInt64) lkX10_290 ok_X10_canWant ⟨rfl, rfl, Nat.le_of_ble_eq_true rfl, Nat.le_of_ble_eq_true rfl⟩ (mw_V (ci := 10) (q0 := 0) hF rfl rfl) rfl hl.1 rfl (Nat.le_of_ble_eq_true rfl) ⟨Nat.zero_le _, Nat.zero_le _⟩ dX10_argue_9 (fun r_2 er_2 => ?_)
    subst er_2
    refine lv_if_ne (tgt := 18) hx hb dX10_argue_12 (by decide) (fun c_3 => ?_) (fun c_3 => ?_)
    · first | exact absurd c_3 (by decide) | exact absurd (by decide) c_3
    refine lv_bipush (v := (-2)) hx hb dX10_argue_15 (by decide) ?_
    exact W.iret (v := (-2)) hx hb hr (fun t ht hW => ⟨(-2), rfl, rfl, ht⟩) (fun _ h9 => by cases h9) dX10_argue_17
set_option maxHeartbeats 4000000 in
set_option maxRecDepth 100000 in
theorem c_X10_drive (l : Launch) (D : va_G) (k : Nat → ClassId) (u : Nat → Nat) (mf : Nat → Int32) (p0 : Int32) (p1 : Int32)  : Met l yX10_drive (.code yX10_drive cX10_drive 3 (some .int) :: TB) (rmk 4) (va_Pc [.ref (u 0), .int p0, .int p1] (fun U => MWH D k u mf U U.heap)) (vp_Si (fun r => r = (-2))) 0 0 (fun _ => False) := by
  refine Met.ofW (cc := cX10_drive) (maxL := 3) (ret := (some .int)) (by decide) rfl ?_
  intro p e s m args below meth c s₁ B hml hv
  obtain ⟨rfl, hF⟩ := hv
  have hx := B.exec
  have hb := B.bytes
  have hr := B.returns
  have hT : ∀ w ∈ TB, w.before ([.ref (u 0), .int p0, .int p1] : List Value).toArray s = true := fun w h => atoms_spec (ws := .code yX10_drive cX10_drive 3 (some .int) :: TB) B.pre w (List.mem_cons_of_mem _ h)
  have hown : s.vm.findClass RX10 = some m.cls := findClass_of_methodNamed B.named
  have S : CallFix p m c cX10_drive 3 s _ TB RX10 := ⟨hx, hb, hml, hown, hT⟩
  have hP : va_P D vwCl [(u 0, .inr (10, [.int 0, .ref (u 1), .ref (u 2), .ref (u 3), .ref (u 4), .int 0, .ref (u 5), .int 0, .int 0, .int 0, .int 0, .int 0, .int 0, .int (-1), .ref (u 6), .ref (u 7), .ref (u 8), .ref (u 9), .ref (u 10), .ref (u 11), .int 0, .int 0, .int 0, .ref (u 12), .ref (u 13), .ref (u 14), .int 0, .int 0, .ref (u 15), .int 0, .ref (u 16), .int 0, .ref (u 17), .int 0, .ref (u 18), .ref (u 19), .ref (u 20), .ref (u 21)])), (u 1, .inl (k 0, 168, .inl (fun _ => 0))), (u 3, .inl (k 3, 3, .inl (fun _ => 0))), (u 18, .inl (k 0, 4, .inl mf))] s.heap := hF.1
  have hK := hF.2.1
  have hl := lv_entry ([.ref (u 0), .int p0, .int p1]) (n := 3) (Nat.le_of_ble_eq_true rfl)
  rw [lg_entry_eq]
  generalize (lg_sl ([.ref (u 0), .int p0, .int p1]) ++ List.replicate (3 - (lg_sl ([.ref (u 0), .int p0, .int p1])).length) Slot.unset).toArray = ls at hl ⊢
  have hl : lv_has ls 3 [(0, .ref (u 0)), (1, .int p0), (2, .int p1)] := hl
  refine lv_aload_n hx hb dX10_drive_0 rfl (lv_at hl 0 rfl) ?_
  refine lv_iload_n hx hb dX10_drive_1 rfl (lv_at hl 1 rfl) ?_
  refine lv_iload_n hx hb dX10_drive_2 rfl (lv_at hl 2 rfl) ?_
  refine lv_i2l (v := p1.toInt64) hx hb dX10_drive_3 rfl ?_
  refine ro_V (As := [.int p0, .long p1.toInt64]) (rest := []) S (c_X10_canWant l D k u mf p0 p1.toInt64) lkX10_290 ok_X10_canWant ⟨rfl, rfl, Nat.le_of_ble_eq_true rfl, Nat.le_of_ble_eq_true rfl⟩ (mw_V (ci := 10) (q0 := 0) hF rfl rfl) rfl hl.1 rfl (Nat.le_of_ble_eq_true rfl) ⟨Nat.zero_le _, Nat.zero_le _⟩ dX10_drive_4 (fun r_1 er_1 => ?_)
  subst er_1
  refine lv_if_ne (tgt := 13) hx hb dX10_drive_7 (by decide) (fun c_2 => ?_) (fun c_2 => ?_)
  · first | exact absurd c_2 (by decide) | exact absurd (by decide) c_2
  refine lv_bipush (v := (-2)) hx hb dX10_drive_10 (by decide) ?_
  exact W.iret (v := (-2)) hx hb hr (fun t ht hW => ⟨(-2), rfl, rfl, ht⟩) (fun _ h9 => by cases h9) dX10_drive_12
set_option maxHeartbeats 4000000 in
set_option maxRecDepth 100000 in
theorem c_X10_swap (l : Launch) (D : va_G) (k : Nat → ClassId) (u : Nat → Nat) (mf : Nat → Int32) (p0 : Int32) (p1 : Int32)  : Met l yX10_swap (.code yX10_swap cX10_swap 3 (some .int) :: TB) (rmk 3) (va_Pc [.ref (u 0), .int p0, .int p1] (fun U => MWH D k u mf U U.heap)) (vp_Si (fun r => r = (-2))) 0 0 (fun _ => False) := by
  refine Met.ofW (cc := cX10_swap) (maxL := 3) (ret := (some .int)) (by decide) rfl ?_
  intro p e s m args below meth c s₁ B hml hv
  obtain ⟨rfl, hF⟩ := hv
  have hx := B.exec
  have hb := B.bytes
  have hr := B.returns
  have hT : ∀ w ∈ TB, w.before ([.ref (u 0), .int p0, .int p1] : List Value).toArray s = true := fun w h => atoms_spec (ws := .code yX10_swap cX10_swap 3 (some .int) :: TB) B.pre w (List.mem_cons_of_mem _ h)
  have hown : s.vm.findClass RX10 = some m.cls := findClass_of_methodNamed B.named
  have S : CallFix p m c cX10_swap 3 s _ TB RX10 := ⟨hx, hb, hml, hown, hT⟩
  have hP : va_P D vwCl [(u 0, .inr (10, [.int 0, .ref (u 1), .ref (u 2), .ref (u 3), .ref (u 4), .int 0, .ref (u 5), .int 0, .int 0, .int 0, .int 0, .int 0, .int 0, .int (-1), .ref (u 6), .ref (u 7), .ref (u 8), .ref (u 9), .ref (u 10), .ref (u 11), .int 0, .int 0, .int 0, .ref (u 12), .ref (u 13), .ref (u 14), .int 0, .int 0, .ref (u 15), .int 0, .ref (u 16), .int 0, .ref (u 17), .int 0, .ref (u 18), .ref (u 19), .ref (u 20), .ref (u 21)])), (u 1, .inl (k 0, 168, .inl (fun _ => 0))), (u 3, .inl (k 3, 3, .inl (fun _ => 0))), (u 18, .inl (k 0, 4, .inl mf))] s.heap := hF.1
  have hK := hF.2.1
  have hl := lv_entry ([.ref (u 0), .int p0, .int p1]) (n := 3) (Nat.le_of_ble_eq_true rfl)
  rw [lg_entry_eq]
  generalize (lg_sl ([.ref (u 0), .int p0, .int p1]) ++ List.replicate (3 - (lg_sl ([.ref (u 0), .int p0, .int p1])).length) Slot.unset).toArray = ls at hl ⊢
  have hl : lv_has ls 3 [(0, .ref (u 0)), (1, .int p0), (2, .int p1)] := hl
  refine lv_aload_n hx hb dX10_swap_0 rfl (lv_at hl 0 rfl) ?_
  refine lv_iload_n hx hb dX10_swap_1 rfl (lv_at hl 1 rfl) ?_
  refine ro_V (As := [.int p0]) (rest := []) S (c_X10_isWheel l D k u mf p0) lkX10_269 ok_X10_isWheel ⟨rfl, rfl, Nat.le_of_ble_eq_true rfl, Nat.le_of_ble_eq_true rfl⟩ (mw_V (ci := 10) (q0 := 0) hF rfl rfl) rfl hl.1 rfl (Nat.le_of_ble_eq_true rfl) ⟨Nat.zero_le _, Nat.zero_le _⟩ dX10_swap_2 (fun r_1 er_1 => ?_)
  subst er_1
  refine lv_if_eq (tgt := 21) hx hb dX10_swap_5 (by decide) (fun c_2 => ?_) (fun c_2 => ?_)
  rotate_left
  · first | exact absurd c_2 (by decide) | exact absurd (by decide) c_2
  refine lv_bipush (v := (-2)) hx hb dX10_swap_21 (by decide) ?_
  exact W.iret (v := (-2)) hx hb hr (fun t ht hW => ⟨(-2), rfl, rfl, ht⟩) (fun _ h9 => by cases h9) dX10_swap_23
set_option maxHeartbeats 4000000 in
set_option maxRecDepth 100000 in
theorem c_X10_grease (l : Launch) (D : va_G) (k : Nat → ClassId) (u : Nat → Nat) (mf : Nat → Int32) (p0 : Int32)  : Met l yX10_grease (.code yX10_grease cX10_grease 2 (some .int) :: TB) (rmk 3) (va_Pc [.ref (u 0), .int p0] (fun U => MWH D k u mf U U.heap)) (vp_Si (fun r => r = (-2))) 0 0 (fun _ => False) := by
  refine Met.ofW (cc := cX10_grease) (maxL := 2) (ret := (some .int)) (by decide) rfl ?_
  intro p e s m args below meth c s₁ B hml hv
  obtain ⟨rfl, hF⟩ := hv
  have hx := B.exec
  have hb := B.bytes
  have hr := B.returns
  have hT : ∀ w ∈ TB, w.before ([.ref (u 0), .int p0] : List Value).toArray s = true := fun w h => atoms_spec (ws := .code yX10_grease cX10_grease 2 (some .int) :: TB) B.pre w (List.mem_cons_of_mem _ h)
  have hown : s.vm.findClass RX10 = some m.cls := findClass_of_methodNamed B.named
  have S : CallFix p m c cX10_grease 2 s _ TB RX10 := ⟨hx, hb, hml, hown, hT⟩
  have hP : va_P D vwCl [(u 0, .inr (10, [.int 0, .ref (u 1), .ref (u 2), .ref (u 3), .ref (u 4), .int 0, .ref (u 5), .int 0, .int 0, .int 0, .int 0, .int 0, .int 0, .int (-1), .ref (u 6), .ref (u 7), .ref (u 8), .ref (u 9), .ref (u 10), .ref (u 11), .int 0, .int 0, .int 0, .ref (u 12), .ref (u 13), .ref (u 14), .int 0, .int 0, .ref (u 15), .int 0, .ref (u 16), .int 0, .ref (u 17), .int 0, .ref (u 18), .ref (u 19), .ref (u 20), .ref (u 21)])), (u 1, .inl (k 0, 168, .inl (fun _ => 0))), (u 3, .inl (k 3, 3, .inl (fun _ => 0))), (u 18, .inl (k 0, 4, .inl mf))] s.heap := hF.1
  have hK := hF.2.1
  have hl := lv_entry ([.ref (u 0), .int p0]) (n := 2) (Nat.le_of_ble_eq_true rfl)
  rw [lg_entry_eq]
  generalize (lg_sl ([.ref (u 0), .int p0]) ++ List.replicate (2 - (lg_sl ([.ref (u 0), .int p0])).length) Slot.unset).toArray = ls at hl ⊢
  have hl : lv_has ls 2 [(0, .ref (u 0)), (1, .int p0)] := hl
  refine lv_aload_n hx hb dX10_grease_0 rfl (lv_at hl 0 rfl) ?_
  refine lv_iload_n hx hb dX10_grease_1 rfl (lv_at hl 1 rfl) ?_
  refine ro_V (As := [.int p0]) (rest := []) S (c_X10_isWheel l D k u mf p0) lkX10_269 ok_X10_isWheel ⟨rfl, rfl, Nat.le_of_ble_eq_true rfl, Nat.le_of_ble_eq_true rfl⟩ (mw_V (ci := 10) (q0 := 0) hF rfl rfl) rfl hl.1 rfl (Nat.le_of_ble_eq_true rfl) ⟨Nat.zero_le _, Nat.zero_le _⟩ dX10_grease_2 (fun r_1 er_1 => ?_)
  subst er_1
  refine lv_if_ne (tgt := 11) hx hb dX10_grease_5 (by decide) (fun c_2 => ?_) (fun c_2 => ?_)
  · first | exact absurd c_2 (by decide) | exact absurd (by decide) c_2
  refine lv_bipush (v := (-2)) hx hb dX10_grease_8 (by decide) ?_
  exact W.iret (v := (-2)) hx hb hr (fun t ht hW => ⟨(-2), rfl, rfl, ht⟩) (fun _ h9 => by cases h9) dX10_grease_10
set_option maxHeartbeats 4000000 in
set_option maxRecDepth 100000 in
theorem c_X10_undo (l : Launch) (D : va_G) (k : Nat → ClassId) (u : Nat → Nat) (mf : Nat → Int32)   : Met l yX10_undo (.code yX10_undo cX10_undo 1 (some .int) :: TB) (rmk 2) (va_Pc [.ref (u 0)] (fun U => MWH D k u mf U U.heap)) (vp_Si (fun r => r = (-2))) 0 0 (fun _ => False) := by
  refine Met.ofW (cc := cX10_undo) (maxL := 1) (ret := (some .int)) (by decide) rfl ?_
  intro p e s m args below meth c s₁ B hml hv
  obtain ⟨rfl, hF⟩ := hv
  have hx := B.exec
  have hb := B.bytes
  have hr := B.returns
  have hT : ∀ w ∈ TB, w.before ([.ref (u 0)] : List Value).toArray s = true := fun w h => atoms_spec (ws := .code yX10_undo cX10_undo 1 (some .int) :: TB) B.pre w (List.mem_cons_of_mem _ h)
  have hown : s.vm.findClass RX10 = some m.cls := findClass_of_methodNamed B.named
  have S : CallFix p m c cX10_undo 1 s _ TB RX10 := ⟨hx, hb, hml, hown, hT⟩
  have hP : va_P D vwCl [(u 0, .inr (10, [.int 0, .ref (u 1), .ref (u 2), .ref (u 3), .ref (u 4), .int 0, .ref (u 5), .int 0, .int 0, .int 0, .int 0, .int 0, .int 0, .int (-1), .ref (u 6), .ref (u 7), .ref (u 8), .ref (u 9), .ref (u 10), .ref (u 11), .int 0, .int 0, .int 0, .ref (u 12), .ref (u 13), .ref (u 14), .int 0, .int 0, .ref (u 15), .int 0, .ref (u 16), .int 0, .ref (u 17), .int 0, .ref (u 18), .ref (u 19), .ref (u 20), .ref (u 21)])), (u 1, .inl (k 0, 168, .inl (fun _ => 0))), (u 3, .inl (k 3, 3, .inl (fun _ => 0))), (u 18, .inl (k 0, 4, .inl mf))] s.heap := hF.1
  have hK := hF.2.1
  have hl := lv_entry ([.ref (u 0)]) (n := 1) (Nat.le_of_ble_eq_true rfl)
  rw [lg_entry_eq]
  generalize (lg_sl ([.ref (u 0)]) ++ List.replicate (1 - (lg_sl ([.ref (u 0)])).length) Slot.unset).toArray = ls at hl ⊢
  have hl : lv_has ls 1 [(0, .ref (u 0))] := hl
  refine lv_aload_n hx hb dX10_undo_0 rfl (lv_at hl 0 rfl) ?_
  refine ro_V (As := []) (rest := []) S (c_X10_isLand l D k u mf ) lkX10_297 ok_X10_isLand ⟨rfl, rfl, Nat.le_of_ble_eq_true rfl, Nat.le_of_ble_eq_true rfl⟩ (mw_V (ci := 10) (q0 := 0) hF rfl rfl) rfl hl.1 rfl (Nat.le_of_ble_eq_true rfl) ⟨Nat.zero_le _, Nat.zero_le _⟩ dX10_undo_1 (fun r_1 er_1 => ?_)
  subst er_1
  refine lv_if_ne (tgt := 10) hx hb dX10_undo_4 (by decide) (fun c_2 => ?_) (fun c_2 => ?_)
  · first | exact absurd c_2 (by decide) | exact absurd (by decide) c_2
  refine lv_bipush (v := (-2)) hx hb dX10_undo_7 (by decide) ?_
  exact W.iret (v := (-2)) hx hb hr (fun t ht hW => ⟨(-2), rfl, rfl, ht⟩) (fun _ h9 => by cases h9) dX10_undo_9
set_option maxHeartbeats 4000000 in
set_option maxRecDepth 100000 in
theorem c_X10_anew (l : Launch) (D : va_G) (k : Nat → ClassId) (u : Nat → Nat) (mf : Nat → Int32)   : Met l yX10_anew (.code yX10_anew cX10_anew 2 (some .int) :: TB) (rmk 2) (va_Pc [.ref (u 0)] (fun U => MWH D k u mf U U.heap)) (vp_Si (fun r => r = (-2))) 0 0 (fun _ => False) := by
  refine Met.ofW (cc := cX10_anew) (maxL := 2) (ret := (some .int)) (by decide) rfl ?_
  intro p e s m args below meth c s₁ B hml hv
  obtain ⟨rfl, hF⟩ := hv
  have hx := B.exec
  have hb := B.bytes
  have hr := B.returns
  have hT : ∀ w ∈ TB, w.before ([.ref (u 0)] : List Value).toArray s = true := fun w h => atoms_spec (ws := .code yX10_anew cX10_anew 2 (some .int) :: TB) B.pre w (List.mem_cons_of_mem _ h)
  have hown : s.vm.findClass RX10 = some m.cls := findClass_of_methodNamed B.named
  have S : CallFix p m c cX10_anew 2 s _ TB RX10 := ⟨hx, hb, hml, hown, hT⟩
  have hP : va_P D vwCl [(u 0, .inr (10, [.int 0, .ref (u 1), .ref (u 2), .ref (u 3), .ref (u 4), .int 0, .ref (u 5), .int 0, .int 0, .int 0, .int 0, .int 0, .int 0, .int (-1), .ref (u 6), .ref (u 7), .ref (u 8), .ref (u 9), .ref (u 10), .ref (u 11), .int 0, .int 0, .int 0, .ref (u 12), .ref (u 13), .ref (u 14), .int 0, .int 0, .ref (u 15), .int 0, .ref (u 16), .int 0, .ref (u 17), .int 0, .ref (u 18), .ref (u 19), .ref (u 20), .ref (u 21)])), (u 1, .inl (k 0, 168, .inl (fun _ => 0))), (u 3, .inl (k 3, 3, .inl (fun _ => 0))), (u 18, .inl (k 0, 4, .inl mf))] s.heap := hF.1
  have hK := hF.2.1
  have hl := lv_entry ([.ref (u 0)]) (n := 2) (Nat.le_of_ble_eq_true rfl)
  rw [lg_entry_eq]
  generalize (lg_sl ([.ref (u 0)]) ++ List.replicate (2 - (lg_sl ([.ref (u 0)])).length) Slot.unset).toArray = ls at hl ⊢
  have hl : lv_has ls 2 [(0, .ref (u 0))] := hl
  refine lv_aload_n hx hb dX10_anew_0 rfl (lv_at hl 0 rfl) ?_
  refine ro_V (As := []) (rest := []) S (c_X10_isLand l D k u mf ) lkX10_297 ok_X10_isLand ⟨rfl, rfl, Nat.le_of_ble_eq_true rfl, Nat.le_of_ble_eq_true rfl⟩ (mw_V (ci := 10) (q0 := 0) hF rfl rfl) rfl hl.1 rfl (Nat.le_of_ble_eq_true rfl) ⟨Nat.zero_le _, Nat.zero_le _⟩ dX10_anew_1 (fun r_1 er_1 => ?_)
  subst er_1
  refine lv_if_ne (tgt := 10) hx hb dX10_anew_4 (by decide) (fun c_2 => ?_) (fun c_2 => ?_)
  · first | exact absurd c_2 (by decide) | exact absurd (by decide) c_2
  refine lv_bipush (v := (-2)) hx hb dX10_anew_7 (by decide) ?_
  exact W.iret (v := (-2)) hx hb hr (fun t ht hW => ⟨(-2), rfl, rfl, ht⟩) (fun _ h9 => by cases h9) dX10_anew_9
set_option maxHeartbeats 4000000 in
set_option maxRecDepth 100000 in
theorem c_X10_goes (l : Launch) (D : va_G) (k : Nat → ClassId) (u : Nat → Nat) (mf : Nat → Int32) (p0 : Int32) (p1 : Int32)  : Met l yX10_goes (.code yX10_goes cX10_goes 4 (some .int) :: TB) (rmk 4) (va_Pc [.ref (u 0), .int p0, .int p1] (fun U => MWH D k u mf U U.heap)) (vp_Si (fun r => r = (-2))) 0 0 (fun _ => False) := by
  refine Met.ofW (cc := cX10_goes) (maxL := 4) (ret := (some .int)) (by decide) rfl ?_
  intro p e s m args below meth c s₁ B hml hv
  obtain ⟨rfl, hF⟩ := hv
  have hx := B.exec
  have hb := B.bytes
  have hr := B.returns
  have hT : ∀ w ∈ TB, w.before ([.ref (u 0), .int p0, .int p1] : List Value).toArray s = true := fun w h => atoms_spec (ws := .code yX10_goes cX10_goes 4 (some .int) :: TB) B.pre w (List.mem_cons_of_mem _ h)
  have hown : s.vm.findClass RX10 = some m.cls := findClass_of_methodNamed B.named
  have S : CallFix p m c cX10_goes 4 s _ TB RX10 := ⟨hx, hb, hml, hown, hT⟩
  have hP : va_P D vwCl [(u 0, .inr (10, [.int 0, .ref (u 1), .ref (u 2), .ref (u 3), .ref (u 4), .int 0, .ref (u 5), .int 0, .int 0, .int 0, .int 0, .int 0, .int 0, .int (-1), .ref (u 6), .ref (u 7), .ref (u 8), .ref (u 9), .ref (u 10), .ref (u 11), .int 0, .int 0, .int 0, .ref (u 12), .ref (u 13), .ref (u 14), .int 0, .int 0, .ref (u 15), .int 0, .ref (u 16), .int 0, .ref (u 17), .int 0, .ref (u 18), .ref (u 19), .ref (u 20), .ref (u 21)])), (u 1, .inl (k 0, 168, .inl (fun _ => 0))), (u 3, .inl (k 3, 3, .inl (fun _ => 0))), (u 18, .inl (k 0, 4, .inl mf))] s.heap := hF.1
  have hK := hF.2.1
  have hl := lv_entry ([.ref (u 0), .int p0, .int p1]) (n := 4) (Nat.le_of_ble_eq_true rfl)
  rw [lg_entry_eq]
  generalize (lg_sl ([.ref (u 0), .int p0, .int p1]) ++ List.replicate (4 - (lg_sl ([.ref (u 0), .int p0, .int p1])).length) Slot.unset).toArray = ls at hl ⊢
  have hl : lv_has ls 4 [(0, .ref (u 0)), (1, .int p0), (2, .int p1)] := hl
  refine lv_aload_n hx hb dX10_goes_0 rfl (lv_at hl 0 rfl) ?_
  refine lv_iload_n hx hb dX10_goes_1 rfl (lv_at hl 1 rfl) ?_
  refine lv_iload_n hx hb dX10_goes_2 rfl (lv_at hl 2 rfl) ?_
  refine ro_V (As := [.int p0, .int p1]) (rest := []) S (c_X10_asksRow l D k u mf p0 p1) lkX10_319 ok_X10_asksRow ⟨rfl, rfl, Nat.le_of_ble_eq_true rfl, Nat.le_of_ble_eq_true rfl⟩ (mw_V (ci := 10) (q0 := 0) hF rfl rfl) rfl hl.1 rfl (Nat.le_of_ble_eq_true rfl) ⟨Nat.zero_le _, Nat.zero_le _⟩ dX10_goes_3 (fun r_1 er_1 => ?_)
  subst er_1
  refine lv_istore_n (lv' := [(3, .int (-2)), (0, .ref (u 0)), (1, .int p0), (2, .int p1)]) hx hb dX10_goes_6 rfl hl (by decide) rfl (fun ls hl => ?_)
  refine lv_iload_n hx hb dX10_goes_7 rfl (lv_at hl 0 rfl) ?_
  refine lv_if_ge (tgt := 13) hx hb dX10_goes_8 (by decide) (fun c_2 => ?_) (fun c_2 => ?_)
  · first | exact absurd c_2 (by decide) | exact absurd (by decide) c_2
  refine lv_iload_n hx hb dX10_goes_11 rfl (lv_at hl 0 rfl) ?_
  exact W.iret (v := (-2)) hx hb hr (fun t ht hW => ⟨(-2), rfl, rfl, ht⟩) (fun _ h9 => by cases h9) dX10_goes_12
set_option maxHeartbeats 4000000 in
set_option maxRecDepth 100000 in
theorem c_X10_ends (l : Launch) (D : va_G) (k : Nat → ClassId) (u : Nat → Nat) (mf : Nat → Int32) (p0 : Int32) (p1 : Int32)  : Met l yX10_ends (.code yX10_ends cX10_ends 4 (some .int) :: TB) (rmk 4) (va_Pc [.ref (u 0), .int p0, .int p1] (fun U => MWH D k u mf U U.heap)) (vp_Si (fun r => r = (-2))) 0 0 (fun _ => False) := by
  refine Met.ofW (cc := cX10_ends) (maxL := 4) (ret := (some .int)) (by decide) rfl ?_
  intro p e s m args below meth c s₁ B hml hv
  obtain ⟨rfl, hF⟩ := hv
  have hx := B.exec
  have hb := B.bytes
  have hr := B.returns
  have hT : ∀ w ∈ TB, w.before ([.ref (u 0), .int p0, .int p1] : List Value).toArray s = true := fun w h => atoms_spec (ws := .code yX10_ends cX10_ends 4 (some .int) :: TB) B.pre w (List.mem_cons_of_mem _ h)
  have hown : s.vm.findClass RX10 = some m.cls := findClass_of_methodNamed B.named
  have S : CallFix p m c cX10_ends 4 s _ TB RX10 := ⟨hx, hb, hml, hown, hT⟩
  have hP : va_P D vwCl [(u 0, .inr (10, [.int 0, .ref (u 1), .ref (u 2), .ref (u 3), .ref (u 4), .int 0, .ref (u 5), .int 0, .int 0, .int 0, .int 0, .int 0, .int 0, .int (-1), .ref (u 6), .ref (u 7), .ref (u 8), .ref (u 9), .ref (u 10), .ref (u 11), .int 0, .int 0, .int 0, .ref (u 12), .ref (u 13), .ref (u 14), .int 0, .int 0, .ref (u 15), .int 0, .ref (u 16), .int 0, .ref (u 17), .int 0, .ref (u 18), .ref (u 19), .ref (u 20), .ref (u 21)])), (u 1, .inl (k 0, 168, .inl (fun _ => 0))), (u 3, .inl (k 3, 3, .inl (fun _ => 0))), (u 18, .inl (k 0, 4, .inl mf))] s.heap := hF.1
  have hK := hF.2.1
  have hl := lv_entry ([.ref (u 0), .int p0, .int p1]) (n := 4) (Nat.le_of_ble_eq_true rfl)
  rw [lg_entry_eq]
  generalize (lg_sl ([.ref (u 0), .int p0, .int p1]) ++ List.replicate (4 - (lg_sl ([.ref (u 0), .int p0, .int p1])).length) Slot.unset).toArray = ls at hl ⊢
  have hl : lv_has ls 4 [(0, .ref (u 0)), (1, .int p0), (2, .int p1)] := hl
  refine lv_aload_n hx hb dX10_ends_0 rfl (lv_at hl 0 rfl) ?_
  refine lv_iload_n hx hb dX10_ends_1 rfl (lv_at hl 1 rfl) ?_
  refine lv_iload_n hx hb dX10_ends_2 rfl (lv_at hl 2 rfl) ?_
  refine ro_V (As := [.int p0, .int p1]) (rest := []) S (c_X10_asksRow l D k u mf p0 p1) lkX10_319 ok_X10_asksRow ⟨rfl, rfl, Nat.le_of_ble_eq_true rfl, Nat.le_of_ble_eq_true rfl⟩ (mw_V (ci := 10) (q0 := 0) hF rfl rfl) rfl hl.1 rfl (Nat.le_of_ble_eq_true rfl) ⟨Nat.zero_le _, Nat.zero_le _⟩ dX10_ends_3 (fun r_1 er_1 => ?_)
  subst er_1
  refine lv_istore_n (lv' := [(3, .int (-2)), (0, .ref (u 0)), (1, .int p0), (2, .int p1)]) hx hb dX10_ends_6 rfl hl (by decide) rfl (fun ls hl => ?_)
  refine lv_iload_n hx hb dX10_ends_7 rfl (lv_at hl 0 rfl) ?_
  refine lv_if_ge (tgt := 13) hx hb dX10_ends_8 (by decide) (fun c_2 => ?_) (fun c_2 => ?_)
  · first | exact absurd c_2 (by decide) | exact absurd (by decide) c_2
  refine lv_iload_n hx hb dX10_ends_11 rfl (lv_at hl 0 rfl) ?_
  exact W.iret (v := (-2)) hx hb hr (fun t ht hW => ⟨(-2), rfl, rfl, ht⟩) (fun _ h9 => by cases h9) dX10_ends_12
set_option maxHeartbeats 4000000 in
set_option maxRecDepth 100000 in
theorem c_X10_ran (l : Launch) (D : va_G) (k : Nat → ClassId) (u : Nat → Nat) (mf : Nat → Int32) (p0 : Int32) (p1 : Int32)  : Met l yX10_ran (.code yX10_ran cX10_ran 4 (some .int) :: TB) (rmk 4) (va_Pc [.ref (u 0), .int p0, .int p1] (fun U => MWH D k u mf U U.heap)) (vp_Si (fun r => r = (-2))) 0 0 (fun _ => False) := by
  refine Met.ofW (cc := cX10_ran) (maxL := 4) (ret := (some .int)) (by decide) rfl ?_
  intro p e s m args below meth c s₁ B hml hv
  obtain ⟨rfl, hF⟩ := hv
  have hx := B.exec
  have hb := B.bytes
  have hr := B.returns
  have hT : ∀ w ∈ TB, w.before ([.ref (u 0), .int p0, .int p1] : List Value).toArray s = true := fun w h => atoms_spec (ws := .code yX10_ran cX10_ran 4 (some .int) :: TB) B.pre w (List.mem_cons_of_mem _ h)
  have hown : s.vm.findClass RX10 = some m.cls := findClass_of_methodNamed B.named
  have S : CallFix p m c cX10_ran 4 s _ TB RX10 := ⟨hx, hb, hml, hown, hT⟩
  have hP : va_P D vwCl [(u 0, .inr (10, [.int 0, .ref (u 1), .ref (u 2), .ref (u 3), .ref (u 4), .int 0, .ref (u 5), .int 0, .int 0, .int 0, .int 0, .int 0, .int 0, .int (-1), .ref (u 6), .ref (u 7), .ref (u 8), .ref (u 9), .ref (u 10), .ref (u 11), .int 0, .int 0, .int 0, .ref (u 12), .ref (u 13), .ref (u 14), .int 0, .int 0, .ref (u 15), .int 0, .ref (u 16), .int 0, .ref (u 17), .int 0, .ref (u 18), .ref (u 19), .ref (u 20), .ref (u 21)])), (u 1, .inl (k 0, 168, .inl (fun _ => 0))), (u 3, .inl (k 3, 3, .inl (fun _ => 0))), (u 18, .inl (k 0, 4, .inl mf))] s.heap := hF.1
  have hK := hF.2.1
  have hl := lv_entry ([.ref (u 0), .int p0, .int p1]) (n := 4) (Nat.le_of_ble_eq_true rfl)
  rw [lg_entry_eq]
  generalize (lg_sl ([.ref (u 0), .int p0, .int p1]) ++ List.replicate (4 - (lg_sl ([.ref (u 0), .int p0, .int p1])).length) Slot.unset).toArray = ls at hl ⊢
  have hl : lv_has ls 4 [(0, .ref (u 0)), (1, .int p0), (2, .int p1)] := hl
  refine lv_aload_n hx hb dX10_ran_0 rfl (lv_at hl 0 rfl) ?_
  refine lv_iload_n hx hb dX10_ran_1 rfl (lv_at hl 1 rfl) ?_
  refine lv_iload_n hx hb dX10_ran_2 rfl (lv_at hl 2 rfl) ?_
  refine ro_V (As := [.int p0, .int p1]) (rest := []) S (c_X10_asksRow l D k u mf p0 p1) lkX10_319 ok_X10_asksRow ⟨rfl, rfl, Nat.le_of_ble_eq_true rfl, Nat.le_of_ble_eq_true rfl⟩ (mw_V (ci := 10) (q0 := 0) hF rfl rfl) rfl hl.1 rfl (Nat.le_of_ble_eq_true rfl) ⟨Nat.zero_le _, Nat.zero_le _⟩ dX10_ran_3 (fun r_1 er_1 => ?_)
  subst er_1
  refine lv_istore_n (lv' := [(3, .int (-2)), (0, .ref (u 0)), (1, .int p0), (2, .int p1)]) hx hb dX10_ran_6 rfl hl (by decide) rfl (fun ls hl => ?_)
  refine lv_iload_n hx hb dX10_ran_7 rfl (lv_at hl 0 rfl) ?_
  refine lv_if_ge (tgt := 13) hx hb dX10_ran_8 (by decide) (fun c_2 => ?_) (fun c_2 => ?_)
  · first | exact absurd c_2 (by decide) | exact absurd (by decide) c_2
  refine lv_iload_n hx hb dX10_ran_11 rfl (lv_at hl 0 rfl) ?_
  exact W.iret (v := (-2)) hx hb hr (fun t ht hW => ⟨(-2), rfl, rfl, ht⟩) (fun _ h9 => by cases h9) dX10_ran_12
set_option maxHeartbeats 4000000 in
set_option maxRecDepth 100000 in
theorem c_X10_astray (l : Launch) (D : va_G) (k : Nat → ClassId) (u : Nat → Nat) (mf : Nat → Int32) (p0 : Int32) (p1 : Int32)  : Met l yX10_astray (.code yX10_astray cX10_astray 4 (some .int) :: TB) (rmk 4) (va_Pc [.ref (u 0), .int p0, .int p1] (fun U => MWH D k u mf U U.heap)) (vp_Si (fun r => r = (-2))) 0 0 (fun _ => False) := by
  refine Met.ofW (cc := cX10_astray) (maxL := 4) (ret := (some .int)) (by decide) rfl ?_
  intro p e s m args below meth c s₁ B hml hv
  obtain ⟨rfl, hF⟩ := hv
  have hx := B.exec
  have hb := B.bytes
  have hr := B.returns
  have hT : ∀ w ∈ TB, w.before ([.ref (u 0), .int p0, .int p1] : List Value).toArray s = true := fun w h => atoms_spec (ws := .code yX10_astray cX10_astray 4 (some .int) :: TB) B.pre w (List.mem_cons_of_mem _ h)
  have hown : s.vm.findClass RX10 = some m.cls := findClass_of_methodNamed B.named
  have S : CallFix p m c cX10_astray 4 s _ TB RX10 := ⟨hx, hb, hml, hown, hT⟩
  have hP : va_P D vwCl [(u 0, .inr (10, [.int 0, .ref (u 1), .ref (u 2), .ref (u 3), .ref (u 4), .int 0, .ref (u 5), .int 0, .int 0, .int 0, .int 0, .int 0, .int 0, .int (-1), .ref (u 6), .ref (u 7), .ref (u 8), .ref (u 9), .ref (u 10), .ref (u 11), .int 0, .int 0, .int 0, .ref (u 12), .ref (u 13), .ref (u 14), .int 0, .int 0, .ref (u 15), .int 0, .ref (u 16), .int 0, .ref (u 17), .int 0, .ref (u 18), .ref (u 19), .ref (u 20), .ref (u 21)])), (u 1, .inl (k 0, 168, .inl (fun _ => 0))), (u 3, .inl (k 3, 3, .inl (fun _ => 0))), (u 18, .inl (k 0, 4, .inl mf))] s.heap := hF.1
  have hK := hF.2.1
  have hl := lv_entry ([.ref (u 0), .int p0, .int p1]) (n := 4) (Nat.le_of_ble_eq_true rfl)
  rw [lg_entry_eq]
  generalize (lg_sl ([.ref (u 0), .int p0, .int p1]) ++ List.replicate (4 - (lg_sl ([.ref (u 0), .int p0, .int p1])).length) Slot.unset).toArray = ls at hl ⊢
  have hl : lv_has ls 4 [(0, .ref (u 0)), (1, .int p0), (2, .int p1)] := hl
  refine lv_aload_n hx hb dX10_astray_0 rfl (lv_at hl 0 rfl) ?_
  refine lv_iload_n hx hb dX10_astray_1 rfl (lv_at hl 1 rfl) ?_
  refine lv_iload_n hx hb dX10_astray_2 rfl (lv_at hl 2 rfl) ?_
  refine ro_V (As := [.int p0, .int p1]) (rest := []) S (c_X10_asksRow l D k u mf p0 p1) lkX10_319 ok_X10_asksRow ⟨rfl, rfl, Nat.le_of_ble_eq_true rfl, Nat.le_of_ble_eq_true rfl⟩ (mw_V (ci := 10) (q0 := 0) hF rfl rfl) rfl hl.1 rfl (Nat.le_of_ble_eq_true rfl) ⟨Nat.zero_le _, Nat.zero_le _⟩ dX10_astray_3 (fun r_1 er_1 => ?_)
  subst er_1
  refine lv_istore_n (lv' := [(3, .int (-2)), (0, .ref (u 0)), (1, .int p0), (2, .int p1)]) hx hb dX10_astray_6 rfl hl (by decide) rfl (fun ls hl => ?_)
  refine lv_iload_n hx hb dX10_astray_7 rfl (lv_at hl 0 rfl) ?_
  refine lv_if_ge (tgt := 13) hx hb dX10_astray_8 (by decide) (fun c_2 => ?_) (fun c_2 => ?_)
  · first | exact absurd c_2 (by decide) | exact absurd (by decide) c_2
  refine lv_iload_n hx hb dX10_astray_11 rfl (lv_at hl 0 rfl) ?_
  exact W.iret (v := (-2)) hx hb hr (fun t ht hW => ⟨(-2), rfl, rfl, ht⟩) (fun _ h9 => by cases h9) dX10_astray_12
set_option maxHeartbeats 4000000 in
set_option maxRecDepth 100000 in
theorem c_X10_worn (l : Launch) (D : va_G) (k : Nat → ClassId) (u : Nat → Nat) (mf : Nat → Int32) (p0 : Int32) (p1 : Int32)  : Met l yX10_worn (.code yX10_worn cX10_worn 4 (some .int) :: TB) (rmk 4) (va_Pc [.ref (u 0), .int p0, .int p1] (fun U => MWH D k u mf U U.heap)) (vp_Si (fun r => r = (-2))) 0 0 (fun _ => False) := by
  refine Met.ofW (cc := cX10_worn) (maxL := 4) (ret := (some .int)) (by decide) rfl ?_
  intro p e s m args below meth c s₁ B hml hv
  obtain ⟨rfl, hF⟩ := hv
  have hx := B.exec
  have hb := B.bytes
  have hr := B.returns
  have hT : ∀ w ∈ TB, w.before ([.ref (u 0), .int p0, .int p1] : List Value).toArray s = true := fun w h => atoms_spec (ws := .code yX10_worn cX10_worn 4 (some .int) :: TB) B.pre w (List.mem_cons_of_mem _ h)
  have hown : s.vm.findClass RX10 = some m.cls := findClass_of_methodNamed B.named
  have S : CallFix p m c cX10_worn 4 s _ TB RX10 := ⟨hx, hb, hml, hown, hT⟩
  have hP : va_P D vwCl [(u 0, .inr (10, [.int 0, .ref (u 1), .ref (u 2), .ref (u 3), .ref (u 4), .int 0, .ref (u 5), .int 0, .int 0, .int 0, .int 0, .int 0, .int 0, .int (-1), .ref (u 6), .ref (u 7), .ref (u 8), .ref (u 9), .ref (u 10), .ref (u 11), .int 0, .int 0, .int 0, .ref (u 12), .ref (u 13), .ref (u 14), .int 0, .int 0, .ref (u 15), .int 0, .ref (u 16), .int 0, .ref (u 17), .int 0, .ref (u 18), .ref (u 19), .ref (u 20), .ref (u 21)])), (u 1, .inl (k 0, 168, .inl (fun _ => 0))), (u 3, .inl (k 3, 3, .inl (fun _ => 0))), (u 18, .inl (k 0, 4, .inl mf))] s.heap := hF.1
  have hK := hF.2.1
  have hl := lv_entry ([.ref (u 0), .int p0, .int p1]) (n := 4) (Nat.le_of_ble_eq_true rfl)
  rw [lg_entry_eq]
  generalize (lg_sl ([.ref (u 0), .int p0, .int p1]) ++ List.replicate (4 - (lg_sl ([.ref (u 0), .int p0, .int p1])).length) Slot.unset).toArray = ls at hl ⊢
  have hl : lv_has ls 4 [(0, .ref (u 0)), (1, .int p0), (2, .int p1)] := hl
  refine lv_aload_n hx hb dX10_worn_0 rfl (lv_at hl 0 rfl) ?_
  refine lv_iload_n hx hb dX10_worn_1 rfl (lv_at hl 1 rfl) ?_
  refine lv_iload_n hx hb dX10_worn_2 rfl (lv_at hl 2 rfl) ?_
  refine ro_V (As := [.int p0, .int p1]) (rest := []) S (c_X10_asksRow l D k u mf p0 p1) lkX10_319 ok_X10_asksRow ⟨rfl, rfl, Nat.le_of_ble_eq_true rfl, Nat.le_of_ble_eq_true rfl⟩ (mw_V (ci := 10) (q0 := 0) hF rfl rfl) rfl hl.1 rfl (Nat.le_of_ble_eq_true rfl) ⟨Nat.zero_le _, Nat.zero_le _⟩ dX10_worn_3 (fun r_1 er_1 => ?_)
  subst er_1
  refine lv_istore_n (lv' := [(3, .int (-2)), (0, .ref (u 0)), (1, .int p0), (2, .int p1)]) hx hb dX10_worn_6 rfl hl (by decide) rfl (fun ls hl => ?_)
  refine lv_iload_n hx hb dX10_worn_7 rfl (lv_at hl 0 rfl) ?_
  refine lv_if_ge (tgt := 13) hx hb dX10_worn_8 (by decide) (fun c_2 => ?_) (fun c_2 => ?_)
  · first | exact absurd c_2 (by decide) | exact absurd (by decide) c_2
  refine lv_iload_n hx hb dX10_worn_11 rfl (lv_at hl 0 rfl) ?_
  exact W.iret (v := (-2)) hx hb hr (fun t ht hW => ⟨(-2), rfl, rfl, ht⟩) (fun _ h9 => by cases h9) dX10_worn_12
set_option maxHeartbeats 4000000 in
set_option maxRecDepth 100000 in
theorem c_X10_way (l : Launch) (D : va_G) (k : Nat → ClassId) (u : Nat → Nat) (mf : Nat → Int32) (p0 : Int32) (p1 : Int32)  : Met l yX10_way (.code yX10_way cX10_way 4 (some .int) :: TB) (rmk 3) (va_Pc [.ref (u 0), .int p0, .int p1] (fun U => MWH D k u mf U U.heap)) (vp_Si (fun r => r = (-2))) 0 0 (fun _ => False) := by
  refine Met.ofW (cc := cX10_way) (maxL := 4) (ret := (some .int)) (by decide) rfl ?_
  intro p e s m args below meth c s₁ B hml hv
  obtain ⟨rfl, hF⟩ := hv
  have hx := B.exec
  have hb := B.bytes
  have hr := B.returns
  have hT : ∀ w ∈ TB, w.before ([.ref (u 0), .int p0, .int p1] : List Value).toArray s = true := fun w h => atoms_spec (ws := .code yX10_way cX10_way 4 (some .int) :: TB) B.pre w (List.mem_cons_of_mem _ h)
  have hown : s.vm.findClass RX10 = some m.cls := findClass_of_methodNamed B.named
  have S : CallFix p m c cX10_way 4 s _ TB RX10 := ⟨hx, hb, hml, hown, hT⟩
  have hP : va_P D vwCl [(u 0, .inr (10, [.int 0, .ref (u 1), .ref (u 2), .ref (u 3), .ref (u 4), .int 0, .ref (u 5), .int 0, .int 0, .int 0, .int 0, .int 0, .int 0, .int (-1), .ref (u 6), .ref (u 7), .ref (u 8), .ref (u 9), .ref (u 10), .ref (u 11), .int 0, .int 0, .int 0, .ref (u 12), .ref (u 13), .ref (u 14), .int 0, .int 0, .ref (u 15), .int 0, .ref (u 16), .int 0, .ref (u 17), .int 0, .ref (u 18), .ref (u 19), .ref (u 20), .ref (u 21)])), (u 1, .inl (k 0, 168, .inl (fun _ => 0))), (u 3, .inl (k 3, 3, .inl (fun _ => 0))), (u 18, .inl (k 0, 4, .inl mf))] s.heap := hF.1
  have hK := hF.2.1
  have hl := lv_entry ([.ref (u 0), .int p0, .int p1]) (n := 4) (Nat.le_of_ble_eq_true rfl)
  rw [lg_entry_eq]
  generalize (lg_sl ([.ref (u 0), .int p0, .int p1]) ++ List.replicate (4 - (lg_sl ([.ref (u 0), .int p0, .int p1])).length) Slot.unset).toArray = ls at hl ⊢
  have hl : lv_has ls 4 [(0, .ref (u 0)), (1, .int p0), (2, .int p1)] := hl
  refine lv_aload_n hx hb dX10_way_0 rfl (lv_at hl 0 rfl) ?_
  refine lv_iload_n hx hb dX10_way_1 rfl (lv_at hl 1 rfl) ?_
  refine ro_V (As := [.int p0]) (rest := []) S (c_X10_isCart l D k u mf p0) lkX10_279 ok_X10_isCart ⟨rfl, rfl, Nat.le_of_ble_eq_true rfl, Nat.le_of_ble_eq_true rfl⟩ (mw_V (ci := 10) (q0 := 0) hF rfl rfl) rfl hl.1 rfl (Nat.le_of_ble_eq_true rfl) ⟨Nat.zero_le _, Nat.zero_le _⟩ dX10_way_2 (fun r_1 er_1 => ?_)
  subst er_1
  refine lv_if_eq (tgt := 17) hx hb dX10_way_5 (by decide) (fun c_2 => ?_) (fun c_2 => ?_)
  rotate_left
  · first | exact absurd c_2 (by decide) | exact absurd (by decide) c_2
  refine lv_bipush (v := (-2)) hx hb dX10_way_17 (by decide) ?_
  exact W.iret (v := (-2)) hx hb hr (fun t ht hW => ⟨(-2), rfl, rfl, ht⟩) (fun _ h9 => by cases h9) dX10_way_19
set_option maxHeartbeats 4000000 in
set_option maxRecDepth 100000 in
theorem c_X10_wants (l : Launch) (D : va_G) (k : Nat → ClassId) (u : Nat → Nat) (mf : Nat → Int32) (p0 : Int32) (p1 : Int32) (p2 : Int32)  : Met l yX10_wants (.code yX10_wants cX10_wants 4 (some .int) :: TB) (rmk 3) (va_Pc [.ref (u 0), .int p0, .int p1, .int p2] (fun U => MWH D k u mf U U.heap)) (vp_Si (fun r => r = (-2))) 0 0 (fun _ => False) := by
  refine Met.ofW (cc := cX10_wants) (maxL := 4) (ret := (some .int)) (by decide) rfl ?_
  intro p e s m args below meth c s₁ B hml hv
  obtain ⟨rfl, hF⟩ := hv
  have hx := B.exec
  have hb := B.bytes
  have hr := B.returns
  have hT : ∀ w ∈ TB, w.before ([.ref (u 0), .int p0, .int p1, .int p2] : List Value).toArray s = true := fun w h => atoms_spec (ws := .code yX10_wants cX10_wants 4 (some .int) :: TB) B.pre w (List.mem_cons_of_mem _ h)
  have hown : s.vm.findClass RX10 = some m.cls := findClass_of_methodNamed B.named
  have S : CallFix p m c cX10_wants 4 s _ TB RX10 := ⟨hx, hb, hml, hown, hT⟩
  have hP : va_P D vwCl [(u 0, .inr (10, [.int 0, .ref (u 1), .ref (u 2), .ref (u 3), .ref (u 4), .int 0, .ref (u 5), .int 0, .int 0, .int 0, .int 0, .int 0, .int 0, .int (-1), .ref (u 6), .ref (u 7), .ref (u 8), .ref (u 9), .ref (u 10), .ref (u 11), .int 0, .int 0, .int 0, .ref (u 12), .ref (u 13), .ref (u 14), .int 0, .int 0, .ref (u 15), .int 0, .ref (u 16), .int 0, .ref (u 17), .int 0, .ref (u 18), .ref (u 19), .ref (u 20), .ref (u 21)])), (u 1, .inl (k 0, 168, .inl (fun _ => 0))), (u 3, .inl (k 3, 3, .inl (fun _ => 0))), (u 18, .inl (k 0, 4, .inl mf))] s.heap := hF.1
  have hK := hF.2.1
  have hl := lv_entry ([.ref (u 0), .int p0, .int p1, .int p2]) (n := 4) (Nat.le_of_ble_eq_true rfl)
  rw [lg_entry_eq]
  generalize (lg_sl ([.ref (u 0), .int p0, .int p1, .int p2]) ++ List.replicate (4 - (lg_sl ([.ref (u 0), .int p0, .int p1, .int p2])).length) Slot.unset).toArray = ls at hl ⊢
  have hl : lv_has ls 4 [(0, .ref (u 0)), (1, .int p0), (2, .int p1), (3, .int p2)] := hl
  refine lv_aload_n hx hb dX10_wants_0 rfl (lv_at hl 0 rfl) ?_
  refine lv_iload_n hx hb dX10_wants_1 rfl (lv_at hl 1 rfl) ?_
  refine ro_V (As := [.int p0]) (rest := []) S (c_X10_isCart l D k u mf p0) lkX10_279 ok_X10_isCart ⟨rfl, rfl, Nat.le_of_ble_eq_true rfl, Nat.le_of_ble_eq_true rfl⟩ (mw_V (ci := 10) (q0 := 0) hF rfl rfl) rfl hl.1 rfl (Nat.le_of_ble_eq_true rfl) ⟨Nat.zero_le _, Nat.zero_le _⟩ dX10_wants_2 (fun r_1 er_1 => ?_)
  subst er_1
  refine lv_if_eq (tgt := 17) hx hb dX10_wants_5 (by decide) (fun c_2 => ?_) (fun c_2 => ?_)
  rotate_left
  · first | exact absurd c_2 (by decide) | exact absurd (by decide) c_2
  refine lv_bipush (v := (-2)) hx hb dX10_wants_17 (by decide) ?_
  exact W.iret (v := (-2)) hx hb hr (fun t ht hW => ⟨(-2), rfl, rfl, ht⟩) (fun _ h9 => by cases h9) dX10_wants_19
set_option maxHeartbeats 4000000 in
set_option maxRecDepth 100000 in
theorem c_X10_reach (l : Launch) (D : va_G) (k : Nat → ClassId) (u : Nat → Nat) (mf : Nat → Int32) (p0 : Int32)  : Met l yX10_reach (.code yX10_reach cX10_reach 2 (some .int) :: TB) (rmk 3) (va_Pc [.ref (u 0), .int p0] (fun U => MWH D k u mf U U.heap)) (vp_Si (fun r => r = (-2))) 0 0 (fun _ => False) := by
  refine Met.ofW (cc := cX10_reach) (maxL := 2) (ret := (some .int)) (by decide) rfl ?_
  intro p e s m args below meth c s₁ B hml hv
  obtain ⟨rfl, hF⟩ := hv
  have hx := B.exec
  have hb := B.bytes
  have hr := B.returns
  have hT : ∀ w ∈ TB, w.before ([.ref (u 0), .int p0] : List Value).toArray s = true := fun w h => atoms_spec (ws := .code yX10_reach cX10_reach 2 (some .int) :: TB) B.pre w (List.mem_cons_of_mem _ h)
  have hown : s.vm.findClass RX10 = some m.cls := findClass_of_methodNamed B.named
  have S : CallFix p m c cX10_reach 2 s _ TB RX10 := ⟨hx, hb, hml, hown, hT⟩
  have hP : va_P D vwCl [(u 0, .inr (10, [.int 0, .ref (u 1), .ref (u 2), .ref (u 3), .ref (u 4), .int 0, .ref (u 5), .int 0, .int 0, .int 0, .int 0, .int 0, .int 0, .int (-1), .ref (u 6), .ref (u 7), .ref (u 8), .ref (u 9), .ref (u 10), .ref (u 11), .int 0, .int 0, .int 0, .ref (u 12), .ref (u 13), .ref (u 14), .int 0, .int 0, .ref (u 15), .int 0, .ref (u 16), .int 0, .ref (u 17), .int 0, .ref (u 18), .ref (u 19), .ref (u 20), .ref (u 21)])), (u 1, .inl (k 0, 168, .inl (fun _ => 0))), (u 3, .inl (k 3, 3, .inl (fun _ => 0))), (u 18, .inl (k 0, 4, .inl mf))] s.heap := hF.1
  have hK := hF.2.1
  have hl := lv_entry ([.ref (u 0), .int p0]) (n := 2) (Nat.le_of_ble_eq_true rfl)
  rw [lg_entry_eq]
  generalize (lg_sl ([.ref (u 0), .int p0]) ++ List.replicate (2 - (lg_sl ([.ref (u 0), .int p0])).length) Slot.unset).toArray = ls at hl ⊢
  have hl : lv_has ls 2 [(0, .ref (u 0)), (1, .int p0)] := hl
  refine lv_aload_n hx hb dX10_reach_0 rfl (lv_at hl 0 rfl) ?_
  refine lv_iload_n hx hb dX10_reach_1 rfl (lv_at hl 1 rfl) ?_
  refine ro_V (As := [.int p0]) (rest := []) S (c_X10_isCart l D k u mf p0) lkX10_279 ok_X10_isCart ⟨rfl, rfl, Nat.le_of_ble_eq_true rfl, Nat.le_of_ble_eq_true rfl⟩ (mw_V (ci := 10) (q0 := 0) hF rfl rfl) rfl hl.1 rfl (Nat.le_of_ble_eq_true rfl) ⟨Nat.zero_le _, Nat.zero_le _⟩ dX10_reach_2 (fun r_1 er_1 => ?_)
  subst er_1
  refine lv_if_ne (tgt := 11) hx hb dX10_reach_5 (by decide) (fun c_2 => ?_) (fun c_2 => ?_)
  · first | exact absurd c_2 (by decide) | exact absurd (by decide) c_2
  refine lv_bipush (v := (-2)) hx hb dX10_reach_8 (by decide) ?_
  exact W.iret (v := (-2)) hx hb hr (fun t ht hW => ⟨(-2), rfl, rfl, ht⟩) (fun _ h9 => by cases h9) dX10_reach_10
end
section
set_option maxHeartbeats 4000000 in
set_option maxRecDepth 100000 in
theorem c_X10_far (l : Launch) (D : va_G) (k : Nat → ClassId) (u : Nat → Nat) (mf : Nat → Int32) (p0 : Int32) (p1 : Int32)  : Met l yX10_far (.code yX10_far cX10_far 7 (some .int) :: TB) (rmk 3) (va_Pc [.ref (u 0), .int p0, .int p1] (fun U => MWH D k u mf U U.heap)) (vp_Si (fun r => r = (-2))) 0 0 (fun _ => False) := by
  refine Met.ofW (cc := cX10_far) (maxL := 7) (ret := (some .int)) (by decide) rfl ?_
  intro p e s m args below meth c s₁ B hml hv
  obtain ⟨rfl, hF⟩ := hv
  have hx := B.exec
  have hb := B.bytes
  have hr := B.returns
  have hT : ∀ w ∈ TB, w.before ([.ref (u 0), .int p0, .int p1] : List Value).toArray s = true := fun w h => atoms_spec (ws := .code yX10_far cX10_far 7 (some .int) :: TB) B.pre w (List.mem_cons_of_mem _ h)
  have hown : s.vm.findClass RX10 = some m.cls := findClass_of_methodNamed B.named
  have S : CallFix p m c cX10_far 7 s _ TB RX10 := ⟨hx, hb, hml, hown, hT⟩
  have hP : va_P D vwCl [(u 0, .inr (10, [.int 0, .ref (u 1), .ref (u 2), .ref (u 3), .ref (u 4), .int 0, .ref (u 5), .int 0, .int 0, .int 0, .int 0, .int 0, .int 0, .int (-1), .ref (u 6), .ref (u 7), .ref (u 8), .ref (u 9), .ref (u 10), .ref (u 11), .int 0, .int 0, .int 0, .ref (u 12), .ref (u 13), .ref (u 14), .int 0, .int 0, .ref (u 15), .int 0, .ref (u 16), .int 0, .ref (u 17), .int 0, .ref (u 18), .ref (u 19), .ref (u 20), .ref (u 21)])), (u 1, .inl (k 0, 168, .inl (fun _ => 0))), (u 3, .inl (k 3, 3, .inl (fun _ => 0))), (u 18, .inl (k 0, 4, .inl mf))] s.heap := hF.1
  have hK := hF.2.1
  have hl := lv_entry ([.ref (u 0), .int p0, .int p1]) (n := 7) (Nat.le_of_ble_eq_true rfl)
  rw [lg_entry_eq]
  generalize (lg_sl ([.ref (u 0), .int p0, .int p1]) ++ List.replicate (7 - (lg_sl ([.ref (u 0), .int p0, .int p1])).length) Slot.unset).toArray = ls at hl ⊢
  have hl : lv_has ls 7 [(0, .ref (u 0)), (1, .int p0), (2, .int p1)] := hl
  refine lv_aload_n hx hb dX10_far_0 rfl (lv_at hl 0 rfl) ?_
  refine lv_iload_n hx hb dX10_far_1 rfl (lv_at hl 1 rfl) ?_
  refine lv_i2l (v := p0.toInt64) hx hb dX10_far_2 rfl ?_
  refine ro_V (As := [.long p0.toInt64]) (rest := []) S (c_X10_isPlace l D k u mf p0.toInt64) lkX10_282 ok_X10_isPlace ⟨rfl, rfl, Nat.le_of_ble_eq_true rfl, Nat.le_of_ble_eq_true rfl⟩ (mw_V (ci := 10) (q0 := 0) hF rfl rfl) rfl hl.1 rfl (Nat.le_of_ble_eq_true rfl) ⟨Nat.zero_le _, Nat.zero_le _⟩ dX10_far_3 (fun r_1 er_1 => ?_)
  subst er_1
  refine lv_if_eq (tgt := 18) hx hb dX10_far_6 (by decide) (fun c_2 => ?_) (fun c_2 => ?_)
  rotate_left
  · first | exact absurd c_2 (by decide) | exact absurd (by decide) c_2
  refine lv_bipush (v := (-2)) hx hb dX10_far_18 (by decide) ?_
  exact W.iret (v := (-2)) hx hb hr (fun t ht hW => ⟨(-2), rfl, rfl, ht⟩) (fun _ h9 => by cases h9) dX10_far_20
set_option maxHeartbeats 4000000 in
set_option maxRecDepth 100000 in
theorem c_X10_dues (l : Launch) (D : va_G) (k : Nat → ClassId) (u : Nat → Nat) (mf : Nat → Int32)   : Met l yX10_dues (.code yX10_dues cX10_dues 3 (some .int) :: TB) (rmk 2) (va_Pc [.ref (u 0)] (fun U => MWH D k u mf U U.heap)) (vp_Si (fun r => r = (-2))) 0 0 (fun _ => False) := by
  refine Met.ofW (cc := cX10_dues) (maxL := 3) (ret := (some .int)) (by decide) rfl ?_
  intro p e s m args below meth c s₁ B hml hv
  obtain ⟨rfl, hF⟩ := hv
  have hx := B.exec
  have hb := B.bytes
  have hr := B.returns
  have hT : ∀ w ∈ TB, w.before ([.ref (u 0)] : List Value).toArray s = true := fun w h => atoms_spec (ws := .code yX10_dues cX10_dues 3 (some .int) :: TB) B.pre w (List.mem_cons_of_mem _ h)
  have hown : s.vm.findClass RX10 = some m.cls := findClass_of_methodNamed B.named
  have S : CallFix p m c cX10_dues 3 s _ TB RX10 := ⟨hx, hb, hml, hown, hT⟩
  have hP : va_P D vwCl [(u 0, .inr (10, [.int 0, .ref (u 1), .ref (u 2), .ref (u 3), .ref (u 4), .int 0, .ref (u 5), .int 0, .int 0, .int 0, .int 0, .int 0, .int 0, .int (-1), .ref (u 6), .ref (u 7), .ref (u 8), .ref (u 9), .ref (u 10), .ref (u 11), .int 0, .int 0, .int 0, .ref (u 12), .ref (u 13), .ref (u 14), .int 0, .int 0, .ref (u 15), .int 0, .ref (u 16), .int 0, .ref (u 17), .int 0, .ref (u 18), .ref (u 19), .ref (u 20), .ref (u 21)])), (u 1, .inl (k 0, 168, .inl (fun _ => 0))), (u 3, .inl (k 3, 3, .inl (fun _ => 0))), (u 18, .inl (k 0, 4, .inl mf))] s.heap := hF.1
  have hK := hF.2.1
  have hl := lv_entry ([.ref (u 0)]) (n := 3) (Nat.le_of_ble_eq_true rfl)
  rw [lg_entry_eq]
  generalize (lg_sl ([.ref (u 0)]) ++ List.replicate (3 - (lg_sl ([.ref (u 0)])).length) Slot.unset).toArray = ls at hl ⊢
  have hl : lv_has ls 3 [(0, .ref (u 0))] := hl
  refine lv_aload_n hx hb dX10_dues_0 rfl (lv_at hl 0 rfl) ?_
  refine ro_V (As := []) (rest := []) S (c_X10_isLand l D k u mf ) lkX10_297 ok_X10_isLand ⟨rfl, rfl, Nat.le_of_ble_eq_true rfl, Nat.le_of_ble_eq_true rfl⟩ (mw_V (ci := 10) (q0 := 0) hF rfl rfl) rfl hl.1 rfl (Nat.le_of_ble_eq_true rfl) ⟨Nat.zero_le _, Nat.zero_le _⟩ dX10_dues_1 (fun r_1 er_1 => ?_)
  subst er_1
  refine lv_if_ne (tgt := 10) hx hb dX10_dues_4 (by decide) (fun c_2 => ?_) (fun c_2 => ?_)
  · first | exact absurd c_2 (by decide) | exact absurd (by decide) c_2
  refine lv_bipush (v := (-2)) hx hb dX10_dues_7 (by decide) ?_
  exact W.iret (v := (-2)) hx hb hr (fun t ht hW => ⟨(-2), rfl, rfl, ht⟩) (fun _ h9 => by cases h9) dX10_dues_9
set_option maxHeartbeats 4000000 in
set_option maxRecDepth 100000 in
theorem c_X10_choose (l : Launch) (D : va_G) (k : Nat → ClassId) (u : Nat → Nat) (mf : Nat → Int32) (p0 : Int32) (p1 : Int32)  : Met l yX10_choose (.code yX10_choose cX10_choose 4 (some .int) :: TB) (rmk 3) (va_Pc [.ref (u 0), .int p0, .int p1] (fun U => MWH D k u mf U U.heap)) (vp_Si (fun r => r = (-2))) 0 0 (fun _ => False) := by
  refine Met.ofW (cc := cX10_choose) (maxL := 4) (ret := (some .int)) (by decide) rfl ?_
  intro p e s m args below meth c s₁ B hml hv
  obtain ⟨rfl, hF⟩ := hv
  have hx := B.exec
  have hb := B.bytes
  have hr := B.returns
  have hT : ∀ w ∈ TB, w.before ([.ref (u 0), .int p0, .int p1] : List Value).toArray s = true := fun w h => atoms_spec (ws := .code yX10_choose cX10_choose 4 (some .int) :: TB) B.pre w (List.mem_cons_of_mem _ h)
  have hown : s.vm.findClass RX10 = some m.cls := findClass_of_methodNamed B.named
  have S : CallFix p m c cX10_choose 4 s _ TB RX10 := ⟨hx, hb, hml, hown, hT⟩
  have hP : va_P D vwCl [(u 0, .inr (10, [.int 0, .ref (u 1), .ref (u 2), .ref (u 3), .ref (u 4), .int 0, .ref (u 5), .int 0, .int 0, .int 0, .int 0, .int 0, .int 0, .int (-1), .ref (u 6), .ref (u 7), .ref (u 8), .ref (u 9), .ref (u 10), .ref (u 11), .int 0, .int 0, .int 0, .ref (u 12), .ref (u 13), .ref (u 14), .int 0, .int 0, .ref (u 15), .int 0, .ref (u 16), .int 0, .ref (u 17), .int 0, .ref (u 18), .ref (u 19), .ref (u 20), .ref (u 21)])), (u 1, .inl (k 0, 168, .inl (fun _ => 0))), (u 3, .inl (k 3, 3, .inl (fun _ => 0))), (u 18, .inl (k 0, 4, .inl mf))] s.heap := hF.1
  have hK := hF.2.1
  have hl := lv_entry ([.ref (u 0), .int p0, .int p1]) (n := 4) (Nat.le_of_ble_eq_true rfl)
  rw [lg_entry_eq]
  generalize (lg_sl ([.ref (u 0), .int p0, .int p1]) ++ List.replicate (4 - (lg_sl ([.ref (u 0), .int p0, .int p1])).length) Slot.unset).toArray = ls at hl ⊢
  have hl : lv_has ls 4 [(0, .ref (u 0)), (1, .int p0), (2, .int p1)] := hl
  refine lv_aload_n hx hb dX10_choose_0 rfl (lv_at hl 0 rfl) ?_
  refine lv_iload_n hx hb dX10_choose_1 rfl (lv_at hl 1 rfl) ?_
  refine ro_V (As := [.int p0]) (rest := []) S (c_X10_isCart l D k u mf p0) lkX10_279 ok_X10_isCart ⟨rfl, rfl, Nat.le_of_ble_eq_true rfl, Nat.le_of_ble_eq_true rfl⟩ (mw_V (ci := 10) (q0 := 0) hF rfl rfl) rfl hl.1 rfl (Nat.le_of_ble_eq_true rfl) ⟨Nat.zero_le _, Nat.zero_le _⟩ dX10_choose_2 (fun r_1 er_1 => ?_)
  subst er_1
  refine lv_if_eq (tgt := 17) hx hb dX10_choose_5 (by decide) (fun c_2 => ?_) (fun c_2 => ?_)
  rotate_left
  · first | exact absurd c_2 (by decide) | exact absurd (by decide) c_2
  refine lv_bipush (v := (-2)) hx hb dX10_choose_17 (by decide) ?_
  exact W.iret (v := (-2)) hx hb hr (fun t ht hW => ⟨(-2), rfl, rfl, ht⟩) (fun _ h9 => by cases h9) dX10_choose_19
set_option maxHeartbeats 4000000 in
set_option maxRecDepth 100000 in
theorem c_X10_chosen (l : Launch) (D : va_G) (k : Nat → ClassId) (u : Nat → Nat) (mf : Nat → Int32) (p0 : Int32) (p1 : Int32)  : Met l yX10_chosen (.code yX10_chosen cX10_chosen 3 (some .int) :: TB) (rmk 3) (va_Pc [.ref (u 0), .int p0, .int p1] (fun U => MWH D k u mf U U.heap)) (vp_Si (fun r => r = (-2))) 0 0 (fun _ => False) := by
  refine Met.ofW (cc := cX10_chosen) (maxL := 3) (ret := (some .int)) (by decide) rfl ?_
  intro p e s m args below meth c s₁ B hml hv
  obtain ⟨rfl, hF⟩ := hv
  have hx := B.exec
  have hb := B.bytes
  have hr := B.returns
  have hT : ∀ w ∈ TB, w.before ([.ref (u 0), .int p0, .int p1] : List Value).toArray s = true := fun w h => atoms_spec (ws := .code yX10_chosen cX10_chosen 3 (some .int) :: TB) B.pre w (List.mem_cons_of_mem _ h)
  have hown : s.vm.findClass RX10 = some m.cls := findClass_of_methodNamed B.named
  have S : CallFix p m c cX10_chosen 3 s _ TB RX10 := ⟨hx, hb, hml, hown, hT⟩
  have hP : va_P D vwCl [(u 0, .inr (10, [.int 0, .ref (u 1), .ref (u 2), .ref (u 3), .ref (u 4), .int 0, .ref (u 5), .int 0, .int 0, .int 0, .int 0, .int 0, .int 0, .int (-1), .ref (u 6), .ref (u 7), .ref (u 8), .ref (u 9), .ref (u 10), .ref (u 11), .int 0, .int 0, .int 0, .ref (u 12), .ref (u 13), .ref (u 14), .int 0, .int 0, .ref (u 15), .int 0, .ref (u 16), .int 0, .ref (u 17), .int 0, .ref (u 18), .ref (u 19), .ref (u 20), .ref (u 21)])), (u 1, .inl (k 0, 168, .inl (fun _ => 0))), (u 3, .inl (k 3, 3, .inl (fun _ => 0))), (u 18, .inl (k 0, 4, .inl mf))] s.heap := hF.1
  have hK := hF.2.1
  have hl := lv_entry ([.ref (u 0), .int p0, .int p1]) (n := 3) (Nat.le_of_ble_eq_true rfl)
  rw [lg_entry_eq]
  generalize (lg_sl ([.ref (u 0), .int p0, .int p1]) ++ List.replicate (3 - (lg_sl ([.ref (u 0), .int p0, .int p1])).length) Slot.unset).toArray = ls at hl ⊢
  have hl : lv_has ls 3 [(0, .ref (u 0)), (1, .int p0), (2, .int p1)] := hl
  refine lv_aload_n hx hb dX10_chosen_0 rfl (lv_at hl 0 rfl) ?_
  refine lv_iload_n hx hb dX10_chosen_1 rfl (lv_at hl 1 rfl) ?_
  refine ro_V (As := [.int p0]) (rest := []) S (c_X10_isCart l D k u mf p0) lkX10_279 ok_X10_isCart ⟨rfl, rfl, Nat.le_of_ble_eq_true rfl, Nat.le_of_ble_eq_true rfl⟩ (mw_V (ci := 10) (q0 := 0) hF rfl rfl) rfl hl.1 rfl (Nat.le_of_ble_eq_true rfl) ⟨Nat.zero_le _, Nat.zero_le _⟩ dX10_chosen_2 (fun r_1 er_1 => ?_)
  subst er_1
  refine lv_if_eq (tgt := 17) hx hb dX10_chosen_5 (by decide) (fun c_2 => ?_) (fun c_2 => ?_)
  rotate_left
  · first | exact absurd c_2 (by decide) | exact absurd (by decide) c_2
  refine lv_bipush (v := (-2)) hx hb dX10_chosen_17 (by decide) ?_
  exact W.iret (v := (-2)) hx hb hr (fun t ht hW => ⟨(-2), rfl, rfl, ht⟩) (fun _ h9 => by cases h9) dX10_chosen_19
set_option maxHeartbeats 4000000 in
set_option maxRecDepth 100000 in
theorem c_X10_roams (l : Launch) (D : va_G) (k : Nat → ClassId) (u : Nat → Nat) (mf : Nat → Int32) (p0 : Int32) (p1 : Int32)  : Met l yX10_roams (.code yX10_roams cX10_roams 3 (some .int) :: TB) (rmk 3) (va_Pc [.ref (u 0), .int p0, .int p1] (fun U => MWH D k u mf U U.heap)) (vp_Si (fun r => r = (-2))) 0 0 (fun _ => False) := by
  refine Met.ofW (cc := cX10_roams) (maxL := 3) (ret := (some .int)) (by decide) rfl ?_
  intro p e s m args below meth c s₁ B hml hv
  obtain ⟨rfl, hF⟩ := hv
  have hx := B.exec
  have hb := B.bytes
  have hr := B.returns
  have hT : ∀ w ∈ TB, w.before ([.ref (u 0), .int p0, .int p1] : List Value).toArray s = true := fun w h => atoms_spec (ws := .code yX10_roams cX10_roams 3 (some .int) :: TB) B.pre w (List.mem_cons_of_mem _ h)
  have hown : s.vm.findClass RX10 = some m.cls := findClass_of_methodNamed B.named
  have S : CallFix p m c cX10_roams 3 s _ TB RX10 := ⟨hx, hb, hml, hown, hT⟩
  have hP : va_P D vwCl [(u 0, .inr (10, [.int 0, .ref (u 1), .ref (u 2), .ref (u 3), .ref (u 4), .int 0, .ref (u 5), .int 0, .int 0, .int 0, .int 0, .int 0, .int 0, .int (-1), .ref (u 6), .ref (u 7), .ref (u 8), .ref (u 9), .ref (u 10), .ref (u 11), .int 0, .int 0, .int 0, .ref (u 12), .ref (u 13), .ref (u 14), .int 0, .int 0, .ref (u 15), .int 0, .ref (u 16), .int 0, .ref (u 17), .int 0, .ref (u 18), .ref (u 19), .ref (u 20), .ref (u 21)])), (u 1, .inl (k 0, 168, .inl (fun _ => 0))), (u 3, .inl (k 3, 3, .inl (fun _ => 0))), (u 18, .inl (k 0, 4, .inl mf))] s.heap := hF.1
  have hK := hF.2.1
  have hl := lv_entry ([.ref (u 0), .int p0, .int p1]) (n := 3) (Nat.le_of_ble_eq_true rfl)
  rw [lg_entry_eq]
  generalize (lg_sl ([.ref (u 0), .int p0, .int p1]) ++ List.replicate (3 - (lg_sl ([.ref (u 0), .int p0, .int p1])).length) Slot.unset).toArray = ls at hl ⊢
  have hl : lv_has ls 3 [(0, .ref (u 0)), (1, .int p0), (2, .int p1)] := hl
  refine lv_aload_n hx hb dX10_roams_0 rfl (lv_at hl 0 rfl) ?_
  refine lv_iload_n hx hb dX10_roams_1 rfl (lv_at hl 1 rfl) ?_
  refine ro_V (As := [.int p0]) (rest := []) S (c_X10_isCart l D k u mf p0) lkX10_279 ok_X10_isCart ⟨rfl, rfl, Nat.le_of_ble_eq_true rfl, Nat.le_of_ble_eq_true rfl⟩ (mw_V (ci := 10) (q0 := 0) hF rfl rfl) rfl hl.1 rfl (Nat.le_of_ble_eq_true rfl) ⟨Nat.zero_le _, Nat.zero_le _⟩ dX10_roams_2 (fun r_1 er_1 => ?_)
  subst er_1
  refine lv_if_eq (tgt := 20) hx hb dX10_roams_5 (by decide) (fun c_2 => ?_) (fun c_2 => ?_)
  rotate_left
  · first | exact absurd c_2 (by decide) | exact absurd (by decide) c_2
  refine lv_bipush (v := (-2)) hx hb dX10_roams_20 (by decide) ?_
  exact W.iret (v := (-2)) hx hb hr (fun t ht hW => ⟨(-2), rfl, rfl, ht⟩) (fun _ h9 => by cases h9) dX10_roams_22
set_option maxHeartbeats 4000000 in
set_option maxRecDepth 100000 in
theorem c_X10_circle (l : Launch) (D : va_G) (k : Nat → ClassId) (u : Nat → Nat) (mf : Nat → Int32) (p0 : Int32)  : Met l yX10_circle (.code yX10_circle cX10_circle 4 (some .int) :: TB) (rmk 3) (va_Pc [.ref (u 0), .int p0] (fun U => MWH D k u mf U U.heap)) (vp_Si (fun r => r = (-2))) 0 0 (fun _ => False) := by
  refine Met.ofW (cc := cX10_circle) (maxL := 4) (ret := (some .int)) (by decide) rfl ?_
  intro p e s m args below meth c s₁ B hml hv
  obtain ⟨rfl, hF⟩ := hv
  have hx := B.exec
  have hb := B.bytes
  have hr := B.returns
  have hT : ∀ w ∈ TB, w.before ([.ref (u 0), .int p0] : List Value).toArray s = true := fun w h => atoms_spec (ws := .code yX10_circle cX10_circle 4 (some .int) :: TB) B.pre w (List.mem_cons_of_mem _ h)
  have hown : s.vm.findClass RX10 = some m.cls := findClass_of_methodNamed B.named
  have S : CallFix p m c cX10_circle 4 s _ TB RX10 := ⟨hx, hb, hml, hown, hT⟩
  have hP : va_P D vwCl [(u 0, .inr (10, [.int 0, .ref (u 1), .ref (u 2), .ref (u 3), .ref (u 4), .int 0, .ref (u 5), .int 0, .int 0, .int 0, .int 0, .int 0, .int 0, .int (-1), .ref (u 6), .ref (u 7), .ref (u 8), .ref (u 9), .ref (u 10), .ref (u 11), .int 0, .int 0, .int 0, .ref (u 12), .ref (u 13), .ref (u 14), .int 0, .int 0, .ref (u 15), .int 0, .ref (u 16), .int 0, .ref (u 17), .int 0, .ref (u 18), .ref (u 19), .ref (u 20), .ref (u 21)])), (u 1, .inl (k 0, 168, .inl (fun _ => 0))), (u 3, .inl (k 3, 3, .inl (fun _ => 0))), (u 18, .inl (k 0, 4, .inl mf))] s.heap := hF.1
  have hK := hF.2.1
  have hl := lv_entry ([.ref (u 0), .int p0]) (n := 4) (Nat.le_of_ble_eq_true rfl)
  rw [lg_entry_eq]
  generalize (lg_sl ([.ref (u 0), .int p0]) ++ List.replicate (4 - (lg_sl ([.ref (u 0), .int p0])).length) Slot.unset).toArray = ls at hl ⊢
  have hl : lv_has ls 4 [(0, .ref (u 0)), (1, .int p0)] := hl
  refine lv_aload_n hx hb dX10_circle_0 rfl (lv_at hl 0 rfl) ?_
  refine lv_iload_n hx hb dX10_circle_1 rfl (lv_at hl 1 rfl) ?_
  refine ro_V (As := [.int p0]) (rest := []) S (c_X10_isCart l D k u mf p0) lkX10_279 ok_X10_isCart ⟨rfl, rfl, Nat.le_of_ble_eq_true rfl, Nat.le_of_ble_eq_true rfl⟩ (mw_V (ci := 10) (q0 := 0) hF rfl rfl) rfl hl.1 rfl (Nat.le_of_ble_eq_true rfl) ⟨Nat.zero_le _, Nat.zero_le _⟩ dX10_circle_2 (fun r_1 er_1 => ?_)
  subst er_1
  refine lv_if_ne (tgt := 11) hx hb dX10_circle_5 (by decide) (fun c_2 => ?_) (fun c_2 => ?_)
  · first | exact absurd c_2 (by decide) | exact absurd (by decide) c_2
  refine lv_bipush (v := (-2)) hx hb dX10_circle_8 (by decide) ?_
  exact W.iret (v := (-2)) hx hb hr (fun t ht hW => ⟨(-2), rfl, rfl, ht⟩) (fun _ h9 => by cases h9) dX10_circle_10
set_option maxHeartbeats 4000000 in
set_option maxRecDepth 100000 in
theorem c_X10_haunts (l : Launch) (D : va_G) (k : Nat → ClassId) (u : Nat → Nat) (mf : Nat → Int32) (p0 : Int32)  : Met l yX10_haunts (.code yX10_haunts cX10_haunts 7 (some .int) :: TB) (rmk 3) (va_Pc [.ref (u 0), .int p0] (fun U => MWH D k u mf U U.heap)) (vp_Si (fun r => r = (-2))) 0 0 (fun _ => False) := by
  refine Met.ofW (cc := cX10_haunts) (maxL := 7) (ret := (some .int)) (by decide) rfl ?_
  intro p e s m args below meth c s₁ B hml hv
  obtain ⟨rfl, hF⟩ := hv
  have hx := B.exec
  have hb := B.bytes
  have hr := B.returns
  have hT : ∀ w ∈ TB, w.before ([.ref (u 0), .int p0] : List Value).toArray s = true := fun w h => atoms_spec (ws := .code yX10_haunts cX10_haunts 7 (some .int) :: TB) B.pre w (List.mem_cons_of_mem _ h)
  have hown : s.vm.findClass RX10 = some m.cls := findClass_of_methodNamed B.named
  have S : CallFix p m c cX10_haunts 7 s _ TB RX10 := ⟨hx, hb, hml, hown, hT⟩
  have hP : va_P D vwCl [(u 0, .inr (10, [.int 0, .ref (u 1), .ref (u 2), .ref (u 3), .ref (u 4), .int 0, .ref (u 5), .int 0, .int 0, .int 0, .int 0, .int 0, .int 0, .int (-1), .ref (u 6), .ref (u 7), .ref (u 8), .ref (u 9), .ref (u 10), .ref (u 11), .int 0, .int 0, .int 0, .ref (u 12), .ref (u 13), .ref (u 14), .int 0, .int 0, .ref (u 15), .int 0, .ref (u 16), .int 0, .ref (u 17), .int 0, .ref (u 18), .ref (u 19), .ref (u 20), .ref (u 21)])), (u 1, .inl (k 0, 168, .inl (fun _ => 0))), (u 3, .inl (k 3, 3, .inl (fun _ => 0))), (u 18, .inl (k 0, 4, .inl mf))] s.heap := hF.1
  have hK := hF.2.1
  have hl := lv_entry ([.ref (u 0), .int p0]) (n := 7) (Nat.le_of_ble_eq_true rfl)
  rw [lg_entry_eq]
  generalize (lg_sl ([.ref (u 0), .int p0]) ++ List.replicate (7 - (lg_sl ([.ref (u 0), .int p0])).length) Slot.unset).toArray = ls at hl ⊢
  have hl : lv_has ls 7 [(0, .ref (u 0)), (1, .int p0)] := hl
  refine lv_aload_n hx hb dX10_haunts_0 rfl (lv_at hl 0 rfl) ?_
  refine lv_iload_n hx hb dX10_haunts_1 rfl (lv_at hl 1 rfl) ?_
  refine ro_V (As := [.int p0]) (rest := []) S (c_X10_isCart l D k u mf p0) lkX10_279 ok_X10_isCart ⟨rfl, rfl, Nat.le_of_ble_eq_true rfl, Nat.le_of_ble_eq_true rfl⟩ (mw_V (ci := 10) (q0 := 0) hF rfl rfl) rfl hl.1 rfl (Nat.le_of_ble_eq_true rfl) ⟨Nat.zero_le _, Nat.zero_le _⟩ dX10_haunts_2 (fun r_1 er_1 => ?_)
  subst er_1
  refine lv_if_ne (tgt := 11) hx hb dX10_haunts_5 (by decide) (fun c_2 => ?_) (fun c_2 => ?_)
  · first | exact absurd c_2 (by decide) | exact absurd (by decide) c_2
  refine lv_bipush (v := (-2)) hx hb dX10_haunts_8 (by decide) ?_
  exact W.iret (v := (-2)) hx hb hr (fun t ht hW => ⟨(-2), rfl, rfl, ht⟩) (fun _ h9 => by cases h9) dX10_haunts_10
set_option maxHeartbeats 4000000 in
set_option maxRecDepth 100000 in
theorem c_X10_meet (l : Launch) (D : va_G) (k : Nat → ClassId) (u : Nat → Nat) (mf : Nat → Int32) (p0 : Int32) (p1 : Int32)  : Met l yX10_meet (.code yX10_meet cX10_meet 3 (some .int) :: TB) (rmk 3) (va_Pc [.ref (u 0), .int p0, .int p1] (fun U => MWH D k u mf U U.heap)) (vp_Si (fun r => r = (-2))) 0 0 (fun _ => False) := by
  refine Met.ofW (cc := cX10_meet) (maxL := 3) (ret := (some .int)) (by decide) rfl ?_
  intro p e s m args below meth c s₁ B hml hv
  obtain ⟨rfl, hF⟩ := hv
  have hx := B.exec
  have hb := B.bytes
  have hr := B.returns
  have hT : ∀ w ∈ TB, w.before ([.ref (u 0), .int p0, .int p1] : List Value).toArray s = true := fun w h => atoms_spec (ws := .code yX10_meet cX10_meet 3 (some .int) :: TB) B.pre w (List.mem_cons_of_mem _ h)
  have hown : s.vm.findClass RX10 = some m.cls := findClass_of_methodNamed B.named
  have S : CallFix p m c cX10_meet 3 s _ TB RX10 := ⟨hx, hb, hml, hown, hT⟩
  have hP : va_P D vwCl [(u 0, .inr (10, [.int 0, .ref (u 1), .ref (u 2), .ref (u 3), .ref (u 4), .int 0, .ref (u 5), .int 0, .int 0, .int 0, .int 0, .int 0, .int 0, .int (-1), .ref (u 6), .ref (u 7), .ref (u 8), .ref (u 9), .ref (u 10), .ref (u 11), .int 0, .int 0, .int 0, .ref (u 12), .ref (u 13), .ref (u 14), .int 0, .int 0, .ref (u 15), .int 0, .ref (u 16), .int 0, .ref (u 17), .int 0, .ref (u 18), .ref (u 19), .ref (u 20), .ref (u 21)])), (u 1, .inl (k 0, 168, .inl (fun _ => 0))), (u 3, .inl (k 3, 3, .inl (fun _ => 0))), (u 18, .inl (k 0, 4, .inl mf))] s.heap := hF.1
  have hK := hF.2.1
  have hl := lv_entry ([.ref (u 0), .int p0, .int p1]) (n := 3) (Nat.le_of_ble_eq_true rfl)
  rw [lg_entry_eq]
  generalize (lg_sl ([.ref (u 0), .int p0, .int p1]) ++ List.replicate (3 - (lg_sl ([.ref (u 0), .int p0, .int p1])).length) Slot.unset).toArray = ls at hl ⊢
  have hl : lv_has ls 3 [(0, .ref (u 0)), (1, .int p0), (2, .int p1)] := hl
  refine lv_aload_n hx hb dX10_meet_0 rfl (lv_at hl 0 rfl) ?_
  refine lv_iload_n hx hb dX10_meet_1 rfl (lv_at hl 1 rfl) ?_
  refine ro_V (As := [.int p0]) (rest := []) S (c_X10_isCart l D k u mf p0) lkX10_279 ok_X10_isCart ⟨rfl, rfl, Nat.le_of_ble_eq_true rfl, Nat.le_of_ble_eq_true rfl⟩ (mw_V (ci := 10) (q0 := 0) hF rfl rfl) rfl hl.1 rfl (Nat.le_of_ble_eq_true rfl) ⟨Nat.zero_le _, Nat.zero_le _⟩ dX10_meet_2 (fun r_1 er_1 => ?_)
  subst er_1
  refine lv_if_eq (tgt := 26) hx hb dX10_meet_5 (by decide) (fun c_2 => ?_) (fun c_2 => ?_)
  rotate_left
  · first | exact absurd c_2 (by decide) | exact absurd (by decide) c_2
  refine lv_bipush (v := (-2)) hx hb dX10_meet_26 (by decide) ?_
  exact W.iret (v := (-2)) hx hb hr (fun t ht hW => ⟨(-2), rfl, rfl, ht⟩) (fun _ h9 => by cases h9) dX10_meet_28
set_option maxHeartbeats 4000000 in
set_option maxRecDepth 100000 in
theorem c_X10_met (l : Launch) (D : va_G) (k : Nat → ClassId) (u : Nat → Nat) (mf : Nat → Int32) (p0 : Int32) (p1 : Int32)  : Met l yX10_met (.code yX10_met cX10_met 4 (some .int) :: TB) (rmk 3) (va_Pc [.ref (u 0), .int p0, .int p1] (fun U => MWH D k u mf U U.heap)) (vp_Si (fun r => r = (-2))) 0 0 (fun _ => False) := by
  refine Met.ofW (cc := cX10_met) (maxL := 4) (ret := (some .int)) (by decide) rfl ?_
  intro p e s m args below meth c s₁ B hml hv
  obtain ⟨rfl, hF⟩ := hv
  have hx := B.exec
  have hb := B.bytes
  have hr := B.returns
  have hT : ∀ w ∈ TB, w.before ([.ref (u 0), .int p0, .int p1] : List Value).toArray s = true := fun w h => atoms_spec (ws := .code yX10_met cX10_met 4 (some .int) :: TB) B.pre w (List.mem_cons_of_mem _ h)
  have hown : s.vm.findClass RX10 = some m.cls := findClass_of_methodNamed B.named
  have S : CallFix p m c cX10_met 4 s _ TB RX10 := ⟨hx, hb, hml, hown, hT⟩
  have hP : va_P D vwCl [(u 0, .inr (10, [.int 0, .ref (u 1), .ref (u 2), .ref (u 3), .ref (u 4), .int 0, .ref (u 5), .int 0, .int 0, .int 0, .int 0, .int 0, .int 0, .int (-1), .ref (u 6), .ref (u 7), .ref (u 8), .ref (u 9), .ref (u 10), .ref (u 11), .int 0, .int 0, .int 0, .ref (u 12), .ref (u 13), .ref (u 14), .int 0, .int 0, .ref (u 15), .int 0, .ref (u 16), .int 0, .ref (u 17), .int 0, .ref (u 18), .ref (u 19), .ref (u 20), .ref (u 21)])), (u 1, .inl (k 0, 168, .inl (fun _ => 0))), (u 3, .inl (k 3, 3, .inl (fun _ => 0))), (u 18, .inl (k 0, 4, .inl mf))] s.heap := hF.1
  have hK := hF.2.1
  have hl := lv_entry ([.ref (u 0), .int p0, .int p1]) (n := 4) (Nat.le_of_ble_eq_true rfl)
  rw [lg_entry_eq]
  generalize (lg_sl ([.ref (u 0), .int p0, .int p1]) ++ List.replicate (4 - (lg_sl ([.ref (u 0), .int p0, .int p1])).length) Slot.unset).toArray = ls at hl ⊢
  have hl : lv_has ls 4 [(0, .ref (u 0)), (1, .int p0), (2, .int p1)] := hl
  refine lv_aload_n hx hb dX10_met_0 rfl (lv_at hl 0 rfl) ?_
  refine lv_iload_n hx hb dX10_met_1 rfl (lv_at hl 1 rfl) ?_
  refine ro_V (As := [.int p0]) (rest := []) S (c_X10_isCart l D k u mf p0) lkX10_279 ok_X10_isCart ⟨rfl, rfl, Nat.le_of_ble_eq_true rfl, Nat.le_of_ble_eq_true rfl⟩ (mw_V (ci := 10) (q0 := 0) hF rfl rfl) rfl hl.1 rfl (Nat.le_of_ble_eq_true rfl) ⟨Nat.zero_le _, Nat.zero_le _⟩ dX10_met_2 (fun r_1 er_1 => ?_)
  subst er_1
  refine lv_if_eq (tgt := 17) hx hb dX10_met_5 (by decide) (fun c_2 => ?_) (fun c_2 => ?_)
  rotate_left
  · first | exact absurd c_2 (by decide) | exact absurd (by decide) c_2
  refine lv_bipush (v := (-2)) hx hb dX10_met_17 (by decide) ?_
  exact W.iret (v := (-2)) hx hb hr (fun t ht hW => ⟨(-2), rfl, rfl, ht⟩) (fun _ h9 => by cases h9) dX10_met_19
set_option maxHeartbeats 4000000 in
set_option maxRecDepth 100000 in
theorem c_X10_fits (l : Launch) (D : va_G) (k : Nat → ClassId) (u : Nat → Nat) (mf : Nat → Int32) (p0 : Int32)  : Met l yX10_fits (.code yX10_fits cX10_fits 3 (some .int) :: TB) (rmk 4) (va_Pc [.ref (u 0), .int p0] (fun U => MWH D k u mf U U.heap)) (vp_Si (fun r => r = (-2))) 0 0 (fun _ => False) := by
  refine Met.ofW (cc := cX10_fits) (maxL := 3) (ret := (some .int)) (by decide) rfl ?_
  intro p e s m args below meth c s₁ B hml hv
  obtain ⟨rfl, hF⟩ := hv
  have hx := B.exec
  have hb := B.bytes
  have hr := B.returns
  have hT : ∀ w ∈ TB, w.before ([.ref (u 0), .int p0] : List Value).toArray s = true := fun w h => atoms_spec (ws := .code yX10_fits cX10_fits 3 (some .int) :: TB) B.pre w (List.mem_cons_of_mem _ h)
  have hown : s.vm.findClass RX10 = some m.cls := findClass_of_methodNamed B.named
  have S : CallFix p m c cX10_fits 3 s _ TB RX10 := ⟨hx, hb, hml, hown, hT⟩
  have hP : va_P D vwCl [(u 0, .inr (10, [.int 0, .ref (u 1), .ref (u 2), .ref (u 3), .ref (u 4), .int 0, .ref (u 5), .int 0, .int 0, .int 0, .int 0, .int 0, .int 0, .int (-1), .ref (u 6), .ref (u 7), .ref (u 8), .ref (u 9), .ref (u 10), .ref (u 11), .int 0, .int 0, .int 0, .ref (u 12), .ref (u 13), .ref (u 14), .int 0, .int 0, .ref (u 15), .int 0, .ref (u 16), .int 0, .ref (u 17), .int 0, .ref (u 18), .ref (u 19), .ref (u 20), .ref (u 21)])), (u 1, .inl (k 0, 168, .inl (fun _ => 0))), (u 3, .inl (k 3, 3, .inl (fun _ => 0))), (u 18, .inl (k 0, 4, .inl mf))] s.heap := hF.1
  have hK := hF.2.1
  have hl := lv_entry ([.ref (u 0), .int p0]) (n := 3) (Nat.le_of_ble_eq_true rfl)
  rw [lg_entry_eq]
  generalize (lg_sl ([.ref (u 0), .int p0]) ++ List.replicate (3 - (lg_sl ([.ref (u 0), .int p0])).length) Slot.unset).toArray = ls at hl ⊢
  have hl : lv_has ls 3 [(0, .ref (u 0)), (1, .int p0)] := hl
  refine lv_aload_n hx hb dX10_fits_0 rfl (lv_at hl 0 rfl) ?_
  refine lv_iload_n hx hb dX10_fits_1 rfl (lv_at hl 1 rfl) ?_
  refine ro_V (As := [.int p0]) (rest := []) S (c_X10_asksSeen l D k u mf p0) lkX10_361 ok_X10_asksSeen ⟨rfl, rfl, Nat.le_of_ble_eq_true rfl, Nat.le_of_ble_eq_true rfl⟩ (mw_V (ci := 10) (q0 := 0) hF rfl rfl) rfl hl.1 rfl (Nat.le_of_ble_eq_true rfl) ⟨Nat.zero_le _, Nat.zero_le _⟩ dX10_fits_2 (fun r_1 er_1 => ?_)
  subst er_1
  refine lv_istore_n (lv' := [(2, .int (-2)), (0, .ref (u 0)), (1, .int p0)]) hx hb dX10_fits_5 rfl hl (by decide) rfl (fun ls hl => ?_)
  refine lv_iload_n hx hb dX10_fits_6 rfl (lv_at hl 0 rfl) ?_
  refine lv_if_ge (tgt := 14) hx hb dX10_fits_7 (by decide) (fun c_2 => ?_) (fun c_2 => ?_)
  · first | exact absurd c_2 (by decide) | exact absurd (by decide) c_2
  refine lv_iload_n hx hb dX10_fits_10 rfl (lv_at hl 0 rfl) ?_
  refine lv_goto (tgt := 19) hx hb dX10_fits_11 (by decide) ?_
  exact W.iret (v := (-2)) hx hb hr (fun t ht hW => ⟨(-2), rfl, rfl, ht⟩) (fun _ h9 => by cases h9) dX10_fits_19
set_option maxHeartbeats 4000000 in
set_option maxRecDepth 100000 in
theorem c_X10_ask (l : Launch) (D : va_G) (k : Nat → ClassId) (u : Nat → Nat) (mf : Nat → Int32) (p0 : Int32)  : Met l yX10_ask (.code yX10_ask cX10_ask 3 (some .int) :: TB) (rmk 4) (va_Pc [.ref (u 0), .int p0] (fun U => MWH D k u mf U U.heap)) (vp_Si (fun r => r = (-2))) 0 0 (fun _ => False) := by
  refine Met.ofW (cc := cX10_ask) (maxL := 3) (ret := (some .int)) (by decide) rfl ?_
  intro p e s m args below meth c s₁ B hml hv
  obtain ⟨rfl, hF⟩ := hv
  have hx := B.exec
  have hb := B.bytes
  have hr := B.returns
  have hT : ∀ w ∈ TB, w.before ([.ref (u 0), .int p0] : List Value).toArray s = true := fun w h => atoms_spec (ws := .code yX10_ask cX10_ask 3 (some .int) :: TB) B.pre w (List.mem_cons_of_mem _ h)
  have hown : s.vm.findClass RX10 = some m.cls := findClass_of_methodNamed B.named
  have S : CallFix p m c cX10_ask 3 s _ TB RX10 := ⟨hx, hb, hml, hown, hT⟩
  have hP : va_P D vwCl [(u 0, .inr (10, [.int 0, .ref (u 1), .ref (u 2), .ref (u 3), .ref (u 4), .int 0, .ref (u 5), .int 0, .int 0, .int 0, .int 0, .int 0, .int 0, .int (-1), .ref (u 6), .ref (u 7), .ref (u 8), .ref (u 9), .ref (u 10), .ref (u 11), .int 0, .int 0, .int 0, .ref (u 12), .ref (u 13), .ref (u 14), .int 0, .int 0, .ref (u 15), .int 0, .ref (u 16), .int 0, .ref (u 17), .int 0, .ref (u 18), .ref (u 19), .ref (u 20), .ref (u 21)])), (u 1, .inl (k 0, 168, .inl (fun _ => 0))), (u 3, .inl (k 3, 3, .inl (fun _ => 0))), (u 18, .inl (k 0, 4, .inl mf))] s.heap := hF.1
  have hK := hF.2.1
  have hl := lv_entry ([.ref (u 0), .int p0]) (n := 3) (Nat.le_of_ble_eq_true rfl)
  rw [lg_entry_eq]
  generalize (lg_sl ([.ref (u 0), .int p0]) ++ List.replicate (3 - (lg_sl ([.ref (u 0), .int p0])).length) Slot.unset).toArray = ls at hl ⊢
  have hl : lv_has ls 3 [(0, .ref (u 0)), (1, .int p0)] := hl
  refine lv_aload_n hx hb dX10_ask_0 rfl (lv_at hl 0 rfl) ?_
  refine lv_iload_n hx hb dX10_ask_1 rfl (lv_at hl 1 rfl) ?_
  refine ro_V (As := [.int p0]) (rest := []) S (c_X10_asksSeen l D k u mf p0) lkX10_361 ok_X10_asksSeen ⟨rfl, rfl, Nat.le_of_ble_eq_true rfl, Nat.le_of_ble_eq_true rfl⟩ (mw_V (ci := 10) (q0 := 0) hF rfl rfl) rfl hl.1 rfl (Nat.le_of_ble_eq_true rfl) ⟨Nat.zero_le _, Nat.zero_le _⟩ dX10_ask_2 (fun r_1 er_1 => ?_)
  subst er_1
  refine lv_istore_n (lv' := [(2, .int (-2)), (0, .ref (u 0)), (1, .int p0)]) hx hb dX10_ask_5 rfl hl (by decide) rfl (fun ls hl => ?_)
  refine lv_iload_n hx hb dX10_ask_6 rfl (lv_at hl 0 rfl) ?_
  refine lv_if_ge (tgt := 14) hx hb dX10_ask_7 (by decide) (fun c_2 => ?_) (fun c_2 => ?_)
  · first | exact absurd c_2 (by decide) | exact absurd (by decide) c_2
  refine lv_iload_n hx hb dX10_ask_10 rfl (lv_at hl 0 rfl) ?_
  refine lv_goto (tgt := 19) hx hb dX10_ask_11 (by decide) ?_
  exact W.iret (v := (-2)) hx hb hr (fun t ht hW => ⟨(-2), rfl, rfl, ht⟩) (fun _ h9 => by cases h9) dX10_ask_19
set_option maxHeartbeats 4000000 in
set_option maxRecDepth 100000 in
theorem c_X10_leaves (l : Launch) (D : va_G) (k : Nat → ClassId) (u : Nat → Nat) (mf : Nat → Int32) (p0 : Int32)  : Met l yX10_leaves (.code yX10_leaves cX10_leaves 3 (some .int) :: TB) (rmk 4) (va_Pc [.ref (u 0), .int p0] (fun U => MWH D k u mf U U.heap)) (vp_Si (fun r => r = (-2))) 0 0 (fun _ => False) := by
  refine Met.ofW (cc := cX10_leaves) (maxL := 3) (ret := (some .int)) (by decide) rfl ?_
  intro p e s m args below meth c s₁ B hml hv
  obtain ⟨rfl, hF⟩ := hv
  have hx := B.exec
  have hb := B.bytes
  have hr := B.returns
  have hT : ∀ w ∈ TB, w.before ([.ref (u 0), .int p0] : List Value).toArray s = true := fun w h => atoms_spec (ws := .code yX10_leaves cX10_leaves 3 (some .int) :: TB) B.pre w (List.mem_cons_of_mem _ h)
  have hown : s.vm.findClass RX10 = some m.cls := findClass_of_methodNamed B.named
  have S : CallFix p m c cX10_leaves 3 s _ TB RX10 := ⟨hx, hb, hml, hown, hT⟩
  have hP : va_P D vwCl [(u 0, .inr (10, [.int 0, .ref (u 1), .ref (u 2), .ref (u 3), .ref (u 4), .int 0, .ref (u 5), .int 0, .int 0, .int 0, .int 0, .int 0, .int 0, .int (-1), .ref (u 6), .ref (u 7), .ref (u 8), .ref (u 9), .ref (u 10), .ref (u 11), .int 0, .int 0, .int 0, .ref (u 12), .ref (u 13), .ref (u 14), .int 0, .int 0, .ref (u 15), .int 0, .ref (u 16), .int 0, .ref (u 17), .int 0, .ref (u 18), .ref (u 19), .ref (u 20), .ref (u 21)])), (u 1, .inl (k 0, 168, .inl (fun _ => 0))), (u 3, .inl (k 3, 3, .inl (fun _ => 0))), (u 18, .inl (k 0, 4, .inl mf))] s.heap := hF.1
  have hK := hF.2.1
  have hl := lv_entry ([.ref (u 0), .int p0]) (n := 3) (Nat.le_of_ble_eq_true rfl)
  rw [lg_entry_eq]
  generalize (lg_sl ([.ref (u 0), .int p0]) ++ List.replicate (3 - (lg_sl ([.ref (u 0), .int p0])).length) Slot.unset).toArray = ls at hl ⊢
  have hl : lv_has ls 3 [(0, .ref (u 0)), (1, .int p0)] := hl
  refine lv_aload_n hx hb dX10_leaves_0 rfl (lv_at hl 0 rfl) ?_
  refine lv_iload_n hx hb dX10_leaves_1 rfl (lv_at hl 1 rfl) ?_
  refine ro_V (As := [.int p0]) (rest := []) S (c_X10_asksSeen l D k u mf p0) lkX10_361 ok_X10_asksSeen ⟨rfl, rfl, Nat.le_of_ble_eq_true rfl, Nat.le_of_ble_eq_true rfl⟩ (mw_V (ci := 10) (q0 := 0) hF rfl rfl) rfl hl.1 rfl (Nat.le_of_ble_eq_true rfl) ⟨Nat.zero_le _, Nat.zero_le _⟩ dX10_leaves_2 (fun r_1 er_1 => ?_)
  subst er_1
  refine lv_istore_n (lv' := [(2, .int (-2)), (0, .ref (u 0)), (1, .int p0)]) hx hb dX10_leaves_5 rfl hl (by decide) rfl (fun ls hl => ?_)
  refine lv_iload_n hx hb dX10_leaves_6 rfl (lv_at hl 0 rfl) ?_
  refine lv_if_ge (tgt := 12) hx hb dX10_leaves_7 (by decide) (fun c_2 => ?_) (fun c_2 => ?_)
  · first | exact absurd c_2 (by decide) | exact absurd (by decide) c_2
  refine lv_iload_n hx hb dX10_leaves_10 rfl (lv_at hl 0 rfl) ?_
  exact W.iret (v := (-2)) hx hb hr (fun t ht hW => ⟨(-2), rfl, rfl, ht⟩) (fun _ h9 => by cases h9) dX10_leaves_11
set_option maxHeartbeats 4000000 in
set_option maxRecDepth 100000 in
theorem c_X10_votes (l : Launch) (D : va_G) (k : Nat → ClassId) (u : Nat → Nat) (mf : Nat → Int32) (p0 : Int32) (p1 : Int32)  : Met l yX10_votes (.code yX10_votes cX10_votes 5 (some .int) :: TB) (rmk 3) (va_Pc [.ref (u 0), .int p0, .int p1] (fun U => MWH D k u mf U U.heap)) (vp_Si (fun r => r = (-2))) 0 0 (fun _ => False) := by
  refine Met.ofW (cc := cX10_votes) (maxL := 5) (ret := (some .int)) (by decide) rfl ?_
  intro p e s m args below meth c s₁ B hml hv
  obtain ⟨rfl, hF⟩ := hv
  have hx := B.exec
  have hb := B.bytes
  have hr := B.returns
  have hT : ∀ w ∈ TB, w.before ([.ref (u 0), .int p0, .int p1] : List Value).toArray s = true := fun w h => atoms_spec (ws := .code yX10_votes cX10_votes 5 (some .int) :: TB) B.pre w (List.mem_cons_of_mem _ h)
  have hown : s.vm.findClass RX10 = some m.cls := findClass_of_methodNamed B.named
  have S : CallFix p m c cX10_votes 5 s _ TB RX10 := ⟨hx, hb, hml, hown, hT⟩
  have hP : va_P D vwCl [(u 0, .inr (10, [.int 0, .ref (u 1), .ref (u 2), .ref (u 3), .ref (u 4), .int 0, .ref (u 5), .int 0, .int 0, .int 0, .int 0, .int 0, .int 0, .int (-1), .ref (u 6), .ref (u 7), .ref (u 8), .ref (u 9), .ref (u 10), .ref (u 11), .int 0, .int 0, .int 0, .ref (u 12), .ref (u 13), .ref (u 14), .int 0, .int 0, .ref (u 15), .int 0, .ref (u 16), .int 0, .ref (u 17), .int 0, .ref (u 18), .ref (u 19), .ref (u 20), .ref (u 21)])), (u 1, .inl (k 0, 168, .inl (fun _ => 0))), (u 3, .inl (k 3, 3, .inl (fun _ => 0))), (u 18, .inl (k 0, 4, .inl mf))] s.heap := hF.1
  have hK := hF.2.1
  have hl := lv_entry ([.ref (u 0), .int p0, .int p1]) (n := 5) (Nat.le_of_ble_eq_true rfl)
  rw [lg_entry_eq]
  generalize (lg_sl ([.ref (u 0), .int p0, .int p1]) ++ List.replicate (5 - (lg_sl ([.ref (u 0), .int p0, .int p1])).length) Slot.unset).toArray = ls at hl ⊢
  have hl : lv_has ls 5 [(0, .ref (u 0)), (1, .int p0), (2, .int p1)] := hl
  refine lv_aload_n hx hb dX10_votes_0 rfl (lv_at hl 0 rfl) ?_
  refine lv_iload_n hx hb dX10_votes_1 rfl (lv_at hl 1 rfl) ?_
  refine lv_i2l (v := p0.toInt64) hx hb dX10_votes_2 rfl ?_
  refine ro_V (As := [.long p0.toInt64]) (rest := []) S (c_X10_isPlace l D k u mf p0.toInt64) lkX10_282 ok_X10_isPlace ⟨rfl, rfl, Nat.le_of_ble_eq_true rfl, Nat.le_of_ble_eq_true rfl⟩ (mw_V (ci := 10) (q0 := 0) hF rfl rfl) rfl hl.1 rfl (Nat.le_of_ble_eq_true rfl) ⟨Nat.zero_le _, Nat.zero_le _⟩ dX10_votes_3 (fun r_1 er_1 => ?_)
  subst er_1
  refine lv_if_eq (tgt := 27) hx hb dX10_votes_6 (by decide) (fun c_2 => ?_) (fun c_2 => ?_)
  rotate_left
  · first | exact absurd c_2 (by decide) | exact absurd (by decide) c_2
  refine lv_bipush (v := (-2)) hx hb dX10_votes_27 (by decide) ?_
  exact W.iret (v := (-2)) hx hb hr (fun t ht hW => ⟨(-2), rfl, rfl, ht⟩) (fun _ h9 => by cases h9) dX10_votes_29
set_option maxHeartbeats 4000000 in
set_option maxRecDepth 100000 in
theorem c_X10_loved (l : Launch) (D : va_G) (k : Nat → ClassId) (u : Nat → Nat) (mf : Nat → Int32) (p0 : Int32)  : Met l yX10_loved (.code yX10_loved cX10_loved 2 (some .int) :: TB) (rmk 3) (va_Pc [.ref (u 0), .int p0] (fun U => MWH D k u mf U U.heap)) (vp_Si (fun r => r = (-2))) 0 0 (fun _ => False) := by
  refine Met.ofW (cc := cX10_loved) (maxL := 2) (ret := (some .int)) (by decide) rfl ?_
  intro p e s m args below meth c s₁ B hml hv
  obtain ⟨rfl, hF⟩ := hv
  have hx := B.exec
  have hb := B.bytes
  have hr := B.returns
  have hT : ∀ w ∈ TB, w.before ([.ref (u 0), .int p0] : List Value).toArray s = true := fun w h => atoms_spec (ws := .code yX10_loved cX10_loved 2 (some .int) :: TB) B.pre w (List.mem_cons_of_mem _ h)
  have hown : s.vm.findClass RX10 = some m.cls := findClass_of_methodNamed B.named
  have S : CallFix p m c cX10_loved 2 s _ TB RX10 := ⟨hx, hb, hml, hown, hT⟩
  have hP : va_P D vwCl [(u 0, .inr (10, [.int 0, .ref (u 1), .ref (u 2), .ref (u 3), .ref (u 4), .int 0, .ref (u 5), .int 0, .int 0, .int 0, .int 0, .int 0, .int 0, .int (-1), .ref (u 6), .ref (u 7), .ref (u 8), .ref (u 9), .ref (u 10), .ref (u 11), .int 0, .int 0, .int 0, .ref (u 12), .ref (u 13), .ref (u 14), .int 0, .int 0, .ref (u 15), .int 0, .ref (u 16), .int 0, .ref (u 17), .int 0, .ref (u 18), .ref (u 19), .ref (u 20), .ref (u 21)])), (u 1, .inl (k 0, 168, .inl (fun _ => 0))), (u 3, .inl (k 3, 3, .inl (fun _ => 0))), (u 18, .inl (k 0, 4, .inl mf))] s.heap := hF.1
  have hK := hF.2.1
  have hl := lv_entry ([.ref (u 0), .int p0]) (n := 2) (Nat.le_of_ble_eq_true rfl)
  rw [lg_entry_eq]
  generalize (lg_sl ([.ref (u 0), .int p0]) ++ List.replicate (2 - (lg_sl ([.ref (u 0), .int p0])).length) Slot.unset).toArray = ls at hl ⊢
  have hl : lv_has ls 2 [(0, .ref (u 0)), (1, .int p0)] := hl
  refine lv_aload_n hx hb dX10_loved_0 rfl (lv_at hl 0 rfl) ?_
  refine lv_iload_n hx hb dX10_loved_1 rfl (lv_at hl 1 rfl) ?_
  refine lv_i2l (v := p0.toInt64) hx hb dX10_loved_2 rfl ?_
  refine ro_V (As := [.long p0.toInt64]) (rest := []) S (c_X10_isRoad l D k u mf p0.toInt64) lkX10_265 ok_X10_isRoad ⟨rfl, rfl, Nat.le_of_ble_eq_true rfl, Nat.le_of_ble_eq_true rfl⟩ (mw_V (ci := 10) (q0 := 0) hF rfl rfl) rfl hl.1 rfl (Nat.le_of_ble_eq_true rfl) ⟨Nat.zero_le _, Nat.zero_le _⟩ dX10_loved_3 (fun r_1 er_1 => ?_)
  subst er_1
  refine lv_if_ne (tgt := 12) hx hb dX10_loved_6 (by decide) (fun c_2 => ?_) (fun c_2 => ?_)
  · first | exact absurd c_2 (by decide) | exact absurd (by decide) c_2
  refine lv_bipush (v := (-2)) hx hb dX10_loved_9 (by decide) ?_
  exact W.iret (v := (-2)) hx hb hr (fun t ht hW => ⟨(-2), rfl, rfl, ht⟩) (fun _ h9 => by cases h9) dX10_loved_11
set_option maxHeartbeats 4000000 in
set_option maxRecDepth 100000 in
theorem c_X10_dearest (l : Launch) (D : va_G) (k : Nat → ClassId) (u : Nat → Nat) (mf : Nat → Int32)   : Met l yX10_dearest (.code yX10_dearest cX10_dearest 3 (some .int) :: TB) (rmk 2) (va_Pc [.ref (u 0)] (fun U => MWH D k u mf U U.heap)) (vp_Si (fun r => r = (-2))) 0 0 (fun _ => False) := by
  refine Met.ofW (cc := cX10_dearest) (maxL := 3) (ret := (some .int)) (by decide) rfl ?_
  intro p e s m args below meth c s₁ B hml hv
  obtain ⟨rfl, hF⟩ := hv
  have hx := B.exec
  have hb := B.bytes
  have hr := B.returns
  have hT : ∀ w ∈ TB, w.before ([.ref (u 0)] : List Value).toArray s = true := fun w h => atoms_spec (ws := .code yX10_dearest cX10_dearest 3 (some .int) :: TB) B.pre w (List.mem_cons_of_mem _ h)
  have hown : s.vm.findClass RX10 = some m.cls := findClass_of_methodNamed B.named
  have S : CallFix p m c cX10_dearest 3 s _ TB RX10 := ⟨hx, hb, hml, hown, hT⟩
  have hP : va_P D vwCl [(u 0, .inr (10, [.int 0, .ref (u 1), .ref (u 2), .ref (u 3), .ref (u 4), .int 0, .ref (u 5), .int 0, .int 0, .int 0, .int 0, .int 0, .int 0, .int (-1), .ref (u 6), .ref (u 7), .ref (u 8), .ref (u 9), .ref (u 10), .ref (u 11), .int 0, .int 0, .int 0, .ref (u 12), .ref (u 13), .ref (u 14), .int 0, .int 0, .ref (u 15), .int 0, .ref (u 16), .int 0, .ref (u 17), .int 0, .ref (u 18), .ref (u 19), .ref (u 20), .ref (u 21)])), (u 1, .inl (k 0, 168, .inl (fun _ => 0))), (u 3, .inl (k 3, 3, .inl (fun _ => 0))), (u 18, .inl (k 0, 4, .inl mf))] s.heap := hF.1
  have hK := hF.2.1
  have hl := lv_entry ([.ref (u 0)]) (n := 3) (Nat.le_of_ble_eq_true rfl)
  rw [lg_entry_eq]
  generalize (lg_sl ([.ref (u 0)]) ++ List.replicate (3 - (lg_sl ([.ref (u 0)])).length) Slot.unset).toArray = ls at hl ⊢
  have hl : lv_has ls 3 [(0, .ref (u 0))] := hl
  refine lv_aload_n hx hb dX10_dearest_0 rfl (lv_at hl 0 rfl) ?_
  refine ro_V (As := []) (rest := []) S (c_X10_isLand l D k u mf ) lkX10_297 ok_X10_isLand ⟨rfl, rfl, Nat.le_of_ble_eq_true rfl, Nat.le_of_ble_eq_true rfl⟩ (mw_V (ci := 10) (q0 := 0) hF rfl rfl) rfl hl.1 rfl (Nat.le_of_ble_eq_true rfl) ⟨Nat.zero_le _, Nat.zero_le _⟩ dX10_dearest_1 (fun r_1 er_1 => ?_)
  subst er_1
  refine lv_if_ne (tgt := 10) hx hb dX10_dearest_4 (by decide) (fun c_2 => ?_) (fun c_2 => ?_)
  · first | exact absurd c_2 (by decide) | exact absurd (by decide) c_2
  refine lv_bipush (v := (-2)) hx hb dX10_dearest_7 (by decide) ?_
  exact W.iret (v := (-2)) hx hb hr (fun t ht hW => ⟨(-2), rfl, rfl, ht⟩) (fun _ h9 => by cases h9) dX10_dearest_9
set_option maxHeartbeats 4000000 in
set_option maxRecDepth 100000 in
theorem c_X10_agree (l : Launch) (D : va_G) (k : Nat → ClassId) (u : Nat → Nat) (mf : Nat → Int32) (p0 : Int32) (p1 : Int32)  : Met l yX10_agree (.code yX10_agree cX10_agree 3 (some .int) :: TB) (rmk 3) (va_Pc [.ref (u 0), .int p0, .int p1] (fun U => MWH D k u mf U U.heap)) (vp_Si (fun r => r = (-2))) 0 0 (fun _ => False) := by
  refine Met.ofW (cc := cX10_agree) (maxL := 3) (ret := (some .int)) (by decide) rfl ?_
  intro p e s m args below meth c s₁ B hml hv
  obtain ⟨rfl, hF⟩ := hv
  have hx := B.exec
  have hb := B.bytes
  have hr := B.returns
  have hT : ∀ w ∈ TB, w.before ([.ref (u 0), .int p0, .int p1] : List Value).toArray s = true := fun w h => atoms_spec (ws := .code yX10_agree cX10_agree 3 (some .int) :: TB) B.pre w (List.mem_cons_of_mem _ h)
  have hown : s.vm.findClass RX10 = some m.cls := findClass_of_methodNamed B.named
  have S : CallFix p m c cX10_agree 3 s _ TB RX10 := ⟨hx, hb, hml, hown, hT⟩
  have hP : va_P D vwCl [(u 0, .inr (10, [.int 0, .ref (u 1), .ref (u 2), .ref (u 3), .ref (u 4), .int 0, .ref (u 5), .int 0, .int 0, .int 0, .int 0, .int 0, .int 0, .int (-1), .ref (u 6), .ref (u 7), .ref (u 8), .ref (u 9), .ref (u 10), .ref (u 11), .int 0, .int 0, .int 0, .ref (u 12), .ref (u 13), .ref (u 14), .int 0, .int 0, .ref (u 15), .int 0, .ref (u 16), .int 0, .ref (u 17), .int 0, .ref (u 18), .ref (u 19), .ref (u 20), .ref (u 21)])), (u 1, .inl (k 0, 168, .inl (fun _ => 0))), (u 3, .inl (k 3, 3, .inl (fun _ => 0))), (u 18, .inl (k 0, 4, .inl mf))] s.heap := hF.1
  have hK := hF.2.1
  have hl := lv_entry ([.ref (u 0), .int p0, .int p1]) (n := 3) (Nat.le_of_ble_eq_true rfl)
  rw [lg_entry_eq]
  generalize (lg_sl ([.ref (u 0), .int p0, .int p1]) ++ List.replicate (3 - (lg_sl ([.ref (u 0), .int p0, .int p1])).length) Slot.unset).toArray = ls at hl ⊢
  have hl : lv_has ls 3 [(0, .ref (u 0)), (1, .int p0), (2, .int p1)] := hl
  refine lv_aload_n hx hb dX10_agree_0 rfl (lv_at hl 0 rfl) ?_
  refine lv_iload_n hx hb dX10_agree_1 rfl (lv_at hl 1 rfl) ?_
  refine ro_V (As := [.int p0]) (rest := []) S (c_X10_isWheel l D k u mf p0) lkX10_269 ok_X10_isWheel ⟨rfl, rfl, Nat.le_of_ble_eq_true rfl, Nat.le_of_ble_eq_true rfl⟩ (mw_V (ci := 10) (q0 := 0) hF rfl rfl) rfl hl.1 rfl (Nat.le_of_ble_eq_true rfl) ⟨Nat.zero_le _, Nat.zero_le _⟩ dX10_agree_2 (fun r_1 er_1 => ?_)
  subst er_1
  refine lv_if_eq (tgt := 16) hx hb dX10_agree_5 (by decide) (fun c_2 => ?_) (fun c_2 => ?_)
  rotate_left
  · first | exact absurd c_2 (by decide) | exact absurd (by decide) c_2
  refine lv_bipush (v := (-2)) hx hb dX10_agree_16 (by decide) ?_
  exact W.iret (v := (-2)) hx hb hr (fun t ht hW => ⟨(-2), rfl, rfl, ht⟩) (fun _ h9 => by cases h9) dX10_agree_18
set_option maxHeartbeats 4000000 in
set_option maxRecDepth 100000 in
theorem c_X10_mate (l : Launch) (D : va_G) (k : Nat → ClassId) (u : Nat → Nat) (mf : Nat → Int32) (p0 : Int32)  : Met l yX10_mate (.code yX10_mate cX10_mate 4 (some .int) :: TB) (rmk 3) (va_Pc [.ref (u 0), .int p0] (fun U => MWH D k u mf U U.heap)) (vp_Si (fun r => r = (-2))) 0 0 (fun _ => False) := by
  refine Met.ofW (cc := cX10_mate) (maxL := 4) (ret := (some .int)) (by decide) rfl ?_
  intro p e s m args below meth c s₁ B hml hv
  obtain ⟨rfl, hF⟩ := hv
  have hx := B.exec
  have hb := B.bytes
  have hr := B.returns
  have hT : ∀ w ∈ TB, w.before ([.ref (u 0), .int p0] : List Value).toArray s = true := fun w h => atoms_spec (ws := .code yX10_mate cX10_mate 4 (some .int) :: TB) B.pre w (List.mem_cons_of_mem _ h)
  have hown : s.vm.findClass RX10 = some m.cls := findClass_of_methodNamed B.named
  have S : CallFix p m c cX10_mate 4 s _ TB RX10 := ⟨hx, hb, hml, hown, hT⟩
  have hP : va_P D vwCl [(u 0, .inr (10, [.int 0, .ref (u 1), .ref (u 2), .ref (u 3), .ref (u 4), .int 0, .ref (u 5), .int 0, .int 0, .int 0, .int 0, .int 0, .int 0, .int (-1), .ref (u 6), .ref (u 7), .ref (u 8), .ref (u 9), .ref (u 10), .ref (u 11), .int 0, .int 0, .int 0, .ref (u 12), .ref (u 13), .ref (u 14), .int 0, .int 0, .ref (u 15), .int 0, .ref (u 16), .int 0, .ref (u 17), .int 0, .ref (u 18), .ref (u 19), .ref (u 20), .ref (u 21)])), (u 1, .inl (k 0, 168, .inl (fun _ => 0))), (u 3, .inl (k 3, 3, .inl (fun _ => 0))), (u 18, .inl (k 0, 4, .inl mf))] s.heap := hF.1
  have hK := hF.2.1
  have hl := lv_entry ([.ref (u 0), .int p0]) (n := 4) (Nat.le_of_ble_eq_true rfl)
  rw [lg_entry_eq]
  generalize (lg_sl ([.ref (u 0), .int p0]) ++ List.replicate (4 - (lg_sl ([.ref (u 0), .int p0])).length) Slot.unset).toArray = ls at hl ⊢
  have hl : lv_has ls 4 [(0, .ref (u 0)), (1, .int p0)] := hl
  refine lv_aload_n hx hb dX10_mate_0 rfl (lv_at hl 0 rfl) ?_
  refine lv_iload_n hx hb dX10_mate_1 rfl (lv_at hl 1 rfl) ?_
  refine ro_V (As := [.int p0]) (rest := []) S (c_X10_isWheel l D k u mf p0) lkX10_269 ok_X10_isWheel ⟨rfl, rfl, Nat.le_of_ble_eq_true rfl, Nat.le_of_ble_eq_true rfl⟩ (mw_V (ci := 10) (q0 := 0) hF rfl rfl) rfl hl.1 rfl (Nat.le_of_ble_eq_true rfl) ⟨Nat.zero_le _, Nat.zero_le _⟩ dX10_mate_2 (fun r_1 er_1 => ?_)
  subst er_1
  refine lv_if_ne (tgt := 11) hx hb dX10_mate_5 (by decide) (fun c_2 => ?_) (fun c_2 => ?_)
  · first | exact absurd c_2 (by decide) | exact absurd (by decide) c_2
  refine lv_bipush (v := (-2)) hx hb dX10_mate_8 (by decide) ?_
  exact W.iret (v := (-2)) hx hb hr (fun t ht hW => ⟨(-2), rfl, rfl, ht⟩) (fun _ h9 => by cases h9) dX10_mate_10
set_option maxHeartbeats 4000000 in
set_option maxRecDepth 100000 in
theorem c_X10_teach (l : Launch) (D : va_G) (k : Nat → ClassId) (u : Nat → Nat) (mf : Nat → Int32) (p0 : Int32) (p1 : Int32)  : Met l yX10_teach (.code yX10_teach cX10_teach 4 (some .int) :: TB) (rmk 3) (va_Pc [.ref (u 0), .int p0, .int p1] (fun U => MWH D k u mf U U.heap)) (vp_Si (fun r => r = (-2))) 0 0 (fun _ => False) := by
  refine Met.ofW (cc := cX10_teach) (maxL := 4) (ret := (some .int)) (by decide) rfl ?_
  intro p e s m args below meth c s₁ B hml hv
  obtain ⟨rfl, hF⟩ := hv
  have hx := B.exec
  have hb := B.bytes
  have hr := B.returns
  have hT : ∀ w ∈ TB, w.before ([.ref (u 0), .int p0, .int p1] : List Value).toArray s = true := fun w h => atoms_spec (ws := .code yX10_teach cX10_teach 4 (some .int) :: TB) B.pre w (List.mem_cons_of_mem _ h)
  have hown : s.vm.findClass RX10 = some m.cls := findClass_of_methodNamed B.named
  have S : CallFix p m c cX10_teach 4 s _ TB RX10 := ⟨hx, hb, hml, hown, hT⟩
  have hP : va_P D vwCl [(u 0, .inr (10, [.int 0, .ref (u 1), .ref (u 2), .ref (u 3), .ref (u 4), .int 0, .ref (u 5), .int 0, .int 0, .int 0, .int 0, .int 0, .int 0, .int (-1), .ref (u 6), .ref (u 7), .ref (u 8), .ref (u 9), .ref (u 10), .ref (u 11), .int 0, .int 0, .int 0, .ref (u 12), .ref (u 13), .ref (u 14), .int 0, .int 0, .ref (u 15), .int 0, .ref (u 16), .int 0, .ref (u 17), .int 0, .ref (u 18), .ref (u 19), .ref (u 20), .ref (u 21)])), (u 1, .inl (k 0, 168, .inl (fun _ => 0))), (u 3, .inl (k 3, 3, .inl (fun _ => 0))), (u 18, .inl (k 0, 4, .inl mf))] s.heap := hF.1
  have hK := hF.2.1
  have hl := lv_entry ([.ref (u 0), .int p0, .int p1]) (n := 4) (Nat.le_of_ble_eq_true rfl)
  rw [lg_entry_eq]
  generalize (lg_sl ([.ref (u 0), .int p0, .int p1]) ++ List.replicate (4 - (lg_sl ([.ref (u 0), .int p0, .int p1])).length) Slot.unset).toArray = ls at hl ⊢
  have hl : lv_has ls 4 [(0, .ref (u 0)), (1, .int p0), (2, .int p1)] := hl
  refine lv_aload_n hx hb dX10_teach_0 rfl (lv_at hl 0 rfl) ?_
  refine lv_iload_n hx hb dX10_teach_1 rfl (lv_at hl 1 rfl) ?_
  refine ro_V (As := [.int p0]) (rest := []) S (c_X10_isWheel l D k u mf p0) lkX10_269 ok_X10_isWheel ⟨rfl, rfl, Nat.le_of_ble_eq_true rfl, Nat.le_of_ble_eq_true rfl⟩ (mw_V (ci := 10) (q0 := 0) hF rfl rfl) rfl hl.1 rfl (Nat.le_of_ble_eq_true rfl) ⟨Nat.zero_le _, Nat.zero_le _⟩ dX10_teach_2 (fun r_1 er_1 => ?_)
  subst er_1
  refine lv_if_eq (tgt := 17) hx hb dX10_teach_5 (by decide) (fun c_2 => ?_) (fun c_2 => ?_)
  rotate_left
  · first | exact absurd c_2 (by decide) | exact absurd (by decide) c_2
  refine lv_bipush (v := (-2)) hx hb dX10_teach_17 (by decide) ?_
  exact W.iret (v := (-2)) hx hb hr (fun t ht hW => ⟨(-2), rfl, rfl, ht⟩) (fun _ h9 => by cases h9) dX10_teach_19
set_option maxHeartbeats 4000000 in
set_option maxRecDepth 100000 in
theorem c_X10_blind (l : Launch) (D : va_G) (k : Nat → ClassId) (u : Nat → Nat) (mf : Nat → Int32) (p0 : Int32) (p1 : Int32)  : Met l yX10_blind (.code yX10_blind cX10_blind 4 (some .int) :: TB) (rmk 4) (va_Pc [.ref (u 0), .int p0, .int p1] (fun U => MWH D k u mf U U.heap)) (vp_Si (fun r => r = (-2))) 0 0 (fun _ => False) := by
  refine Met.ofW (cc := cX10_blind) (maxL := 4) (ret := (some .int)) (by decide) rfl ?_
  intro p e s m args below meth c s₁ B hml hv
  obtain ⟨rfl, hF⟩ := hv
  have hx := B.exec
  have hb := B.bytes
  have hr := B.returns
  have hT : ∀ w ∈ TB, w.before ([.ref (u 0), .int p0, .int p1] : List Value).toArray s = true := fun w h => atoms_spec (ws := .code yX10_blind cX10_blind 4 (some .int) :: TB) B.pre w (List.mem_cons_of_mem _ h)
  have hown : s.vm.findClass RX10 = some m.cls := findClass_of_methodNamed B.named
  have S : CallFix p m c cX10_blind 4 s _ TB RX10 := ⟨hx, hb, hml, hown, hT⟩
  have hP : va_P D vwCl [(u 0, .inr (10, [.int 0, .ref (u 1), .ref (u 2), .ref (u 3), .ref (u 4), .int 0, .ref (u 5), .int 0, .int 0, .int 0, .int 0, .int 0, .int 0, .int (-1), .ref (u 6), .ref (u 7), .ref (u 8), .ref (u 9), .ref (u 10), .ref (u 11), .int 0, .int 0, .int 0, .ref (u 12), .ref (u 13), .ref (u 14), .int 0, .int 0, .ref (u 15), .int 0, .ref (u 16), .int 0, .ref (u 17), .int 0, .ref (u 18), .ref (u 19), .ref (u 20), .ref (u 21)])), (u 1, .inl (k 0, 168, .inl (fun _ => 0))), (u 3, .inl (k 3, 3, .inl (fun _ => 0))), (u 18, .inl (k 0, 4, .inl mf))] s.heap := hF.1
  have hK := hF.2.1
  have hl := lv_entry ([.ref (u 0), .int p0, .int p1]) (n := 4) (Nat.le_of_ble_eq_true rfl)
  rw [lg_entry_eq]
  generalize (lg_sl ([.ref (u 0), .int p0, .int p1]) ++ List.replicate (4 - (lg_sl ([.ref (u 0), .int p0, .int p1])).length) Slot.unset).toArray = ls at hl ⊢
  have hl : lv_has ls 4 [(0, .ref (u 0)), (1, .int p0), (2, .int p1)] := hl
  refine lv_iload_n hx hb dX10_blind_0 rfl (lv_at hl 2 rfl) ?_
  refine lv_iconst (v := (-1)) hx hb dX10_blind_1 (by decide) ?_
  refine lv_icmp_eq (tgt := 15) hx hb dX10_blind_2 (by decide) (fun c_1 => ?_) (fun c_1 => ?_)
  · skip
    refine lv_bipush (v := (-2)) hx hb dX10_blind_15 (by decide) ?_
    exact W.iret (v := (-2)) hx hb hr (fun t ht hW => ⟨(-2), rfl, rfl, ht⟩) (fun _ h9 => by cases h9) dX10_blind_17
  · skip
    refine lv_aload_n hx hb dX10_blind_5 rfl (lv_at hl 0 rfl) ?_
    refine lv_iload_n hx hb dX10_blind_6 rfl (lv_at hl 1 rfl) ?_
    refine lv_iload_n hx hb dX10_blind_7 rfl (lv_at hl 2 rfl) ?_
    refine lv_i2l (v := p1.toInt64) hx hb dX10_blind_8 rfl ?_
    refine ro_V (As := [.int p0, .long p1.toInt64]) (rest := []) S (c_X10_canWant l D k u mf p0 p1.toInt64) lkX10_290 ok_X10_canWant ⟨rfl, rfl, Nat.le_of_ble_eq_true rfl, Nat.le_of_ble_eq_true rfl⟩ (mw_V (ci := 10) (q0 := 0) hF rfl rfl) rfl hl.1 rfl (Nat.le_of_ble_eq_true rfl) ⟨Nat.zero_le _, Nat.zero_le _⟩ dX10_blind_9 (fun r_2 er_2 => ?_)
    subst er_2
    refine lv_if_ne (tgt := 18) hx hb dX10_blind_12 (by decide) (fun c_3 => ?_) (fun c_3 => ?_)
    · first | exact absurd c_3 (by decide) | exact absurd (by decide) c_3
    refine lv_bipush (v := (-2)) hx hb dX10_blind_15 (by decide) ?_
    exact W.iret (v := (-2)) hx hb hr (fun t ht hW => ⟨(-2), rfl, rfl, ht⟩) (fun _ h9 => by cases h9) dX10_blind_17
set_option maxHeartbeats 4000000 in
set_option maxRecDepth 100000 in
theorem c_X10_blinds (l : Launch) (D : va_G) (k : Nat → ClassId) (u : Nat → Nat) (mf : Nat → Int32) (p0 : Int32) (p1 : Int32)  : Met l yX10_blinds (.code yX10_blinds cX10_blinds 3 (some .int) :: TB) (rmk 4) (va_Pc [.ref (u 0), .int p0, .int p1] (fun U => MWH D k u mf U U.heap)) (vp_Si (fun r => r = (-2))) 0 0 (fun _ => False) := by
  refine Met.ofW (cc := cX10_blinds) (maxL := 3) (ret := (some .int)) (by decide) rfl ?_
  intro p e s m args below meth c s₁ B hml hv
  obtain ⟨rfl, hF⟩ := hv
  have hx := B.exec
  have hb := B.bytes
  have hr := B.returns
  have hT : ∀ w ∈ TB, w.before ([.ref (u 0), .int p0, .int p1] : List Value).toArray s = true := fun w h => atoms_spec (ws := .code yX10_blinds cX10_blinds 3 (some .int) :: TB) B.pre w (List.mem_cons_of_mem _ h)
  have hown : s.vm.findClass RX10 = some m.cls := findClass_of_methodNamed B.named
  have S : CallFix p m c cX10_blinds 3 s _ TB RX10 := ⟨hx, hb, hml, hown, hT⟩
  have hP : va_P D vwCl [(u 0, .inr (10, [.int 0, .ref (u 1), .ref (u 2), .ref (u 3), .ref (u 4), .int 0, .ref (u 5), .int 0, .int 0, .int 0, .int 0, .int 0, .int 0, .int (-1), .ref (u 6), .ref (u 7), .ref (u 8), .ref (u 9), .ref (u 10), .ref (u 11), .int 0, .int 0, .int 0, .ref (u 12), .ref (u 13), .ref (u 14), .int 0, .int 0, .ref (u 15), .int 0, .ref (u 16), .int 0, .ref (u 17), .int 0, .ref (u 18), .ref (u 19), .ref (u 20), .ref (u 21)])), (u 1, .inl (k 0, 168, .inl (fun _ => 0))), (u 3, .inl (k 3, 3, .inl (fun _ => 0))), (u 18, .inl (k 0, 4, .inl mf))] s.heap := hF.1
  have hK := hF.2.1
  have hl := lv_entry ([.ref (u 0), .int p0, .int p1]) (n := 3) (Nat.le_of_ble_eq_true rfl)
  rw [lg_entry_eq]
  generalize (lg_sl ([.ref (u 0), .int p0, .int p1]) ++ List.replicate (3 - (lg_sl ([.ref (u 0), .int p0, .int p1])).length) Slot.unset).toArray = ls at hl ⊢
  have hl : lv_has ls 3 [(0, .ref (u 0)), (1, .int p0), (2, .int p1)] := hl
  refine lv_iload_n hx hb dX10_blinds_0 rfl (lv_at hl 2 rfl) ?_
  refine lv_iconst (v := (-1)) hx hb dX10_blinds_1 (by decide) ?_
  refine lv_icmp_eq (tgt := 15) hx hb dX10_blinds_2 (by decide) (fun c_1 => ?_) (fun c_1 => ?_)
  · skip
    refine lv_bipush (v := (-2)) hx hb dX10_blinds_15 (by decide) ?_
    refine lv_goto (tgt := 26) hx hb dX10_blinds_17 (by decide) ?_
    exact W.iret (v := (-2)) hx hb hr (fun t ht hW => ⟨(-2), rfl, rfl, ht⟩) (fun _ h9 => by cases h9) dX10_blinds_26
  · skip
    refine lv_aload_n hx hb dX10_blinds_5 rfl (lv_at hl 0 rfl) ?_
    refine lv_iload_n hx hb dX10_blinds_6 rfl (lv_at hl 1 rfl) ?_
    refine lv_iload_n hx hb dX10_blinds_7 rfl (lv_at hl 2 rfl) ?_
    refine lv_i2l (v := p1.toInt64) hx hb dX10_blinds_8 rfl ?_
    refine ro_V (As := [.int p0, .long p1.toInt64]) (rest := []) S (c_X10_canWant l D k u mf p0 p1.toInt64) lkX10_290 ok_X10_canWant ⟨rfl, rfl, Nat.le_of_ble_eq_true rfl, Nat.le_of_ble_eq_true rfl⟩ (mw_V (ci := 10) (q0 := 0) hF rfl rfl) rfl hl.1 rfl (Nat.le_of_ble_eq_true rfl) ⟨Nat.zero_le _, Nat.zero_le _⟩ dX10_blinds_9 (fun r_2 er_2 => ?_)
    subst er_2
    refine lv_if_ne (tgt := 20) hx hb dX10_blinds_12 (by decide) (fun c_3 => ?_) (fun c_3 => ?_)
    · first | exact absurd c_3 (by decide) | exact absurd (by decide) c_3
    refine lv_bipush (v := (-2)) hx hb dX10_blinds_15 (by decide) ?_
    refine lv_goto (tgt := 26) hx hb dX10_blinds_17 (by decide) ?_
    exact W.iret (v := (-2)) hx hb hr (fun t ht hW => ⟨(-2), rfl, rfl, ht⟩) (fun _ h9 => by cases h9) dX10_blinds_26
set_option maxHeartbeats 4000000 in
set_option maxRecDepth 100000 in
theorem c_X10_lasts (l : Launch) (D : va_G) (k : Nat → ClassId) (u : Nat → Nat) (mf : Nat → Int32) (p0 : Int32) (p1 : Int32)  : Met l yX10_lasts (.code yX10_lasts cX10_lasts 3 (some .int) :: TB) (rmk 3) (va_Pc [.ref (u 0), .int p0, .int p1] (fun U => MWH D k u mf U U.heap)) (vp_Si (fun r => r = (-2))) 0 0 (fun _ => False) := by
  refine Met.ofW (cc := cX10_lasts) (maxL := 3) (ret := (some .int)) (by decide) rfl ?_
  intro p e s m args below meth c s₁ B hml hv
  obtain ⟨rfl, hF⟩ := hv
  have hx := B.exec
  have hb := B.bytes
  have hr := B.returns
  have hT : ∀ w ∈ TB, w.before ([.ref (u 0), .int p0, .int p1] : List Value).toArray s = true := fun w h => atoms_spec (ws := .code yX10_lasts cX10_lasts 3 (some .int) :: TB) B.pre w (List.mem_cons_of_mem _ h)
  have hown : s.vm.findClass RX10 = some m.cls := findClass_of_methodNamed B.named
  have S : CallFix p m c cX10_lasts 3 s _ TB RX10 := ⟨hx, hb, hml, hown, hT⟩
  have hP : va_P D vwCl [(u 0, .inr (10, [.int 0, .ref (u 1), .ref (u 2), .ref (u 3), .ref (u 4), .int 0, .ref (u 5), .int 0, .int 0, .int 0, .int 0, .int 0, .int 0, .int (-1), .ref (u 6), .ref (u 7), .ref (u 8), .ref (u 9), .ref (u 10), .ref (u 11), .int 0, .int 0, .int 0, .ref (u 12), .ref (u 13), .ref (u 14), .int 0, .int 0, .ref (u 15), .int 0, .ref (u 16), .int 0, .ref (u 17), .int 0, .ref (u 18), .ref (u 19), .ref (u 20), .ref (u 21)])), (u 1, .inl (k 0, 168, .inl (fun _ => 0))), (u 3, .inl (k 3, 3, .inl (fun _ => 0))), (u 18, .inl (k 0, 4, .inl mf))] s.heap := hF.1
  have hK := hF.2.1
  have hl := lv_entry ([.ref (u 0), .int p0, .int p1]) (n := 3) (Nat.le_of_ble_eq_true rfl)
  rw [lg_entry_eq]
  generalize (lg_sl ([.ref (u 0), .int p0, .int p1]) ++ List.replicate (3 - (lg_sl ([.ref (u 0), .int p0, .int p1])).length) Slot.unset).toArray = ls at hl ⊢
  have hl : lv_has ls 3 [(0, .ref (u 0)), (1, .int p0), (2, .int p1)] := hl
  refine lv_aload_n hx hb dX10_lasts_0 rfl (lv_at hl 0 rfl) ?_
  refine lv_iload_n hx hb dX10_lasts_1 rfl (lv_at hl 1 rfl) ?_
  refine ro_V (As := [.int p0]) (rest := []) S (c_X10_isWheel l D k u mf p0) lkX10_269 ok_X10_isWheel ⟨rfl, rfl, Nat.le_of_ble_eq_true rfl, Nat.le_of_ble_eq_true rfl⟩ (mw_V (ci := 10) (q0 := 0) hF rfl rfl) rfl hl.1 rfl (Nat.le_of_ble_eq_true rfl) ⟨Nat.zero_le _, Nat.zero_le _⟩ dX10_lasts_2 (fun r_1 er_1 => ?_)
  subst er_1
  refine lv_if_eq (tgt := 20) hx hb dX10_lasts_5 (by decide) (fun c_2 => ?_) (fun c_2 => ?_)
  rotate_left
  · first | exact absurd c_2 (by decide) | exact absurd (by decide) c_2
  refine lv_bipush (v := (-2)) hx hb dX10_lasts_20 (by decide) ?_
  exact W.iret (v := (-2)) hx hb hr (fun t ht hW => ⟨(-2), rfl, rfl, ht⟩) (fun _ h9 => by cases h9) dX10_lasts_22
set_option maxHeartbeats 4000000 in
set_option maxRecDepth 100000 in
theorem c_X10_share (l : Launch) (D : va_G) (k : Nat → ClassId) (u : Nat → Nat) (mf : Nat → Int32) (p0 : Int32) (p1 : Int32) (p2 : Int32)  : Met l yX10_share (.code yX10_share cX10_share 9 (some .int) :: TB) (rmk 3) (va_Pc [.ref (u 0), .int p0, .int p1, .int p2] (fun U => MWH D k u mf U U.heap)) (vp_Si (fun r => r = (-2))) 0 0 (fun _ => False) := by
  refine Met.ofW (cc := cX10_share) (maxL := 9) (ret := (some .int)) (by decide) rfl ?_
  intro p e s m args below meth c s₁ B hml hv
  obtain ⟨rfl, hF⟩ := hv
  have hx := B.exec
  have hb := B.bytes
  have hr := B.returns
  have hT : ∀ w ∈ TB, w.before ([.ref (u 0), .int p0, .int p1, .int p2] : List Value).toArray s = true := fun w h => atoms_spec (ws := .code yX10_share cX10_share 9 (some .int) :: TB) B.pre w (List.mem_cons_of_mem _ h)
  have hown : s.vm.findClass RX10 = some m.cls := findClass_of_methodNamed B.named
  have S : CallFix p m c cX10_share 9 s _ TB RX10 := ⟨hx, hb, hml, hown, hT⟩
  have hP : va_P D vwCl [(u 0, .inr (10, [.int 0, .ref (u 1), .ref (u 2), .ref (u 3), .ref (u 4), .int 0, .ref (u 5), .int 0, .int 0, .int 0, .int 0, .int 0, .int 0, .int (-1), .ref (u 6), .ref (u 7), .ref (u 8), .ref (u 9), .ref (u 10), .ref (u 11), .int 0, .int 0, .int 0, .ref (u 12), .ref (u 13), .ref (u 14), .int 0, .int 0, .ref (u 15), .int 0, .ref (u 16), .int 0, .ref (u 17), .int 0, .ref (u 18), .ref (u 19), .ref (u 20), .ref (u 21)])), (u 1, .inl (k 0, 168, .inl (fun _ => 0))), (u 3, .inl (k 3, 3, .inl (fun _ => 0))), (u 18, .inl (k 0, 4, .inl mf))] s.heap := hF.1
  have hK := hF.2.1
  have hl := lv_entry ([.ref (u 0), .int p0, .int p1, .int p2]) (n := 9) (Nat.le_of_ble_eq_true rfl)
  rw [lg_entry_eq]
  generalize (lg_sl ([.ref (u 0), .int p0, .int p1, .int p2]) ++ List.replicate (9 - (lg_sl ([.ref (u 0), .int p0, .int p1, .int p2])).length) Slot.unset).toArray = ls at hl ⊢
  have hl : lv_has ls 9 [(0, .ref (u 0)), (1, .int p0), (2, .int p1), (3, .int p2)] := hl
  refine lv_aload_n hx hb dX10_share_0 rfl (lv_at hl 0 rfl) ?_
  refine lv_iload_n hx hb dX10_share_1 rfl (lv_at hl 1 rfl) ?_
  refine ro_V (As := [.int p0]) (rest := []) S (c_X10_isCart l D k u mf p0) lkX10_279 ok_X10_isCart ⟨rfl, rfl, Nat.le_of_ble_eq_true rfl, Nat.le_of_ble_eq_true rfl⟩ (mw_V (ci := 10) (q0 := 0) hF rfl rfl) rfl hl.1 rfl (Nat.le_of_ble_eq_true rfl) ⟨Nat.zero_le _, Nat.zero_le _⟩ dX10_share_2 (fun r_1 er_1 => ?_)
  subst er_1
  refine lv_if_eq (tgt := 28) hx hb dX10_share_5 (by decide) (fun c_2 => ?_) (fun c_2 => ?_)
  rotate_left
  · first | exact absurd c_2 (by decide) | exact absurd (by decide) c_2
  refine lv_bipush (v := (-2)) hx hb dX10_share_28 (by decide) ?_
  exact W.iret (v := (-2)) hx hb hr (fun t ht hW => ⟨(-2), rfl, rfl, ht⟩) (fun _ h9 => by cases h9) dX10_share_30
set_option maxHeartbeats 4000000 in
set_option maxRecDepth 100000 in
theorem c_X10_worth (l : Launch) (D : va_G) (k : Nat → ClassId) (u : Nat → Nat) (mf : Nat → Int32) (p0 : Int32)  : Met l yX10_worth (.code yX10_worth cX10_worth 2 (some .int) :: TB) (rmk 3) (va_Pc [.ref (u 0), .int p0] (fun U => MWH D k u mf U U.heap)) (vp_Si (fun r => r = (-2))) 0 0 (fun _ => False) := by
  refine Met.ofW (cc := cX10_worth) (maxL := 2) (ret := (some .int)) (by decide) rfl ?_
  intro p e s m args below meth c s₁ B hml hv
  obtain ⟨rfl, hF⟩ := hv
  have hx := B.exec
  have hb := B.bytes
  have hr := B.returns
  have hT : ∀ w ∈ TB, w.before ([.ref (u 0), .int p0] : List Value).toArray s = true := fun w h => atoms_spec (ws := .code yX10_worth cX10_worth 2 (some .int) :: TB) B.pre w (List.mem_cons_of_mem _ h)
  have hown : s.vm.findClass RX10 = some m.cls := findClass_of_methodNamed B.named
  have S : CallFix p m c cX10_worth 2 s _ TB RX10 := ⟨hx, hb, hml, hown, hT⟩
  have hP : va_P D vwCl [(u 0, .inr (10, [.int 0, .ref (u 1), .ref (u 2), .ref (u 3), .ref (u 4), .int 0, .ref (u 5), .int 0, .int 0, .int 0, .int 0, .int 0, .int 0, .int (-1), .ref (u 6), .ref (u 7), .ref (u 8), .ref (u 9), .ref (u 10), .ref (u 11), .int 0, .int 0, .int 0, .ref (u 12), .ref (u 13), .ref (u 14), .int 0, .int 0, .ref (u 15), .int 0, .ref (u 16), .int 0, .ref (u 17), .int 0, .ref (u 18), .ref (u 19), .ref (u 20), .ref (u 21)])), (u 1, .inl (k 0, 168, .inl (fun _ => 0))), (u 3, .inl (k 3, 3, .inl (fun _ => 0))), (u 18, .inl (k 0, 4, .inl mf))] s.heap := hF.1
  have hK := hF.2.1
  have hl := lv_entry ([.ref (u 0), .int p0]) (n := 2) (Nat.le_of_ble_eq_true rfl)
  rw [lg_entry_eq]
  generalize (lg_sl ([.ref (u 0), .int p0]) ++ List.replicate (2 - (lg_sl ([.ref (u 0), .int p0])).length) Slot.unset).toArray = ls at hl ⊢
  have hl : lv_has ls 2 [(0, .ref (u 0)), (1, .int p0)] := hl
  refine lv_aload_n hx hb dX10_worth_0 rfl (lv_at hl 0 rfl) ?_
  refine lv_iload_n hx hb dX10_worth_1 rfl (lv_at hl 1 rfl) ?_
  refine ro_V (As := [.int p0]) (rest := []) S (c_X10_isWheel l D k u mf p0) lkX10_269 ok_X10_isWheel ⟨rfl, rfl, Nat.le_of_ble_eq_true rfl, Nat.le_of_ble_eq_true rfl⟩ (mw_V (ci := 10) (q0 := 0) hF rfl rfl) rfl hl.1 rfl (Nat.le_of_ble_eq_true rfl) ⟨Nat.zero_le _, Nat.zero_le _⟩ dX10_worth_2 (fun r_1 er_1 => ?_)
  subst er_1
  refine lv_if_ne (tgt := 11) hx hb dX10_worth_5 (by decide) (fun c_2 => ?_) (fun c_2 => ?_)
  · first | exact absurd c_2 (by decide) | exact absurd (by decide) c_2
  refine lv_bipush (v := (-2)) hx hb dX10_worth_8 (by decide) ?_
  exact W.iret (v := (-2)) hx hb hr (fun t ht hW => ⟨(-2), rfl, rfl, ht⟩) (fun _ h9 => by cases h9) dX10_worth_10
set_option maxHeartbeats 4000000 in
set_option maxRecDepth 100000 in
theorem c_X10_picks (l : Launch) (D : va_G) (k : Nat → ClassId) (u : Nat → Nat) (mf : Nat → Int32)   : Met l yX10_picks (.code yX10_picks cX10_picks 4 (some .int) :: TB) (rmk 2) (va_Pc [.ref (u 0)] (fun U => MWH D k u mf U U.heap)) (vp_Si (fun r => r = (-2))) 0 0 (fun _ => False) := by
  refine Met.ofW (cc := cX10_picks) (maxL := 4) (ret := (some .int)) (by decide) rfl ?_
  intro p e s m args below meth c s₁ B hml hv
  obtain ⟨rfl, hF⟩ := hv
  have hx := B.exec
  have hb := B.bytes
  have hr := B.returns
  have hT : ∀ w ∈ TB, w.before ([.ref (u 0)] : List Value).toArray s = true := fun w h => atoms_spec (ws := .code yX10_picks cX10_picks 4 (some .int) :: TB) B.pre w (List.mem_cons_of_mem _ h)
  have hown : s.vm.findClass RX10 = some m.cls := findClass_of_methodNamed B.named
  have S : CallFix p m c cX10_picks 4 s _ TB RX10 := ⟨hx, hb, hml, hown, hT⟩
  have hP : va_P D vwCl [(u 0, .inr (10, [.int 0, .ref (u 1), .ref (u 2), .ref (u 3), .ref (u 4), .int 0, .ref (u 5), .int 0, .int 0, .int 0, .int 0, .int 0, .int 0, .int (-1), .ref (u 6), .ref (u 7), .ref (u 8), .ref (u 9), .ref (u 10), .ref (u 11), .int 0, .int 0, .int 0, .ref (u 12), .ref (u 13), .ref (u 14), .int 0, .int 0, .ref (u 15), .int 0, .ref (u 16), .int 0, .ref (u 17), .int 0, .ref (u 18), .ref (u 19), .ref (u 20), .ref (u 21)])), (u 1, .inl (k 0, 168, .inl (fun _ => 0))), (u 3, .inl (k 3, 3, .inl (fun _ => 0))), (u 18, .inl (k 0, 4, .inl mf))] s.heap := hF.1
  have hK := hF.2.1
  have hl := lv_entry ([.ref (u 0)]) (n := 4) (Nat.le_of_ble_eq_true rfl)
  rw [lg_entry_eq]
  generalize (lg_sl ([.ref (u 0)]) ++ List.replicate (4 - (lg_sl ([.ref (u 0)])).length) Slot.unset).toArray = ls at hl ⊢
  have hl : lv_has ls 4 [(0, .ref (u 0))] := hl
  refine lv_aload_n hx hb dX10_picks_0 rfl (lv_at hl 0 rfl) ?_
  refine ro_V (As := []) (rest := []) S (c_X10_isLand l D k u mf ) lkX10_297 ok_X10_isLand ⟨rfl, rfl, Nat.le_of_ble_eq_true rfl, Nat.le_of_ble_eq_true rfl⟩ (mw_V (ci := 10) (q0 := 0) hF rfl rfl) rfl hl.1 rfl (Nat.le_of_ble_eq_true rfl) ⟨Nat.zero_le _, Nat.zero_le _⟩ dX10_picks_1 (fun r_1 er_1 => ?_)
  subst er_1
  refine lv_if_ne (tgt := 10) hx hb dX10_picks_4 (by decide) (fun c_2 => ?_) (fun c_2 => ?_)
  · first | exact absurd c_2 (by decide) | exact absurd (by decide) c_2
  refine lv_bipush (v := (-2)) hx hb dX10_picks_7 (by decide) ?_
  exact W.iret (v := (-2)) hx hb hr (fun t ht hW => ⟨(-2), rfl, rfl, ht⟩) (fun _ h9 => by cases h9) dX10_picks_9
set_option maxHeartbeats 4000000 in
set_option maxRecDepth 100000 in
theorem c_X10_drawn (l : Launch) (D : va_G) (k : Nat → ClassId) (u : Nat → Nat) (mf : Nat → Int32) (p0 : Int32) (p1 : Int32) (p2 : Int32) (p3 : Int32)  : Met l yX10_drawn (.code yX10_drawn cX10_drawn 5 (some .int) :: TB) (rmk 4) (va_Pc [.ref (u 0), .int p0, .int p1, .int p2, .int p3] (fun U => MWH D k u mf U U.heap)) (vp_Si (fun r => r = (-2))) 0 0 (fun _ => False) := by
  refine Met.ofW (cc := cX10_drawn) (maxL := 5) (ret := (some .int)) (by decide) rfl ?_
  intro p e s m args below meth c s₁ B hml hv
  obtain ⟨rfl, hF⟩ := hv
  have hx := B.exec
  have hb := B.bytes
  have hr := B.returns
  have hT : ∀ w ∈ TB, w.before ([.ref (u 0), .int p0, .int p1, .int p2, .int p3] : List Value).toArray s = true := fun w h => atoms_spec (ws := .code yX10_drawn cX10_drawn 5 (some .int) :: TB) B.pre w (List.mem_cons_of_mem _ h)
  have hown : s.vm.findClass RX10 = some m.cls := findClass_of_methodNamed B.named
  have S : CallFix p m c cX10_drawn 5 s _ TB RX10 := ⟨hx, hb, hml, hown, hT⟩
  have hP : va_P D vwCl [(u 0, .inr (10, [.int 0, .ref (u 1), .ref (u 2), .ref (u 3), .ref (u 4), .int 0, .ref (u 5), .int 0, .int 0, .int 0, .int 0, .int 0, .int 0, .int (-1), .ref (u 6), .ref (u 7), .ref (u 8), .ref (u 9), .ref (u 10), .ref (u 11), .int 0, .int 0, .int 0, .ref (u 12), .ref (u 13), .ref (u 14), .int 0, .int 0, .ref (u 15), .int 0, .ref (u 16), .int 0, .ref (u 17), .int 0, .ref (u 18), .ref (u 19), .ref (u 20), .ref (u 21)])), (u 1, .inl (k 0, 168, .inl (fun _ => 0))), (u 3, .inl (k 3, 3, .inl (fun _ => 0))), (u 18, .inl (k 0, 4, .inl mf))] s.heap := hF.1
  have hK := hF.2.1
  have hl := lv_entry ([.ref (u 0), .int p0, .int p1, .int p2, .int p3]) (n := 5) (Nat.le_of_ble_eq_true rfl)
  rw [lg_entry_eq]
  generalize (lg_sl ([.ref (u 0), .int p0, .int p1, .int p2, .int p3]) ++ List.replicate (5 - (lg_sl ([.ref (u 0), .int p0, .int p1, .int p2, .int p3])).length) Slot.unset).toArray = ls at hl ⊢
  have hl : lv_has ls 5 [(0, .ref (u 0)), (1, .int p0), (2, .int p1), (3, .int p2), (4, .int p3)] := hl
  refine lv_aload_n hx hb dX10_drawn_0 rfl (lv_at hl 0 rfl) ?_
  refine lv_iload_n hx hb dX10_drawn_1 rfl (lv_at hl 1 rfl) ?_
  refine lv_iload_n hx hb dX10_drawn_2 rfl (lv_at hl 2 rfl) ?_
  refine lv_iload_n hx hb dX10_drawn_3 rfl (lv_at hl 3 rfl) ?_
  refine ro_V (As := [.int p0, .int p1, .int p2]) (rest := []) S (c_X10_isDrawn l D k u mf p0 p1 p2) lkX10_424 ok_X10_isDrawn ⟨rfl, rfl, Nat.le_of_ble_eq_true rfl, Nat.le_of_ble_eq_true rfl⟩ (mw_V (ci := 10) (q0 := 0) hF rfl rfl) rfl hl.1 rfl (Nat.le_of_ble_eq_true rfl) ⟨Nat.zero_le _, Nat.zero_le _⟩ dX10_drawn_4 (fun r_1 er_1 => ?_)
  subst er_1
  refine lv_if_eq (tgt := 23) hx hb dX10_drawn_7 (by decide) (fun c_2 => ?_) (fun c_2 => ?_)
  rotate_left
  · first | exact absurd c_2 (by decide) | exact absurd (by decide) c_2
  refine lv_bipush (v := (-2)) hx hb dX10_drawn_23 (by decide) ?_
  exact W.iret (v := (-2)) hx hb hr (fun t ht hW => ⟨(-2), rfl, rfl, ht⟩) (fun _ h9 => by cases h9) dX10_drawn_25
set_option maxHeartbeats 4000000 in
set_option maxRecDepth 100000 in
theorem c_X10_luck (l : Launch) (D : va_G) (k : Nat → ClassId) (u : Nat → Nat) (mf : Nat → Int32) (p0 : Int32) (p1 : Int32) (p2 : Int32) (p3 : Int32) (p4 : Int32)  : Met l yX10_luck (.code yX10_luck cX10_luck 8 (some .int) :: TB) (rmk 4) (va_Pc [.ref (u 0), .int p0, .int p1, .int p2, .int p3, .int p4] (fun U => MWH D k u mf U U.heap)) (vp_Si (fun r => r = (-2))) 0 0 (fun _ => False) := by
  refine Met.ofW (cc := cX10_luck) (maxL := 8) (ret := (some .int)) (by decide) rfl ?_
  intro p e s m args below meth c s₁ B hml hv
  obtain ⟨rfl, hF⟩ := hv
  have hx := B.exec
  have hb := B.bytes
  have hr := B.returns
  have hT : ∀ w ∈ TB, w.before ([.ref (u 0), .int p0, .int p1, .int p2, .int p3, .int p4] : List Value).toArray s = true := fun w h => atoms_spec (ws := .code yX10_luck cX10_luck 8 (some .int) :: TB) B.pre w (List.mem_cons_of_mem _ h)
  have hown : s.vm.findClass RX10 = some m.cls := findClass_of_methodNamed B.named
  have S : CallFix p m c cX10_luck 8 s _ TB RX10 := ⟨hx, hb, hml, hown, hT⟩
  have hP : va_P D vwCl [(u 0, .inr (10, [.int 0, .ref (u 1), .ref (u 2), .ref (u 3), .ref (u 4), .int 0, .ref (u 5), .int 0, .int 0, .int 0, .int 0, .int 0, .int 0, .int (-1), .ref (u 6), .ref (u 7), .ref (u 8), .ref (u 9), .ref (u 10), .ref (u 11), .int 0, .int 0, .int 0, .ref (u 12), .ref (u 13), .ref (u 14), .int 0, .int 0, .ref (u 15), .int 0, .ref (u 16), .int 0, .ref (u 17), .int 0, .ref (u 18), .ref (u 19), .ref (u 20), .ref (u 21)])), (u 1, .inl (k 0, 168, .inl (fun _ => 0))), (u 3, .inl (k 3, 3, .inl (fun _ => 0))), (u 18, .inl (k 0, 4, .inl mf))] s.heap := hF.1
  have hK := hF.2.1
  have hl := lv_entry ([.ref (u 0), .int p0, .int p1, .int p2, .int p3, .int p4]) (n := 8) (Nat.le_of_ble_eq_true rfl)
  rw [lg_entry_eq]
  generalize (lg_sl ([.ref (u 0), .int p0, .int p1, .int p2, .int p3, .int p4]) ++ List.replicate (8 - (lg_sl ([.ref (u 0), .int p0, .int p1, .int p2, .int p3, .int p4])).length) Slot.unset).toArray = ls at hl ⊢
  have hl : lv_has ls 8 [(0, .ref (u 0)), (1, .int p0), (2, .int p1), (3, .int p2), (4, .int p3), (5, .int p4)] := hl
  refine lv_aload_n hx hb dX10_luck_0 rfl (lv_at hl 0 rfl) ?_
  refine lv_iload_n hx hb dX10_luck_1 rfl (lv_at hl 1 rfl) ?_
  refine lv_iload_n hx hb dX10_luck_2 rfl (lv_at hl 3 rfl) ?_
  refine lv_iload hx hb dX10_luck_3 (lv_at hl 4 rfl) ?_
  refine ro_V (As := [.int p0, .int p2, .int p3]) (rest := []) S (c_X10_isDrawn l D k u mf p0 p2 p3) lkX10_424 ok_X10_isDrawn ⟨rfl, rfl, Nat.le_of_ble_eq_true rfl, Nat.le_of_ble_eq_true rfl⟩ (mw_V (ci := 10) (q0 := 0) hF rfl rfl) rfl hl.1 rfl (Nat.le_of_ble_eq_true rfl) ⟨Nat.zero_le _, Nat.zero_le _⟩ dX10_luck_5 (fun r_1 er_1 => ?_)
  subst er_1
  refine lv_if_eq (tgt := 33) hx hb dX10_luck_8 (by decide) (fun c_2 => ?_) (fun c_2 => ?_)
  rotate_left
  · first | exact absurd c_2 (by decide) | exact absurd (by decide) c_2
  refine lv_bipush (v := (-2)) hx hb dX10_luck_33 (by decide) ?_
  exact W.iret (v := (-2)) hx hb hr (fun t ht hW => ⟨(-2), rfl, rfl, ht⟩) (fun _ h9 => by cases h9) dX10_luck_35
set_option maxHeartbeats 4000000 in
set_option maxRecDepth 100000 in
theorem c_X10_tell (l : Launch) (D : va_G) (k : Nat → ClassId) (u : Nat → Nat) (mf : Nat → Int32) (p0 : Int32) (p1 : Int32) (p2 : Int32)  : Met l yX10_tell (.code yX10_tell cX10_tell 6 (some .int) :: TB) (rmk 3) (va_Pc [.ref (u 0), .int p0, .int p1, .int p2] (fun U => MWH D k u mf U U.heap)) (vp_Si (fun r => r = (-2))) 0 0 (fun _ => False) := by
  refine Met.ofW (cc := cX10_tell) (maxL := 6) (ret := (some .int)) (by decide) rfl ?_
  intro p e s m args below meth c s₁ B hml hv
  obtain ⟨rfl, hF⟩ := hv
  have hx := B.exec
  have hb := B.bytes
  have hr := B.returns
  have hT : ∀ w ∈ TB, w.before ([.ref (u 0), .int p0, .int p1, .int p2] : List Value).toArray s = true := fun w h => atoms_spec (ws := .code yX10_tell cX10_tell 6 (some .int) :: TB) B.pre w (List.mem_cons_of_mem _ h)
  have hown : s.vm.findClass RX10 = some m.cls := findClass_of_methodNamed B.named
  have S : CallFix p m c cX10_tell 6 s _ TB RX10 := ⟨hx, hb, hml, hown, hT⟩
  have hP : va_P D vwCl [(u 0, .inr (10, [.int 0, .ref (u 1), .ref (u 2), .ref (u 3), .ref (u 4), .int 0, .ref (u 5), .int 0, .int 0, .int 0, .int 0, .int 0, .int 0, .int (-1), .ref (u 6), .ref (u 7), .ref (u 8), .ref (u 9), .ref (u 10), .ref (u 11), .int 0, .int 0, .int 0, .ref (u 12), .ref (u 13), .ref (u 14), .int 0, .int 0, .ref (u 15), .int 0, .ref (u 16), .int 0, .ref (u 17), .int 0, .ref (u 18), .ref (u 19), .ref (u 20), .ref (u 21)])), (u 1, .inl (k 0, 168, .inl (fun _ => 0))), (u 3, .inl (k 3, 3, .inl (fun _ => 0))), (u 18, .inl (k 0, 4, .inl mf))] s.heap := hF.1
  have hK := hF.2.1
  have hl := lv_entry ([.ref (u 0), .int p0, .int p1, .int p2]) (n := 6) (Nat.le_of_ble_eq_true rfl)
  rw [lg_entry_eq]
  generalize (lg_sl ([.ref (u 0), .int p0, .int p1, .int p2]) ++ List.replicate (6 - (lg_sl ([.ref (u 0), .int p0, .int p1, .int p2])).length) Slot.unset).toArray = ls at hl ⊢
  have hl : lv_has ls 6 [(0, .ref (u 0)), (1, .int p0), (2, .int p1), (3, .int p2)] := hl
  refine lv_aload_n hx hb dX10_tell_0 rfl (lv_at hl 0 rfl) ?_
  refine lv_iload_n hx hb dX10_tell_1 rfl (lv_at hl 1 rfl) ?_
  refine ro_V (As := [.int p0]) (rest := []) S (c_X10_isWheel l D k u mf p0) lkX10_269 ok_X10_isWheel ⟨rfl, rfl, Nat.le_of_ble_eq_true rfl, Nat.le_of_ble_eq_true rfl⟩ (mw_V (ci := 10) (q0 := 0) hF rfl rfl) rfl hl.1 rfl (Nat.le_of_ble_eq_true rfl) ⟨Nat.zero_le _, Nat.zero_le _⟩ dX10_tell_2 (fun r_1 er_1 => ?_)
  subst er_1
  refine lv_if_eq (tgt := 29) hx hb dX10_tell_5 (by decide) (fun c_2 => ?_) (fun c_2 => ?_)
  rotate_left
  · first | exact absurd c_2 (by decide) | exact absurd (by decide) c_2
  refine lv_bipush (v := (-2)) hx hb dX10_tell_29 (by decide) ?_
  exact W.iret (v := (-2)) hx hb hr (fun t ht hW => ⟨(-2), rfl, rfl, ht⟩) (fun _ h9 => by cases h9) dX10_tell_31
set_option maxHeartbeats 4000000 in
set_option maxRecDepth 100000 in
theorem c_X10_hand (l : Launch) (D : va_G) (k : Nat → ClassId) (u : Nat → Nat) (mf : Nat → Int32) (p0 : Int32)  : Met l yX10_hand (.code yX10_hand cX10_hand 3 (some .int) :: TB) (rmk 2) (va_Pc [.ref (u 0), .int p0] (fun U => MWH D k u mf U U.heap)) (vp_Si (fun r => r = (-2))) 0 0 (fun _ => False) := by
  refine Met.ofW (cc := cX10_hand) (maxL := 3) (ret := (some .int)) (by decide) rfl ?_
  intro p e s m args below meth c s₁ B hml hv
  obtain ⟨rfl, hF⟩ := hv
  have hx := B.exec
  have hb := B.bytes
  have hr := B.returns
  have hT : ∀ w ∈ TB, w.before ([.ref (u 0), .int p0] : List Value).toArray s = true := fun w h => atoms_spec (ws := .code yX10_hand cX10_hand 3 (some .int) :: TB) B.pre w (List.mem_cons_of_mem _ h)
  have hown : s.vm.findClass RX10 = some m.cls := findClass_of_methodNamed B.named
  have S : CallFix p m c cX10_hand 3 s _ TB RX10 := ⟨hx, hb, hml, hown, hT⟩
  have hP : va_P D vwCl [(u 0, .inr (10, [.int 0, .ref (u 1), .ref (u 2), .ref (u 3), .ref (u 4), .int 0, .ref (u 5), .int 0, .int 0, .int 0, .int 0, .int 0, .int 0, .int (-1), .ref (u 6), .ref (u 7), .ref (u 8), .ref (u 9), .ref (u 10), .ref (u 11), .int 0, .int 0, .int 0, .ref (u 12), .ref (u 13), .ref (u 14), .int 0, .int 0, .ref (u 15), .int 0, .ref (u 16), .int 0, .ref (u 17), .int 0, .ref (u 18), .ref (u 19), .ref (u 20), .ref (u 21)])), (u 1, .inl (k 0, 168, .inl (fun _ => 0))), (u 3, .inl (k 3, 3, .inl (fun _ => 0))), (u 18, .inl (k 0, 4, .inl mf))] s.heap := hF.1
  have hK := hF.2.1
  have hl := lv_entry ([.ref (u 0), .int p0]) (n := 3) (Nat.le_of_ble_eq_true rfl)
  rw [lg_entry_eq]
  generalize (lg_sl ([.ref (u 0), .int p0]) ++ List.replicate (3 - (lg_sl ([.ref (u 0), .int p0])).length) Slot.unset).toArray = ls at hl ⊢
  have hl : lv_has ls 3 [(0, .ref (u 0)), (1, .int p0)] := hl
  refine lv_aload_n hx hb dX10_hand_0 rfl (lv_at hl 0 rfl) ?_
  refine ro_V (As := []) (rest := []) S (c_X10_isLand l D k u mf ) lkX10_297 ok_X10_isLand ⟨rfl, rfl, Nat.le_of_ble_eq_true rfl, Nat.le_of_ble_eq_true rfl⟩ (mw_V (ci := 10) (q0 := 0) hF rfl rfl) rfl hl.1 rfl (Nat.le_of_ble_eq_true rfl) ⟨Nat.zero_le _, Nat.zero_le _⟩ dX10_hand_1 (fun r_1 er_1 => ?_)
  subst er_1
  refine lv_if_eq (tgt := 19) hx hb dX10_hand_4 (by decide) (fun c_2 => ?_) (fun c_2 => ?_)
  rotate_left
  · first | exact absurd c_2 (by decide) | exact absurd (by decide) c_2
  refine lv_bipush (v := (-2)) hx hb dX10_hand_19 (by decide) ?_
  exact W.iret (v := (-2)) hx hb hr (fun t ht hW => ⟨(-2), rfl, rfl, ht⟩) (fun _ h9 => by cases h9) dX10_hand_21
set_option maxHeartbeats 4000000 in
set_option maxRecDepth 100000 in
theorem c_X10_smiths (l : Launch) (D : va_G) (k : Nat → ClassId) (u : Nat → Nat) (mf : Nat → Int32)   : Met l yX10_smiths (.code yX10_smiths cX10_smiths 1 (some .int) :: TB) (rmk 2) (va_Pc [.ref (u 0)] (fun U => MWH D k u mf U U.heap)) (vp_Si (fun r => r = (-2000000))) 0 0 (fun _ => False) := by
  refine Met.ofW (cc := cX10_smiths) (maxL := 1) (ret := (some .int)) (by decide) rfl ?_
  intro p e s m args below meth c s₁ B hml hv
  obtain ⟨rfl, hF⟩ := hv
  have hx := B.exec
  have hb := B.bytes
  have hr := B.returns
  have hT : ∀ w ∈ TB, w.before ([.ref (u 0)] : List Value).toArray s = true := fun w h => atoms_spec (ws := .code yX10_smiths cX10_smiths 1 (some .int) :: TB) B.pre w (List.mem_cons_of_mem _ h)
  have hown : s.vm.findClass RX10 = some m.cls := findClass_of_methodNamed B.named
  have S : CallFix p m c cX10_smiths 1 s _ TB RX10 := ⟨hx, hb, hml, hown, hT⟩
  have hP : va_P D vwCl [(u 0, .inr (10, [.int 0, .ref (u 1), .ref (u 2), .ref (u 3), .ref (u 4), .int 0, .ref (u 5), .int 0, .int 0, .int 0, .int 0, .int 0, .int 0, .int (-1), .ref (u 6), .ref (u 7), .ref (u 8), .ref (u 9), .ref (u 10), .ref (u 11), .int 0, .int 0, .int 0, .ref (u 12), .ref (u 13), .ref (u 14), .int 0, .int 0, .ref (u 15), .int 0, .ref (u 16), .int 0, .ref (u 17), .int 0, .ref (u 18), .ref (u 19), .ref (u 20), .ref (u 21)])), (u 1, .inl (k 0, 168, .inl (fun _ => 0))), (u 3, .inl (k 3, 3, .inl (fun _ => 0))), (u 18, .inl (k 0, 4, .inl mf))] s.heap := hF.1
  have hK := hF.2.1
  have hl := lv_entry ([.ref (u 0)]) (n := 1) (Nat.le_of_ble_eq_true rfl)
  rw [lg_entry_eq]
  generalize (lg_sl ([.ref (u 0)]) ++ List.replicate (1 - (lg_sl ([.ref (u 0)])).length) Slot.unset).toArray = ls at hl ⊢
  have hl : lv_has ls 1 [(0, .ref (u 0))] := hl
  refine lv_aload_n hx hb dX10_smiths_0 rfl (lv_at hl 0 rfl) ?_
  refine ro_V (As := []) (rest := []) S (c_X10_isLand l D k u mf ) lkX10_297 ok_X10_isLand ⟨rfl, rfl, Nat.le_of_ble_eq_true rfl, Nat.le_of_ble_eq_true rfl⟩ (mw_V (ci := 10) (q0 := 0) hF rfl rfl) rfl hl.1 rfl (Nat.le_of_ble_eq_true rfl) ⟨Nat.zero_le _, Nat.zero_le _⟩ dX10_smiths_1 (fun r_1 er_1 => ?_)
  subst er_1
  refine lv_if_ne (tgt := 11) hx hb dX10_smiths_4 (by decide) (fun c_2 => ?_) (fun c_2 => ?_)
  · first | exact absurd c_2 (by decide) | exact absurd (by decide) c_2
  refine lv_ldcw (v := (-2000000)) hx hb hown (hT _ t1875) dX10_smiths_7 ?_
  exact W.iret (v := (-2000000)) hx hb hr (fun t ht hW => ⟨(-2000000), rfl, rfl, ht⟩) (fun _ h9 => by cases h9) dX10_smiths_10
set_option maxHeartbeats 4000000 in
set_option maxRecDepth 100000 in
theorem c_X10_fault (l : Launch) (D : va_G) (k : Nat → ClassId) (u : Nat → Nat) (mf : Nat → Int32) (p0 : Int32)  : Met l yX10_fault (.code yX10_fault cX10_fault 2 (some .int) :: TB) (rmk 1) (va_Pc [.ref (u 0), .int p0] (fun U => MWH D k u mf U U.heap)) (vp_Si (fun r => r = a_fault p0)) 0 0 (fun _ => False) := by
  refine Met.ofW (cc := cX10_fault) (maxL := 2) (ret := (some .int)) (by decide) rfl ?_
  intro p e s m args below meth c s₁ B hml hv
  obtain ⟨rfl, hF⟩ := hv
  have hx := B.exec
  have hb := B.bytes
  have hr := B.returns
  have hT : ∀ w ∈ TB, w.before ([.ref (u 0), .int p0] : List Value).toArray s = true := fun w h => atoms_spec (ws := .code yX10_fault cX10_fault 2 (some .int) :: TB) B.pre w (List.mem_cons_of_mem _ h)
  have hown : s.vm.findClass RX10 = some m.cls := findClass_of_methodNamed B.named
  have S : CallFix p m c cX10_fault 2 s _ TB RX10 := ⟨hx, hb, hml, hown, hT⟩
  have hP : va_P D vwCl [(u 0, .inr (10, [.int 0, .ref (u 1), .ref (u 2), .ref (u 3), .ref (u 4), .int 0, .ref (u 5), .int 0, .int 0, .int 0, .int 0, .int 0, .int 0, .int (-1), .ref (u 6), .ref (u 7), .ref (u 8), .ref (u 9), .ref (u 10), .ref (u 11), .int 0, .int 0, .int 0, .ref (u 12), .ref (u 13), .ref (u 14), .int 0, .int 0, .ref (u 15), .int 0, .ref (u 16), .int 0, .ref (u 17), .int 0, .ref (u 18), .ref (u 19), .ref (u 20), .ref (u 21)])), (u 1, .inl (k 0, 168, .inl (fun _ => 0))), (u 3, .inl (k 3, 3, .inl (fun _ => 0))), (u 18, .inl (k 0, 4, .inl mf))] s.heap := hF.1
  have hK := hF.2.1
  have hl := lv_entry ([.ref (u 0), .int p0]) (n := 2) (Nat.le_of_ble_eq_true rfl)
  rw [lg_entry_eq]
  generalize (lg_sl ([.ref (u 0), .int p0]) ++ List.replicate (2 - (lg_sl ([.ref (u 0), .int p0])).length) Slot.unset).toArray = ls at hl ⊢
  have hl : lv_has ls 2 [(0, .ref (u 0)), (1, .int p0)] := hl
  refine lv_iload_n hx hb dX10_fault_0 rfl (lv_at hl 1 rfl) ?_
  refine lv_if_ne (tgt := 11) hx hb dX10_fault_1 (by decide) (fun c_1 => ?_) (fun c_1 => ?_)
  · skip
    refine lv_iload_n hx hb dX10_fault_11 rfl (lv_at hl 1 rfl) ?_
    refine lv_iconst (v := 1) hx hb dX10_fault_12 (by decide) ?_
    refine lv_icmp_ne (tgt := 23) hx hb dX10_fault_13 (by decide) (fun c_2 => ?_) (fun c_2 => ?_)
    · skip
      refine lv_iconst (v := (-1)) hx hb dX10_fault_23 (by decide) ?_
      exact W.iret (v := (-1)) hx hb hr (fun t ht hW => ⟨(-1), rfl, (by rw [a_fault, if_neg c_1]), ht⟩) (fun _ h9 => by cases h9) dX10_fault_24
    · skip
      refine lv_aload_n hx hb dX10_fault_16 rfl (lv_at hl 0 rfl) ?_
      refine va_get (D := D) (ci := 10) (v := .int (-1)) (C := RX10) (T := TX10) (N := 38) hx hb hT in_X10 hown hK hP 0 rfl rfl 13 (by decide) (hT _ t1275) (fun _ h9 => h9) rfl dX10_fault_17 ?_
      refine lv_goto (tgt := 24) hx hb dX10_fault_20 (by decide) ?_
      exact W.iret (v := (-1)) hx hb hr (fun t ht hW => ⟨(-1), rfl, (by rw [a_fault, if_neg c_1]), ht⟩) (fun _ h9 => by cases h9) dX10_fault_24
  · skip
    refine lv_aload_n hx hb dX10_fault_4 rfl (lv_at hl 0 rfl) ?_
    refine va_get (D := D) (ci := 10) (v := .int 0) (C := RX10) (T := TX10) (N := 38) hx hb hT in_X10 hown hK hP 0 rfl rfl 12 (by decide) (hT _ t1274) (fun _ h9 => h9) rfl dX10_fault_5 ?_
    refine lv_goto (tgt := 24) hx hb dX10_fault_8 (by decide) ?_
    exact W.iret (v := 0) hx hb hr (fun t ht hW => ⟨0, rfl, (by rw [a_fault, if_pos c_1]), ht⟩) (fun _ h9 => by cases h9) dX10_fault_24
set_option maxHeartbeats 4000000 in
set_option maxRecDepth 100000 in
theorem c_X10_count (l : Launch) (D : va_G) (k : Nat → ClassId) (u : Nat → Nat) (mf : Nat → Int32) (p0 : Int32)  : Met l yX10_count (.code yX10_count cX10_count 4 (some .int) :: TB) (rmk 1) (va_Pc [.ref (u 0), .int p0] (fun U => MWH D k u mf U U.heap)) (vp_Si (fun r => r = a_count p0)) 0 0 (fun _ => False) := by
  refine Met.ofW (cc := cX10_count) (maxL := 4) (ret := (some .int)) (by decide) rfl ?_
  intro p e s m args below meth c s₁ B hml hv
  obtain ⟨rfl, hF⟩ := hv
  have hx := B.exec
  have hb := B.bytes
  have hr := B.returns
  have hT : ∀ w ∈ TB, w.before ([.ref (u 0), .int p0] : List Value).toArray s = true := fun w h => atoms_spec (ws := .code yX10_count cX10_count 4 (some .int) :: TB) B.pre w (List.mem_cons_of_mem _ h)
  have hown : s.vm.findClass RX10 = some m.cls := findClass_of_methodNamed B.named
  have S : CallFix p m c cX10_count 4 s _ TB RX10 := ⟨hx, hb, hml, hown, hT⟩
  have hP : va_P D vwCl [(u 0, .inr (10, [.int 0, .ref (u 1), .ref (u 2), .ref (u 3), .ref (u 4), .int 0, .ref (u 5), .int 0, .int 0, .int 0, .int 0, .int 0, .int 0, .int (-1), .ref (u 6), .ref (u 7), .ref (u 8), .ref (u 9), .ref (u 10), .ref (u 11), .int 0, .int 0, .int 0, .ref (u 12), .ref (u 13), .ref (u 14), .int 0, .int 0, .ref (u 15), .int 0, .ref (u 16), .int 0, .ref (u 17), .int 0, .ref (u 18), .ref (u 19), .ref (u 20), .ref (u 21)])), (u 1, .inl (k 0, 168, .inl (fun _ => 0))), (u 3, .inl (k 3, 3, .inl (fun _ => 0))), (u 18, .inl (k 0, 4, .inl mf))] s.heap := hF.1
  have hK := hF.2.1
  have hl := lv_entry ([.ref (u 0), .int p0]) (n := 4) (Nat.le_of_ble_eq_true rfl)
  rw [lg_entry_eq]
  generalize (lg_sl ([.ref (u 0), .int p0]) ++ List.replicate (4 - (lg_sl ([.ref (u 0), .int p0])).length) Slot.unset).toArray = ls at hl ⊢
  have hl : lv_has ls 4 [(0, .ref (u 0)), (1, .int p0)] := hl
  refine lv_iconst (v := 0) hx hb dX10_count_0 (by decide) ?_
  refine lv_istore_n (lv' := [(2, .int 0), (0, .ref (u 0)), (1, .int p0)]) hx hb dX10_count_1 rfl hl (by decide) rfl (fun ls hl => ?_)
  refine lv_iload_n hx hb dX10_count_2 rfl (lv_at hl 2 rfl) ?_
  by_cases c_1 : p0.toInt < 0 ∨ 9 < p0.toInt
  · skip
    refine lv_tableOut (tgt := 152) hx hb dX10_count_3 c_1 (by decide) ?_
    refine lv_iconst (v := (-1)) hx hb dX10_count_152 (by decide) ?_
    exact W.iret (v := (-1)) hx hb hr (fun t ht hW => ⟨(-1), rfl, (by rw [a_count, if_pos c_1]), ht⟩) (fun _ h9 => by cases h9) dX10_count_153
  · skip
    have x_2 : p0 = 0 ∨ p0 = 1 ∨ p0 = 2 ∨ p0 = 3 ∨ p0 = 4 ∨ p0 = 5 ∨ p0 = 6 ∨ p0 = 7 ∨ p0 = 8 ∨ p0 = 9 := by
      have q1 : ¬ p0.toInt < 0 := fun z => c_1 (Or.inl z)
      have q2 : ¬ 9 < p0.toInt := fun z => c_1 (Or.inr z)
      have q3 : p0.toInt = 0 ∨ p0.toInt = 1 ∨ p0.toInt = 2 ∨ p0.toInt = 3 ∨ p0.toInt = 4 ∨ p0.toInt = 5 ∨ p0.toInt = 6 ∨ p0.toInt = 7 ∨ p0.toInt = 8 ∨ p0.toInt = 9 := by omega
      rcases q3 with q3 | q3 | q3 | q3 | q3 | q3 | q3 | q3 | q3 | q3
      · exact Or.inl (Int32.toInt_inj.mp (q3.trans (by decide)))
      · exact Or.inr (Or.inl (Int32.toInt_inj.mp (q3.trans (by decide))))
      · exact Or.inr (Or.inr (Or.inl (Int32.toInt_inj.mp (q3.trans (by decide)))))
      · exact Or.inr (Or.inr (Or.inr (Or.inl (Int32.toInt_inj.mp (q3.trans (by decide))))))
      · exact Or.inr (Or.inr (Or.inr (Or.inr (Or.inl (Int32.toInt_inj.mp (q3.trans (by decide)))))))
      · exact Or.inr (Or.inr (Or.inr (Or.inr (Or.inr (Or.inl (Int32.toInt_inj.mp (q3.trans (by decide))))))))
      · exact Or.inr (Or.inr (Or.inr (Or.inr (Or.inr (Or.inr (Or.inl (Int32.toInt_inj.mp (q3.trans (by decide)))))))))
      · exact Or.inr (Or.inr (Or.inr (Or.inr (Or.inr (Or.inr (Or.inr (Or.inl (Int32.toInt_inj.mp (q3.trans (by decide))))))))))
      · exact Or.inr (Or.inr (Or.inr (Or.inr (Or.inr (Or.inr (Or.inr (Or.inr (Or.inl (Int32.toInt_inj.mp (q3.trans (by decide)))))))))))
      · exact Or.inr (Or.inr (Or.inr (Or.inr (Or.inr (Or.inr (Or.inr (Or.inr (Or.inr ((Int32.toInt_inj.mp (q3.trans (by decide))))))))))))
    clear c_1
    rcases x_2 with rfl | rfl | rfl | rfl | rfl | rfl | rfl | rfl | rfl | rfl
    · skip
      refine lv_tableIn (off := 53) (tgt := 56) hx hb dX10_count_3 (by decide) (by decide) (by decide +kernel) (by decide) ?_
      refine lv_aload_n hx hb dX10_count_56 rfl (lv_at hl 1 rfl) ?_
      refine va_get (D := D) (ci := 10) (v := .ref (u 1)) (C := RX10) (T := TX10) (N := 38) hx hb hT in_X10 hown hK hP 0 rfl rfl 1 (by decide) (hT _ t1263) (fun _ h9 => h9) rfl dX10_count_57 ?_
      refine lv_iconst (v := 0) hx hb dX10_count_60 (by decide) ?_
      refine va_iald hx hb hK hP 1 0 rfl rfl (by unfold vp_in; decide) dX10_count_61 ?_
      refine k_top (y := 0) rfl ?_
      exact W.iret (v := 0) hx hb hr (fun t ht hW => ⟨0, rfl, (by decide), ht⟩) (fun _ h9 => by cases h9) dX10_count_62
    · skip
      refine lv_tableIn (off := 60) (tgt := 63) hx hb dX10_count_3 (by decide) (by decide) (by decide +kernel) (by decide) ?_
      refine lv_aload_n hx hb dX10_count_63 rfl (lv_at hl 1 rfl) ?_
      refine va_get (D := D) (ci := 10) (v := .ref (u 1)) (C := RX10) (T := TX10) (N := 38) hx hb hT in_X10 hown hK hP 0 rfl rfl 1 (by decide) (hT _ t1263) (fun _ h9 => h9) rfl dX10_count_64 ?_
      refine lv_iconst (v := 2) hx hb dX10_count_67 (by decide) ?_
      refine va_iald hx hb hK hP 1 0 rfl rfl (by unfold vp_in; decide) dX10_count_68 ?_
      refine k_top (y := 0) rfl ?_
      exact W.iret (v := 0) hx hb hr (fun t ht hW => ⟨0, rfl, (by decide), ht⟩) (fun _ h9 => by cases h9) dX10_count_69
    · skip
      refine lv_tableIn (off := 67) (tgt := 70) hx hb dX10_count_3 (by decide) (by decide) (by decide +kernel) (by decide) ?_
      refine lv_aload_n hx hb dX10_count_70 rfl (lv_at hl 1 rfl) ?_
      refine va_get (D := D) (ci := 10) (v := .ref (u 1)) (C := RX10) (T := TX10) (N := 38) hx hb hT in_X10 hown hK hP 0 rfl rfl 1 (by decide) (hT _ t1263) (fun _ h9 => h9) rfl dX10_count_71 ?_
      refine lv_iconst (v := 3) hx hb dX10_count_74 (by decide) ?_
      refine va_iald hx hb hK hP 1 0 rfl rfl (by unfold vp_in; decide) dX10_count_75 ?_
      refine k_top (y := 0) rfl ?_
      exact W.iret (v := 0) hx hb hr (fun t ht hW => ⟨0, rfl, (by decide), ht⟩) (fun _ h9 => by cases h9) dX10_count_76
    · skip
      refine lv_tableIn (off := 74) (tgt := 77) hx hb dX10_count_3 (by decide) (by decide) (by decide +kernel) (by decide) ?_
      refine lv_aload_n hx hb dX10_count_77 rfl (lv_at hl 1 rfl) ?_
      refine va_get (D := D) (ci := 10) (v := .ref (u 1)) (C := RX10) (T := TX10) (N := 38) hx hb hT in_X10 hown hK hP 0 rfl rfl 1 (by decide) (hT _ t1263) (fun _ h9 => h9) rfl dX10_count_78 ?_
      refine lv_iconst (v := 4) hx hb dX10_count_81 (by decide) ?_
      refine va_iald hx hb hK hP 1 0 rfl rfl (by unfold vp_in; decide) dX10_count_82 ?_
      refine k_top (y := 0) rfl ?_
      exact W.iret (v := 0) hx hb hr (fun t ht hW => ⟨0, rfl, (by decide), ht⟩) (fun _ h9 => by cases h9) dX10_count_83
    · skip
      refine lv_tableIn (off := 81) (tgt := 84) hx hb dX10_count_3 (by decide) (by decide) (by decide +kernel) (by decide) ?_
      refine lv_aload_n hx hb dX10_count_84 rfl (lv_at hl 1 rfl) ?_
      refine va_get (D := D) (ci := 10) (v := .ref (u 1)) (C := RX10) (T := TX10) (N := 38) hx hb hT in_X10 hown hK hP 0 rfl rfl 1 (by decide) (hT _ t1263) (fun _ h9 => h9) rfl dX10_count_85 ?_
      refine lv_iconst (v := 5) hx hb dX10_count_88 (by decide) ?_
      refine va_iald hx hb hK hP 1 0 rfl rfl (by unfold vp_in; decide) dX10_count_89 ?_
      refine k_top (y := 0) rfl ?_
      exact W.iret (v := 0) hx hb hr (fun t ht hW => ⟨0, rfl, (by decide), ht⟩) (fun _ h9 => by cases h9) dX10_count_90
    · skip
      refine lv_tableIn (off := 88) (tgt := 91) hx hb dX10_count_3 (by decide) (by decide) (by decide +kernel) (by decide) ?_
      refine lv_aload_n hx hb dX10_count_91 rfl (lv_at hl 1 rfl) ?_
      refine va_get (D := D) (ci := 10) (v := .ref (u 1)) (C := RX10) (T := TX10) (N := 38) hx hb hT in_X10 hown hK hP 0 rfl rfl 1 (by decide) (hT _ t1263) (fun _ h9 => h9) rfl dX10_count_92 ?_
      refine lv_iconst (v := 1) hx hb dX10_count_95 (by decide) ?_
      refine va_iald hx hb hK hP 1 0 rfl rfl (by unfold vp_in; decide) dX10_count_96 ?_
      refine k_top (y := 0) rfl ?_
      exact W.iret (v := 0) hx hb hr (fun t ht hW => ⟨0, rfl, (by decide), ht⟩) (fun _ h9 => by cases h9) dX10_count_97
    · skip
      refine lv_tableIn (off := 95) (tgt := 98) hx hb dX10_count_3 (by decide) (by decide) (by decide +kernel) (by decide) ?_
      refine lv_aload_n hx hb dX10_count_98 rfl (lv_at hl 1 rfl) ?_
      refine va_get (D := D) (ci := 10) (v := .ref (u 1)) (C := RX10) (T := TX10) (N := 38) hx hb hT in_X10 hown hK hP 0 rfl rfl 1 (by decide) (hT _ t1263) (fun _ h9 => h9) rfl dX10_count_99 ?_
      refine lv_bipush (v := 6) hx hb dX10_count_102 (by decide) ?_
      refine va_iald hx hb hK hP 1 0 rfl rfl (by unfold vp_in; decide) dX10_count_104 ?_
      refine k_top (y := 0) rfl ?_
      exact W.iret (v := 0) hx hb hr (fun t ht hW => ⟨0, rfl, (by decide), ht⟩) (fun _ h9 => by cases h9) dX10_count_105
    · skip
      refine lv_tableIn (off := 103) (tgt := 106) hx hb dX10_count_3 (by decide) (by decide) (by decide +kernel) (by decide) ?_
      refine lv_aload_n hx hb dX10_count_106 rfl (lv_at hl 1 rfl) ?_
      refine va_get (D := D) (ci := 10) (v := .int 0) (C := RX10) (T := TX10) (N := 38) hx hb hT in_X10 hown hK hP 0 rfl rfl 5 (by decide) (hT _ t1267) (fun _ h9 => h9) rfl dX10_count_107 ?_
      exact W.iret (v := 0) hx hb hr (fun t ht hW => ⟨0, rfl, (by decide), ht⟩) (fun _ h9 => by cases h9) dX10_count_110
    · skip
      refine lv_tableIn (off := 108) (tgt := 111) hx hb dX10_count_3 (by decide) (by decide) (by decide +kernel) (by decide) ?_
      refine lv_aload_n hx hb dX10_count_111 rfl (lv_at hl 1 rfl) ?_
      refine va_get (D := D) (ci := 10) (v := .ref (u 1)) (C := RX10) (T := TX10) (N := 38) hx hb hT in_X10 hown hK hP 0 rfl rfl 1 (by decide) (hT _ t1263) (fun _ h9 => h9) rfl dX10_count_112 ?_
      refine lv_bipush (v := 7) hx hb dX10_count_115 (by decide) ?_
      refine va_iald hx hb hK hP 1 0 rfl rfl (by unfold vp_in; decide) dX10_count_117 ?_
      refine k_top (y := 0) rfl ?_
      exact W.iret (v := 0) hx hb hr (fun t ht hW => ⟨0, rfl, (by decide), ht⟩) (fun _ h9 => by cases h9) dX10_count_118
    · skip
      refine lv_tableIn (off := 116) (tgt := 119) hx hb dX10_count_3 (by decide) (by decide) (by decide +kernel) (by decide) ?_
      refine lv_iconst (v := 0) hx hb dX10_count_119 (by decide) ?_
      refine lv_istore_n (lv' := [(3, .int 0), (2, .int 0), (0, .ref (u 0)), (1, .int 9)]) hx hb dX10_count_120 rfl hl (by decide) rfl (fun ls hl => ?_)
      refine lv_iload_n hx hb dX10_count_121 rfl (lv_at hl 0 rfl) ?_
      refine lv_iconst (v := 4) hx hb dX10_count_122 (by decide) ?_
      refine lv_icmp_ge (tgt := 150) hx hb dX10_count_123 (by decide) (fun c_3 => ?_) (fun c_3 => ?_)
      · first | exact absurd c_3 (by decide) | exact absurd (by decide) c_3
      refine lv_iload_n hx hb dX10_count_126 rfl (lv_at hl 1 rfl) ?_
      refine lv_aload_n hx hb dX10_count_127 rfl (lv_at hl 2 rfl) ?_
      refine va_get (D := D) (ci := 10) (v := .ref (u 18)) (C := RX10) (T := TX10) (N := 38) hx hb hT in_X10 hown hK hP 0 rfl rfl 34 (by decide) (hT _ t1296) (fun _ h9 => h9) rfl dX10_count_128 ?_
      refine lv_iload_n hx hb dX10_count_131 rfl (lv_at hl 0 rfl) ?_
      refine va_iald hx hb hK hP 3 0 rfl rfl (by unfold vp_in; decide) dX10_count_132 ?_
      refine k_top (y := (-1)) (hF.2.2 _ (vp_in_lt (by unfold vp_in; decide))) ?_
      refine lv_iconst (v := (-1)) hx hb dX10_count_133 (by decide) ?_
      refine lv_icmp_ne (tgt := 141) hx hb dX10_count_134 (by decide) (fun c_4 => ?_) (fun c_4 => ?_)
      · first | exact absurd c_4 (by decide) | exact absurd (by decide) c_4
      refine lv_iconst (v := 0) hx hb dX10_count_137 (by decide) ?_
      refine lv_goto (tgt := 142) hx hb dX10_count_138 (by decide) ?_
      refine lv_iadd hx hb dX10_count_142 ?_
      refine k_top (y := 0) (by decide) ?_
      refine lv_istore_n (lv' := [(2, .int 0), (3, .int 0), (0, .ref (u 0)), (1, .int 9)]) hx hb dX10_count_143 rfl hl (by decide) rfl (fun ls hl => ?_)
      refine lv_iinc (v := 1) (lv' := [(3, .int 1), (2, .int 0), (0, .ref (u 0)), (1, .int 9)]) hx hb dX10_count_144 hl (k := 1) rfl (by decide) (by decide) rfl (fun ls hl => ?_)
      refine lv_goto (tgt := 121) hx hb dX10_count_147 (by decide) ?_
      refine lv_iload_n hx hb dX10_count_121 rfl (lv_at hl 0 rfl) ?_
      refine lv_iconst (v := 4) hx hb dX10_count_122 (by decide) ?_
      refine lv_icmp_ge (tgt := 150) hx hb dX10_count_123 (by decide) (fun c_5 => ?_) (fun c_5 => ?_)
      · first | exact absurd c_5 (by decide) | exact absurd (by decide) c_5
      refine lv_iload_n hx hb dX10_count_126 rfl (lv_at hl 1 rfl) ?_
      refine lv_aload_n hx hb dX10_count_127 rfl (lv_at hl 2 rfl) ?_
      refine va_get (D := D) (ci := 10) (v := .ref (u 18)) (C := RX10) (T := TX10) (N := 38) hx hb hT in_X10 hown hK hP 0 rfl rfl 34 (by decide) (hT _ t1296) (fun _ h9 => h9) rfl dX10_count_128 ?_
      refine lv_iload_n hx hb dX10_count_131 rfl (lv_at hl 0 rfl) ?_
      refine va_iald hx hb hK hP 3 0 rfl rfl (by unfold vp_in; decide) dX10_count_132 ?_
      refine k_top (y := (-1)) (hF.2.2 _ (vp_in_lt (by unfold vp_in; decide))) ?_
      refine lv_iconst (v := (-1)) hx hb dX10_count_133 (by decide) ?_
      refine lv_icmp_ne (tgt := 141) hx hb dX10_count_134 (by decide) (fun c_6 => ?_) (fun c_6 => ?_)
      · first | exact absurd c_6 (by decide) | exact absurd (by decide) c_6
      refine lv_iconst (v := 0) hx hb dX10_count_137 (by decide) ?_
      refine lv_goto (tgt := 142) hx hb dX10_count_138 (by decide) ?_
      refine lv_iadd hx hb dX10_count_142 ?_
      refine k_top (y := 0) (by decide) ?_
      refine lv_istore_n (lv' := [(2, .int 0), (3, .int 1), (0, .ref (u 0)), (1, .int 9)]) hx hb dX10_count_143 rfl hl (by decide) rfl (fun ls hl => ?_)
      refine lv_iinc (v := 2) (lv' := [(3, .int 2), (2, .int 0), (0, .ref (u 0)), (1, .int 9)]) hx hb dX10_count_144 hl (k := 1) rfl (by decide) (by decide) rfl (fun ls hl => ?_)
      refine lv_goto (tgt := 121) hx hb dX10_count_147 (by decide) ?_
      refine lv_iload_n hx hb dX10_count_121 rfl (lv_at hl 0 rfl) ?_
      refine lv_iconst (v := 4) hx hb dX10_count_122 (by decide) ?_
      refine lv_icmp_ge (tgt := 150) hx hb dX10_count_123 (by decide) (fun c_7 => ?_) (fun c_7 => ?_)
      · first | exact absurd c_7 (by decide) | exact absurd (by decide) c_7
      refine lv_iload_n hx hb dX10_count_126 rfl (lv_at hl 1 rfl) ?_
      refine lv_aload_n hx hb dX10_count_127 rfl (lv_at hl 2 rfl) ?_
      refine va_get (D := D) (ci := 10) (v := .ref (u 18)) (C := RX10) (T := TX10) (N := 38) hx hb hT in_X10 hown hK hP 0 rfl rfl 34 (by decide) (hT _ t1296) (fun _ h9 => h9) rfl dX10_count_128 ?_
      refine lv_iload_n hx hb dX10_count_131 rfl (lv_at hl 0 rfl) ?_
      refine va_iald hx hb hK hP 3 0 rfl rfl (by unfold vp_in; decide) dX10_count_132 ?_
      refine k_top (y := (-1)) (hF.2.2 _ (vp_in_lt (by unfold vp_in; decide))) ?_
      refine lv_iconst (v := (-1)) hx hb dX10_count_133 (by decide) ?_
      refine lv_icmp_ne (tgt := 141) hx hb dX10_count_134 (by decide) (fun c_8 => ?_) (fun c_8 => ?_)
      · first | exact absurd c_8 (by decide) | exact absurd (by decide) c_8
      refine lv_iconst (v := 0) hx hb dX10_count_137 (by decide) ?_
      refine lv_goto (tgt := 142) hx hb dX10_count_138 (by decide) ?_
      refine lv_iadd hx hb dX10_count_142 ?_
      refine k_top (y := 0) (by decide) ?_
      refine lv_istore_n (lv' := [(2, .int 0), (3, .int 2), (0, .ref (u 0)), (1, .int 9)]) hx hb dX10_count_143 rfl hl (by decide) rfl (fun ls hl => ?_)
      refine lv_iinc (v := 3) (lv' := [(3, .int 3), (2, .int 0), (0, .ref (u 0)), (1, .int 9)]) hx hb dX10_count_144 hl (k := 1) rfl (by decide) (by decide) rfl (fun ls hl => ?_)
      refine lv_goto (tgt := 121) hx hb dX10_count_147 (by decide) ?_
      refine lv_iload_n hx hb dX10_count_121 rfl (lv_at hl 0 rfl) ?_
      refine lv_iconst (v := 4) hx hb dX10_count_122 (by decide) ?_
      refine lv_icmp_ge (tgt := 150) hx hb dX10_count_123 (by decide) (fun c_9 => ?_) (fun c_9 => ?_)
      · first | exact absurd c_9 (by decide) | exact absurd (by decide) c_9
      refine lv_iload_n hx hb dX10_count_126 rfl (lv_at hl 1 rfl) ?_
      refine lv_aload_n hx hb dX10_count_127 rfl (lv_at hl 2 rfl) ?_
      refine va_get (D := D) (ci := 10) (v := .ref (u 18)) (C := RX10) (T := TX10) (N := 38) hx hb hT in_X10 hown hK hP 0 rfl rfl 34 (by decide) (hT _ t1296) (fun _ h9 => h9) rfl dX10_count_128 ?_
      refine lv_iload_n hx hb dX10_count_131 rfl (lv_at hl 0 rfl) ?_
      refine va_iald hx hb hK hP 3 0 rfl rfl (by unfold vp_in; decide) dX10_count_132 ?_
      refine k_top (y := (-1)) (hF.2.2 _ (vp_in_lt (by unfold vp_in; decide))) ?_
      refine lv_iconst (v := (-1)) hx hb dX10_count_133 (by decide) ?_
      refine lv_icmp_ne (tgt := 141) hx hb dX10_count_134 (by decide) (fun c_10 => ?_) (fun c_10 => ?_)
      · first | exact absurd c_10 (by decide) | exact absurd (by decide) c_10
      refine lv_iconst (v := 0) hx hb dX10_count_137 (by decide) ?_
      refine lv_goto (tgt := 142) hx hb dX10_count_138 (by decide) ?_
      refine lv_iadd hx hb dX10_count_142 ?_
      refine k_top (y := 0) (by decide) ?_
      refine lv_istore_n (lv' := [(2, .int 0), (3, .int 3), (0, .ref (u 0)), (1, .int 9)]) hx hb dX10_count_143 rfl hl (by decide) rfl (fun ls hl => ?_)
      refine lv_iinc (v := 4) (lv' := [(3, .int 4), (2, .int 0), (0, .ref (u 0)), (1, .int 9)]) hx hb dX10_count_144 hl (k := 1) rfl (by decide) (by decide) rfl (fun ls hl => ?_)
      refine lv_goto (tgt := 121) hx hb dX10_count_147 (by decide) ?_
      refine lv_iload_n hx hb dX10_count_121 rfl (lv_at hl 0 rfl) ?_
      refine lv_iconst (v := 4) hx hb dX10_count_122 (by decide) ?_
      refine lv_icmp_ge (tgt := 150) hx hb dX10_count_123 (by decide) (fun c_11 => ?_) (fun c_11 => ?_)
      rotate_left
      · first | exact absurd c_11 (by decide) | exact absurd (by decide) c_11
      refine lv_iload_n hx hb dX10_count_150 rfl (lv_at hl 1 rfl) ?_
      exact W.iret (v := 0) hx hb hr (fun t ht hW => ⟨0, rfl, (by decide), ht⟩) (fun _ h9 => by cases h9) dX10_count_151
set_option maxHeartbeats 4000000 in
set_option maxRecDepth 100000 in
theorem c_X10_back (l : Launch) (D : va_G) (k : Nat → ClassId) (u : Nat → Nat) (mf : Nat → Int32) (p0 : Int32)  : Met l yX10_back (.code yX10_back cX10_back 3 (some .int) :: TB) (rmk 2) (va_Pc [.ref (u 0), .int p0] (fun U => MWH D k u mf U U.heap)) (vp_Si (fun r => r = a_back p0)) 0 0 (fun _ => False) := by
  refine Met.ofW (cc := cX10_back) (maxL := 3) (ret := (some .int)) (by decide) rfl ?_
  intro p e s m args below meth c s₁ B hml hv
  obtain ⟨rfl, hF⟩ := hv
  have hx := B.exec
  have hb := B.bytes
  have hr := B.returns
  have hT : ∀ w ∈ TB, w.before ([.ref (u 0), .int p0] : List Value).toArray s = true := fun w h => atoms_spec (ws := .code yX10_back cX10_back 3 (some .int) :: TB) B.pre w (List.mem_cons_of_mem _ h)
  have hown : s.vm.findClass RX10 = some m.cls := findClass_of_methodNamed B.named
  have S : CallFix p m c cX10_back 3 s _ TB RX10 := ⟨hx, hb, hml, hown, hT⟩
  have hP : va_P D vwCl [(u 0, .inr (10, [.int 0, .ref (u 1), .ref (u 2), .ref (u 3), .ref (u 4), .int 0, .ref (u 5), .int 0, .int 0, .int 0, .int 0, .int 0, .int 0, .int (-1), .ref (u 6), .ref (u 7), .ref (u 8), .ref (u 9), .ref (u 10), .ref (u 11), .int 0, .int 0, .int 0, .ref (u 12), .ref (u 13), .ref (u 14), .int 0, .int 0, .ref (u 15), .int 0, .ref (u 16), .int 0, .ref (u 17), .int 0, .ref (u 18), .ref (u 19), .ref (u 20), .ref (u 21)])), (u 1, .inl (k 0, 168, .inl (fun _ => 0))), (u 3, .inl (k 3, 3, .inl (fun _ => 0))), (u 18, .inl (k 0, 4, .inl mf))] s.heap := hF.1
  have hK := hF.2.1
  have hl := lv_entry ([.ref (u 0), .int p0]) (n := 3) (Nat.le_of_ble_eq_true rfl)
  rw [lg_entry_eq]
  generalize (lg_sl ([.ref (u 0), .int p0]) ++ List.replicate (3 - (lg_sl ([.ref (u 0), .int p0])).length) Slot.unset).toArray = ls at hl ⊢
  have hl : lv_has ls 3 [(0, .ref (u 0)), (1, .int p0)] := hl
  refine lv_iload_n hx hb dX10_back_0 rfl (lv_at hl 1 rfl) ?_
  refine lv_i2l (v := p0.toInt64) hx hb dX10_back_1 rfl ?_
  refine lv_lconst (v := 0) hx hb dX10_back_2 (by decide) ?_
  refine lv_ldc2 (v := 2) hx hb hown (hT _ t1381) dX10_back_3 ?_
  refine ro_S (As := [.long p0.toInt64, .long 0, .long 2]) (rest := []) S (c_X10_in l D k u mf p0.toInt64 0 2) lkX10_85 ok_X10_in ⟨rfl, rfl, Nat.le_of_ble_eq_true rfl, Nat.le_of_ble_eq_true rfl⟩ (mw_S hF) rfl hl.1 rfl (Nat.le_of_ble_eq_true rfl) ⟨Nat.zero_le _, Nat.zero_le _⟩ dX10_back_6 (fun r_1 er_1 => ?_)
  rcases er_1 with ⟨er_1, gr_1⟩ | ⟨er_1, gr_1⟩
  · subst er_1
    refine lv_if_ne (tgt := 15) hx hb dX10_back_9 (by decide) (fun c_2 => ?_) (fun c_2 => ?_)
    rotate_left
    · first | exact absurd c_2 (by decide) | exact absurd (by decide) c_2
    refine lv_aload_n hx hb dX10_back_15 rfl (lv_at hl 0 rfl) ?_
    refine va_get (D := D) (ci := 10) (v := .ref (u 3)) (C := RX10) (T := TX10) (N := 38) hx hb hT in_X10 hown hK hP 0 rfl rfl 3 (by decide) (hT _ t1265) (fun _ h9 => h9) rfl dX10_back_16 ?_
    refine lv_iload_n hx hb dX10_back_19 rfl (lv_at hl 1 rfl) ?_
    refine va_zald hx hb hK hP 2 3 rfl rfl (i32_in 3 rfl (in3_of gr_1).1 (in3_of gr_1).2) dX10_back_20 ?_
    refine k_top (y := 0) rfl ?_
    refine lv_if_ne (tgt := 27) hx hb dX10_back_21 (by decide) (fun c_3 => ?_) (fun c_3 => ?_)
    · first | exact absurd c_3 (by decide) | exact absurd (by decide) c_3
    refine lv_bipush (v := (-6)) hx hb dX10_back_24 (by decide) ?_
    exact W.iret (v := (-6)) hx hb hr (fun t ht hW => ⟨(-6), rfl, (by rw [a_back, if_neg (fun z => z.elim (in3_of gr_1).1 (Int32.not_le.mpr (in3_of gr_1).2))]), ht⟩) (fun _ h9 => by cases h9) dX10_back_26
  · subst er_1
    refine lv_if_ne (tgt := 15) hx hb dX10_back_9 (by decide) (fun c_4 => ?_) (fun c_4 => ?_)
    · first | exact absurd c_4 (by decide) | exact absurd (by decide) c_4
    refine lv_bipush (v := (-2)) hx hb dX10_back_12 (by decide) ?_
    exact W.iret (v := (-2)) hx hb hr (fun t ht hW => ⟨(-2), rfl, (by rw [a_back, if_pos (out3_of gr_1)]), ht⟩) (fun _ h9 => by cases h9) dX10_back_14
set_option maxHeartbeats 4000000 in
set_option maxRecDepth 100000 in
theorem c_X10_write (l : Launch) (D : va_G) (k : Nat → ClassId) (u : Nat → Nat) (mf : Nat → Int32) (p0 : Int32) (p1 : Int32) (p2 : Int64)  : Met l yX10_write (.code yX10_write cX10_write 5 (some .int) :: TB) (rmk 3) (va_Pc [.ref (u 0), .int p0, .int p1, .long p2] (fun U => MWH D k u mf U U.heap)) (vp_Si (fun r => r = a_slot p0)) 0 0 (fun _ => False) := by
  refine Met.ofW (cc := cX10_write) (maxL := 5) (ret := (some .int)) (by decide) rfl ?_
  intro p e s m args below meth c s₁ B hml hv
  obtain ⟨rfl, hF⟩ := hv
  have hx := B.exec
  have hb := B.bytes
  have hr := B.returns
  have hT : ∀ w ∈ TB, w.before ([.ref (u 0), .int p0, .int p1, .long p2] : List Value).toArray s = true := fun w h => atoms_spec (ws := .code yX10_write cX10_write 5 (some .int) :: TB) B.pre w (List.mem_cons_of_mem _ h)
  have hown : s.vm.findClass RX10 = some m.cls := findClass_of_methodNamed B.named
  have S : CallFix p m c cX10_write 5 s _ TB RX10 := ⟨hx, hb, hml, hown, hT⟩
  have hP : va_P D vwCl [(u 0, .inr (10, [.int 0, .ref (u 1), .ref (u 2), .ref (u 3), .ref (u 4), .int 0, .ref (u 5), .int 0, .int 0, .int 0, .int 0, .int 0, .int 0, .int (-1), .ref (u 6), .ref (u 7), .ref (u 8), .ref (u 9), .ref (u 10), .ref (u 11), .int 0, .int 0, .int 0, .ref (u 12), .ref (u 13), .ref (u 14), .int 0, .int 0, .ref (u 15), .int 0, .ref (u 16), .int 0, .ref (u 17), .int 0, .ref (u 18), .ref (u 19), .ref (u 20), .ref (u 21)])), (u 1, .inl (k 0, 168, .inl (fun _ => 0))), (u 3, .inl (k 3, 3, .inl (fun _ => 0))), (u 18, .inl (k 0, 4, .inl mf))] s.heap := hF.1
  have hK := hF.2.1
  have hl := lv_entry ([.ref (u 0), .int p0, .int p1, .long p2]) (n := 5) (Nat.le_of_ble_eq_true rfl)
  rw [lg_entry_eq]
  generalize (lg_sl ([.ref (u 0), .int p0, .int p1, .long p2]) ++ List.replicate (5 - (lg_sl ([.ref (u 0), .int p0, .int p1, .long p2])).length) Slot.unset).toArray = ls at hl ⊢
  have hl : lv_has ls 5 [(0, .ref (u 0)), (1, .int p0), (2, .int p1), (3, .long p2)] := hl
  refine lv_iload_n hx hb dX10_write_0 rfl (lv_at hl 1 rfl) ?_
  refine ro_S (As := [.int p0]) (rest := []) S (c_X10_isSlot l D k u mf p0) lkX10_300 ok_X10_isSlot ⟨rfl, rfl, Nat.le_of_ble_eq_true rfl, Nat.le_of_ble_eq_true rfl⟩ (mw_S hF) rfl hl.1 rfl (Nat.le_of_ble_eq_true rfl) ⟨Nat.zero_le _, Nat.zero_le _⟩ dX10_write_1 (fun r_1 er_1 => ?_)
  rcases er_1 with ⟨er_1, gr_1⟩ | ⟨er_1, gr_1⟩
  · subst er_1
    refine lv_if_ne (tgt := 10) hx hb dX10_write_4 (by decide) (fun c_2 => ?_) (fun c_2 => ?_)
    rotate_left
    · first | exact absurd c_2 (by decide) | exact absurd (by decide) c_2
    refine lv_aload_n hx hb dX10_write_10 rfl (lv_at hl 0 rfl) ?_
    refine va_get (D := D) (ci := 10) (v := .ref (u 18)) (C := RX10) (T := TX10) (N := 38) hx hb hT in_X10 hown hK hP 0 rfl rfl 34 (by decide) (hT _ t1296) (fun _ h9 => h9) rfl dX10_write_11 ?_
    refine lv_iload_n hx hb dX10_write_14 rfl (lv_at hl 1 rfl) ?_
    refine va_iald hx hb hK hP 3 0 rfl rfl (in4_vp gr_1) dX10_write_15 ?_
    refine k_top (y := (-1)) (hF.2.2 _ (vp_in_lt (in4_vp gr_1))) ?_
    refine lv_iconst (v := (-1)) hx hb dX10_write_16 (by decide) ?_
    refine lv_icmp_ne (tgt := 23) hx hb dX10_write_17 (by decide) (fun c_3 => ?_) (fun c_3 => ?_)
    · first | exact absurd c_3 (by decide) | exact absurd (by decide) c_3
    refine lv_bipush (v := (-6)) hx hb dX10_write_20 (by decide) ?_
    exact W.iret (v := (-6)) hx hb hr (fun t ht hW => ⟨(-6), rfl, (by rw [a_slot, if_neg (fun z => z.elim gr_1.1 (Int32.not_le.mpr gr_1.2))]), ht⟩) (fun _ h9 => by cases h9) dX10_write_22
  · subst er_1
    refine lv_if_ne (tgt := 10) hx hb dX10_write_4 (by decide) (fun c_4 => ?_) (fun c_4 => ?_)
    · first | exact absurd c_4 (by decide) | exact absurd (by decide) c_4
    refine lv_bipush (v := (-2)) hx hb dX10_write_7 (by decide) ?_
    exact W.iret (v := (-2)) hx hb hr (fun t ht hW => ⟨(-2), rfl, (by rw [a_slot, if_pos gr_1]), ht⟩) (fun _ h9 => by cases h9) dX10_write_9
set_option maxHeartbeats 4000000 in
set_option maxRecDepth 100000 in
theorem c_X10_paste (l : Launch) (D : va_G) (k : Nat → ClassId) (u : Nat → Nat) (mf : Nat → Int32) (p0 : Int32) (p1 : Int32) (p2 : Int32) (p3 : Int32) (p4 : Int32)  : Met l yX10_paste (.code yX10_paste cX10_paste 7 (some .int) :: TB) (rmk 3) (va_Pc [.ref (u 0), .int p0, .int p1, .int p2, .int p3, .int p4] (fun U => MWH D k u mf U U.heap)) (vp_Si (fun r => r = a_two p0 p2)) 0 0 (fun _ => False) := by
  refine Met.ofW (cc := cX10_paste) (maxL := 7) (ret := (some .int)) (by decide) rfl ?_
  intro p e s m args below meth c s₁ B hml hv
  obtain ⟨rfl, hF⟩ := hv
  have hx := B.exec
  have hb := B.bytes
  have hr := B.returns
  have hT : ∀ w ∈ TB, w.before ([.ref (u 0), .int p0, .int p1, .int p2, .int p3, .int p4] : List Value).toArray s = true := fun w h => atoms_spec (ws := .code yX10_paste cX10_paste 7 (some .int) :: TB) B.pre w (List.mem_cons_of_mem _ h)
  have hown : s.vm.findClass RX10 = some m.cls := findClass_of_methodNamed B.named
  have S : CallFix p m c cX10_paste 7 s _ TB RX10 := ⟨hx, hb, hml, hown, hT⟩
  have hP : va_P D vwCl [(u 0, .inr (10, [.int 0, .ref (u 1), .ref (u 2), .ref (u 3), .ref (u 4), .int 0, .ref (u 5), .int 0, .int 0, .int 0, .int 0, .int 0, .int 0, .int (-1), .ref (u 6), .ref (u 7), .ref (u 8), .ref (u 9), .ref (u 10), .ref (u 11), .int 0, .int 0, .int 0, .ref (u 12), .ref (u 13), .ref (u 14), .int 0, .int 0, .ref (u 15), .int 0, .ref (u 16), .int 0, .ref (u 17), .int 0, .ref (u 18), .ref (u 19), .ref (u 20), .ref (u 21)])), (u 1, .inl (k 0, 168, .inl (fun _ => 0))), (u 3, .inl (k 3, 3, .inl (fun _ => 0))), (u 18, .inl (k 0, 4, .inl mf))] s.heap := hF.1
  have hK := hF.2.1
  have hl := lv_entry ([.ref (u 0), .int p0, .int p1, .int p2, .int p3, .int p4]) (n := 7) (Nat.le_of_ble_eq_true rfl)
  rw [lg_entry_eq]
  generalize (lg_sl ([.ref (u 0), .int p0, .int p1, .int p2, .int p3, .int p4]) ++ List.replicate (7 - (lg_sl ([.ref (u 0), .int p0, .int p1, .int p2, .int p3, .int p4])).length) Slot.unset).toArray = ls at hl ⊢
  have hl : lv_has ls 7 [(0, .ref (u 0)), (1, .int p0), (2, .int p1), (3, .int p2), (4, .int p3), (5, .int p4)] := hl
  refine lv_iload_n hx hb dX10_paste_0 rfl (lv_at hl 1 rfl) ?_
  refine ro_S (As := [.int p0]) (rest := []) S (c_X10_isSlot l D k u mf p0) lkX10_300 ok_X10_isSlot ⟨rfl, rfl, Nat.le_of_ble_eq_true rfl, Nat.le_of_ble_eq_true rfl⟩ (mw_S hF) rfl hl.1 rfl (Nat.le_of_ble_eq_true rfl) ⟨Nat.zero_le _, Nat.zero_le _⟩ dX10_paste_1 (fun r_1 er_1 => ?_)
  rcases er_1 with ⟨er_1, gr_1⟩ | ⟨er_1, gr_1⟩
  · subst er_1
    refine lv_if_eq (tgt := 14) hx hb dX10_paste_4 (by decide) (fun c_2 => ?_) (fun c_2 => ?_)
    · first | exact absurd c_2 (by decide) | exact absurd (by decide) c_2
    refine lv_iload_n hx hb dX10_paste_7 rfl (lv_at hl 3 rfl) ?_
    refine ro_S (As := [.int p2]) (rest := []) S (c_X10_isSlot l D k u mf p2) lkX10_300 ok_X10_isSlot ⟨rfl, rfl, Nat.le_of_ble_eq_true rfl, Nat.le_of_ble_eq_true rfl⟩ (mw_S hF) rfl hl.1 rfl (Nat.le_of_ble_eq_true rfl) ⟨Nat.zero_le _, Nat.zero_le _⟩ dX10_paste_8 (fun r_3 er_3 => ?_)
    rcases er_3 with ⟨er_3, gr_3⟩ | ⟨er_3, gr_3⟩
    · subst er_3
      refine lv_if_ne (tgt := 17) hx hb dX10_paste_11 (by decide) (fun c_4 => ?_) (fun c_4 => ?_)
      rotate_left
      · first | exact absurd c_4 (by decide) | exact absurd (by decide) c_4
      refine lv_aload_n hx hb dX10_paste_17 rfl (lv_at hl 0 rfl) ?_
      refine va_get (D := D) (ci := 10) (v := .ref (u 18)) (C := RX10) (T := TX10) (N := 38) hx hb hT in_X10 hown hK hP 0 rfl rfl 34 (by decide) (hT _ t1296) (fun _ h9 => h9) rfl dX10_paste_18 ?_
      refine lv_iload_n hx hb dX10_paste_21 rfl (lv_at hl 1 rfl) ?_
      refine va_iald hx hb hK hP 3 0 rfl rfl (in4_vp gr_1) dX10_paste_22 ?_
      refine k_top (y := (-1)) (hF.2.2 _ (vp_in_lt (in4_vp gr_1))) ?_
      refine lv_iconst (v := (-1)) hx hb dX10_paste_23 (by decide) ?_
      refine lv_icmp_eq (tgt := 37) hx hb dX10_paste_24 (by decide) (fun c_5 => ?_) (fun c_5 => ?_)
      rotate_left
      · first | exact absurd c_5 (by decide) | exact absurd (by decide) c_5
      refine lv_bipush (v := (-6)) hx hb dX10_paste_37 (by decide) ?_
      exact W.iret (v := (-6)) hx hb hr (fun t ht hW => ⟨(-6), rfl, (by rw [a_two, if_neg (fun z => z.elim (fun z => z.elim gr_1.1 (Int32.not_le.mpr gr_1.2)) (fun z => z.elim gr_3.1 (Int32.not_le.mpr gr_3.2)))]), ht⟩) (fun _ h9 => by cases h9) dX10_paste_39
    · subst er_3
      refine lv_if_ne (tgt := 17) hx hb dX10_paste_11 (by decide) (fun c_6 => ?_) (fun c_6 => ?_)
      · first | exact absurd c_6 (by decide) | exact absurd (by decide) c_6
      refine lv_bipush (v := (-2)) hx hb dX10_paste_14 (by decide) ?_
      exact W.iret (v := (-2)) hx hb hr (fun t ht hW => ⟨(-2), rfl, (by rw [a_two, if_pos (Or.inr gr_3)]), ht⟩) (fun _ h9 => by cases h9) dX10_paste_16
  · subst er_1
    refine lv_if_eq (tgt := 14) hx hb dX10_paste_4 (by decide) (fun c_7 => ?_) (fun c_7 => ?_)
    rotate_left
    · first | exact absurd c_7 (by decide) | exact absurd (by decide) c_7
    refine lv_bipush (v := (-2)) hx hb dX10_paste_14 (by decide) ?_
    exact W.iret (v := (-2)) hx hb hr (fun t ht hW => ⟨(-2), rfl, (by rw [a_two, if_pos (Or.inl gr_1)]), ht⟩) (fun _ h9 => by cases h9) dX10_paste_16
end
section
theorem t105 : Cond.initialized RX2 ∈ TB := tb 105 _ (by decide +kernel) rfl
theorem t106 : Cond.initialized RX6 ∈ TB := tb 106 _ (by decide +kernel) rfl
theorem t108 : Cond.initialized RX5 ∈ TB := tb 108 _ (by decide +kernel) rfl
theorem t109 : Cond.initialized RJ7 ∈ TB := tb 109 _ (by decide +kernel) rfl
theorem t110 : Cond.initialized RX8 ∈ TB := tb 110 _ (by decide +kernel) rfl
theorem t112 : Cond.initialized RX7 ∈ TB := tb 112 _ (by decide +kernel) rfl
theorem t113 : Cond.initialized RX3 ∈ TB := tb 113 _ (by decide +kernel) rfl
theorem t114 : Cond.initialized RX0 ∈ TB := tb 114 _ (by decide +kernel) rfl
theorem t128 : Cond.methodLink RX9 1 objectInit ∈ TB := tb 128 _ (by decide +kernel) rfl
theorem t129 : Cond.instanceMethod objectInit ∈ TB := tb 129 _ (by decide +kernel) rfl
theorem t130 : Cond.code objectInit ⟨#[0xb1]⟩ 1 none ∈ TB := tb 130 _ (by decide +kernel) rfl
theorem t131 : Cond.classLink RX9 7 RX2 ∈ TB := tb 131 _ (by decide +kernel) rfl
theorem t132 : Cond.instantiable RX2 8 ∈ TB := tb 132 _ (by decide +kernel) rfl
theorem t134 : Cond.instanceMethod yX2_init ∈ TB := tb 134 _ (by decide +kernel) rfl
theorem t135 : Cond.code yX2_init cX2_init 1 none ∈ TB := tb 135 _ (by decide +kernel) rfl
theorem t136 : Cond.methodLink RX2 3 objectInit ∈ TB := tb 136 _ (by decide +kernel) rfl
theorem t137 : Cond.classLink RX2 9 RX6 ∈ TB := tb 137 _ (by decide +kernel) rfl
theorem t138 : Cond.instantiable RX6 2 ∈ TB := tb 138 _ (by decide +kernel) rfl
theorem t140 : Cond.instanceMethod yX6_init ∈ TB := tb 140 _ (by decide +kernel) rfl
theorem t141 : Cond.code yX6_init cX6_init 1 none ∈ TB := tb 141 _ (by decide +kernel) rfl
theorem t142 : Cond.methodLink RX6 3 objectInit ∈ TB := tb 142 _ (by decide +kernel) rfl
theorem t143 : Cond.fieldLink RX6 11 "WheelMemory$Tape" "bytes" "[B" ∈ TB := tb 143 _ (by decide +kernel) rfl
theorem t151 : Cond.arrayClass .byte ∈ TB := tb 151 _ (by decide +kernel) rfl
theorem t152 : Cond.classLink RX2 18 RX1 ∈ TB := tb 152 _ (by decide +kernel) rfl
theorem t153 : Cond.instantiable RX1 14 ∈ TB := tb 153 _ (by decide +kernel) rfl
theorem t155 : Cond.instanceMethod yX1_init ∈ TB := tb 155 _ (by decide +kernel) rfl
theorem t156 : Cond.code yX1_init cX1_init 1 none ∈ TB := tb 156 _ (by decide +kernel) rfl
theorem t157 : Cond.methodLink RX1 3 objectInit ∈ TB := tb 157 _ (by decide +kernel) rfl
theorem t158 : Cond.classLink RX1 30 RX5 ∈ TB := tb 158 _ (by decide +kernel) rfl
theorem t159 : Cond.instantiable RX5 5 ∈ TB := tb 159 _ (by decide +kernel) rfl
theorem t160 : Cond.methodLink RX1 32 yX5_init ∈ TB := tb 160 _ (by decide +kernel) rfl
theorem t161 : Cond.instanceMethod yX5_init ∈ TB := tb 161 _ (by decide +kernel) rfl
theorem t162 : Cond.code yX5_init cX5_init 1 none ∈ TB := tb 162 _ (by decide +kernel) rfl
theorem t163 : Cond.methodLink RX5 3 objectInit ∈ TB := tb 163 _ (by decide +kernel) rfl
theorem t164 : Cond.methodLink RX5 27 yJ7_fill_53178 ∈ TB := tb 164 _ (by decide +kernel) rfl
theorem t165 : Cond.static yJ7_fill_53178 ∈ TB := tb 165 _ (by decide +kernel) rfl
theorem t166 : Cond.code yJ7_fill_53178 cJ7_fill_53178 4 none ∈ TB := tb 166 _ (by decide +kernel) rfl
theorem t167 : Cond.fieldLink RX5 9 "WheelMemory$State" "liked" "[I" ∈ TB := tb 167 _ (by decide +kernel) rfl
theorem t168 : Cond.fieldLink RX5 15 "WheelMemory$State" "rims" "[I" ∈ TB := tb 168 _ (by decide +kernel) rfl
theorem t172 : Cond.fieldLink RX5 18 "WheelMemory$State" "seats" "[I" ∈ TB := tb 172 _ (by decide +kernel) rfl
theorem t176 : Cond.fieldLink RX5 21 "WheelMemory$State" "stands" "[I" ∈ TB := tb 176 _ (by decide +kernel) rfl
theorem t181 : Cond.fieldLink RX5 24 "WheelMemory$State" "driven" "[I" ∈ TB := tb 181 _ (by decide +kernel) rfl
theorem t194 : Cond.arrayClass .int ∈ TB := tb 194 _ (by decide +kernel) rfl
theorem t222 : Cond.fieldLink RX1 9 "WheelMemory$Land" "roadFrom" "[I" ∈ TB := tb 222 _ (by decide +kernel) rfl
theorem t225 : Cond.fieldLink RX1 15 "WheelMemory$Land" "roadTo" "[I" ∈ TB := tb 225 _ (by decide +kernel) rfl
theorem t228 : Cond.fieldLink RX1 18 "WheelMemory$Land" "roadMiles" "[I" ∈ TB := tb 228 _ (by decide +kernel) rfl
theorem t233 : Cond.fieldLink RX1 21 "WheelMemory$Land" "errandCart" "[I" ∈ TB := tb 233 _ (by decide +kernel) rfl
theorem t235 : Cond.fieldLink RX1 24 "WheelMemory$Land" "errandPlace" "[I" ∈ TB := tb 235 _ (by decide +kernel) rfl
theorem t237 : Cond.fieldLink RX1 27 "WheelMemory$Land" "errandBy" "[I" ∈ TB := tb 237 _ (by decide +kernel) rfl
theorem t239 : Cond.fieldLink RX1 33 "WheelMemory$Land" "first" "LWheelMemory$State;" ∈ TB := tb 239 _ (by decide +kernel) rfl
theorem t272 : Cond.fieldLink RX2 12 "WheelMemory$Reader" "tape" "LWheelMemory$Tape;" ∈ TB := tb 272 _ (by decide +kernel) rfl
theorem t273 : Cond.fieldLink RX9 16 "WheelMemory$Reader" "tape" "LWheelMemory$Tape;" ∈ TB := tb 273 _ (by decide +kernel) rfl
theorem t274 : Cond.fieldLink RX2 21 "WheelMemory$Reader" "draft" "LWheelMemory$Land;" ∈ TB := tb 274 _ (by decide +kernel) rfl
theorem t278 : Cond.fieldLink RX2 25 "WheelMemory$Reader" "faultPlace" "I" ∈ TB := tb 278 _ (by decide +kernel) rfl
theorem t301 : Cond.classLink RX9 21 RX8 ∈ TB := tb 301 _ (by decide +kernel) rfl
theorem t302 : Cond.instantiable RX8 6 ∈ TB := tb 302 _ (by decide +kernel) rfl
theorem t304 : Cond.instanceMethod yX8_init ∈ TB := tb 304 _ (by decide +kernel) rfl
theorem t305 : Cond.code yX8_init cX8_init 1 none ∈ TB := tb 305 _ (by decide +kernel) rfl
theorem t306 : Cond.methodLink RX8 3 objectInit ∈ TB := tb 306 _ (by decide +kernel) rfl
theorem t307 : Cond.classLink RX8 9 RX1 ∈ TB := tb 307 _ (by decide +kernel) rfl
theorem t309 : Cond.classLink RX8 18 RX5 ∈ TB := tb 309 _ (by decide +kernel) rfl
theorem t310 : Cond.methodLink RX8 20 yX5_init ∈ TB := tb 310 _ (by decide +kernel) rfl
theorem t311 : Cond.fieldLink RX8 12 "WheelMemory$World" "told" "LWheelMemory$Land;" ∈ TB := tb 311 _ (by decide +kernel) rfl
theorem t313 : Cond.fieldLink RX8 21 "WheelMemory$World" "now" "LWheelMemory$State;" ∈ TB := tb 313 _ (by decide +kernel) rfl
theorem t317 : Cond.fieldLink RX8 25 "WheelMemory$World" "kinds" "[I" ∈ TB := tb 317 _ (by decide +kernel) rfl
theorem t318 : Cond.fieldLink RX8 29 "WheelMemory$World" "ones" "[I" ∈ TB := tb 318 _ (by decide +kernel) rfl
theorem t319 : Cond.fieldLink RX8 32 "WheelMemory$World" "others" "[I" ∈ TB := tb 319 _ (by decide +kernel) rfl
theorem t334 : Cond.classLink RX9 36 RX4 ∈ TB := tb 334 _ (by decide +kernel) rfl
theorem t335 : Cond.instantiable RX4 3 ∈ TB := tb 335 _ (by decide +kernel) rfl
theorem t336 : Cond.methodLink RX9 38 yX4_init ∈ TB := tb 336 _ (by decide +kernel) rfl
theorem t337 : Cond.instanceMethod yX4_init ∈ TB := tb 337 _ (by decide +kernel) rfl
theorem t338 : Cond.code yX4_init cX4_init 1 none ∈ TB := tb 338 _ (by decide +kernel) rfl
theorem t339 : Cond.methodLink RX4 3 objectInit ∈ TB := tb 339 _ (by decide +kernel) rfl
theorem t340 : Cond.classLink RX4 18 "[[J" ∈ TB := tb 340 _ (by decide +kernel) rfl
theorem t342 : Cond.methodLink RX4 23 yJ7_fill_53178 ∈ TB := tb 342 _ (by decide +kernel) rfl
theorem t345 : Cond.fieldLink RX4 15 "WheelMemory$Slots" "lengths" "[I" ∈ TB := tb 345 _ (by decide +kernel) rfl
theorem t347 : Cond.fieldLink RX4 20 "WheelMemory$Slots" "rows" "[[J" ∈ TB := tb 347 _ (by decide +kernel) rfl
theorem t356 : Cond.arrayClass .boolean ∈ TB := tb 356 _ (by decide +kernel) rfl
theorem t357 : Cond.arrayClass .long ∈ TB := tb 357 _ (by decide +kernel) rfl
theorem t358 : Cond.classLink RX9 43 RX5 ∈ TB := tb 358 _ (by decide +kernel) rfl
theorem t359 : Cond.methodLink RX9 45 yX5_init ∈ TB := tb 359 _ (by decide +kernel) rfl
theorem t360 : Cond.classLink RX9 50 RX7 ∈ TB := tb 360 _ (by decide +kernel) rfl
theorem t361 : Cond.instantiable RX7 6 ∈ TB := tb 361 _ (by decide +kernel) rfl
theorem t363 : Cond.instanceMethod yX7_init ∈ TB := tb 363 _ (by decide +kernel) rfl
theorem t364 : Cond.code yX7_init cX7_init 1 none ∈ TB := tb 364 _ (by decide +kernel) rfl
theorem t365 : Cond.methodLink RX7 3 objectInit ∈ TB := tb 365 _ (by decide +kernel) rfl
theorem t391 : Cond.classLink RX9 57 RX3 ∈ TB := tb 391 _ (by decide +kernel) rfl
theorem t392 : Cond.instantiable RX3 10 ∈ TB := tb 392 _ (by decide +kernel) rfl
theorem t393 : Cond.methodLink RX9 59 yX3_init ∈ TB := tb 393 _ (by decide +kernel) rfl
theorem t394 : Cond.instanceMethod yX3_init ∈ TB := tb 394 _ (by decide +kernel) rfl
theorem t395 : Cond.code yX3_init cX3_init 2 none ∈ TB := tb 395 _ (by decide +kernel) rfl
theorem t396 : Cond.methodLink RX3 3 objectInit ∈ TB := tb 396 _ (by decide +kernel) rfl
theorem t397 : Cond.classLink RX3 24 RX5 ∈ TB := tb 397 _ (by decide +kernel) rfl
theorem t399 : Cond.methodLink RX3 30 yX5_init ∈ TB := tb 399 _ (by decide +kernel) rfl
theorem t400 : Cond.fieldLink RX3 26 "WheelMemory$Search" "levels" "[LWheelMemory$State;" ∈ TB := tb 400 _ (by decide +kernel) rfl
theorem t401 : Cond.fieldLink RX3 9 "WheelMemory$Search" "milesLeft" "[I" ∈ TB := tb 401 _ (by decide +kernel) rfl
theorem t403 : Cond.fieldLink RX3 15 "WheelMemory$Search" "roadsLeft" "[I" ∈ TB := tb 403 _ (by decide +kernel) rfl
theorem t404 : Cond.fieldLink RX3 18 "WheelMemory$Search" "row" "[I" ∈ TB := tb 404 _ (by decide +kernel) rfl
theorem t405 : Cond.fieldLink RX3 21 "WheelMemory$Search" "bestRow" "[I" ∈ TB := tb 405 _ (by decide +kernel) rfl
theorem t435 : Cond.classLink RX9 64 RX0 ∈ TB := tb 435 _ (by decide +kernel) rfl
theorem t436 : Cond.instantiable RX0 3 ∈ TB := tb 436 _ (by decide +kernel) rfl
theorem t438 : Cond.instanceMethod yX0_init ∈ TB := tb 438 _ (by decide +kernel) rfl
theorem t439 : Cond.code yX0_init cX0_init 1 none ∈ TB := tb 439 _ (by decide +kernel) rfl
theorem t440 : Cond.methodLink RX0 3 objectInit ∈ TB := tb 440 _ (by decide +kernel) rfl
theorem t441 : Cond.fieldLink RX0 9 "WheelMemory$Game" "outcomes" "[I" ∈ TB := tb 441 _ (by decide +kernel) rfl
theorem t442 : Cond.fieldLink RX0 15 "WheelMemory$Game" "worths" "[I" ∈ TB := tb 442 _ (by decide +kernel) rfl
theorem t443 : Cond.fieldLink RX0 18 "WheelMemory$Game" "rims" "[I" ∈ TB := tb 443 _ (by decide +kernel) rfl
theorem t454 : Cond.fieldLink RX9 28 "WheelMemory" "images" "[LWheelMemory$World;" ∈ TB := tb 454 _ (by decide +kernel) rfl
theorem t457 : Cond.fieldLink RX9 46 "WheelMemory" "trial" "LWheelMemory$State;" ∈ TB := tb 457 _ (by decide +kernel) rfl
theorem t458 : Cond.fieldLink RX9 53 "WheelMemory" "trip" "LWheelMemory$Trip;" ∈ TB := tb 458 _ (by decide +kernel) rfl
theorem t459 : Cond.fieldLink RX9 60 "WheelMemory" "search" "LWheelMemory$Search;" ∈ TB := tb 459 _ (by decide +kernel) rfl
theorem t460 : Cond.fieldLink RX9 67 "WheelMemory" "game" "LWheelMemory$Game;" ∈ TB := tb 460 _ (by decide +kernel) rfl
theorem t461 : Cond.fieldLink RX9 71 "WheelMemory" "tally" "[I" ∈ TB := tb 461 _ (by decide +kernel) rfl
theorem ok_X9_init : okY yX9_init RX9 0 := by unfold okY; decide +kernel
theorem ok_X0_init : okY yX0_init RX0 0 := by unfold okY; decide +kernel
theorem ok_X1_init : okY yX1_init RX1 0 := by unfold okY; decide +kernel
theorem ok_X2_init : okY yX2_init RX2 0 := by unfold okY; decide +kernel
theorem ok_X3_init : okY yX3_init RX3 0 := by unfold okY; decide +kernel
theorem ok_X4_init : okY yX4_init RX4 0 := by unfold okY; decide +kernel
theorem ok_X5_init : okY yX5_init RX5 0 := by unfold okY; decide +kernel
theorem ok_X6_init : okY yX6_init RX6 0 := by unfold okY; decide +kernel
theorem ok_X7_init : okY yX7_init RX7 0 := by unfold okY; decide +kernel
theorem ok_X8_init : okY yX8_init RX8 0 := by unfold okY; decide +kernel
theorem ok_J7_fill_53178 : okY yJ7_fill_53178 RJ7 2 := by unfold okY; decide +kernel
theorem ok_J7_fill_d0a16 : okY yJ7_fill_d0a16 RJ7 2 := by unfold okY; decide +kernel
theorem dJ7_fill_53178_0 : decode cJ7_fill_53178 0 = .ok (.iconst 0, 1) := by decide +kernel
theorem dJ7_fill_53178_1 : decode cJ7_fill_53178 1 = .ok (.istore_n 2, 1) := by decide +kernel
theorem dJ7_fill_53178_2 : decode cJ7_fill_53178 2 = .ok (.aload_n 0, 1) := by decide +kernel
theorem dJ7_fill_53178_3 : decode cJ7_fill_53178 3 = .ok (.arraylength, 1) := by decide +kernel
theorem dJ7_fill_53178_4 : decode cJ7_fill_53178 4 = .ok (.istore_n 3, 1) := by decide +kernel
theorem dJ7_fill_53178_5 : decode cJ7_fill_53178 5 = .ok (.iload_n 2, 1) := by decide +kernel
theorem dJ7_fill_53178_6 : decode cJ7_fill_53178 6 = .ok (.iload_n 3, 1) := by decide +kernel
theorem dJ7_fill_53178_7 : decode cJ7_fill_53178 7 = .ok (.if_icmp .ge 13, 3) := by decide +kernel
theorem dJ7_fill_53178_10 : decode cJ7_fill_53178 10 = .ok (.aload_n 0, 1) := by decide +kernel
theorem dJ7_fill_53178_11 : decode cJ7_fill_53178 11 = .ok (.iload_n 2, 1) := by decide +kernel
theorem dJ7_fill_53178_12 : decode cJ7_fill_53178 12 = .ok (.iload_n 1, 1) := by decide +kernel
theorem dJ7_fill_53178_13 : decode cJ7_fill_53178 13 = .ok (.iastore, 1) := by decide +kernel
theorem dJ7_fill_53178_14 : decode cJ7_fill_53178 14 = .ok (.iinc 2 1, 3) := by decide +kernel
theorem dJ7_fill_53178_17 : decode cJ7_fill_53178 17 = .ok (.goto (-12), 3) := by decide +kernel
theorem dJ7_fill_53178_20 : decode cJ7_fill_53178 20 = .ok (.return_, 1) := by decide +kernel
theorem dJ7_fill_d0a16_0 : decode cJ7_fill_d0a16 0 = .ok (.iconst 0, 1) := by decide +kernel
theorem dJ7_fill_d0a16_1 : decode cJ7_fill_d0a16 1 = .ok (.istore_n 3, 1) := by decide +kernel
theorem dJ7_fill_d0a16_2 : decode cJ7_fill_d0a16 2 = .ok (.aload_n 0, 1) := by decide +kernel
theorem dJ7_fill_d0a16_3 : decode cJ7_fill_d0a16 3 = .ok (.arraylength, 1) := by decide +kernel
theorem dJ7_fill_d0a16_4 : decode cJ7_fill_d0a16 4 = .ok (.istore 4, 2) := by decide +kernel
theorem dJ7_fill_d0a16_6 : decode cJ7_fill_d0a16 6 = .ok (.iload_n 3, 1) := by decide +kernel
theorem dJ7_fill_d0a16_7 : decode cJ7_fill_d0a16 7 = .ok (.iload 4, 2) := by decide +kernel
theorem dJ7_fill_d0a16_9 : decode cJ7_fill_d0a16 9 = .ok (.if_icmp .ge 13, 3) := by decide +kernel
theorem dJ7_fill_d0a16_12 : decode cJ7_fill_d0a16 12 = .ok (.aload_n 0, 1) := by decide +kernel
theorem dJ7_fill_d0a16_13 : decode cJ7_fill_d0a16 13 = .ok (.iload_n 3, 1) := by decide +kernel
theorem dJ7_fill_d0a16_14 : decode cJ7_fill_d0a16 14 = .ok (.lload_n 1, 1) := by decide +kernel
theorem dJ7_fill_d0a16_15 : decode cJ7_fill_d0a16 15 = .ok (.lastore, 1) := by decide +kernel
theorem dJ7_fill_d0a16_16 : decode cJ7_fill_d0a16 16 = .ok (.iinc 3 1, 3) := by decide +kernel
theorem dJ7_fill_d0a16_19 : decode cJ7_fill_d0a16 19 = .ok (.goto (-13), 3) := by decide +kernel
theorem dJ7_fill_d0a16_22 : decode cJ7_fill_d0a16 22 = .ok (.return_, 1) := by decide +kernel
theorem dX0_init_0 : decode cX0_init 0 = .ok (.aload_n 0, 1) := by decide +kernel
theorem dX0_init_1 : decode cX0_init 1 = .ok (.invokespecial 3, 3) := by decide +kernel
theorem dX0_init_4 : decode cX0_init 4 = .ok (.aload_n 0, 1) := by decide +kernel
theorem dX0_init_5 : decode cX0_init 5 = .ok (.sipush 256, 3) := by decide +kernel
theorem dX0_init_8 : decode cX0_init 8 = .ok (.newarray .int, 2) := by decide +kernel
theorem dX0_init_10 : decode cX0_init 10 = .ok (.putfield 9, 3) := by decide +kernel
theorem dX0_init_13 : decode cX0_init 13 = .ok (.aload_n 0, 1) := by decide +kernel
theorem dX0_init_14 : decode cX0_init 14 = .ok (.bipush 8, 2) := by decide +kernel
theorem dX0_init_16 : decode cX0_init 16 = .ok (.newarray .int, 2) := by decide +kernel
theorem dX0_init_18 : decode cX0_init 18 = .ok (.putfield 15, 3) := by decide +kernel
theorem dX0_init_21 : decode cX0_init 21 = .ok (.aload_n 0, 1) := by decide +kernel
theorem dX0_init_22 : decode cX0_init 22 = .ok (.bipush 8, 2) := by decide +kernel
theorem dX0_init_24 : decode cX0_init 24 = .ok (.newarray .int, 2) := by decide +kernel
theorem dX0_init_26 : decode cX0_init 26 = .ok (.putfield 18, 3) := by decide +kernel
theorem dX0_init_29 : decode cX0_init 29 = .ok (.return_, 1) := by decide +kernel
theorem dX1_init_0 : decode cX1_init 0 = .ok (.aload_n 0, 1) := by decide +kernel
theorem dX1_init_1 : decode cX1_init 1 = .ok (.invokespecial 3, 3) := by decide +kernel
theorem dX1_init_4 : decode cX1_init 4 = .ok (.aload_n 0, 1) := by decide +kernel
theorem dX1_init_5 : decode cX1_init 5 = .ok (.bipush 8, 2) := by decide +kernel
theorem dX1_init_7 : decode cX1_init 7 = .ok (.newarray .int, 2) := by decide +kernel
theorem dX1_init_9 : decode cX1_init 9 = .ok (.putfield 9, 3) := by decide +kernel
theorem dX1_init_12 : decode cX1_init 12 = .ok (.aload_n 0, 1) := by decide +kernel
theorem dX1_init_13 : decode cX1_init 13 = .ok (.bipush 8, 2) := by decide +kernel
theorem dX1_init_15 : decode cX1_init 15 = .ok (.newarray .int, 2) := by decide +kernel
theorem dX1_init_17 : decode cX1_init 17 = .ok (.putfield 15, 3) := by decide +kernel
theorem dX1_init_20 : decode cX1_init 20 = .ok (.aload_n 0, 1) := by decide +kernel
theorem dX1_init_21 : decode cX1_init 21 = .ok (.bipush 8, 2) := by decide +kernel
theorem dX1_init_23 : decode cX1_init 23 = .ok (.newarray .int, 2) := by decide +kernel
theorem dX1_init_25 : decode cX1_init 25 = .ok (.putfield 18, 3) := by decide +kernel
theorem dX1_init_28 : decode cX1_init 28 = .ok (.aload_n 0, 1) := by decide +kernel
theorem dX1_init_29 : decode cX1_init 29 = .ok (.bipush 6, 2) := by decide +kernel
theorem dX1_init_31 : decode cX1_init 31 = .ok (.newarray .int, 2) := by decide +kernel
theorem dX1_init_33 : decode cX1_init 33 = .ok (.putfield 21, 3) := by decide +kernel
theorem dX1_init_36 : decode cX1_init 36 = .ok (.aload_n 0, 1) := by decide +kernel
theorem dX1_init_37 : decode cX1_init 37 = .ok (.bipush 6, 2) := by decide +kernel
theorem dX1_init_39 : decode cX1_init 39 = .ok (.newarray .int, 2) := by decide +kernel
theorem dX1_init_41 : decode cX1_init 41 = .ok (.putfield 24, 3) := by decide +kernel
theorem dX1_init_44 : decode cX1_init 44 = .ok (.aload_n 0, 1) := by decide +kernel
theorem dX1_init_45 : decode cX1_init 45 = .ok (.bipush 6, 2) := by decide +kernel
theorem dX1_init_47 : decode cX1_init 47 = .ok (.newarray .int, 2) := by decide +kernel
theorem dX1_init_49 : decode cX1_init 49 = .ok (.putfield 27, 3) := by decide +kernel
theorem dX1_init_52 : decode cX1_init 52 = .ok (.aload_n 0, 1) := by decide +kernel
theorem dX1_init_53 : decode cX1_init 53 = .ok (.new 30, 3) := by decide +kernel
theorem dX1_init_56 : decode cX1_init 56 = .ok (.dup, 1) := by decide +kernel
theorem dX1_init_57 : decode cX1_init 57 = .ok (.invokespecial 32, 3) := by decide +kernel
theorem dX1_init_60 : decode cX1_init 60 = .ok (.putfield 33, 3) := by decide +kernel
theorem dX1_init_63 : decode cX1_init 63 = .ok (.return_, 1) := by decide +kernel
theorem dX2_init_0 : decode cX2_init 0 = .ok (.aload_n 0, 1) := by decide +kernel
theorem dX2_init_1 : decode cX2_init 1 = .ok (.invokespecial 3, 3) := by decide +kernel
theorem dX2_init_4 : decode cX2_init 4 = .ok (.aload_n 0, 1) := by decide +kernel
theorem dX2_init_5 : decode cX2_init 5 = .ok (.new 9, 3) := by decide +kernel
theorem dX2_init_8 : decode cX2_init 8 = .ok (.dup, 1) := by decide +kernel
theorem dX2_init_9 : decode cX2_init 9 = .ok (.invokespecial 11, 3) := by decide +kernel
theorem dX2_init_12 : decode cX2_init 12 = .ok (.putfield 12, 3) := by decide +kernel
theorem dX2_init_15 : decode cX2_init 15 = .ok (.aload_n 0, 1) := by decide +kernel
theorem dX2_init_16 : decode cX2_init 16 = .ok (.new 18, 3) := by decide +kernel
theorem dX2_init_19 : decode cX2_init 19 = .ok (.dup, 1) := by decide +kernel
theorem dX2_init_20 : decode cX2_init 20 = .ok (.invokespecial 20, 3) := by decide +kernel
theorem dX2_init_23 : decode cX2_init 23 = .ok (.putfield 21, 3) := by decide +kernel
theorem dX2_init_26 : decode cX2_init 26 = .ok (.aload_n 0, 1) := by decide +kernel
theorem dX2_init_27 : decode cX2_init 27 = .ok (.iconst (-1), 1) := by decide +kernel
theorem dX2_init_28 : decode cX2_init 28 = .ok (.putfield 25, 3) := by decide +kernel
theorem dX2_init_31 : decode cX2_init 31 = .ok (.return_, 1) := by decide +kernel
theorem dX3_init_0 : decode cX3_init 0 = .ok (.aload_n 0, 1) := by decide +kernel
theorem dX3_init_1 : decode cX3_init 1 = .ok (.invokespecial 3, 3) := by decide +kernel
theorem dX3_init_4 : decode cX3_init 4 = .ok (.aload_n 0, 1) := by decide +kernel
theorem dX3_init_5 : decode cX3_init 5 = .ok (.bipush 6, 2) := by decide +kernel
theorem dX3_init_7 : decode cX3_init 7 = .ok (.newarray .int, 2) := by decide +kernel
theorem dX3_init_9 : decode cX3_init 9 = .ok (.putfield 9, 3) := by decide +kernel
theorem dX3_init_12 : decode cX3_init 12 = .ok (.aload_n 0, 1) := by decide +kernel
theorem dX3_init_13 : decode cX3_init 13 = .ok (.bipush 6, 2) := by decide +kernel
theorem dX3_init_15 : decode cX3_init 15 = .ok (.newarray .int, 2) := by decide +kernel
theorem dX3_init_17 : decode cX3_init 17 = .ok (.putfield 15, 3) := by decide +kernel
theorem dX3_init_20 : decode cX3_init 20 = .ok (.aload_n 0, 1) := by decide +kernel
theorem dX3_init_21 : decode cX3_init 21 = .ok (.iconst 4, 1) := by decide +kernel
theorem dX3_init_22 : decode cX3_init 22 = .ok (.newarray .int, 2) := by decide +kernel
theorem dX3_init_24 : decode cX3_init 24 = .ok (.putfield 18, 3) := by decide +kernel
theorem dX3_init_27 : decode cX3_init 27 = .ok (.aload_n 0, 1) := by decide +kernel
theorem dX3_init_28 : decode cX3_init 28 = .ok (.iconst 4, 1) := by decide +kernel
theorem dX3_init_29 : decode cX3_init 29 = .ok (.newarray .int, 2) := by decide +kernel
theorem dX3_init_31 : decode cX3_init 31 = .ok (.putfield 21, 3) := by decide +kernel
theorem dX3_init_34 : decode cX3_init 34 = .ok (.aload_n 0, 1) := by decide +kernel
theorem dX3_init_35 : decode cX3_init 35 = .ok (.iconst 5, 1) := by decide +kernel
theorem dX3_init_36 : decode cX3_init 36 = .ok (.anewarray 24, 3) := by decide +kernel
theorem dX3_init_39 : decode cX3_init 39 = .ok (.putfield 26, 3) := by decide +kernel
theorem dX3_init_42 : decode cX3_init 42 = .ok (.iconst 0, 1) := by decide +kernel
theorem dX3_init_43 : decode cX3_init 43 = .ok (.istore_n 1, 1) := by decide +kernel
theorem dX3_init_44 : decode cX3_init 44 = .ok (.iload_n 1, 1) := by decide +kernel
theorem dX3_init_45 : decode cX3_init 45 = .ok (.iconst 4, 1) := by decide +kernel
theorem dX3_init_46 : decode cX3_init 46 = .ok (.if_icmp .gt 22, 3) := by decide +kernel
theorem dX3_init_49 : decode cX3_init 49 = .ok (.aload_n 0, 1) := by decide +kernel
theorem dX3_init_50 : decode cX3_init 50 = .ok (.getfield 26, 3) := by decide +kernel
theorem dX3_init_53 : decode cX3_init 53 = .ok (.iload_n 1, 1) := by decide +kernel
theorem dX3_init_54 : decode cX3_init 54 = .ok (.new 24, 3) := by decide +kernel
theorem dX3_init_57 : decode cX3_init 57 = .ok (.dup, 1) := by decide +kernel
theorem dX3_init_58 : decode cX3_init 58 = .ok (.invokespecial 30, 3) := by decide +kernel
theorem dX3_init_61 : decode cX3_init 61 = .ok (.aastore, 1) := by decide +kernel
theorem dX3_init_62 : decode cX3_init 62 = .ok (.iinc 1 1, 3) := by decide +kernel
theorem dX3_init_65 : decode cX3_init 65 = .ok (.goto (-21), 3) := by decide +kernel
theorem dX3_init_68 : decode cX3_init 68 = .ok (.return_, 1) := by decide +kernel
theorem dX4_init_0 : decode cX4_init 0 = .ok (.aload_n 0, 1) := by decide +kernel
theorem dX4_init_1 : decode cX4_init 1 = .ok (.invokespecial 3, 3) := by decide +kernel
theorem dX4_init_4 : decode cX4_init 4 = .ok (.aload_n 0, 1) := by decide +kernel
theorem dX4_init_5 : decode cX4_init 5 = .ok (.iconst 4, 1) := by decide +kernel
theorem dX4_init_6 : decode cX4_init 6 = .ok (.newarray .int, 2) := by decide +kernel
theorem dX4_init_8 : decode cX4_init 8 = .ok (.putfield 11, 3) := by decide +kernel
theorem dX4_init_11 : decode cX4_init 11 = .ok (.aload_n 0, 1) := by decide +kernel
theorem dX4_init_12 : decode cX4_init 12 = .ok (.iconst 4, 1) := by decide +kernel
theorem dX4_init_13 : decode cX4_init 13 = .ok (.newarray .int, 2) := by decide +kernel
theorem dX4_init_15 : decode cX4_init 15 = .ok (.putfield 15, 3) := by decide +kernel
theorem dX4_init_18 : decode cX4_init 18 = .ok (.aload_n 0, 1) := by decide +kernel
theorem dX4_init_19 : decode cX4_init 19 = .ok (.iconst 4, 1) := by decide +kernel
theorem dX4_init_20 : decode cX4_init 20 = .ok (.bipush 60, 2) := by decide +kernel
theorem dX4_init_22 : decode cX4_init 22 = .ok (.multianewarray 18 2, 4) := by decide +kernel
theorem dX4_init_26 : decode cX4_init 26 = .ok (.putfield 20, 3) := by decide +kernel
theorem dX4_init_29 : decode cX4_init 29 = .ok (.aload_n 0, 1) := by decide +kernel
theorem dX4_init_30 : decode cX4_init 30 = .ok (.getfield 11, 3) := by decide +kernel
theorem dX4_init_33 : decode cX4_init 33 = .ok (.iconst (-1), 1) := by decide +kernel
theorem dX4_init_34 : decode cX4_init 34 = .ok (.invokestatic 23, 3) := by decide +kernel
theorem dX4_init_37 : decode cX4_init 37 = .ok (.return_, 1) := by decide +kernel
theorem dX5_init_0 : decode cX5_init 0 = .ok (.aload_n 0, 1) := by decide +kernel
theorem dX5_init_1 : decode cX5_init 1 = .ok (.invokespecial 3, 3) := by decide +kernel
theorem dX5_init_4 : decode cX5_init 4 = .ok (.aload_n 0, 1) := by decide +kernel
theorem dX5_init_5 : decode cX5_init 5 = .ok (.bipush 64, 2) := by decide +kernel
theorem dX5_init_7 : decode cX5_init 7 = .ok (.newarray .int, 2) := by decide +kernel
theorem dX5_init_9 : decode cX5_init 9 = .ok (.putfield 9, 3) := by decide +kernel
theorem dX5_init_12 : decode cX5_init 12 = .ok (.aload_n 0, 1) := by decide +kernel
theorem dX5_init_13 : decode cX5_init 13 = .ok (.bipush 8, 2) := by decide +kernel
theorem dX5_init_15 : decode cX5_init 15 = .ok (.newarray .int, 2) := by decide +kernel
theorem dX5_init_17 : decode cX5_init 17 = .ok (.putfield 15, 3) := by decide +kernel
theorem dX5_init_20 : decode cX5_init 20 = .ok (.aload_n 0, 1) := by decide +kernel
theorem dX5_init_21 : decode cX5_init 21 = .ok (.bipush 8, 2) := by decide +kernel
theorem dX5_init_23 : decode cX5_init 23 = .ok (.newarray .int, 2) := by decide +kernel
theorem dX5_init_25 : decode cX5_init 25 = .ok (.putfield 18, 3) := by decide +kernel
theorem dX5_init_28 : decode cX5_init 28 = .ok (.aload_n 0, 1) := by decide +kernel
theorem dX5_init_29 : decode cX5_init 29 = .ok (.iconst 3, 1) := by decide +kernel
theorem dX5_init_30 : decode cX5_init 30 = .ok (.newarray .int, 2) := by decide +kernel
theorem dX5_init_32 : decode cX5_init 32 = .ok (.putfield 21, 3) := by decide +kernel
theorem dX5_init_35 : decode cX5_init 35 = .ok (.aload_n 0, 1) := by decide +kernel
theorem dX5_init_36 : decode cX5_init 36 = .ok (.iconst 3, 1) := by decide +kernel
theorem dX5_init_37 : decode cX5_init 37 = .ok (.newarray .int, 2) := by decide +kernel
theorem dX5_init_39 : decode cX5_init 39 = .ok (.putfield 24, 3) := by decide +kernel
theorem dX5_init_42 : decode cX5_init 42 = .ok (.aload_n 0, 1) := by decide +kernel
theorem dX5_init_43 : decode cX5_init 43 = .ok (.getfield 18, 3) := by decide +kernel
theorem dX5_init_46 : decode cX5_init 46 = .ok (.iconst (-1), 1) := by decide +kernel
theorem dX5_init_47 : decode cX5_init 47 = .ok (.invokestatic 27, 3) := by decide +kernel
theorem dX5_init_50 : decode cX5_init 50 = .ok (.return_, 1) := by decide +kernel
theorem dX6_init_0 : decode cX6_init 0 = .ok (.aload_n 0, 1) := by decide +kernel
theorem dX6_init_1 : decode cX6_init 1 = .ok (.invokespecial 3, 3) := by decide +kernel
theorem dX6_init_4 : decode cX6_init 4 = .ok (.aload_n 0, 1) := by decide +kernel
theorem dX6_init_5 : decode cX6_init 5 = .ok (.sipush 1000, 3) := by decide +kernel
theorem dX6_init_8 : decode cX6_init 8 = .ok (.newarray .byte, 2) := by decide +kernel
theorem dX6_init_10 : decode cX6_init 10 = .ok (.putfield 11, 3) := by decide +kernel
theorem dX6_init_13 : decode cX6_init 13 = .ok (.return_, 1) := by decide +kernel
theorem dX7_init_0 : decode cX7_init 0 = .ok (.aload_n 0, 1) := by decide +kernel
theorem dX7_init_1 : decode cX7_init 1 = .ok (.invokespecial 3, 3) := by decide +kernel
theorem dX7_init_4 : decode cX7_init 4 = .ok (.return_, 1) := by decide +kernel
theorem dX8_init_0 : decode cX8_init 0 = .ok (.aload_n 0, 1) := by decide +kernel
theorem dX8_init_1 : decode cX8_init 1 = .ok (.invokespecial 3, 3) := by decide +kernel
theorem dX8_init_4 : decode cX8_init 4 = .ok (.aload_n 0, 1) := by decide +kernel
theorem dX8_init_5 : decode cX8_init 5 = .ok (.new 9, 3) := by decide +kernel
theorem dX8_init_8 : decode cX8_init 8 = .ok (.dup, 1) := by decide +kernel
theorem dX8_init_9 : decode cX8_init 9 = .ok (.invokespecial 11, 3) := by decide +kernel
theorem dX8_init_12 : decode cX8_init 12 = .ok (.putfield 12, 3) := by decide +kernel
theorem dX8_init_15 : decode cX8_init 15 = .ok (.aload_n 0, 1) := by decide +kernel
theorem dX8_init_16 : decode cX8_init 16 = .ok (.new 18, 3) := by decide +kernel
theorem dX8_init_19 : decode cX8_init 19 = .ok (.dup, 1) := by decide +kernel
theorem dX8_init_20 : decode cX8_init 20 = .ok (.invokespecial 20, 3) := by decide +kernel
theorem dX8_init_23 : decode cX8_init 23 = .ok (.putfield 21, 3) := by decide +kernel
theorem dX8_init_26 : decode cX8_init 26 = .ok (.aload_n 0, 1) := by decide +kernel
theorem dX8_init_27 : decode cX8_init 27 = .ok (.bipush 40, 2) := by decide +kernel
theorem dX8_init_29 : decode cX8_init 29 = .ok (.newarray .int, 2) := by decide +kernel
theorem dX8_init_31 : decode cX8_init 31 = .ok (.putfield 25, 3) := by decide +kernel
theorem dX8_init_34 : decode cX8_init 34 = .ok (.aload_n 0, 1) := by decide +kernel
theorem dX8_init_35 : decode cX8_init 35 = .ok (.bipush 40, 2) := by decide +kernel
theorem dX8_init_37 : decode cX8_init 37 = .ok (.newarray .int, 2) := by decide +kernel
theorem dX8_init_39 : decode cX8_init 39 = .ok (.putfield 29, 3) := by decide +kernel
theorem dX8_init_42 : decode cX8_init 42 = .ok (.aload_n 0, 1) := by decide +kernel
theorem dX8_init_43 : decode cX8_init 43 = .ok (.bipush 40, 2) := by decide +kernel
theorem dX8_init_45 : decode cX8_init 45 = .ok (.newarray .int, 2) := by decide +kernel
theorem dX8_init_47 : decode cX8_init 47 = .ok (.putfield 32, 3) := by decide +kernel
theorem dX8_init_50 : decode cX8_init 50 = .ok (.return_, 1) := by decide +kernel
theorem dX9_init_0 : decode cX9_init 0 = .ok (.aload_n 0, 1) := by decide +kernel
theorem dX9_init_1 : decode cX9_init 1 = .ok (.invokespecial 1, 3) := by decide +kernel
theorem dX9_init_4 : decode cX9_init 4 = .ok (.aload_n 0, 1) := by decide +kernel
theorem dX9_init_5 : decode cX9_init 5 = .ok (.new 7, 3) := by decide +kernel
theorem dX9_init_8 : decode cX9_init 8 = .ok (.dup, 1) := by decide +kernel
theorem dX9_init_9 : decode cX9_init 9 = .ok (.invokespecial 9, 3) := by decide +kernel
theorem dX9_init_12 : decode cX9_init 12 = .ok (.putfield 10, 3) := by decide +kernel
theorem dX9_init_15 : decode cX9_init 15 = .ok (.aload_n 0, 1) := by decide +kernel
theorem dX9_init_16 : decode cX9_init 16 = .ok (.aload_n 0, 1) := by decide +kernel
theorem dX9_init_17 : decode cX9_init 17 = .ok (.getfield 10, 3) := by decide +kernel
theorem dX9_init_20 : decode cX9_init 20 = .ok (.getfield 16, 3) := by decide +kernel
theorem dX9_init_23 : decode cX9_init 23 = .ok (.putfield 20, 3) := by decide +kernel
theorem dX9_init_26 : decode cX9_init 26 = .ok (.aload_n 0, 1) := by decide +kernel
theorem dX9_init_27 : decode cX9_init 27 = .ok (.new 21, 3) := by decide +kernel
theorem dX9_init_30 : decode cX9_init 30 = .ok (.dup, 1) := by decide +kernel
theorem dX9_init_31 : decode cX9_init 31 = .ok (.invokespecial 23, 3) := by decide +kernel
theorem dX9_init_34 : decode cX9_init 34 = .ok (.putfield 24, 3) := by decide +kernel
theorem dX9_init_37 : decode cX9_init 37 = .ok (.aload_n 0, 1) := by decide +kernel
theorem dX9_init_38 : decode cX9_init 38 = .ok (.iconst 3, 1) := by decide +kernel
theorem dX9_init_39 : decode cX9_init 39 = .ok (.anewarray 21, 3) := by decide +kernel
theorem dX9_init_42 : decode cX9_init 42 = .ok (.putfield 28, 3) := by decide +kernel
theorem dX9_init_45 : decode cX9_init 45 = .ok (.iconst 0, 1) := by decide +kernel
theorem dX9_init_46 : decode cX9_init 46 = .ok (.istore_n 1, 1) := by decide +kernel
theorem dX9_init_47 : decode cX9_init 47 = .ok (.iload_n 1, 1) := by decide +kernel
theorem dX9_init_48 : decode cX9_init 48 = .ok (.iconst 3, 1) := by decide +kernel
theorem dX9_init_49 : decode cX9_init 49 = .ok (.if_icmp .ge 22, 3) := by decide +kernel
theorem dX9_init_52 : decode cX9_init 52 = .ok (.aload_n 0, 1) := by decide +kernel
theorem dX9_init_53 : decode cX9_init 53 = .ok (.getfield 28, 3) := by decide +kernel
theorem dX9_init_56 : decode cX9_init 56 = .ok (.iload_n 1, 1) := by decide +kernel
theorem dX9_init_57 : decode cX9_init 57 = .ok (.new 21, 3) := by decide +kernel
theorem dX9_init_60 : decode cX9_init 60 = .ok (.dup, 1) := by decide +kernel
theorem dX9_init_61 : decode cX9_init 61 = .ok (.invokespecial 23, 3) := by decide +kernel
theorem dX9_init_64 : decode cX9_init 64 = .ok (.aastore, 1) := by decide +kernel
theorem dX9_init_65 : decode cX9_init 65 = .ok (.iinc 1 1, 3) := by decide +kernel
theorem dX9_init_68 : decode cX9_init 68 = .ok (.goto (-21), 3) := by decide +kernel
theorem dX9_init_71 : decode cX9_init 71 = .ok (.aload_n 0, 1) := by decide +kernel
theorem dX9_init_72 : decode cX9_init 72 = .ok (.iconst 3, 1) := by decide +kernel
theorem dX9_init_73 : decode cX9_init 73 = .ok (.newarray .boolean, 2) := by decide +kernel
theorem dX9_init_75 : decode cX9_init 75 = .ok (.putfield 32, 3) := by decide +kernel
theorem dX9_init_78 : decode cX9_init 78 = .ok (.aload_n 0, 1) := by decide +kernel
theorem dX9_init_79 : decode cX9_init 79 = .ok (.new 36, 3) := by decide +kernel
theorem dX9_init_82 : decode cX9_init 82 = .ok (.dup, 1) := by decide +kernel
theorem dX9_init_83 : decode cX9_init 83 = .ok (.invokespecial 38, 3) := by decide +kernel
theorem dX9_init_86 : decode cX9_init 86 = .ok (.putfield 39, 3) := by decide +kernel
theorem dX9_init_89 : decode cX9_init 89 = .ok (.aload_n 0, 1) := by decide +kernel
theorem dX9_init_90 : decode cX9_init 90 = .ok (.new 43, 3) := by decide +kernel
theorem dX9_init_93 : decode cX9_init 93 = .ok (.dup, 1) := by decide +kernel
theorem dX9_init_94 : decode cX9_init 94 = .ok (.invokespecial 45, 3) := by decide +kernel
theorem dX9_init_97 : decode cX9_init 97 = .ok (.putfield 46, 3) := by decide +kernel
theorem dX9_init_100 : decode cX9_init 100 = .ok (.aload_n 0, 1) := by decide +kernel
theorem dX9_init_101 : decode cX9_init 101 = .ok (.new 50, 3) := by decide +kernel
theorem dX9_init_104 : decode cX9_init 104 = .ok (.dup, 1) := by decide +kernel
theorem dX9_init_105 : decode cX9_init 105 = .ok (.invokespecial 52, 3) := by decide +kernel
theorem dX9_init_108 : decode cX9_init 108 = .ok (.putfield 53, 3) := by decide +kernel
theorem dX9_init_111 : decode cX9_init 111 = .ok (.aload_n 0, 1) := by decide +kernel
theorem dX9_init_112 : decode cX9_init 112 = .ok (.new 57, 3) := by decide +kernel
theorem dX9_init_115 : decode cX9_init 115 = .ok (.dup, 1) := by decide +kernel
theorem dX9_init_116 : decode cX9_init 116 = .ok (.invokespecial 59, 3) := by decide +kernel
theorem dX9_init_119 : decode cX9_init 119 = .ok (.putfield 60, 3) := by decide +kernel
theorem dX9_init_122 : decode cX9_init 122 = .ok (.aload_n 0, 1) := by decide +kernel
theorem dX9_init_123 : decode cX9_init 123 = .ok (.new 64, 3) := by decide +kernel
theorem dX9_init_126 : decode cX9_init 126 = .ok (.dup, 1) := by decide +kernel
theorem dX9_init_127 : decode cX9_init 127 = .ok (.invokespecial 66, 3) := by decide +kernel
theorem dX9_init_130 : decode cX9_init 130 = .ok (.putfield 67, 3) := by decide +kernel
theorem dX9_init_133 : decode cX9_init 133 = .ok (.aload_n 0, 1) := by decide +kernel
theorem dX9_init_134 : decode cX9_init 134 = .ok (.bipush 8, 2) := by decide +kernel
theorem dX9_init_136 : decode cX9_init 136 = .ok (.newarray .int, 2) := by decide +kernel
theorem dX9_init_138 : decode cX9_init 138 = .ok (.putfield 71, 3) := by decide +kernel
theorem dX9_init_141 : decode cX9_init 141 = .ok (.return_, 1) := by decide +kernel
end
section
/-! calls that write: the callee's cells among the caller's, by their places -/
def va_AOA (t : FieldType) (U : State) : Prop := (Cond.arrayOver (.array t)).before #[] U = true
theorem va_AOA.use {t : FieldType} {A : Array Value} {U : State} (h : va_AOA t U) : (Cond.arrayOver (.array t)).before A U = true := h
theorem fi_mv {u U : Vm} (hvm : u.Alike U) (comp : ClassId) (f : Class → Bool) (hf : f = (fun (x : Class) => match x.kind with | .array component _ => component == comp | _ => false)) : U.classes.findIdx? f = u.classes.findIdx? f := by
  subst hf
  exact (va_idx_bare U comp).symm.trans ((congrArg (fun v : Vm => v.classes.findIdx? (fun (x : Class) => match x.kind with | .array component _ => component == comp | _ => false)) hvm.bare_eq).trans (va_idx_bare u comp))
theorem aoa_mv {t : FieldType} {u U : State} (hvm : u.vm.Alike U.vm) (h : va_AOA t u) : va_AOA t U := by
  unfold va_AOA Cond.before Cond.holds at h ⊢
  simp only [Cond.value, beq_iff_eq, Option.bind_eq_some_iff, Option.map_eq_some_iff] at h ⊢
  obtain ⟨comp, hc, cc, hi, kk, hk, hb⟩ := h
  obtain ⟨k', hk', he⟩ := hvm.2.2 _ _ hk
  have hkd : k'.kind = kk.kind := by rw [he]
  refine ⟨comp, by rw [hvm.findClass]; exact hc, cc, ?_, k', hk', ?_⟩
  · rw [fi_mv hvm comp]
    · exact hi
    · rfl
  · rw [hkd, hvm.findClass]
    exact hb
def nestW : List Cond := [.methodLinkNest RX9 9 yX2_init "WheelMemory", .methodLinkNest RX2 11 yX6_init "WheelMemory", .methodLinkNest RX2 20 yX1_init "WheelMemory", .methodLinkNest RX9 23 yX8_init "WheelMemory", .methodLinkNest RX8 11 yX1_init "WheelMemory", .methodLinkNest RX9 52 yX7_init "WheelMemory", .methodLinkNest RX9 66 yX0_init "WheelMemory"]
/-- what the tables say that a call does not carry by itself -/
def NX (U : State) : Prop := (∀ w ∈ nestW, va_Nw w U) ∧ va_AO "WheelMemory$World" U ∧ va_AO "WheelMemory$State" U ∧ va_AOA .long U
theorem NX.warm {s U : State} (hW : s.WarmedH U.vm) (h : NX s) : NX U := by
  obtain ⟨h1, h2, h3, h4⟩ := h
  refine ⟨?_, va_AO.moved hW.alike h2, va_AO.moved hW.alike h3, aoa_mv hW.alike h4⟩
  have g : ∀ w ∈ nestW, va_Nw w s → va_Nw w U := by
    intro w hw hs
    simp only [nestW, List.mem_cons, List.not_mem_nil, or_false] at hw
    rcases hw with rfl | rfl | rfl | rfl | rfl | rfl | rfl <;> exact va_Nw.warmM hW hs
  exact fun w hw => g w hw (h1 w hw)
theorem NX.same {s U : State} (hv : s.vm = U.vm) (h : NX s) : NX U := by
  obtain ⟨h1, h2, h3, h4⟩ := h
  have ha : s.vm.Alike U.vm := hv ▸ Vm.Alike.refl s.vm
  refine ⟨?_, va_AO.moved ha h2, va_AO.moved ha h3, aoa_mv ha h4⟩
  have g : ∀ w ∈ nestW, va_Nw w s → va_Nw w U := by
    intro w hw hs
    simp only [nestW, List.mem_cons, List.not_mem_nil, or_false] at hw
    rcases hw with rfl | rfl | rfl | rfl | rfl | rfl | rfl <;> exact va_Nw.same rfl hv hs
  exact fun w hw => g w hw (h1 w hw)
abbrev PW (D : va_G) (k : Nat → ClassId) (sz : Nat) (WS : va_W) : State → Prop := fun U => U.heap.size = sz ∧ va_P D vwCl WS U.heap ∧ va_K D vwCl (KT k) U ∧ va_D (fun _ => True) WS ∧ NX U
abbrev QV (D : va_G) {S : Type} (post : S → Prop) (OUT : S → va_W) (TY : S → List (ClassId × FieldType)) (WS : va_W) (sz : Nat) : Array Value → State → Outcome → State → Prop := va_Qv post (fun u t => va_P D vwCl (OUT u) t.heap ∧ va_K D vwCl (TY u) t ∧ va_D (va_A WS sz) (OUT u)) (va_A WS sz)
abbrev QI (D : va_G) {S : Type} (post : Int32 → S → Prop) (OUT : S → va_W) (TY : S → List (ClassId × FieldType)) (WS : va_W) (sz : Nat) : Array Value → State → Outcome → State → Prop := va_Qi post (fun u t => va_P D vwCl (OUT u) t.heap ∧ va_K D vwCl (TY u) t ∧ va_D (va_A WS sz) (OUT u)) (va_A WS sz)
theorem pw_blind {D : va_G} {k : Nat → ClassId} {sz : Nat} {WS : va_W} {av : List Value} : FrameBlind (va_Pc av (PW D k sz WS)) := fun a U g mk h => by
  obtain ⟨h0, h1, hP, hK, hD, hN⟩ := h
  exact ⟨h0, h1, hP, va_K.moved (u := U) (U := U.calling g mk a) (Vm.Alike.refl U.vm) hK, hD, NX.same (s := U) (U := U.calling g mk a) rfl hN⟩
theorem pw_S {D : va_G} {k : Nat → ClassId} {WS : va_W} {s : State} {H : Heap} {As : List Value} (hK : va_K D vwCl (KT k) s) (hN : NX s) (hP : va_P D vwCl WS H) (hD : va_D (fun _ => True) WS) : PreS s H (va_Pc As (PW D k H.size WS)) As :=
  ⟨pw_blind, fun U hU hW => ⟨rfl, by rw [hU], by rw [hU]; exact hP, va_K.moved hW.alike hK, hD, NX.warm hW hN⟩⟩
theorem pw_V {D : va_G} {k : Nat → ClassId} {WS : va_W} {s : State} {H : Heap} {As : List Value} {b ci q0 : Nat} {r : vw_C} {fs : List Value} (hK : va_K D vwCl (KT k) s) (hN : NX s) (hc : vwCl[ci]? = some r) (he : WS[q0]? = some (b, .inr (ci, fs))) (hP : va_P D vwCl WS H) (hD : va_D (fun _ => True) WS) : PreV s H r.1 b (va_Pc (.ref b :: As) (PW D k H.size WS)) As :=
  ⟨pw_blind, va_recv hK hP hc he, (pw_S hK hN hP hD).2⟩
theorem fm_of {ws wc : va_W} {is : List Nat} (h : is.map (fun i => ws[i]?) = wc.map some) : is.filterMap (fun i => ws[i]?) = wc := by
  have e : is.filterMap (fun i => ws[i]?) = (is.map (fun i => ws[i]?)).filterMap id := by rw [List.filterMap_map]; rfl
  rw [e, h, List.filterMap_map]
  show List.filterMap some wc = wc
  exact List.filterMap_some
section RW
variable {p : Program} {l : Launch} {e : Env} {R : Room} {s : State} {m : MethodId} {args : Array Value} {below : List Frame} {meth : Method} {c : Code} {H : Heap} {locs : List Loc} {cells slots : Nat} {Q : State → Prop} {pc : Nat} {ls : Array Slot} {rest st : List Value}
variable {cc : ByteArray} {nL n index maxL mc ms : Nat} {own C : String} {y : MethodName} {bytes : ByteArray} {ret : Option FieldType} {rm : Room} {Pc : Array Value → State → Prop} {Qc : Array Value → State → Outcome → State → Prop} {free : Addr → Prop} {b : Addr} {As : List Value}
variable {D : va_G} {A : Nat → Prop} {H0 : Heap} {ws wc wr : va_W}
theorem run_V (S : CallFix p m c cc nL s args TB own) (hM : Met l y (.code y bytes maxL ret :: TB) rm Pc Qc mc ms free)
    (hG : GoodIn TB (wsV own index C y (.code y bytes maxL ret :: TB))) (hd : okY y C n)
    (hrm : rm.cells = mc ∧ rm.slots = ms ∧ rm.frames + 1 ≤ R.frames ∧ 8 + (maxL + 11) + rm.locals ≤ R.locals)
    (hp : PreV s H C b Pc As) (hn : As.length = n) (hsize : ls.size = nL) (hst : st = As.reverse ++ .ref b :: rest) (hW : (rest.map fun v => v.category).sum ≤ 8)
    (hf : cells + mc ≤ R.cells ∧ slots + ms ≤ R.slots) (hdg : decode cc pc = .ok (.invokevirtual index, 3)) :
    va_Run p l e R s m args below meth c H locs cells slots mc ms (F0 m pc ls st) rest (Qc (Value.ref b :: As).toArray) free := by
  subst hst
  exact va_runV S hM (cwV n S.2.2.2.2 hG rfl hrm.1 hrm.2.1 hd hrm.2.2) hp rfl hn hsize rfl (lv_room hW) hdg hf
theorem run_S (S : CallFix p m c cc nL s args TB own) (hM : Met l y (.code y bytes maxL ret :: TB) rm Pc Qc mc ms free)
    (hG : GoodIn TB (.code y bytes maxL ret :: TB)) (h1 : Cond.methodLink own index y ∈ TB) (h2 : Cond.static y ∈ TB) (h3 : Cond.initialized y.cls ∈ TB) (hd : okY y C n)
    (hrm : rm.cells = mc ∧ rm.slots = ms ∧ rm.frames + 1 ≤ R.frames ∧ 8 + (maxL + 11) + rm.locals ≤ R.locals)
    (hp : PreS s H Pc As) (hn : As.length = n) (hsize : ls.size = nL) (hst : st = As.reverse ++ rest) (hW : (rest.map fun v => v.category).sum ≤ 8)
    (hf : cells + mc ≤ R.cells ∧ slots + ms ≤ R.slots) (hdg : decode cc pc = .ok (.invokestatic index, 3)) :
    va_Run p l e R s m args below meth c H locs cells slots mc ms (F0 m pc ls st) rest (Qc As.toArray) free := by
  subst hst
  exact va_runS S hM ⟨callB_of n S.2.2.2.2 hG rfl hrm.1 hrm.2.1 (S.2.2.2.2 _ h3) (S.2.2.2.2 _ h1) hd.2 hrm.2.2, S.2.2.2.2 _ h2⟩ hp rfl hn hsize rfl (lv_room hW) hdg hf
theorem run_I (S : CallFix p m c cc nL s args TB own) (hM : Met l y (.code y bytes maxL none :: TB) rm Pc Qc mc ms free)
    (hG : GoodIn TB (.code y bytes maxL none :: TB)) (h1 : Cond.methodLink own index y ∈ TB) (h2 : Cond.instanceMethod y ∈ TB) (h3 : Cond.initialized y.cls ∈ TB) (hy : y.name = "<init>") (hd : okY y C n)
    (hrm : rm.cells = mc ∧ rm.slots = ms ∧ rm.frames + 1 ≤ R.frames ∧ 8 + (maxL + 11) + rm.locals ≤ R.locals)
    (hp : PreS s H Pc (.ref b :: As)) (hn : As.length = n) (hsize : ls.size = nL) (hst : st = As.reverse ++ .ref b :: rest) (hW : (rest.map fun v => v.category).sum ≤ 8)
    (hf : cells + mc ≤ R.cells ∧ slots + ms ≤ R.slots) (hdg : decode cc pc = .ok (.invokespecial index, 3)) :
    va_Run p l e R s m args below meth c H locs cells slots mc ms (F0 m pc ls st) rest (Qc (Value.ref b :: As).toArray) free := by
  subst hst
  exact va_runI S hM (cwI n S.2.2.2.2 hG rfl hrm.1 hrm.2.1 (S.2.2.2.2 _ h3) (S.2.2.2.2 _ h1) (S.2.2.2.2 _ h2) hy hd.2 hrm.2.2) hp rfl hn hsize rfl (lv_room hW) hdg hf
theorem run_IN {host : String} (S : CallFix p m c cc nL s args TB own) (hM : Met l y (.code y bytes maxL none :: TB) rm Pc Qc mc ms free)
    (hG : GoodIn TB (.code y bytes maxL none :: TB)) (h1 : va_Nw (.methodLinkNest own index y host) s) (h2 : Cond.instanceMethod y ∈ TB) (h3 : Cond.initialized y.cls ∈ TB) (hy : y.name = "<init>") (hd : okY y C n)
    (hrm : rm.cells = mc ∧ rm.slots = ms ∧ rm.frames + 1 ≤ R.frames ∧ 8 + (maxL + 11) + rm.locals ≤ R.locals)
    (hp : PreS s H Pc (.ref b :: As)) (hn : As.length = n) (hsize : ls.size = nL) (hst : st = As.reverse ++ .ref b :: rest) (hW : (rest.map fun v => v.category).sum ≤ 8)
    (hf : cells + mc ≤ R.cells ∧ slots + ms ≤ R.slots) (hdg : decode cc pc = .ok (.invokespecial index, 3)) :
    va_Run p l e R s m args below meth c H locs cells slots mc ms (F0 m pc ls st) rest (Qc (Value.ref b :: As).toArray) free := by
  subst hst
  exact va_runIN (host := host) S hM ⟨va_cnB n S.2.2.2.2 hG rfl hrm.1 hrm.2.1 h1 (S.2.2.2.2 _ h3) hd.2 hrm.2.2, hy, S.2.2.2.2 _ h2⟩ hp rfl hn hsize rfl (lv_room hW) hdg hf
theorem rw_v {S : Type} {post : S → Prop} {OUT : S → va_W} {TY : S → List (ClassId × FieldType)} {a : Array Value} (isC isR : List Nat) (hC : isC.map (fun i => ws[i]?) = wc.map some) (hR : isR.map (fun i => ws[i]?) = wr.map some) (hnC : va_nd isC = true) (hnR : va_nd isR = true) (hdis : ∀ i ∈ isR, i ∉ isC)
    (hP : va_P D vwCl ws H) (hD : va_D A ws) (hS : va_S A H0 H locs) (hA : ∀ q, H0.size ≤ q → A q)
    (hr : va_P D vwCl wc H → va_D (fun _ => True) wc → va_Run p l e R s m args below meth c H locs cells slots mc ms (F0 m pc ls st) rest (QV D post OUT TY wc H.size a) (va_A wc H.size))
    (kk : ∀ (u : S) (H1 : Heap) (locs1 : List Loc), post u → va_K D vwCl (TY u) s → va_P D vwCl (wr ++ OUT u) H1 → va_D A (wr ++ OUT u) → va_S A H0 H1 locs1 → W p l e R s m args below meth c H1 locs1 (cells + mc) (slots + ms) Q (F0 m (pc + 3) ls rest)) : W p l e R s m args below meth c H locs cells slots Q (F0 m pc ls st) := by
  have hF := va_free (wc := wc) hD hS hA isC hC
  have hPc := hP.sub (ws' := wc) isC (fm_of hC)
  have hDc := hD.sub (ws' := wc) isC hnC hC
  refine va_callv (hr hPc (hDc.weaken (fun _ _ _ _ => trivial))) hS (fun q _ h => hF q h) hF (fun u t H1 locs1 ht hvm hw hB hz1 hk1 hS1 => ?_)
  obtain ⟨hP1, hK1, hD1⟩ := hB
  rw [ht] at hP1
  obtain ⟨hP2, hD2⟩ := va_join (wr := wr) (w1 := OUT u) hP hD isC isR hC hR hnR hdis hk1 hF hP1 hD1
  exact kk u H1 locs1 hw (va_K.moved hvm.symm hK1) hP2 hD2 hS1
theorem rw_i {S : Type} {post : Int32 → S → Prop} {OUT : S → va_W} {TY : S → List (ClassId × FieldType)} {a : Array Value} (isC isR : List Nat) (hC : isC.map (fun i => ws[i]?) = wc.map some) (hR : isR.map (fun i => ws[i]?) = wr.map some) (hnC : va_nd isC = true) (hnR : va_nd isR = true) (hdis : ∀ i ∈ isR, i ∉ isC)
    (hP : va_P D vwCl ws H) (hD : va_D A ws) (hS : va_S A H0 H locs) (hA : ∀ q, H0.size ≤ q → A q)
    (hr : va_P D vwCl wc H → va_D (fun _ => True) wc → va_Run p l e R s m args below meth c H locs cells slots mc ms (F0 m pc ls st) rest (QI D post OUT TY wc H.size a) (va_A wc H.size))
    (kk : ∀ (r : Int32) (u : S) (H1 : Heap) (locs1 : List Loc), post r u → va_K D vwCl (TY u) s → va_P D vwCl (wr ++ OUT u) H1 → va_D A (wr ++ OUT u) → va_S A H0 H1 locs1 → W p l e R s m args below meth c H1 locs1 (cells + mc) (slots + ms) Q (F0 m (pc + 3) ls (.int r :: rest))) : W p l e R s m args below meth c H locs cells slots Q (F0 m pc ls st) := by
  have hF := va_free (wc := wc) hD hS hA isC hC
  have hPc := hP.sub (ws' := wc) isC (fm_of hC)
  have hDc := hD.sub (ws' := wc) isC hnC hC
  refine va_calli (hr hPc (hDc.weaken (fun _ _ _ _ => trivial))) hS (fun q _ h => hF q h) hF (fun r u t H1 locs1 ht hvm hw hB hz1 hk1 hS1 => ?_)
  obtain ⟨hP1, hK1, hD1⟩ := hB
  rw [ht] at hP1
  obtain ⟨hP2, hD2⟩ := va_join (wr := wr) (w1 := OUT u) hP hD isC isR hC hR hnR hdis hk1 hF hP1 hD1
  exact kk r u H1 locs1 hw (va_K.moved hvm.symm hK1) hP2 hD2 hS1
/-- a new array of a known class -/
theorem n_newa {tys : List (ClassId × FieldType)} {cT : ClassId} {atype : ArrayType} {ty : FieldType} (t0 : Nat) (hra : ∀ c1 c2 : ClassId, va_RA s c1 ty → va_RA s c2 ty → c1 = c2) (ht : tys[t0]? = some (cT, ty)) (hexec : p.tables.exec = Jvm.exec) (hb : c.code = cc) (harr : (Cond.arrayClass (newarray.typeOf atype)).before args s = true) (hty : newarray.typeOf atype = ty) (hK : va_K D vwCl tys s) (hP : va_P D vwCl ws H) (hD : va_D A ws) (hS : va_S A H0 H locs) (hA : ∀ q, H0.size ≤ q → A q)
    {n : Int32} {N' : Nat} {a0 : vp_A} (ha : ∀ cA : ClassId, vp_cell cA a0 = arrV cA N' (fun _ => defaultValue ty)) (hn : ¬ n < 0) (hN : n.toNatClampNeg = N') (hbytes : N' * componentBytes ty ≤ 536870912) (hcells : cells + 1 ≤ R.cells) (hslots : slots + N' ≤ R.slots) (hdg : decode cc pc = .ok (.newarray atype, 2))
    (kk : ∀ (q : Nat) (H1 : Heap), va_P D vwCl (ws ++ [(q, .inl (cT, a0))]) H1 → va_D A (ws ++ [(q, .inl (cT, a0))]) → va_S A H0 H1 locs → W p l e R s m args below meth c H1 locs (cells + 1) (slots + N') Q (F0 m (pc + 2) ls (.ref q :: rest))) : W p l e R s m args below meth c H locs cells slots Q (F0 m pc ls (.int n :: rest)) := by
  refine va_newa hexec hb harr hty hK hP hD hS hA ha hn hN hbytes hcells hslots hdg (fun q cA H1 hK1 hP1 hD1 hS1 => ?_)
  have e1 : va_RA s cA ty := (hK1.2 tys.length (cA, ty) (by simp)).2
  have e2 : va_RA s cT ty := (hK.2 t0 _ ht).2
  obtain rfl := hra _ _ e1 e2
  exact kk q H1 hP1 hD1 hS1
end RW
theorem ra_obj {C : String} {s : State} (c1 c2 : ClassId) (h1 : va_RA s c1 (.object C)) (h2 : va_RA s c2 (.object C)) : c1 = c2 := Option.some.inj ((va_nmO h1 rfl).symm.trans (va_nmO h2 rfl))
theorem ra_int {s : State} (c1 c2 : ClassId) (h1 : va_RA s c1 .int) (h2 : va_RA s c2 .int) : c1 = c2 := Option.some.inj ((va_nm_int h1).symm.trans (va_nm_int h2))
theorem ra_byte {s : State} (c1 c2 : ClassId) (h1 : va_RA s c1 .byte) (h2 : va_RA s c2 .byte) : c1 = c2 := Option.some.inj ((va_nm_byte h1).symm.trans (va_nm_byte h2))
theorem ra_long {s : State} (c1 c2 : ClassId) (h1 : va_RA s c1 .long) (h2 : va_RA s c2 .long) : c1 = c2 := Option.some.inj ((va_nm_long h1).symm.trans (va_nm_long h2))
theorem ra_bool {s : State} (c1 c2 : ClassId) (h1 : va_RA s c1 .boolean) (h2 : va_RA s c2 .boolean) : c1 = c2 := Option.some.inj ((va_nm_boolean h1).symm.trans (va_nm_boolean h2))
abbrev rmw (n mc ms : Nat) : Room := { frames := 4 * n + 2, cells := mc, slots := ms, locals := 100 * n + 40 }
abbrev zI (k : Nat → ClassId) (a N : Nat) : Nat × va_E := (a, .inl (k 0, N, .inl (fun _ => 0)))
abbrev sI (k : Nat → ClassId) (a N : Nat) (f : Nat → Int32) : Nat × va_E := (a, .inl (k 0, N, .inl f))
abbrev UT : Type := (Nat → Nat) × (Nat → Nat → Int32)
abbrev mkU (l : List Nat) (f : List (Nat → Int32)) : UT := (fun i => l.getD i 0, fun i => f.getD i (fun _ => 0))
abbrev sJ (k : Nat → ClassId) (a N : Nat) (f : Nat → Int64) : Nat × va_E := (a, .inl (k 2, N, .inr (.inl f)))
theorem fillI_loop {p : Program} {l : Launch} {e : Env} {R : Room} {s : State} {m : MethodId} {args : Array Value} {below : List Frame} {meth : Method} {c : Code} {cells slots : Nat} {Q : State → Prop} {D : va_G} {k : Nat → ClassId} {A : Nat → Prop} {H0 : Heap} {a N : Nat} {v : Int32} (hN : N < 2 ^ 31) (hx : p.tables.exec = Jvm.exec) (hb : c.code = cJ7_fill_53178) (hK : va_K D vwCl (KT k) s)
    (hend : ∀ (H : Heap) (locs : List Loc) (g : Nat → Int32) (ls : Array Slot), va_P D vwCl [sI k a N g] H → va_D A [sI k a N g] → va_S A H0 H locs → (∀ j, j < N → g j = v) → W p l e R s m args below meth c H locs cells slots Q (F0 m 20 ls [])) :
    ∀ (n i : Nat), i ≤ N → N - i < n → ∀ (H : Heap) (locs : List Loc) (g : Nat → Int32) (ls : Array Slot), va_P D vwCl [sI k a N g] H → va_D A [sI k a N g] → va_S A H0 H locs → (∀ j, j < i → g j = v) → lv_has ls 4 [(2, .int (nI i)), (3, .int (nI N)), (0, .ref a), (1, .int v)] → W p l e R s m args below meth c H locs cells slots Q (F0 m 5 ls []) := by
  intro n
  induction n with
  | zero => intro i _ h; omega
  | succ n ih =>
    intro i hi hn H locs g ls hP hD hS hg hl
    refine lv_iload_n hx hb dJ7_fill_53178_5 rfl (lv_at hl 0 rfl) ?_
    refine lv_iload_n hx hb dJ7_fill_53178_6 rfl (lv_at hl 1 rfl) ?_
    refine lv_icmp_ge (tgt := 20) hx hb dJ7_fill_53178_7 (by decide) (fun c1 => ?_) (fun c1 => ?_)
    · have hiN : i = N := by
        rcases Nat.lt_or_ge i N with q | q
        · exact absurd c1 (nI_ge q hN)
        · omega
      subst hiN
      exact hend H locs g ls hP hD hS hg
    · have hlt : i < N := by
        rcases Nat.lt_or_ge i N with q | q
        · exact q
        · exact absurd (nI_le q (by omega)) c1
      refine lv_aload_n hx hb dJ7_fill_53178_10 rfl (lv_at hl 2 rfl) ?_
      refine lv_iload_n hx hb dJ7_fill_53178_11 rfl (lv_at hl 0 rfl) ?_
      refine lv_iload_n hx hb dJ7_fill_53178_12 rfl (lv_at hl 3 rfl) ?_
      refine va_iast hx hb hK hP hD hS 0 0 rfl rfl (vp_in_nI hlt hN) dJ7_fill_53178_13 (fun H locs hP hD hS => ?_)
      have ei : (nI i).toNatClampNeg = i := nI_clamp (by omega)
      rw [ei] at hP hD
      have hP : va_P D vwCl [sI k a N (upd g i v)] H := hP
      have hD : va_D A [sI k a N (upd g i v)] := hD
      refine lv_iinc (v := nI (i + 1)) (lv' := [(2, .int (nI (i + 1))), (3, .int (nI N)), (0, .ref a), (1, .int v)]) hx hb dJ7_fill_53178_14 hl (k := 0) rfl (nI_1 i) (by decide) rfl (fun ls hl => ?_)
      refine lv_goto (tgt := 5) hx hb dJ7_fill_53178_17 (by decide) ?_
      exact ih (i + 1) hlt (by omega) H locs (upd g i v) ls hP hD hS (fun j hj => by
        by_cases h : j = i
        · subst h
          simp [upd]
        · have h2 : j < i := by omega
          simp [upd, h, hg j h2]) hl
set_option maxHeartbeats 4000000 in
set_option maxRecDepth 100000 in
theorem c_fillI (l : Launch) (D : va_G) (k : Nat → ClassId) (a N : Nat) (f : Nat → Int32) (v : Int32) (hNl : N < 2 ^ 31) (sz : Nat) : Met l yJ7_fill_53178 (.code yJ7_fill_53178 cJ7_fill_53178 4 none :: TB) (rmw 1 0 0) (va_Pc [.ref a, .int v] (PW D k sz [sI k a N f])) (QV D (S := Nat → Int32) (fun g => ∀ j, j < N → g j = v) (fun g => [sI k a N g]) (fun _ => []) [sI k a N f] sz) 0 0 (va_A [sI k a N f] sz) := by
  refine Met.ofW (cc := cJ7_fill_53178) (maxL := 4) (ret := none) (by decide) rfl ?_
  intro p e s m args below meth c s₁ B hml hv
  obtain ⟨rfl, hsz, hP, hK, hD0, hN⟩ := hv
  have hx := B.exec
  have hb := B.bytes
  have hr := B.returns
  have hT : ∀ w ∈ TB, w.before ([.ref a, .int v] : List Value).toArray s = true := fun w h => atoms_spec (ws := .code yJ7_fill_53178 cJ7_fill_53178 4 none :: TB) B.pre w (List.mem_cons_of_mem _ h)
  have hown : s.vm.findClass RJ7 = some m.cls := findClass_of_methodNamed B.named
  have S : CallFix p m c cJ7_fill_53178 4 s _ TB RJ7 := ⟨hx, hb, hml, hown, hT⟩
  subst hsz
  have hD := hD0.self (sz := s.heap.size)
  generalize hAe : va_A [sI k a N f] s.heap.size = A at hD ⊢
  have hA : ∀ q : Nat, s.heap.size ≤ q → A q := fun q h => by rw [← hAe]; exact Or.inr h
  have hS : va_S A s.heap s.heap [] := va_S.rf
  have hP : va_P D vwCl [sI k a N f] s.heap := hP
  have hl := lv_entry ([.ref a, .int v]) (n := 4) (Nat.le_of_ble_eq_true rfl)
  rw [lg_entry_eq]
  generalize (lg_sl ([.ref a, .int v]) ++ List.replicate (4 - (lg_sl ([.ref a, .int v])).length) Slot.unset).toArray = ls at hl ⊢
  have hl : lv_has ls 4 [(0, .ref a), (1, .int v)] := hl
  refine lv_iconst (v := 0) hx hb dJ7_fill_53178_0 (by decide) ?_
  refine lv_istore_n (lv' := [(2, .int 0), (0, .ref a), (1, .int v)]) hx hb dJ7_fill_53178_1 rfl hl (by decide) rfl (fun ls hl => ?_)
  refine lv_aload_n hx hb dJ7_fill_53178_2 rfl (lv_at hl 1 rfl) ?_
  refine va_alen (v := nI N) hx hb hK hP 0 0 rfl rfl rfl dJ7_fill_53178_3 ?_
  refine lv_istore_n (lv' := [(3, .int (nI N)), (2, .int 0), (0, .ref a), (1, .int v)]) hx hb dJ7_fill_53178_4 rfl hl (by decide) rfl (fun ls hl => ?_)
  refine fillI_loop (v := v) hNl hx hb hK (fun H locs g ls hP hD hS hg => ?_) (N + 1) 0 (Nat.zero_le _) (by omega) _ _ f ls hP hD hS (fun j hj => absurd hj (Nat.not_lt_zero j)) (lv_sub hl [1, 0, 2, 3] rfl)
  have hK9 := hK.sub (tys' := []) [] rfl
  subst hAe
  exact W.vret hx hb hr (fun t ht hW => ⟨⟨g, rfl, hg, by rw [ht]; exact hP, va_K.moved hW.alike hK9, hD⟩, hS.F ht⟩) hS.2.2 dJ7_fill_53178_20

theorem fillJ_loop {p : Program} {l : Launch} {e : Env} {R : Room} {s : State} {m : MethodId} {args : Array Value} {below : List Frame} {meth : Method} {c : Code} {cells slots : Nat} {Q : State → Prop} {D : va_G} {k : Nat → ClassId} {A : Nat → Prop} {H0 : Heap} {a N : Nat} {v : Int64} (hN : N < 2 ^ 31) (hx : p.tables.exec = Jvm.exec) (hb : c.code = cJ7_fill_d0a16) (hK : va_K D vwCl (KT k) s)
    (hend : ∀ (H : Heap) (locs : List Loc) (g : Nat → Int64) (ls : Array Slot), va_P D vwCl [sJ k a N g] H → va_D A [sJ k a N g] → va_S A H0 H locs → (∀ j, j < N → g j = v) → W p l e R s m args below meth c H locs cells slots Q (F0 m 22 ls [])) :
    ∀ (n i : Nat), i ≤ N → N - i < n → ∀ (H : Heap) (locs : List Loc) (g : Nat → Int64) (ls : Array Slot), va_P D vwCl [sJ k a N g] H → va_D A [sJ k a N g] → va_S A H0 H locs → (∀ j, j < i → g j = v) → lv_has ls 5 [(3, .int (nI i)), (4, .int (nI N)), (0, .ref a), (1, .long v)] → W p l e R s m args below meth c H locs cells slots Q (F0 m 6 ls []) := by
  intro n
  induction n with
  | zero => intro i _ h; omega
  | succ n ih =>
    intro i hi hn H locs g ls hP hD hS hg hl
    refine lv_iload_n hx hb dJ7_fill_d0a16_6 rfl (lv_at hl 0 rfl) ?_
    refine lv_iload hx hb dJ7_fill_d0a16_7 (lv_at hl 1 rfl) ?_
    refine lv_icmp_ge (tgt := 22) hx hb dJ7_fill_d0a16_9 (by decide) (fun c1 => ?_) (fun c1 => ?_)
    · have hiN : i = N := by
        rcases Nat.lt_or_ge i N with q | q
        · exact absurd c1 (nI_ge q hN)
        · omega
      subst hiN
      exact hend H locs g ls hP hD hS hg
    · have hlt : i < N := by
        rcases Nat.lt_or_ge i N with q | q
        · exact q
        · exact absurd (nI_le q (by omega)) c1
      refine lv_aload_n hx hb dJ7_fill_d0a16_12 rfl (lv_at hl 2 rfl) ?_
      refine lv_iload_n hx hb dJ7_fill_d0a16_13 rfl (lv_at hl 0 rfl) ?_
      refine lv_lload_n hx hb dJ7_fill_d0a16_14 rfl (lv_at hl 3 rfl) ?_
      refine va_last hx hb hK hP hD hS 0 2 rfl rfl (vp_in_nI hlt hN) dJ7_fill_d0a16_15 (fun H locs hP hD hS => ?_)
      have ei : (nI i).toNatClampNeg = i := nI_clamp (by omega)
      rw [ei] at hP hD
      have hP : va_P D vwCl [sJ k a N (vp_updL g i v)] H := hP
      have hD : va_D A [sJ k a N (vp_updL g i v)] := hD
      refine lv_iinc (v := nI (i + 1)) (lv' := [(3, .int (nI (i + 1))), (4, .int (nI N)), (0, .ref a), (1, .long v)]) hx hb dJ7_fill_d0a16_16 hl (k := 0) rfl (nI_1 i) (by decide) rfl (fun ls hl => ?_)
      refine lv_goto (tgt := 6) hx hb dJ7_fill_d0a16_19 (by decide) ?_
      exact ih (i + 1) hlt (by omega) H locs (vp_updL g i v) ls hP hD hS (fun j hj => by
        by_cases h : j = i
        · subst h
          simp [vp_updL]
        · have h2 : j < i := by omega
          simp [vp_updL, h, hg j h2]) hl
set_option maxHeartbeats 4000000 in
set_option maxRecDepth 100000 in
theorem c_fillJ (l : Launch) (D : va_G) (k : Nat → ClassId) (a N : Nat) (f : Nat → Int64) (v : Int64) (hNl : N < 2 ^ 31) (sz : Nat) : Met l yJ7_fill_d0a16 (.code yJ7_fill_d0a16 cJ7_fill_d0a16 5 none :: TB) (rmw 1 0 0) (va_Pc [.ref a, .long v] (PW D k sz [sJ k a N f])) (QV D (S := Nat → Int64) (fun g => ∀ j, j < N → g j = v) (fun g => [sJ k a N g]) (fun _ => []) [sJ k a N f] sz) 0 0 (va_A [sJ k a N f] sz) := by
  refine Met.ofW (cc := cJ7_fill_d0a16) (maxL := 5) (ret := none) (by decide) rfl ?_
  intro p e s m args below meth c s₁ B hml hv
  obtain ⟨rfl, hsz, hP, hK, hD0, hN⟩ := hv
  have hx := B.exec
  have hb := B.bytes
  have hr := B.returns
  have hT : ∀ w ∈ TB, w.before ([.ref a, .long v] : List Value).toArray s = true := fun w h => atoms_spec (ws := .code yJ7_fill_d0a16 cJ7_fill_d0a16 5 none :: TB) B.pre w (List.mem_cons_of_mem _ h)
  have hown : s.vm.findClass RJ7 = some m.cls := findClass_of_methodNamed B.named
  have S : CallFix p m c cJ7_fill_d0a16 5 s _ TB RJ7 := ⟨hx, hb, hml, hown, hT⟩
  subst hsz
  have hD := hD0.self (sz := s.heap.size)
  generalize hAe : va_A [sJ k a N f] s.heap.size = A at hD ⊢
  have hA : ∀ q : Nat, s.heap.size ≤ q → A q := fun q h => by rw [← hAe]; exact Or.inr h
  have hS : va_S A s.heap s.heap [] := va_S.rf
  have hP : va_P D vwCl [sJ k a N f] s.heap := hP
  have hl := lv_entry ([.ref a, .long v]) (n := 5) (Nat.le_of_ble_eq_true rfl)
  rw [lg_entry_eq]
  generalize (lg_sl ([.ref a, .long v]) ++ List.replicate (5 - (lg_sl ([.ref a, .long v])).length) Slot.unset).toArray = ls at hl ⊢
  have hl : lv_has ls 5 [(0, .ref a), (1, .long v)] := hl
  refine lv_iconst (v := 0) hx hb dJ7_fill_d0a16_0 (by decide) ?_
  refine lv_istore_n (lv' := [(3, .int 0), (0, .ref a), (1, .long v)]) hx hb dJ7_fill_d0a16_1 rfl hl (by decide) rfl (fun ls hl => ?_)
  refine lv_aload_n hx hb dJ7_fill_d0a16_2 rfl (lv_at hl 1 rfl) ?_
  refine va_alen (v := nI N) hx hb hK hP 0 2 rfl rfl rfl dJ7_fill_d0a16_3 ?_
  refine lv_istore (lv' := [(4, .int (nI N)), (3, .int 0), (0, .ref a), (1, .long v)]) hx hb dJ7_fill_d0a16_4 hl (by decide) rfl (fun ls hl => ?_)
  refine fillJ_loop (v := v) hNl hx hb hK (fun H locs g ls hP hD hS hg => ?_) (N + 1) 0 (Nat.zero_le _) (by omega) _ _ f ls hP hD hS (fun j hj => absurd hj (Nat.not_lt_zero j)) (lv_sub hl [1, 0, 2, 3] rfl)
  have hK9 := hK.sub (tys' := []) [] rfl
  subst hAe
  exact W.vret hx hb hr (fun t ht hW => ⟨⟨g, rfl, hg, by rw [ht]; exact hP, va_K.moved hW.alike hK9, hD⟩, hS.F ht⟩) hS.2.2 dJ7_fill_d0a16_22
end
section
set_option maxHeartbeats 4000000 in
set_option maxRecDepth 100000 in
theorem c_X5_init (l : Launch) (D : va_G) (k : Nat → ClassId) (h0 sz : Nat) : Met l yX5_init (.code yX5_init cX5_init 1 none :: TB) (rmw 2 5 86) (va_Pc [.ref h0] (PW D k sz [(h0, .inr (5, [.null, .null, .null, .null, .null]))])) (QV D (S := UT) (fun u => True) (fun u => [(h0, .inr (5, [.ref (u.1 0), .ref (u.1 1), .ref (u.1 2), .ref (u.1 3), .ref (u.1 4)])), (u.1 0, .inl (k 0, 64, .inl (fun _ => 0))), (u.1 1, .inl (k 0, 8, .inl (fun _ => 0))), (u.1 2, .inl (k 0, 8, .inl (u.2 0))), (u.1 3, .inl (k 0, 3, .inl (fun _ => 0))), (u.1 4, .inl (k 0, 3, .inl (fun _ => 0)))]) (fun _ => []) [(h0, .inr (5, [.null, .null, .null, .null, .null]))] sz) 5 86 (va_A [(h0, .inr (5, [.null, .null, .null, .null, .null]))] sz) := by
  refine Met.ofW (cc := cX5_init) (maxL := 1) (ret := none) (by decide) rfl ?_
  intro p e s m args below meth c s₁ B hml hv
  obtain ⟨rfl, hsz, hP, hK, hD0, hN⟩ := hv
  have hx := B.exec
  have hb := B.bytes
  have hr := B.returns
  have hT : ∀ w ∈ TB, w.before ([.ref h0] : List Value).toArray s = true := fun w h => atoms_spec (ws := .code yX5_init cX5_init 1 none :: TB) B.pre w (List.mem_cons_of_mem _ h)
  have hown : s.vm.findClass RX5 = some m.cls := findClass_of_methodNamed B.named
  have S : CallFix p m c cX5_init 1 s _ TB RX5 := ⟨hx, hb, hml, hown, hT⟩
  have hin : meth.name = "<init>" := (name_of_methodNamed B.named B.method).1
  subst hsz
  have hD := hD0.self (sz := s.heap.size)
  generalize hAe : va_A [(h0, .inr (5, [.null, .null, .null, .null, .null]))] s.heap.size = A at hD ⊢
  have hA : ∀ q : Nat, s.heap.size ≤ q → A q := fun q h => by rw [← hAe]; exact Or.inr h
  have hS : va_S A s.heap s.heap [] := va_S.rf
  have hP : va_P D vwCl [(h0, .inr (5, [.null, .null, .null, .null, .null]))] s.heap := hP
  have hl := lv_entry ([.ref h0]) (n := 1) (Nat.le_of_ble_eq_true rfl)
  rw [lg_entry_eq]
  generalize (lg_sl ([.ref h0]) ++ List.replicate (1 - (lg_sl ([.ref h0])).length) Slot.unset).toArray = ls at hl ⊢
  have hl : lv_has ls 1 [(0, .ref h0)] := hl
  refine lv_aload_n hx hb dX5_init_0 rfl (lv_at hl 0 rfl) ?_
  refine W.objInit hx hb hown (hT _ t163) (hT _ t129) (hT _ t130) rfl (by rw [hml]; exact hl.1) rfl dX5_init_1 (Nat.le_of_ble_eq_true rfl) (Nat.le_of_ble_eq_true rfl) ?_
  refine W.eq (g2 := F0 m 4 ls []) rfl ?_
  refine lv_aload_n hx hb dX5_init_4 rfl (lv_at hl 0 rfl) ?_
  refine lv_bipush (v := 64) hx hb dX5_init_5 (by decide) ?_
  refine n_newa (atype := .int) (ty := .int) (cT := k 0) (N' := 64) (a0 := (64, .inl (fun _ => 0))) 0 ra_int rfl hx hb (hT _ t194) rfl hK hP hD hS hA (fun _ => rfl) (by decide) (by decide) (Nat.le_of_ble_eq_true rfl) (Nat.le_of_ble_eq_true rfl) (Nat.le_of_ble_eq_true rfl) dX5_init_7 (fun q7_1 H hP hD hS => ?_)
  have hP : va_P D vwCl [(h0, .inr (5, [.null, .null, .null, .null, .null])), (q7_1, .inl (k 0, 64, .inl (fun _ => 0)))] H := hP
  have hD : va_D A [(h0, .inr (5, [.null, .null, .null, .null, .null])), (q7_1, .inl (k 0, 64, .inl (fun _ => 0)))] := hD
  refine W.widen (k := 1) (n := 64) (Nat.le_of_ble_eq_true rfl) (Nat.le_of_ble_eq_true rfl) ?_
  refine va_putF (D := D) (ci := 5) (v := .ref q7_1) (ty := .array .int) (C := RX5) (T := TX5) (N := 5) hx hb hT in_X5 tyX5 tyX5_ok nmX5 hown hK hP hD hS 0 rfl rfl 0 (by decide) (hT _ t167) (fun _ h9 => h9) rfl hin rfl (by decide +kernel) rfl rfl (Nat.le_of_ble_eq_true rfl) dX5_init_9 (fun H locs hP hD hS => ?_)
  have hP : va_P D vwCl [(h0, .inr (5, [.ref q7_1, .null, .null, .null, .null])), (q7_1, .inl (k 0, 64, .inl (fun _ => 0)))] H := hP
  have hD : va_D A [(h0, .inr (5, [.ref q7_1, .null, .null, .null, .null])), (q7_1, .inl (k 0, 64, .inl (fun _ => 0)))] := hD
  refine lv_aload_n hx hb dX5_init_12 rfl (lv_at hl 0 rfl) ?_
  refine lv_bipush (v := 8) hx hb dX5_init_13 (by decide) ?_
  refine n_newa (atype := .int) (ty := .int) (cT := k 0) (N' := 8) (a0 := (8, .inl (fun _ => 0))) 0 ra_int rfl hx hb (hT _ t194) rfl hK hP hD hS hA (fun _ => rfl) (by decide) (by decide) (Nat.le_of_ble_eq_true rfl) (Nat.le_of_ble_eq_true rfl) (Nat.le_of_ble_eq_true rfl) dX5_init_15 (fun q15_2 H hP hD hS => ?_)
  have hP : va_P D vwCl [(h0, .inr (5, [.ref q7_1, .null, .null, .null, .null])), (q7_1, .inl (k 0, 64, .inl (fun _ => 0))), (q15_2, .inl (k 0, 8, .inl (fun _ => 0)))] H := hP
  have hD : va_D A [(h0, .inr (5, [.ref q7_1, .null, .null, .null, .null])), (q7_1, .inl (k 0, 64, .inl (fun _ => 0))), (q15_2, .inl (k 0, 8, .inl (fun _ => 0)))] := hD
  refine W.widen (k := 2) (n := 72) (Nat.le_of_ble_eq_true rfl) (Nat.le_of_ble_eq_true rfl) ?_
  refine va_putF (D := D) (ci := 5) (v := .ref q15_2) (ty := .array .int) (C := RX5) (T := TX5) (N := 5) hx hb hT in_X5 tyX5 tyX5_ok nmX5 hown hK hP hD hS 0 rfl rfl 1 (by decide) (hT _ t168) (fun _ h9 => h9) rfl hin rfl (by decide +kernel) rfl rfl (Nat.le_of_ble_eq_true rfl) dX5_init_17 (fun H locs hP hD hS => ?_)
  have hP : va_P D vwCl [(h0, .inr (5, [.ref q7_1, .ref q15_2, .null, .null, .null])), (q7_1, .inl (k 0, 64, .inl (fun _ => 0))), (q15_2, .inl (k 0, 8, .inl (fun _ => 0)))] H := hP
  have hD : va_D A [(h0, .inr (5, [.ref q7_1, .ref q15_2, .null, .null, .null])), (q7_1, .inl (k 0, 64, .inl (fun _ => 0))), (q15_2, .inl (k 0, 8, .inl (fun _ => 0)))] := hD
  refine lv_aload_n hx hb dX5_init_20 rfl (lv_at hl 0 rfl) ?_
  refine lv_bipush (v := 8) hx hb dX5_init_21 (by decide) ?_
  refine n_newa (atype := .int) (ty := .int) (cT := k 0) (N' := 8) (a0 := (8, .inl (fun _ => 0))) 0 ra_int rfl hx hb (hT _ t194) rfl hK hP hD hS hA (fun _ => rfl) (by decide) (by decide) (Nat.le_of_ble_eq_true rfl) (Nat.le_of_ble_eq_true rfl) (Nat.le_of_ble_eq_true rfl) dX5_init_23 (fun q23_3 H hP hD hS => ?_)
  have hP : va_P D vwCl [(h0, .inr (5, [.ref q7_1, .ref q15_2, .null, .null, .null])), (q7_1, .inl (k 0, 64, .inl (fun _ => 0))), (q15_2, .inl (k 0, 8, .inl (fun _ => 0))), (q23_3, .inl (k 0, 8, .inl (fun _ => 0)))] H := hP
  have hD : va_D A [(h0, .inr (5, [.ref q7_1, .ref q15_2, .null, .null, .null])), (q7_1, .inl (k 0, 64, .inl (fun _ => 0))), (q15_2, .inl (k 0, 8, .inl (fun _ => 0))), (q23_3, .inl (k 0, 8, .inl (fun _ => 0)))] := hD
  refine W.widen (k := 3) (n := 80) (Nat.le_of_ble_eq_true rfl) (Nat.le_of_ble_eq_true rfl) ?_
  refine va_putF (D := D) (ci := 5) (v := .ref q23_3) (ty := .array .int) (C := RX5) (T := TX5) (N := 5) hx hb hT in_X5 tyX5 tyX5_ok nmX5 hown hK hP hD hS 0 rfl rfl 2 (by decide) (hT _ t172) (fun _ h9 => h9) rfl hin rfl (by decide +kernel) rfl rfl (Nat.le_of_ble_eq_true rfl) dX5_init_25 (fun H locs hP hD hS => ?_)
  have hP : va_P D vwCl [(h0, .inr (5, [.ref q7_1, .ref q15_2, .ref q23_3, .null, .null])), (q7_1, .inl (k 0, 64, .inl (fun _ => 0))), (q15_2, .inl (k 0, 8, .inl (fun _ => 0))), (q23_3, .inl (k 0, 8, .inl (fun _ => 0)))] H := hP
  have hD : va_D A [(h0, .inr (5, [.ref q7_1, .ref q15_2, .ref q23_3, .null, .null])), (q7_1, .inl (k 0, 64, .inl (fun _ => 0))), (q15_2, .inl (k 0, 8, .inl (fun _ => 0))), (q23_3, .inl (k 0, 8, .inl (fun _ => 0)))] := hD
  refine lv_aload_n hx hb dX5_init_28 rfl (lv_at hl 0 rfl) ?_
  refine lv_iconst (v := 3) hx hb dX5_init_29 (by decide) ?_
  refine n_newa (atype := .int) (ty := .int) (cT := k 0) (N' := 3) (a0 := (3, .inl (fun _ => 0))) 0 ra_int rfl hx hb (hT _ t194) rfl hK hP hD hS hA (fun _ => rfl) (by decide) (by decide) (Nat.le_of_ble_eq_true rfl) (Nat.le_of_ble_eq_true rfl) (Nat.le_of_ble_eq_true rfl) dX5_init_30 (fun q30_4 H hP hD hS => ?_)
  have hP : va_P D vwCl [(h0, .inr (5, [.ref q7_1, .ref q15_2, .ref q23_3, .null, .null])), (q7_1, .inl (k 0, 64, .inl (fun _ => 0))), (q15_2, .inl (k 0, 8, .inl (fun _ => 0))), (q23_3, .inl (k 0, 8, .inl (fun _ => 0))), (q30_4, .inl (k 0, 3, .inl (fun _ => 0)))] H := hP
  have hD : va_D A [(h0, .inr (5, [.ref q7_1, .ref q15_2, .ref q23_3, .null, .null])), (q7_1, .inl (k 0, 64, .inl (fun _ => 0))), (q15_2, .inl (k 0, 8, .inl (fun _ => 0))), (q23_3, .inl (k 0, 8, .inl (fun _ => 0))), (q30_4, .inl (k 0, 3, .inl (fun _ => 0)))] := hD
  refine W.widen (k := 4) (n := 83) (Nat.le_of_ble_eq_true rfl) (Nat.le_of_ble_eq_true rfl) ?_
  refine va_putF (D := D) (ci := 5) (v := .ref q30_4) (ty := .array .int) (C := RX5) (T := TX5) (N := 5) hx hb hT in_X5 tyX5 tyX5_ok nmX5 hown hK hP hD hS 0 rfl rfl 3 (by decide) (hT _ t176) (fun _ h9 => h9) rfl hin rfl (by decide +kernel) rfl rfl (Nat.le_of_ble_eq_true rfl) dX5_init_32 (fun H locs hP hD hS => ?_)
  have hP : va_P D vwCl [(h0, .inr (5, [.ref q7_1, .ref q15_2, .ref q23_3, .ref q30_4, .null])), (q7_1, .inl (k 0, 64, .inl (fun _ => 0))), (q15_2, .inl (k 0, 8, .inl (fun _ => 0))), (q23_3, .inl (k 0, 8, .inl (fun _ => 0))), (q30_4, .inl (k 0, 3, .inl (fun _ => 0)))] H := hP
  have hD : va_D A [(h0, .inr (5, [.ref q7_1, .ref q15_2, .ref q23_3, .ref q30_4, .null])), (q7_1, .inl (k 0, 64, .inl (fun _ => 0))), (q15_2, .inl (k 0, 8, .inl (fun _ => 0))), (q23_3, .inl (k 0, 8, .inl (fun _ => 0))), (q30_4, .inl (k 0, 3, .inl (fun _ => 0)))] := hD
  refine lv_aload_n hx hb dX5_init_35 rfl (lv_at hl 0 rfl) ?_
  refine lv_iconst (v := 3) hx hb dX5_init_36 (by decide) ?_
  refine n_newa (atype := .int) (ty := .int) (cT := k 0) (N' := 3) (a0 := (3, .inl (fun _ => 0))) 0 ra_int rfl hx hb (hT _ t194) rfl hK hP hD hS hA (fun _ => rfl) (by decide) (by decide) (Nat.le_of_ble_eq_true rfl) (Nat.le_of_ble_eq_true rfl) (Nat.le_of_ble_eq_true rfl) dX5_init_37 (fun q37_5 H hP hD hS => ?_)
  have hP : va_P D vwCl [(h0, .inr (5, [.ref q7_1, .ref q15_2, .ref q23_3, .ref q30_4, .null])), (q7_1, .inl (k 0, 64, .inl (fun _ => 0))), (q15_2, .inl (k 0, 8, .inl (fun _ => 0))), (q23_3, .inl (k 0, 8, .inl (fun _ => 0))), (q30_4, .inl (k 0, 3, .inl (fun _ => 0))), (q37_5, .inl (k 0, 3, .inl (fun _ => 0)))] H := hP
  have hD : va_D A [(h0, .inr (5, [.ref q7_1, .ref q15_2, .ref q23_3, .ref q30_4, .null])), (q7_1, .inl (k 0, 64, .inl (fun _ => 0))), (q15_2, .inl (k 0, 8, .inl (fun _ => 0))), (q23_3, .inl (k 0, 8, .inl (fun _ => 0))), (q30_4, .inl (k 0, 3, .inl (fun _ => 0))), (q37_5, .inl (k 0, 3, .inl (fun _ => 0)))] := hD
  refine W.widen (k := 5) (n := 86) (Nat.le_of_ble_eq_true rfl) (Nat.le_of_ble_eq_true rfl) ?_
  refine va_putF (D := D) (ci := 5) (v := .ref q37_5) (ty := .array .int) (C := RX5) (T := TX5) (N := 5) hx hb hT in_X5 tyX5 tyX5_ok nmX5 hown hK hP hD hS 0 rfl rfl 4 (by decide) (hT _ t181) (fun _ h9 => h9) rfl hin rfl (by decide +kernel) rfl rfl (Nat.le_of_ble_eq_true rfl) dX5_init_39 (fun H locs hP hD hS => ?_)
  have hP : va_P D vwCl [(h0, .inr (5, [.ref q7_1, .ref q15_2, .ref q23_3, .ref q30_4, .ref q37_5])), (q7_1, .inl (k 0, 64, .inl (fun _ => 0))), (q15_2, .inl (k 0, 8, .inl (fun _ => 0))), (q23_3, .inl (k 0, 8, .inl (fun _ => 0))), (q30_4, .inl (k 0, 3, .inl (fun _ => 0))), (q37_5, .inl (k 0, 3, .inl (fun _ => 0)))] H := hP
  have hD : va_D A [(h0, .inr (5, [.ref q7_1, .ref q15_2, .ref q23_3, .ref q30_4, .ref q37_5])), (q7_1, .inl (k 0, 64, .inl (fun _ => 0))), (q15_2, .inl (k 0, 8, .inl (fun _ => 0))), (q23_3, .inl (k 0, 8, .inl (fun _ => 0))), (q30_4, .inl (k 0, 3, .inl (fun _ => 0))), (q37_5, .inl (k 0, 3, .inl (fun _ => 0)))] := hD
  refine lv_aload_n hx hb dX5_init_42 rfl (lv_at hl 0 rfl) ?_
  refine va_get (D := D) (ci := 5) (v := .ref q23_3) (C := RX5) (T := TX5) (N := 5) hx hb hT in_X5 hown hK hP 0 rfl rfl 2 (by decide) (hT _ t172) (fun _ h9 => h9) rfl dX5_init_43 ?_
  refine lv_iconst (v := (-1)) hx hb dX5_init_46 (by decide) ?_
  refine rw_v (wc := [(q23_3, .inl (k 0, 8, .inl (fun _ => 0)))]) (wr := [(h0, .inr (5, [.ref q7_1, .ref q15_2, .ref q23_3, .ref q30_4, .ref q37_5])), (q7_1, .inl (k 0, 64, .inl (fun _ => 0))), (q15_2, .inl (k 0, 8, .inl (fun _ => 0))), (q30_4, .inl (k 0, 3, .inl (fun _ => 0))), (q37_5, .inl (k 0, 3, .inl (fun _ => 0)))]) [3] [0, 1, 2, 4, 5] rfl rfl (by decide) (by decide) (by decide) hP hD hS hA (fun hPc hDc => run_S (C := RJ7) (As := [.ref q23_3, .int (-1)]) (rest := []) S (c_fillI l D k q23_3 8 (fun _ => 0) (-1) (by decide) _) (gdC t166) t164 t165 t109 ok_J7_fill_53178 ⟨rfl, rfl, Nat.le_of_ble_eq_true rfl, Nat.le_of_ble_eq_true rfl⟩ (pw_S hK hN hPc hDc) rfl hl.1 rfl (Nat.le_of_ble_eq_true rfl) ⟨Nat.le_of_ble_eq_true rfl, Nat.le_of_ble_eq_true rfl⟩ dX5_init_47) (fun u47_6 H locs hu47_6 hKu47_6 hP hD hS => ?_)
  have hP : va_P D vwCl [(h0, .inr (5, [.ref q7_1, .ref q15_2, .ref q23_3, .ref q30_4, .ref q37_5])), (q7_1, .inl (k 0, 64, .inl (fun _ => 0))), (q15_2, .inl (k 0, 8, .inl (fun _ => 0))), (q30_4, .inl (k 0, 3, .inl (fun _ => 0))), (q37_5, .inl (k 0, 3, .inl (fun _ => 0))), (q23_3, .inl (k 0, 8, .inl u47_6))] H := hP
  have hD : va_D A [(h0, .inr (5, [.ref q7_1, .ref q15_2, .ref q23_3, .ref q30_4, .ref q37_5])), (q7_1, .inl (k 0, 64, .inl (fun _ => 0))), (q15_2, .inl (k 0, 8, .inl (fun _ => 0))), (q30_4, .inl (k 0, 3, .inl (fun _ => 0))), (q37_5, .inl (k 0, 3, .inl (fun _ => 0))), (q23_3, .inl (k 0, 8, .inl u47_6))] := hD
  have hP9 := hP.sub (ws' := [(h0, .inr (5, [.ref q7_1, .ref q15_2, .ref q23_3, .ref q30_4, .ref q37_5])), (q7_1, .inl (k 0, 64, .inl (fun _ => 0))), (q15_2, .inl (k 0, 8, .inl (fun _ => 0))), (q23_3, .inl (k 0, 8, .inl u47_6)), (q30_4, .inl (k 0, 3, .inl (fun _ => 0))), (q37_5, .inl (k 0, 3, .inl (fun _ => 0)))]) [0, 1, 2, 5, 3, 4] rfl
  have hD9 := hD.sub (ws' := [(h0, .inr (5, [.ref q7_1, .ref q15_2, .ref q23_3, .ref q30_4, .ref q37_5])), (q7_1, .inl (k 0, 64, .inl (fun _ => 0))), (q15_2, .inl (k 0, 8, .inl (fun _ => 0))), (q23_3, .inl (k 0, 8, .inl u47_6)), (q30_4, .inl (k 0, 3, .inl (fun _ => 0))), (q37_5, .inl (k 0, 3, .inl (fun _ => 0)))]) [0, 1, 2, 5, 3, 4] (by decide) rfl
  have hK9 := hK.sub (tys' := []) [] rfl
  subst hAe
  exact W.vret hx hb hr (fun t ht hW => ⟨⟨mkU [q7_1, q15_2, q23_3, q30_4, q37_5] [u47_6], rfl, trivial, by rw [ht]; exact hP9, va_K.moved hW.alike hK9, hD9⟩, hS.F ht⟩) hS.2.2 dX5_init_50
set_option maxHeartbeats 4000000 in
set_option maxRecDepth 100000 in
theorem c_X1_init (l : Launch) (D : va_G) (k : Nat → ClassId) (h0 sz : Nat) : Met l yX1_init (.code yX1_init cX1_init 1 none :: TB) (rmw 3 12 133) (va_Pc [.ref h0] (PW D k sz [(h0, .inr (1, [.int 0, .int 0, .int 0, .int 0, .int 0, .int 0, .int 0, .null, .null, .null, .null, .null, .null, .null]))])) (QV D (S := UT) (fun u => True) (fun u => [(h0, .inr (1, [.int 0, .int 0, .int 0, .int 0, .int 0, .int 0, .int 0, .ref (u.1 0), .ref (u.1 1), .ref (u.1 2), .ref (u.1 3), .ref (u.1 4), .ref (u.1 5), .ref (u.1 6)])), (u.1 0, .inl (k 0, 8, .inl (fun _ => 0))), (u.1 1, .inl (k 0, 8, .inl (fun _ => 0))), (u.1 2, .inl (k 0, 8, .inl (fun _ => 0))), (u.1 3, .inl (k 0, 6, .inl (fun _ => 0))), (u.1 4, .inl (k 0, 6, .inl (fun _ => 0))), (u.1 5, .inl (k 0, 6, .inl (fun _ => 0))), (u.1 6, .inr (5, [.ref (u.1 7), .ref (u.1 8), .ref (u.1 9), .ref (u.1 10), .ref (u.1 11)])), (u.1 7, .inl (k 0, 64, .inl (fun _ => 0))), (u.1 8, .inl (k 0, 8, .inl (fun _ => 0))), (u.1 9, .inl (k 0, 8, .inl (u.2 0))), (u.1 10, .inl (k 0, 3, .inl (fun _ => 0))), (u.1 11, .inl (k 0, 3, .inl (fun _ => 0)))]) (fun _ => []) [(h0, .inr (1, [.int 0, .int 0, .int 0, .int 0, .int 0, .int 0, .int 0, .null, .null, .null, .null, .null, .null, .null]))] sz) 12 133 (va_A [(h0, .inr (1, [.int 0, .int 0, .int 0, .int 0, .int 0, .int 0, .int 0, .null, .null, .null, .null, .null, .null, .null]))] sz) := by
  refine Met.ofW (cc := cX1_init) (maxL := 1) (ret := none) (by decide) rfl ?_
  intro p e s m args below meth c s₁ B hml hv
  obtain ⟨rfl, hsz, hP, hK, hD0, hN⟩ := hv
  have hx := B.exec
  have hb := B.bytes
  have hr := B.returns
  have hT : ∀ w ∈ TB, w.before ([.ref h0] : List Value).toArray s = true := fun w h => atoms_spec (ws := .code yX1_init cX1_init 1 none :: TB) B.pre w (List.mem_cons_of_mem _ h)
  have hown : s.vm.findClass RX1 = some m.cls := findClass_of_methodNamed B.named
  have S : CallFix p m c cX1_init 1 s _ TB RX1 := ⟨hx, hb, hml, hown, hT⟩
  have hin : meth.name = "<init>" := (name_of_methodNamed B.named B.method).1
  subst hsz
  have hD := hD0.self (sz := s.heap.size)
  generalize hAe : va_A [(h0, .inr (1, [.int 0, .int 0, .int 0, .int 0, .int 0, .int 0, .int 0, .null, .null, .null, .null, .null, .null, .null]))] s.heap.size = A at hD ⊢
  have hA : ∀ q : Nat, s.heap.size ≤ q → A q := fun q h => by rw [← hAe]; exact Or.inr h
  have hS : va_S A s.heap s.heap [] := va_S.rf
  have hP : va_P D vwCl [(h0, .inr (1, [.int 0, .int 0, .int 0, .int 0, .int 0, .int 0, .int 0, .null, .null, .null, .null, .null, .null, .null]))] s.heap := hP
  have hl := lv_entry ([.ref h0]) (n := 1) (Nat.le_of_ble_eq_true rfl)
  rw [lg_entry_eq]
  generalize (lg_sl ([.ref h0]) ++ List.replicate (1 - (lg_sl ([.ref h0])).length) Slot.unset).toArray = ls at hl ⊢
  have hl : lv_has ls 1 [(0, .ref h0)] := hl
  refine lv_aload_n hx hb dX1_init_0 rfl (lv_at hl 0 rfl) ?_
  refine W.objInit hx hb hown (hT _ t157) (hT _ t129) (hT _ t130) rfl (by rw [hml]; exact hl.1) rfl dX1_init_1 (Nat.le_of_ble_eq_true rfl) (Nat.le_of_ble_eq_true rfl) ?_
  refine W.eq (g2 := F0 m 4 ls []) rfl ?_
  refine lv_aload_n hx hb dX1_init_4 rfl (lv_at hl 0 rfl) ?_
  refine lv_bipush (v := 8) hx hb dX1_init_5 (by decide) ?_
  refine n_newa (atype := .int) (ty := .int) (cT := k 0) (N' := 8) (a0 := (8, .inl (fun _ => 0))) 0 ra_int rfl hx hb (hT _ t194) rfl hK hP hD hS hA (fun _ => rfl) (by decide) (by decide) (Nat.le_of_ble_eq_true rfl) (Nat.le_of_ble_eq_true rfl) (Nat.le_of_ble_eq_true rfl) dX1_init_7 (fun q7_1 H hP hD hS => ?_)
  have hP : va_P D vwCl [(h0, .inr (1, [.int 0, .int 0, .int 0, .int 0, .int 0, .int 0, .int 0, .null, .null, .null, .null, .null, .null, .null])), (q7_1, .inl (k 0, 8, .inl (fun _ => 0)))] H := hP
  have hD : va_D A [(h0, .inr (1, [.int 0, .int 0, .int 0, .int 0, .int 0, .int 0, .int 0, .null, .null, .null, .null, .null, .null, .null])), (q7_1, .inl (k 0, 8, .inl (fun _ => 0)))] := hD
  refine W.widen (k := 1) (n := 8) (Nat.le_of_ble_eq_true rfl) (Nat.le_of_ble_eq_true rfl) ?_
  refine va_putF (D := D) (ci := 1) (v := .ref q7_1) (ty := .array .int) (C := RX1) (T := TX1) (N := 14) hx hb hT in_X1 tyX1 tyX1_ok nmX1 hown hK hP hD hS 0 rfl rfl 7 (by decide) (hT _ t222) (fun _ h9 => h9) rfl hin rfl (by decide +kernel) rfl rfl (Nat.le_of_ble_eq_true rfl) dX1_init_9 (fun H locs hP hD hS => ?_)
  have hP : va_P D vwCl [(h0, .inr (1, [.int 0, .int 0, .int 0, .int 0, .int 0, .int 0, .int 0, .ref q7_1, .null, .null, .null, .null, .null, .null])), (q7_1, .inl (k 0, 8, .inl (fun _ => 0)))] H := hP
  have hD : va_D A [(h0, .inr (1, [.int 0, .int 0, .int 0, .int 0, .int 0, .int 0, .int 0, .ref q7_1, .null, .null, .null, .null, .null, .null])), (q7_1, .inl (k 0, 8, .inl (fun _ => 0)))] := hD
  refine lv_aload_n hx hb dX1_init_12 rfl (lv_at hl 0 rfl) ?_
  refine lv_bipush (v := 8) hx hb dX1_init_13 (by decide) ?_
  refine n_newa (atype := .int) (ty := .int) (cT := k 0) (N' := 8) (a0 := (8, .inl (fun _ => 0))) 0 ra_int rfl hx hb (hT _ t194) rfl hK hP hD hS hA (fun _ => rfl) (by decide) (by decide) (Nat.le_of_ble_eq_true rfl) (Nat.le_of_ble_eq_true rfl) (Nat.le_of_ble_eq_true rfl) dX1_init_15 (fun q15_2 H hP hD hS => ?_)
  have hP : va_P D vwCl [(h0, .inr (1, [.int 0, .int 0, .int 0, .int 0, .int 0, .int 0, .int 0, .ref q7_1, .null, .null, .null, .null, .null, .null])), (q7_1, .inl (k 0, 8, .inl (fun _ => 0))), (q15_2, .inl (k 0, 8, .inl (fun _ => 0)))] H := hP
  have hD : va_D A [(h0, .inr (1, [.int 0, .int 0, .int 0, .int 0, .int 0, .int 0, .int 0, .ref q7_1, .null, .null, .null, .null, .null, .null])), (q7_1, .inl (k 0, 8, .inl (fun _ => 0))), (q15_2, .inl (k 0, 8, .inl (fun _ => 0)))] := hD
  refine W.widen (k := 2) (n := 16) (Nat.le_of_ble_eq_true rfl) (Nat.le_of_ble_eq_true rfl) ?_
  refine va_putF (D := D) (ci := 1) (v := .ref q15_2) (ty := .array .int) (C := RX1) (T := TX1) (N := 14) hx hb hT in_X1 tyX1 tyX1_ok nmX1 hown hK hP hD hS 0 rfl rfl 8 (by decide) (hT _ t225) (fun _ h9 => h9) rfl hin rfl (by decide +kernel) rfl rfl (Nat.le_of_ble_eq_true rfl) dX1_init_17 (fun H locs hP hD hS => ?_)
  have hP : va_P D vwCl [(h0, .inr (1, [.int 0, .int 0, .int 0, .int 0, .int 0, .int 0, .int 0, .ref q7_1, .ref q15_2, .null, .null, .null, .null, .null])), (q7_1, .inl (k 0, 8, .inl (fun _ => 0))), (q15_2, .inl (k 0, 8, .inl (fun _ => 0)))] H := hP
  have hD : va_D A [(h0, .inr (1, [.int 0, .int 0, .int 0, .int 0, .int 0, .int 0, .int 0, .ref q7_1, .ref q15_2, .null, .null, .null, .null, .null])), (q7_1, .inl (k 0, 8, .inl (fun _ => 0))), (q15_2, .inl (k 0, 8, .inl (fun _ => 0)))] := hD
  refine lv_aload_n hx hb dX1_init_20 rfl (lv_at hl 0 rfl) ?_
  refine lv_bipush (v := 8) hx hb dX1_init_21 (by decide) ?_
  refine n_newa (atype := .int) (ty := .int) (cT := k 0) (N' := 8) (a0 := (8, .inl (fun _ => 0))) 0 ra_int rfl hx hb (hT _ t194) rfl hK hP hD hS hA (fun _ => rfl) (by decide) (by decide) (Nat.le_of_ble_eq_true rfl) (Nat.le_of_ble_eq_true rfl) (Nat.le_of_ble_eq_true rfl) dX1_init_23 (fun q23_3 H hP hD hS => ?_)
  have hP : va_P D vwCl [(h0, .inr (1, [.int 0, .int 0, .int 0, .int 0, .int 0, .int 0, .int 0, .ref q7_1, .ref q15_2, .null, .null, .null, .null, .null])), (q7_1, .inl (k 0, 8, .inl (fun _ => 0))), (q15_2, .inl (k 0, 8, .inl (fun _ => 0))), (q23_3, .inl (k 0, 8, .inl (fun _ => 0)))] H := hP
  have hD : va_D A [(h0, .inr (1, [.int 0, .int 0, .int 0, .int 0, .int 0, .int 0, .int 0, .ref q7_1, .ref q15_2, .null, .null, .null, .null, .null])), (q7_1, .inl (k 0, 8, .inl (fun _ => 0))), (q15_2, .inl (k 0, 8, .inl (fun _ => 0))), (q23_3, .inl (k 0, 8, .inl (fun _ => 0)))] := hD
  refine W.widen (k := 3) (n := 24) (Nat.le_of_ble_eq_true rfl) (Nat.le_of_ble_eq_true rfl) ?_
  refine va_putF (D := D) (ci := 1) (v := .ref q23_3) (ty := .array .int) (C := RX1) (T := TX1) (N := 14) hx hb hT in_X1 tyX1 tyX1_ok nmX1 hown hK hP hD hS 0 rfl rfl 9 (by decide) (hT _ t228) (fun _ h9 => h9) rfl hin rfl (by decide +kernel) rfl rfl (Nat.le_of_ble_eq_true rfl) dX1_init_25 (fun H locs hP hD hS => ?_)
  have hP : va_P D vwCl [(h0, .inr (1, [.int 0, .int 0, .int 0, .int 0, .int 0, .int 0, .int 0, .ref q7_1, .ref q15_2, .ref q23_3, .null, .null, .null, .null])), (q7_1, .inl (k 0, 8, .inl (fun _ => 0))), (q15_2, .inl (k 0, 8, .inl (fun _ => 0))), (q23_3, .inl (k 0, 8, .inl (fun _ => 0)))] H := hP
  have hD : va_D A [(h0, .inr (1, [.int 0, .int 0, .int 0, .int 0, .int 0, .int 0, .int 0, .ref q7_1, .ref q15_2, .ref q23_3, .null, .null, .null, .null])), (q7_1, .inl (k 0, 8, .inl (fun _ => 0))), (q15_2, .inl (k 0, 8, .inl (fun _ => 0))), (q23_3, .inl (k 0, 8, .inl (fun _ => 0)))] := hD
  refine lv_aload_n hx hb dX1_init_28 rfl (lv_at hl 0 rfl) ?_
  refine lv_bipush (v := 6) hx hb dX1_init_29 (by decide) ?_
  refine n_newa (atype := .int) (ty := .int) (cT := k 0) (N' := 6) (a0 := (6, .inl (fun _ => 0))) 0 ra_int rfl hx hb (hT _ t194) rfl hK hP hD hS hA (fun _ => rfl) (by decide) (by decide) (Nat.le_of_ble_eq_true rfl) (Nat.le_of_ble_eq_true rfl) (Nat.le_of_ble_eq_true rfl) dX1_init_31 (fun q31_4 H hP hD hS => ?_)
  have hP : va_P D vwCl [(h0, .inr (1, [.int 0, .int 0, .int 0, .int 0, .int 0, .int 0, .int 0, .ref q7_1, .ref q15_2, .ref q23_3, .null, .null, .null, .null])), (q7_1, .inl (k 0, 8, .inl (fun _ => 0))), (q15_2, .inl (k 0, 8, .inl (fun _ => 0))), (q23_3, .inl (k 0, 8, .inl (fun _ => 0))), (q31_4, .inl (k 0, 6, .inl (fun _ => 0)))] H := hP
  have hD : va_D A [(h0, .inr (1, [.int 0, .int 0, .int 0, .int 0, .int 0, .int 0, .int 0, .ref q7_1, .ref q15_2, .ref q23_3, .null, .null, .null, .null])), (q7_1, .inl (k 0, 8, .inl (fun _ => 0))), (q15_2, .inl (k 0, 8, .inl (fun _ => 0))), (q23_3, .inl (k 0, 8, .inl (fun _ => 0))), (q31_4, .inl (k 0, 6, .inl (fun _ => 0)))] := hD
  refine W.widen (k := 4) (n := 30) (Nat.le_of_ble_eq_true rfl) (Nat.le_of_ble_eq_true rfl) ?_
  refine va_putF (D := D) (ci := 1) (v := .ref q31_4) (ty := .array .int) (C := RX1) (T := TX1) (N := 14) hx hb hT in_X1 tyX1 tyX1_ok nmX1 hown hK hP hD hS 0 rfl rfl 10 (by decide) (hT _ t233) (fun _ h9 => h9) rfl hin rfl (by decide +kernel) rfl rfl (Nat.le_of_ble_eq_true rfl) dX1_init_33 (fun H locs hP hD hS => ?_)
  have hP : va_P D vwCl [(h0, .inr (1, [.int 0, .int 0, .int 0, .int 0, .int 0, .int 0, .int 0, .ref q7_1, .ref q15_2, .ref q23_3, .ref q31_4, .null, .null, .null])), (q7_1, .inl (k 0, 8, .inl (fun _ => 0))), (q15_2, .inl (k 0, 8, .inl (fun _ => 0))), (q23_3, .inl (k 0, 8, .inl (fun _ => 0))), (q31_4, .inl (k 0, 6, .inl (fun _ => 0)))] H := hP
  have hD : va_D A [(h0, .inr (1, [.int 0, .int 0, .int 0, .int 0, .int 0, .int 0, .int 0, .ref q7_1, .ref q15_2, .ref q23_3, .ref q31_4, .null, .null, .null])), (q7_1, .inl (k 0, 8, .inl (fun _ => 0))), (q15_2, .inl (k 0, 8, .inl (fun _ => 0))), (q23_3, .inl (k 0, 8, .inl (fun _ => 0))), (q31_4, .inl (k 0, 6, .inl (fun _ => 0)))] := hD
  refine lv_aload_n hx hb dX1_init_36 rfl (lv_at hl 0 rfl) ?_
  refine lv_bipush (v := 6) hx hb dX1_init_37 (by decide) ?_
  refine n_newa (atype := .int) (ty := .int) (cT := k 0) (N' := 6) (a0 := (6, .inl (fun _ => 0))) 0 ra_int rfl hx hb (hT _ t194) rfl hK hP hD hS hA (fun _ => rfl) (by decide) (by decide) (Nat.le_of_ble_eq_true rfl) (Nat.le_of_ble_eq_true rfl) (Nat.le_of_ble_eq_true rfl) dX1_init_39 (fun q39_5 H hP hD hS => ?_)
  have hP : va_P D vwCl [(h0, .inr (1, [.int 0, .int 0, .int 0, .int 0, .int 0, .int 0, .int 0, .ref q7_1, .ref q15_2, .ref q23_3, .ref q31_4, .null, .null, .null])), (q7_1, .inl (k 0, 8, .inl (fun _ => 0))), (q15_2, .inl (k 0, 8, .inl (fun _ => 0))), (q23_3, .inl (k 0, 8, .inl (fun _ => 0))), (q31_4, .inl (k 0, 6, .inl (fun _ => 0))), (q39_5, .inl (k 0, 6, .inl (fun _ => 0)))] H := hP
  have hD : va_D A [(h0, .inr (1, [.int 0, .int 0, .int 0, .int 0, .int 0, .int 0, .int 0, .ref q7_1, .ref q15_2, .ref q23_3, .ref q31_4, .null, .null, .null])), (q7_1, .inl (k 0, 8, .inl (fun _ => 0))), (q15_2, .inl (k 0, 8, .inl (fun _ => 0))), (q23_3, .inl (k 0, 8, .inl (fun _ => 0))), (q31_4, .inl (k 0, 6, .inl (fun _ => 0))), (q39_5, .inl (k 0, 6, .inl (fun _ => 0)))] := hD
  refine W.widen (k := 5) (n := 36) (Nat.le_of_ble_eq_true rfl) (Nat.le_of_ble_eq_true rfl) ?_
  refine va_putF (D := D) (ci := 1) (v := .ref q39_5) (ty := .array .int) (C := RX1) (T := TX1) (N := 14) hx hb hT in_X1 tyX1 tyX1_ok nmX1 hown hK hP hD hS 0 rfl rfl 11 (by decide) (hT _ t235) (fun _ h9 => h9) rfl hin rfl (by decide +kernel) rfl rfl (Nat.le_of_ble_eq_true rfl) dX1_init_41 (fun H locs hP hD hS => ?_)
  have hP : va_P D vwCl [(h0, .inr (1, [.int 0, .int 0, .int 0, .int 0, .int 0, .int 0, .int 0, .ref q7_1, .ref q15_2, .ref q23_3, .ref q31_4, .ref q39_5, .null, .null])), (q7_1, .inl (k 0, 8, .inl (fun _ => 0))), (q15_2, .inl (k 0, 8, .inl (fun _ => 0))), (q23_3, .inl (k 0, 8, .inl (fun _ => 0))), (q31_4, .inl (k 0, 6, .inl (fun _ => 0))), (q39_5, .inl (k 0, 6, .inl (fun _ => 0)))] H := hP
  have hD : va_D A [(h0, .inr (1, [.int 0, .int 0, .int 0, .int 0, .int 0, .int 0, .int 0, .ref q7_1, .ref q15_2, .ref q23_3, .ref q31_4, .ref q39_5, .null, .null])), (q7_1, .inl (k 0, 8, .inl (fun _ => 0))), (q15_2, .inl (k 0, 8, .inl (fun _ => 0))), (q23_3, .inl (k 0, 8, .inl (fun _ => 0))), (q31_4, .inl (k 0, 6, .inl (fun _ => 0))), (q39_5, .inl (k 0, 6, .inl (fun _ => 0)))] := hD
  refine lv_aload_n hx hb dX1_init_44 rfl (lv_at hl 0 rfl) ?_
  refine lv_bipush (v := 6) hx hb dX1_init_45 (by decide) ?_
  refine n_newa (atype := .int) (ty := .int) (cT := k 0) (N' := 6) (a0 := (6, .inl (fun _ => 0))) 0 ra_int rfl hx hb (hT _ t194) rfl hK hP hD hS hA (fun _ => rfl) (by decide) (by decide) (Nat.le_of_ble_eq_true rfl) (Nat.le_of_ble_eq_true rfl) (Nat.le_of_ble_eq_true rfl) dX1_init_47 (fun q47_6 H hP hD hS => ?_)
  have hP : va_P D vwCl [(h0, .inr (1, [.int 0, .int 0, .int 0, .int 0, .int 0, .int 0, .int 0, .ref q7_1, .ref q15_2, .ref q23_3, .ref q31_4, .ref q39_5, .null, .null])), (q7_1, .inl (k 0, 8, .inl (fun _ => 0))), (q15_2, .inl (k 0, 8, .inl (fun _ => 0))), (q23_3, .inl (k 0, 8, .inl (fun _ => 0))), (q31_4, .inl (k 0, 6, .inl (fun _ => 0))), (q39_5, .inl (k 0, 6, .inl (fun _ => 0))), (q47_6, .inl (k 0, 6, .inl (fun _ => 0)))] H := hP
  have hD : va_D A [(h0, .inr (1, [.int 0, .int 0, .int 0, .int 0, .int 0, .int 0, .int 0, .ref q7_1, .ref q15_2, .ref q23_3, .ref q31_4, .ref q39_5, .null, .null])), (q7_1, .inl (k 0, 8, .inl (fun _ => 0))), (q15_2, .inl (k 0, 8, .inl (fun _ => 0))), (q23_3, .inl (k 0, 8, .inl (fun _ => 0))), (q31_4, .inl (k 0, 6, .inl (fun _ => 0))), (q39_5, .inl (k 0, 6, .inl (fun _ => 0))), (q47_6, .inl (k 0, 6, .inl (fun _ => 0)))] := hD
  refine W.widen (k := 6) (n := 42) (Nat.le_of_ble_eq_true rfl) (Nat.le_of_ble_eq_true rfl) ?_
  refine va_putF (D := D) (ci := 1) (v := .ref q47_6) (ty := .array .int) (C := RX1) (T := TX1) (N := 14) hx hb hT in_X1 tyX1 tyX1_ok nmX1 hown hK hP hD hS 0 rfl rfl 12 (by decide) (hT _ t237) (fun _ h9 => h9) rfl hin rfl (by decide +kernel) rfl rfl (Nat.le_of_ble_eq_true rfl) dX1_init_49 (fun H locs hP hD hS => ?_)
  have hP : va_P D vwCl [(h0, .inr (1, [.int 0, .int 0, .int 0, .int 0, .int 0, .int 0, .int 0, .ref q7_1, .ref q15_2, .ref q23_3, .ref q31_4, .ref q39_5, .ref q47_6, .null])), (q7_1, .inl (k 0, 8, .inl (fun _ => 0))), (q15_2, .inl (k 0, 8, .inl (fun _ => 0))), (q23_3, .inl (k 0, 8, .inl (fun _ => 0))), (q31_4, .inl (k 0, 6, .inl (fun _ => 0))), (q39_5, .inl (k 0, 6, .inl (fun _ => 0))), (q47_6, .inl (k 0, 6, .inl (fun _ => 0)))] H := hP
  have hD : va_D A [(h0, .inr (1, [.int 0, .int 0, .int 0, .int 0, .int 0, .int 0, .int 0, .ref q7_1, .ref q15_2, .ref q23_3, .ref q31_4, .ref q39_5, .ref q47_6, .null])), (q7_1, .inl (k 0, 8, .inl (fun _ => 0))), (q15_2, .inl (k 0, 8, .inl (fun _ => 0))), (q23_3, .inl (k 0, 8, .inl (fun _ => 0))), (q31_4, .inl (k 0, 6, .inl (fun _ => 0))), (q39_5, .inl (k 0, 6, .inl (fun _ => 0))), (q47_6, .inl (k 0, 6, .inl (fun _ => 0)))] := hD
  refine lv_aload_n hx hb dX1_init_52 rfl (lv_at hl 0 rfl) ?_
  refine va_new (ci := 5) (fs := [.null, .null, .null, .null, .null]) (C := RX5) (T := TX5) (N := 5) hx hb hT in_X5 tyX5 tyX5_ok hown (hT _ t158) (hT _ t159) (hT _ t108) hK hP hD hS hA rfl (fun j hj => by rcases (show j = 0 ∨ j = 1 ∨ j = 2 ∨ j = 3 ∨ j = 4 by omega) with rfl | rfl | rfl | rfl | rfl <;> rfl) (Nat.le_of_ble_eq_true rfl) (Nat.le_of_ble_eq_true rfl) dX1_init_53 (fun q53_7 H hP hD hS => ?_)
  have hP : va_P D vwCl [(h0, .inr (1, [.int 0, .int 0, .int 0, .int 0, .int 0, .int 0, .int 0, .ref q7_1, .ref q15_2, .ref q23_3, .ref q31_4, .ref q39_5, .ref q47_6, .null])), (q7_1, .inl (k 0, 8, .inl (fun _ => 0))), (q15_2, .inl (k 0, 8, .inl (fun _ => 0))), (q23_3, .inl (k 0, 8, .inl (fun _ => 0))), (q31_4, .inl (k 0, 6, .inl (fun _ => 0))), (q39_5, .inl (k 0, 6, .inl (fun _ => 0))), (q47_6, .inl (k 0, 6, .inl (fun _ => 0))), (q53_7, .inr (5, [.null, .null, .null, .null, .null]))] H := hP
  have hD : va_D A [(h0, .inr (1, [.int 0, .int 0, .int 0, .int 0, .int 0, .int 0, .int 0, .ref q7_1, .ref q15_2, .ref q23_3, .ref q31_4, .ref q39_5, .ref q47_6, .null])), (q7_1, .inl (k 0, 8, .inl (fun _ => 0))), (q15_2, .inl (k 0, 8, .inl (fun _ => 0))), (q23_3, .inl (k 0, 8, .inl (fun _ => 0))), (q31_4, .inl (k 0, 6, .inl (fun _ => 0))), (q39_5, .inl (k 0, 6, .inl (fun _ => 0))), (q47_6, .inl (k 0, 6, .inl (fun _ => 0))), (q53_7, .inr (5, [.null, .null, .null, .null, .null]))] := hD
  refine W.widen (k := 7) (n := 47) (Nat.le_of_ble_eq_true rfl) (Nat.le_of_ble_eq_true rfl) ?_
  refine lv_dup hx hb dX1_init_56 rfl ?_
  refine rw_v (wc := [(q53_7, .inr (5, [.null, .null, .null, .null, .null]))]) (wr := [(h0, .inr (1, [.int 0, .int 0, .int 0, .int 0, .int 0, .int 0, .int 0, .ref q7_1, .ref q15_2, .ref q23_3, .ref q31_4, .ref q39_5, .ref q47_6, .null])), (q7_1, .inl (k 0, 8, .inl (fun _ => 0))), (q15_2, .inl (k 0, 8, .inl (fun _ => 0))), (q23_3, .inl (k 0, 8, .inl (fun _ => 0))), (q31_4, .inl (k 0, 6, .inl (fun _ => 0))), (q39_5, .inl (k 0, 6, .inl (fun _ => 0))), (q47_6, .inl (k 0, 6, .inl (fun _ => 0)))]) [7] [0, 1, 2, 3, 4, 5, 6] rfl rfl (by decide) (by decide) (by decide) hP hD hS hA (fun hPc hDc => run_I (C := RX5) (As := []) (rest := [.ref q53_7, .ref h0]) S (c_X5_init l D k q53_7 _) (gdC t162) t160 t161 t108 rfl ok_X5_init ⟨rfl, rfl, Nat.le_of_ble_eq_true rfl, Nat.le_of_ble_eq_true rfl⟩ (pw_S hK hN hPc hDc) rfl hl.1 rfl (Nat.le_of_ble_eq_true rfl) ⟨Nat.le_of_ble_eq_true rfl, Nat.le_of_ble_eq_true rfl⟩ dX1_init_57) (fun u57_8 H locs hu57_8 hKu57_8 hP hD hS => ?_)
  have hP : va_P D vwCl [(h0, .inr (1, [.int 0, .int 0, .int 0, .int 0, .int 0, .int 0, .int 0, .ref q7_1, .ref q15_2, .ref q23_3, .ref q31_4, .ref q39_5, .ref q47_6, .null])), (q7_1, .inl (k 0, 8, .inl (fun _ => 0))), (q15_2, .inl (k 0, 8, .inl (fun _ => 0))), (q23_3, .inl (k 0, 8, .inl (fun _ => 0))), (q31_4, .inl (k 0, 6, .inl (fun _ => 0))), (q39_5, .inl (k 0, 6, .inl (fun _ => 0))), (q47_6, .inl (k 0, 6, .inl (fun _ => 0))), (q53_7, .inr (5, [.ref (u57_8.1 0), .ref (u57_8.1 1), .ref (u57_8.1 2), .ref (u57_8.1 3), .ref (u57_8.1 4)])), (u57_8.1 0, .inl (k 0, 64, .inl (fun _ => 0))), (u57_8.1 1, .inl (k 0, 8, .inl (fun _ => 0))), (u57_8.1 2, .inl (k 0, 8, .inl (u57_8.2 0))), (u57_8.1 3, .inl (k 0, 3, .inl (fun _ => 0))), (u57_8.1 4, .inl (k 0, 3, .inl (fun _ => 0)))] H := hP
  have hD : va_D A [(h0, .inr (1, [.int 0, .int 0, .int 0, .int 0, .int 0, .int 0, .int 0, .ref q7_1, .ref q15_2, .ref q23_3, .ref q31_4, .ref q39_5, .ref q47_6, .null])), (q7_1, .inl (k 0, 8, .inl (fun _ => 0))), (q15_2, .inl (k 0, 8, .inl (fun _ => 0))), (q23_3, .inl (k 0, 8, .inl (fun _ => 0))), (q31_4, .inl (k 0, 6, .inl (fun _ => 0))), (q39_5, .inl (k 0, 6, .inl (fun _ => 0))), (q47_6, .inl (k 0, 6, .inl (fun _ => 0))), (q53_7, .inr (5, [.ref (u57_8.1 0), .ref (u57_8.1 1), .ref (u57_8.1 2), .ref (u57_8.1 3), .ref (u57_8.1 4)])), (u57_8.1 0, .inl (k 0, 64, .inl (fun _ => 0))), (u57_8.1 1, .inl (k 0, 8, .inl (fun _ => 0))), (u57_8.1 2, .inl (k 0, 8, .inl (u57_8.2 0))), (u57_8.1 3, .inl (k 0, 3, .inl (fun _ => 0))), (u57_8.1 4, .inl (k 0, 3, .inl (fun _ => 0)))] := hD
  refine W.widen (k := 12) (n := 133) (Nat.le_of_ble_eq_true rfl) (Nat.le_of_ble_eq_true rfl) ?_
  refine va_putF (D := D) (ci := 1) (v := .ref q53_7) (ty := .object "WheelMemory$State") (C := RX1) (T := TX1) (N := 14) hx hb hT in_X1 tyX1 tyX1_ok nmX1 hown hK hP hD hS 0 rfl rfl 13 (by decide) (hT _ t239) (fun _ h9 => h9) rfl hin rfl (by decide +kernel) rfl rfl (Nat.le_of_ble_eq_true rfl) dX1_init_60 (fun H locs hP hD hS => ?_)
  have hP : va_P D vwCl [(h0, .inr (1, [.int 0, .int 0, .int 0, .int 0, .int 0, .int 0, .int 0, .ref q7_1, .ref q15_2, .ref q23_3, .ref q31_4, .ref q39_5, .ref q47_6, .ref q53_7])), (q7_1, .inl (k 0, 8, .inl (fun _ => 0))), (q15_2, .inl (k 0, 8, .inl (fun _ => 0))), (q23_3, .inl (k 0, 8, .inl (fun _ => 0))), (q31_4, .inl (k 0, 6, .inl (fun _ => 0))), (q39_5, .inl (k 0, 6, .inl (fun _ => 0))), (q47_6, .inl (k 0, 6, .inl (fun _ => 0))), (q53_7, .inr (5, [.ref (u57_8.1 0), .ref (u57_8.1 1), .ref (u57_8.1 2), .ref (u57_8.1 3), .ref (u57_8.1 4)])), (u57_8.1 0, .inl (k 0, 64, .inl (fun _ => 0))), (u57_8.1 1, .inl (k 0, 8, .inl (fun _ => 0))), (u57_8.1 2, .inl (k 0, 8, .inl (u57_8.2 0))), (u57_8.1 3, .inl (k 0, 3, .inl (fun _ => 0))), (u57_8.1 4, .inl (k 0, 3, .inl (fun _ => 0)))] H := hP
  have hD : va_D A [(h0, .inr (1, [.int 0, .int 0, .int 0, .int 0, .int 0, .int 0, .int 0, .ref q7_1, .ref q15_2, .ref q23_3, .ref q31_4, .ref q39_5, .ref q47_6, .ref q53_7])), (q7_1, .inl (k 0, 8, .inl (fun _ => 0))), (q15_2, .inl (k 0, 8, .inl (fun _ => 0))), (q23_3, .inl (k 0, 8, .inl (fun _ => 0))), (q31_4, .inl (k 0, 6, .inl (fun _ => 0))), (q39_5, .inl (k 0, 6, .inl (fun _ => 0))), (q47_6, .inl (k 0, 6, .inl (fun _ => 0))), (q53_7, .inr (5, [.ref (u57_8.1 0), .ref (u57_8.1 1), .ref (u57_8.1 2), .ref (u57_8.1 3), .ref (u57_8.1 4)])), (u57_8.1 0, .inl (k 0, 64, .inl (fun _ => 0))), (u57_8.1 1, .inl (k 0, 8, .inl (fun _ => 0))), (u57_8.1 2, .inl (k 0, 8, .inl (u57_8.2 0))), (u57_8.1 3, .inl (k 0, 3, .inl (fun _ => 0))), (u57_8.1 4, .inl (k 0, 3, .inl (fun _ => 0)))] := hD
  have hP9 := hP.sub (ws' := [(h0, .inr (1, [.int 0, .int 0, .int 0, .int 0, .int 0, .int 0, .int 0, .ref q7_1, .ref q15_2, .ref q23_3, .ref q31_4, .ref q39_5, .ref q47_6, .ref q53_7])), (q7_1, .inl (k 0, 8, .inl (fun _ => 0))), (q15_2, .inl (k 0, 8, .inl (fun _ => 0))), (q23_3, .inl (k 0, 8, .inl (fun _ => 0))), (q31_4, .inl (k 0, 6, .inl (fun _ => 0))), (q39_5, .inl (k 0, 6, .inl (fun _ => 0))), (q47_6, .inl (k 0, 6, .inl (fun _ => 0))), (q53_7, .inr (5, [.ref (u57_8.1 0), .ref (u57_8.1 1), .ref (u57_8.1 2), .ref (u57_8.1 3), .ref (u57_8.1 4)])), (u57_8.1 0, .inl (k 0, 64, .inl (fun _ => 0))), (u57_8.1 1, .inl (k 0, 8, .inl (fun _ => 0))), (u57_8.1 2, .inl (k 0, 8, .inl (u57_8.2 0))), (u57_8.1 3, .inl (k 0, 3, .inl (fun _ => 0))), (u57_8.1 4, .inl (k 0, 3, .inl (fun _ => 0)))]) [0, 1, 2, 3, 4, 5, 6, 7, 8, 9, 10, 11, 12] rfl
  have hD9 := hD.sub (ws' := [(h0, .inr (1, [.int 0, .int 0, .int 0, .int 0, .int 0, .int 0, .int 0, .ref q7_1, .ref q15_2, .ref q23_3, .ref q31_4, .ref q39_5, .ref q47_6, .ref q53_7])), (q7_1, .inl (k 0, 8, .inl (fun _ => 0))), (q15_2, .inl (k 0, 8, .inl (fun _ => 0))), (q23_3, .inl (k 0, 8, .inl (fun _ => 0))), (q31_4, .inl (k 0, 6, .inl (fun _ => 0))), (q39_5, .inl (k 0, 6, .inl (fun _ => 0))), (q47_6, .inl (k 0, 6, .inl (fun _ => 0))), (q53_7, .inr (5, [.ref (u57_8.1 0), .ref (u57_8.1 1), .ref (u57_8.1 2), .ref (u57_8.1 3), .ref (u57_8.1 4)])), (u57_8.1 0, .inl (k 0, 64, .inl (fun _ => 0))), (u57_8.1 1, .inl (k 0, 8, .inl (fun _ => 0))), (u57_8.1 2, .inl (k 0, 8, .inl (u57_8.2 0))), (u57_8.1 3, .inl (k 0, 3, .inl (fun _ => 0))), (u57_8.1 4, .inl (k 0, 3, .inl (fun _ => 0)))]) [0, 1, 2, 3, 4, 5, 6, 7, 8, 9, 10, 11, 12] (by decide) rfl
  have hK9 := hK.sub (tys' := []) [] rfl
  subst hAe
  exact W.vret hx hb hr (fun t ht hW => ⟨⟨mkU [q7_1, q15_2, q23_3, q31_4, q39_5, q47_6, q53_7, (u57_8.1 0), (u57_8.1 1), (u57_8.1 2), (u57_8.1 3), (u57_8.1 4)] [(u57_8.2 0)], rfl, trivial, by rw [ht]; exact hP9, va_K.moved hW.alike hK9, hD9⟩, hS.F ht⟩) hS.2.2 dX1_init_63
set_option maxHeartbeats 4000000 in
set_option maxRecDepth 100000 in
theorem c_X6_init (l : Launch) (D : va_G) (k : Nat → ClassId) (h0 sz : Nat) : Met l yX6_init (.code yX6_init cX6_init 1 none :: TB) (rmw 1 1 1000) (va_Pc [.ref h0] (PW D k sz [(h0, .inr (6, [.null, .int 0]))])) (QV D (S := UT) (fun u => True) (fun u => [(h0, .inr (6, [.ref (u.1 0), .int 0])), (u.1 0, .inl (k 1, 1000, .inl (fun _ => 0)))]) (fun _ => []) [(h0, .inr (6, [.null, .int 0]))] sz) 1 1000 (va_A [(h0, .inr (6, [.null, .int 0]))] sz) := by
  refine Met.ofW (cc := cX6_init) (maxL := 1) (ret := none) (by decide) rfl ?_
  intro p e s m args below meth c s₁ B hml hv
  obtain ⟨rfl, hsz, hP, hK, hD0, hN⟩ := hv
  have hx := B.exec
  have hb := B.bytes
  have hr := B.returns
  have hT : ∀ w ∈ TB, w.before ([.ref h0] : List Value).toArray s = true := fun w h => atoms_spec (ws := .code yX6_init cX6_init 1 none :: TB) B.pre w (List.mem_cons_of_mem _ h)
  have hown : s.vm.findClass RX6 = some m.cls := findClass_of_methodNamed B.named
  have S : CallFix p m c cX6_init 1 s _ TB RX6 := ⟨hx, hb, hml, hown, hT⟩
  have hin : meth.name = "<init>" := (name_of_methodNamed B.named B.method).1
  subst hsz
  have hD := hD0.self (sz := s.heap.size)
  generalize hAe : va_A [(h0, .inr (6, [.null, .int 0]))] s.heap.size = A at hD ⊢
  have hA : ∀ q : Nat, s.heap.size ≤ q → A q := fun q h => by rw [← hAe]; exact Or.inr h
  have hS : va_S A s.heap s.heap [] := va_S.rf
  have hP : va_P D vwCl [(h0, .inr (6, [.null, .int 0]))] s.heap := hP
  have hl := lv_entry ([.ref h0]) (n := 1) (Nat.le_of_ble_eq_true rfl)
  rw [lg_entry_eq]
  generalize (lg_sl ([.ref h0]) ++ List.replicate (1 - (lg_sl ([.ref h0])).length) Slot.unset).toArray = ls at hl ⊢
  have hl : lv_has ls 1 [(0, .ref h0)] := hl
  refine lv_aload_n hx hb dX6_init_0 rfl (lv_at hl 0 rfl) ?_
  refine W.objInit hx hb hown (hT _ t142) (hT _ t129) (hT _ t130) rfl (by rw [hml]; exact hl.1) rfl dX6_init_1 (Nat.le_of_ble_eq_true rfl) (Nat.le_of_ble_eq_true rfl) ?_
  refine W.eq (g2 := F0 m 4 ls []) rfl ?_
  refine lv_aload_n hx hb dX6_init_4 rfl (lv_at hl 0 rfl) ?_
  refine lv_sipush (v := 1000) hx hb dX6_init_5 (by decide) ?_
  refine n_newa (atype := .byte) (ty := .byte) (cT := k 1) (N' := 1000) (a0 := (1000, .inl (fun _ => 0))) 1 ra_byte rfl hx hb (hT _ t151) rfl hK hP hD hS hA (fun _ => rfl) (by decide) (by decide) (Nat.le_of_ble_eq_true rfl) (Nat.le_of_ble_eq_true rfl) (Nat.le_of_ble_eq_true rfl) dX6_init_8 (fun q8_1 H hP hD hS => ?_)
  have hP : va_P D vwCl [(h0, .inr (6, [.null, .int 0])), (q8_1, .inl (k 1, 1000, .inl (fun _ => 0)))] H := hP
  have hD : va_D A [(h0, .inr (6, [.null, .int 0])), (q8_1, .inl (k 1, 1000, .inl (fun _ => 0)))] := hD
  refine W.widen (k := 1) (n := 1000) (Nat.le_of_ble_eq_true rfl) (Nat.le_of_ble_eq_true rfl) ?_
  refine va_putF (D := D) (ci := 6) (v := .ref q8_1) (ty := .array .byte) (C := RX6) (T := TX6) (N := 2) hx hb hT in_X6 tyX6 tyX6_ok nmX6 hown hK hP hD hS 0 rfl rfl 0 (by decide) (hT _ t143) (fun _ h9 => h9) rfl hin rfl (by decide +kernel) rfl rfl (Nat.le_of_ble_eq_true rfl) dX6_init_10 (fun H locs hP hD hS => ?_)
  have hP : va_P D vwCl [(h0, .inr (6, [.ref q8_1, .int 0])), (q8_1, .inl (k 1, 1000, .inl (fun _ => 0)))] H := hP
  have hD : va_D A [(h0, .inr (6, [.ref q8_1, .int 0])), (q8_1, .inl (k 1, 1000, .inl (fun _ => 0)))] := hD
  have hP9 := hP.sub (ws' := [(h0, .inr (6, [.ref q8_1, .int 0])), (q8_1, .inl (k 1, 1000, .inl (fun _ => 0)))]) [0, 1] rfl
  have hD9 := hD.sub (ws' := [(h0, .inr (6, [.ref q8_1, .int 0])), (q8_1, .inl (k 1, 1000, .inl (fun _ => 0)))]) [0, 1] (by decide) rfl
  have hK9 := hK.sub (tys' := []) [] rfl
  subst hAe
  exact W.vret hx hb hr (fun t ht hW => ⟨⟨mkU [q8_1] [], rfl, trivial, by rw [ht]; exact hP9, va_K.moved hW.alike hK9, hD9⟩, hS.F ht⟩) hS.2.2 dX6_init_13
set_option maxHeartbeats 4000000 in
set_option maxRecDepth 100000 in
theorem c_X2_init (l : Launch) (D : va_G) (k : Nat → ClassId) (h0 sz : Nat) : Met l yX2_init (.code yX2_init cX2_init 1 none :: TB) (rmw 4 15 1149) (va_Pc [.ref h0] (PW D k sz [(h0, .inr (2, [.null, .null, .int 0, .int 0, .int 0, .int 0, .int 0, .int 0]))])) (QV D (S := UT) (fun u => True) (fun u => [(h0, .inr (2, [.ref (u.1 0), .ref (u.1 2), .int 0, .int (-1), .int 0, .int 0, .int 0, .int 0])), (u.1 0, .inr (6, [.ref (u.1 1), .int 0])), (u.1 1, .inl (k 1, 1000, .inl (fun _ => 0))), (u.1 2, .inr (1, [.int 0, .int 0, .int 0, .int 0, .int 0, .int 0, .int 0, .ref (u.1 3), .ref (u.1 4), .ref (u.1 5), .ref (u.1 6), .ref (u.1 7), .ref (u.1 8), .ref (u.1 9)])), (u.1 3, .inl (k 0, 8, .inl (fun _ => 0))), (u.1 4, .inl (k 0, 8, .inl (fun _ => 0))), (u.1 5, .inl (k 0, 8, .inl (fun _ => 0))), (u.1 6, .inl (k 0, 6, .inl (fun _ => 0))), (u.1 7, .inl (k 0, 6, .inl (fun _ => 0))), (u.1 8, .inl (k 0, 6, .inl (fun _ => 0))), (u.1 9, .inr (5, [.ref (u.1 10), .ref (u.1 11), .ref (u.1 12), .ref (u.1 13), .ref (u.1 14)])), (u.1 10, .inl (k 0, 64, .inl (fun _ => 0))), (u.1 11, .inl (k 0, 8, .inl (fun _ => 0))), (u.1 12, .inl (k 0, 8, .inl (u.2 0))), (u.1 13, .inl (k 0, 3, .inl (fun _ => 0))), (u.1 14, .inl (k 0, 3, .inl (fun _ => 0)))]) (fun _ => []) [(h0, .inr (2, [.null, .null, .int 0, .int 0, .int 0, .int 0, .int 0, .int 0]))] sz) 15 1149 (va_A [(h0, .inr (2, [.null, .null, .int 0, .int 0, .int 0, .int 0, .int 0, .int 0]))] sz) := by
  refine Met.ofW (cc := cX2_init) (maxL := 1) (ret := none) (by decide) rfl ?_
  intro p e s m args below meth c s₁ B hml hv
  obtain ⟨rfl, hsz, hP, hK, hD0, hN⟩ := hv
  have hx := B.exec
  have hb := B.bytes
  have hr := B.returns
  have hT : ∀ w ∈ TB, w.before ([.ref h0] : List Value).toArray s = true := fun w h => atoms_spec (ws := .code yX2_init cX2_init 1 none :: TB) B.pre w (List.mem_cons_of_mem _ h)
  have hown : s.vm.findClass RX2 = some m.cls := findClass_of_methodNamed B.named
  have S : CallFix p m c cX2_init 1 s _ TB RX2 := ⟨hx, hb, hml, hown, hT⟩
  have hin : meth.name = "<init>" := (name_of_methodNamed B.named B.method).1
  subst hsz
  have hD := hD0.self (sz := s.heap.size)
  generalize hAe : va_A [(h0, .inr (2, [.null, .null, .int 0, .int 0, .int 0, .int 0, .int 0, .int 0]))] s.heap.size = A at hD ⊢
  have hA : ∀ q : Nat, s.heap.size ≤ q → A q := fun q h => by rw [← hAe]; exact Or.inr h
  have hS : va_S A s.heap s.heap [] := va_S.rf
  have hP : va_P D vwCl [(h0, .inr (2, [.null, .null, .int 0, .int 0, .int 0, .int 0, .int 0, .int 0]))] s.heap := hP
  have hl := lv_entry ([.ref h0]) (n := 1) (Nat.le_of_ble_eq_true rfl)
  rw [lg_entry_eq]
  generalize (lg_sl ([.ref h0]) ++ List.replicate (1 - (lg_sl ([.ref h0])).length) Slot.unset).toArray = ls at hl ⊢
  have hl : lv_has ls 1 [(0, .ref h0)] := hl
  refine lv_aload_n hx hb dX2_init_0 rfl (lv_at hl 0 rfl) ?_
  refine W.objInit hx hb hown (hT _ t136) (hT _ t129) (hT _ t130) rfl (by rw [hml]; exact hl.1) rfl dX2_init_1 (Nat.le_of_ble_eq_true rfl) (Nat.le_of_ble_eq_true rfl) ?_
  refine W.eq (g2 := F0 m 4 ls []) rfl ?_
  refine lv_aload_n hx hb dX2_init_4 rfl (lv_at hl 0 rfl) ?_
  refine va_new (ci := 6) (fs := [.null, .int 0]) (C := RX6) (T := TX6) (N := 2) hx hb hT in_X6 tyX6 tyX6_ok hown (hT _ t137) (hT _ t138) (hT _ t106) hK hP hD hS hA rfl (fun j hj => by rcases (show j = 0 ∨ j = 1 by omega) with rfl | rfl <;> rfl) (Nat.le_of_ble_eq_true rfl) (Nat.le_of_ble_eq_true rfl) dX2_init_5 (fun q5_1 H hP hD hS => ?_)
  have hP : va_P D vwCl [(h0, .inr (2, [.null, .null, .int 0, .int 0, .int 0, .int 0, .int 0, .int 0])), (q5_1, .inr (6, [.null, .int 0]))] H := hP
  have hD : va_D A [(h0, .inr (2, [.null, .null, .int 0, .int 0, .int 0, .int 0, .int 0, .int 0])), (q5_1, .inr (6, [.null, .int 0]))] := hD
  refine W.widen (k := 1) (n := 2) (Nat.le_of_ble_eq_true rfl) (Nat.le_of_ble_eq_true rfl) ?_
  refine lv_dup hx hb dX2_init_8 rfl ?_
  refine rw_v (wc := [(q5_1, .inr (6, [.null, .int 0]))]) (wr := [(h0, .inr (2, [.null, .null, .int 0, .int 0, .int 0, .int 0, .int 0, .int 0]))]) [1] [0] rfl rfl (by decide) (by decide) (by decide) hP hD hS hA (fun hPc hDc => run_IN (C := RX6) (As := []) (rest := [.ref q5_1, .ref h0]) S (c_X6_init l D k q5_1 _) (gdC t141) (hN.1 _ (List.mem_of_getElem? (i := 1) rfl)) t140 t106 rfl ok_X6_init ⟨rfl, rfl, Nat.le_of_ble_eq_true rfl, Nat.le_of_ble_eq_true rfl⟩ (pw_S hK hN hPc hDc) rfl hl.1 rfl (Nat.le_of_ble_eq_true rfl) ⟨Nat.le_of_ble_eq_true rfl, Nat.le_of_ble_eq_true rfl⟩ dX2_init_9) (fun u9_2 H locs hu9_2 hKu9_2 hP hD hS => ?_)
  have hP : va_P D vwCl [(h0, .inr (2, [.null, .null, .int 0, .int 0, .int 0, .int 0, .int 0, .int 0])), (q5_1, .inr (6, [.ref (u9_2.1 0), .int 0])), (u9_2.1 0, .inl (k 1, 1000, .inl (fun _ => 0)))] H := hP
  have hD : va_D A [(h0, .inr (2, [.null, .null, .int 0, .int 0, .int 0, .int 0, .int 0, .int 0])), (q5_1, .inr (6, [.ref (u9_2.1 0), .int 0])), (u9_2.1 0, .inl (k 1, 1000, .inl (fun _ => 0)))] := hD
  refine W.widen (k := 2) (n := 1002) (Nat.le_of_ble_eq_true rfl) (Nat.le_of_ble_eq_true rfl) ?_
  refine va_putF (D := D) (ci := 2) (v := .ref q5_1) (ty := .object "WheelMemory$Tape") (C := RX2) (T := TX2) (N := 8) hx hb hT in_X2 tyX2 tyX2_ok nmX2 hown hK hP hD hS 0 rfl rfl 0 (by decide) (hT _ t272) (fun _ h9 => h9) rfl hin rfl (by decide +kernel) rfl rfl (Nat.le_of_ble_eq_true rfl) dX2_init_12 (fun H locs hP hD hS => ?_)
  have hP : va_P D vwCl [(h0, .inr (2, [.ref q5_1, .null, .int 0, .int 0, .int 0, .int 0, .int 0, .int 0])), (q5_1, .inr (6, [.ref (u9_2.1 0), .int 0])), (u9_2.1 0, .inl (k 1, 1000, .inl (fun _ => 0)))] H := hP
  have hD : va_D A [(h0, .inr (2, [.ref q5_1, .null, .int 0, .int 0, .int 0, .int 0, .int 0, .int 0])), (q5_1, .inr (6, [.ref (u9_2.1 0), .int 0])), (u9_2.1 0, .inl (k 1, 1000, .inl (fun _ => 0)))] := hD
  refine lv_aload_n hx hb dX2_init_15 rfl (lv_at hl 0 rfl) ?_
  refine va_new (ci := 1) (fs := [.int 0, .int 0, .int 0, .int 0, .int 0, .int 0, .int 0, .null, .null, .null, .null, .null, .null, .null]) (C := RX1) (T := TX1) (N := 14) hx hb hT in_X1 tyX1 tyX1_ok hown (hT _ t152) (hT _ t153) (hT _ t107) hK hP hD hS hA rfl (fun j hj => by rcases (show j = 0 ∨ j = 1 ∨ j = 2 ∨ j = 3 ∨ j = 4 ∨ j = 5 ∨ j = 6 ∨ j = 7 ∨ j = 8 ∨ j = 9 ∨ j = 10 ∨ j = 11 ∨ j = 12 ∨ j = 13 by omega) with rfl | rfl | rfl | rfl | rfl | rfl | rfl | rfl | rfl | rfl | rfl | rfl | rfl | rfl <;> rfl) (Nat.le_of_ble_eq_true rfl) (Nat.le_of_ble_eq_true rfl) dX2_init_16 (fun q16_3 H hP hD hS => ?_)
  have hP : va_P D vwCl [(h0, .inr (2, [.ref q5_1, .null, .int 0, .int 0, .int 0, .int 0, .int 0, .int 0])), (q5_1, .inr (6, [.ref (u9_2.1 0), .int 0])), (u9_2.1 0, .inl (k 1, 1000, .inl (fun _ => 0))), (q16_3, .inr (1, [.int 0, .int 0, .int 0, .int 0, .int 0, .int 0, .int 0, .null, .null, .null, .null, .null, .null, .null]))] H := hP
  have hD : va_D A [(h0, .inr (2, [.ref q5_1, .null, .int 0, .int 0, .int 0, .int 0, .int 0, .int 0])), (q5_1, .inr (6, [.ref (u9_2.1 0), .int 0])), (u9_2.1 0, .inl (k 1, 1000, .inl (fun _ => 0))), (q16_3, .inr (1, [.int 0, .int 0, .int 0, .int 0, .int 0, .int 0, .int 0, .null, .null, .null, .null, .null, .null, .null]))] := hD
  refine W.widen (k := 3) (n := 1016) (Nat.le_of_ble_eq_true rfl) (Nat.le_of_ble_eq_true rfl) ?_
  refine lv_dup hx hb dX2_init_19 rfl ?_
  refine rw_v (wc := [(q16_3, .inr (1, [.int 0, .int 0, .int 0, .int 0, .int 0, .int 0, .int 0, .null, .null, .null, .null, .null, .null, .null]))]) (wr := [(h0, .inr (2, [.ref q5_1, .null, .int 0, .int 0, .int 0, .int 0, .int 0, .int 0])), (q5_1, .inr (6, [.ref (u9_2.1 0), .int 0])), (u9_2.1 0, .inl (k 1, 1000, .inl (fun _ => 0)))]) [3] [0, 1, 2] rfl rfl (by decide) (by decide) (by decide) hP hD hS hA (fun hPc hDc => run_IN (C := RX1) (As := []) (rest := [.ref q16_3, .ref h0]) S (c_X1_init l D k q16_3 _) (gdC t156) (hN.1 _ (List.mem_of_getElem? (i := 2) rfl)) t155 t107 rfl ok_X1_init ⟨rfl, rfl, Nat.le_of_ble_eq_true rfl, Nat.le_of_ble_eq_true rfl⟩ (pw_S hK hN hPc hDc) rfl hl.1 rfl (Nat.le_of_ble_eq_true rfl) ⟨Nat.le_of_ble_eq_true rfl, Nat.le_of_ble_eq_true rfl⟩ dX2_init_20) (fun u20_4 H locs hu20_4 hKu20_4 hP hD hS => ?_)
  have hP : va_P D vwCl [(h0, .inr (2, [.ref q5_1, .null, .int 0, .int 0, .int 0, .int 0, .int 0, .int 0])), (q5_1, .inr (6, [.ref (u9_2.1 0), .int 0])), (u9_2.1 0, .inl (k 1, 1000, .inl (fun _ => 0))), (q16_3, .inr (1, [.int 0, .int 0, .int 0, .int 0, .int 0, .int 0, .int 0, .ref (u20_4.1 0), .ref (u20_4.1 1), .ref (u20_4.1 2), .ref (u20_4.1 3), .ref (u20_4.1 4), .ref (u20_4.1 5), .ref (u20_4.1 6)])), (u20_4.1 0, .inl (k 0, 8, .inl (fun _ => 0))), (u20_4.1 1, .inl (k 0, 8, .inl (fun _ => 0))), (u20_4.1 2, .inl (k 0, 8, .inl (fun _ => 0))), (u20_4.1 3, .inl (k 0, 6, .inl (fun _ => 0))), (u20_4.1 4, .inl (k 0, 6, .inl (fun _ => 0))), (u20_4.1 5, .inl (k 0, 6, .inl (fun _ => 0))), (u20_4.1 6, .inr (5, [.ref (u20_4.1 7), .ref (u20_4.1 8), .ref (u20_4.1 9), .ref (u20_4.1 10), .ref (u20_4.1 11)])), (u20_4.1 7, .inl (k 0, 64, .inl (fun _ => 0))), (u20_4.1 8, .inl (k 0, 8, .inl (fun _ => 0))), (u20_4.1 9, .inl (k 0, 8, .inl (u20_4.2 0))), (u20_4.1 10, .inl (k 0, 3, .inl (fun _ => 0))), (u20_4.1 11, .inl (k 0, 3, .inl (fun _ => 0)))] H := hP
  have hD : va_D A [(h0, .inr (2, [.ref q5_1, .null, .int 0, .int 0, .int 0, .int 0, .int 0, .int 0])), (q5_1, .inr (6, [.ref (u9_2.1 0), .int 0])), (u9_2.1 0, .inl (k 1, 1000, .inl (fun _ => 0))), (q16_3, .inr (1, [.int 0, .int 0, .int 0, .int 0, .int 0, .int 0, .int 0, .ref (u20_4.1 0), .ref (u20_4.1 1), .ref (u20_4.1 2), .ref (u20_4.1 3), .ref (u20_4.1 4), .ref (u20_4.1 5), .ref (u20_4.1 6)])), (u20_4.1 0, .inl (k 0, 8, .inl (fun _ => 0))), (u20_4.1 1, .inl (k 0, 8, .inl (fun _ => 0))), (u20_4.1 2, .inl (k 0, 8, .inl (fun _ => 0))), (u20_4.1 3, .inl (k 0, 6, .inl (fun _ => 0))), (u20_4.1 4, .inl (k 0, 6, .inl (fun _ => 0))), (u20_4.1 5, .inl (k 0, 6, .inl (fun _ => 0))), (u20_4.1 6, .inr (5, [.ref (u20_4.1 7), .ref (u20_4.1 8), .ref (u20_4.1 9), .ref (u20_4.1 10), .ref (u20_4.1 11)])), (u20_4.1 7, .inl (k 0, 64, .inl (fun _ => 0))), (u20_4.1 8, .inl (k 0, 8, .inl (fun _ => 0))), (u20_4.1 9, .inl (k 0, 8, .inl (u20_4.2 0))), (u20_4.1 10, .inl (k 0, 3, .inl (fun _ => 0))), (u20_4.1 11, .inl (k 0, 3, .inl (fun _ => 0)))] := hD
  refine W.widen (k := 15) (n := 1149) (Nat.le_of_ble_eq_true rfl) (Nat.le_of_ble_eq_true rfl) ?_
  refine va_putF (D := D) (ci := 2) (v := .ref q16_3) (ty := .object "WheelMemory$Land") (C := RX2) (T := TX2) (N := 8) hx hb hT in_X2 tyX2 tyX2_ok nmX2 hown hK hP hD hS 0 rfl rfl 1 (by decide) (hT _ t274) (fun _ h9 => h9) rfl hin rfl (by decide +kernel) rfl rfl (Nat.le_of_ble_eq_true rfl) dX2_init_23 (fun H locs hP hD hS => ?_)
  have hP : va_P D vwCl [(h0, .inr (2, [.ref q5_1, .ref q16_3, .int 0, .int 0, .int 0, .int 0, .int 0, .int 0])), (q5_1, .inr (6, [.ref (u9_2.1 0), .int 0])), (u9_2.1 0, .inl (k 1, 1000, .inl (fun _ => 0))), (q16_3, .inr (1, [.int 0, .int 0, .int 0, .int 0, .int 0, .int 0, .int 0, .ref (u20_4.1 0), .ref (u20_4.1 1), .ref (u20_4.1 2), .ref (u20_4.1 3), .ref (u20_4.1 4), .ref (u20_4.1 5), .ref (u20_4.1 6)])), (u20_4.1 0, .inl (k 0, 8, .inl (fun _ => 0))), (u20_4.1 1, .inl (k 0, 8, .inl (fun _ => 0))), (u20_4.1 2, .inl (k 0, 8, .inl (fun _ => 0))), (u20_4.1 3, .inl (k 0, 6, .inl (fun _ => 0))), (u20_4.1 4, .inl (k 0, 6, .inl (fun _ => 0))), (u20_4.1 5, .inl (k 0, 6, .inl (fun _ => 0))), (u20_4.1 6, .inr (5, [.ref (u20_4.1 7), .ref (u20_4.1 8), .ref (u20_4.1 9), .ref (u20_4.1 10), .ref (u20_4.1 11)])), (u20_4.1 7, .inl (k 0, 64, .inl (fun _ => 0))), (u20_4.1 8, .inl (k 0, 8, .inl (fun _ => 0))), (u20_4.1 9, .inl (k 0, 8, .inl (u20_4.2 0))), (u20_4.1 10, .inl (k 0, 3, .inl (fun _ => 0))), (u20_4.1 11, .inl (k 0, 3, .inl (fun _ => 0)))] H := hP
  have hD : va_D A [(h0, .inr (2, [.ref q5_1, .ref q16_3, .int 0, .int 0, .int 0, .int 0, .int 0, .int 0])), (q5_1, .inr (6, [.ref (u9_2.1 0), .int 0])), (u9_2.1 0, .inl (k 1, 1000, .inl (fun _ => 0))), (q16_3, .inr (1, [.int 0, .int 0, .int 0, .int 0, .int 0, .int 0, .int 0, .ref (u20_4.1 0), .ref (u20_4.1 1), .ref (u20_4.1 2), .ref (u20_4.1 3), .ref (u20_4.1 4), .ref (u20_4.1 5), .ref (u20_4.1 6)])), (u20_4.1 0, .inl (k 0, 8, .inl (fun _ => 0))), (u20_4.1 1, .inl (k 0, 8, .inl (fun _ => 0))), (u20_4.1 2, .inl (k 0, 8, .inl (fun _ => 0))), (u20_4.1 3, .inl (k 0, 6, .inl (fun _ => 0))), (u20_4.1 4, .inl (k 0, 6, .inl (fun _ => 0))), (u20_4.1 5, .inl (k 0, 6, .inl (fun _ => 0))), (u20_4.1 6, .inr (5, [.ref (u20_4.1 7), .ref (u20_4.1 8), .ref (u20_4.1 9), .ref (u20_4.1 10), .ref (u20_4.1 11)])), (u20_4.1 7, .inl (k 0, 64, .inl (fun _ => 0))), (u20_4.1 8, .inl (k 0, 8, .inl (fun _ => 0))), (u20_4.1 9, .inl (k 0, 8, .inl (u20_4.2 0))), (u20_4.1 10, .inl (k 0, 3, .inl (fun _ => 0))), (u20_4.1 11, .inl (k 0, 3, .inl (fun _ => 0)))] := hD
  refine lv_aload_n hx hb dX2_init_26 rfl (lv_at hl 0 rfl) ?_
  refine lv_iconst (v := (-1)) hx hb dX2_init_27 (by decide) ?_
  refine va_put (D := D) (ci := 2) (v := .int (-1)) (ty := .int) (C := RX2) (T := TX2) (N := 8) hx hb hT in_X2 tyX2 tyX2_ok nmX2 hown hK hP hD hS 0 rfl rfl 3 (by decide) (hT _ t278) (fun _ h9 => h9) rfl (by decide +kernel) rfl rfl (Nat.le_of_ble_eq_true rfl) dX2_init_28 (fun H locs hP hD hS => ?_)
  have hP : va_P D vwCl [(h0, .inr (2, [.ref q5_1, .ref q16_3, .int 0, .int (-1), .int 0, .int 0, .int 0, .int 0])), (q5_1, .inr (6, [.ref (u9_2.1 0), .int 0])), (u9_2.1 0, .inl (k 1, 1000, .inl (fun _ => 0))), (q16_3, .inr (1, [.int 0, .int 0, .int 0, .int 0, .int 0, .int 0, .int 0, .ref (u20_4.1 0), .ref (u20_4.1 1), .ref (u20_4.1 2), .ref (u20_4.1 3), .ref (u20_4.1 4), .ref (u20_4.1 5), .ref (u20_4.1 6)])), (u20_4.1 0, .inl (k 0, 8, .inl (fun _ => 0))), (u20_4.1 1, .inl (k 0, 8, .inl (fun _ => 0))), (u20_4.1 2, .inl (k 0, 8, .inl (fun _ => 0))), (u20_4.1 3, .inl (k 0, 6, .inl (fun _ => 0))), (u20_4.1 4, .inl (k 0, 6, .inl (fun _ => 0))), (u20_4.1 5, .inl (k 0, 6, .inl (fun _ => 0))), (u20_4.1 6, .inr (5, [.ref (u20_4.1 7), .ref (u20_4.1 8), .ref (u20_4.1 9), .ref (u20_4.1 10), .ref (u20_4.1 11)])), (u20_4.1 7, .inl (k 0, 64, .inl (fun _ => 0))), (u20_4.1 8, .inl (k 0, 8, .inl (fun _ => 0))), (u20_4.1 9, .inl (k 0, 8, .inl (u20_4.2 0))), (u20_4.1 10, .inl (k 0, 3, .inl (fun _ => 0))), (u20_4.1 11, .inl (k 0, 3, .inl (fun _ => 0)))] H := hP
  have hD : va_D A [(h0, .inr (2, [.ref q5_1, .ref q16_3, .int 0, .int (-1), .int 0, .int 0, .int 0, .int 0])), (q5_1, .inr (6, [.ref (u9_2.1 0), .int 0])), (u9_2.1 0, .inl (k 1, 1000, .inl (fun _ => 0))), (q16_3, .inr (1, [.int 0, .int 0, .int 0, .int 0, .int 0, .int 0, .int 0, .ref (u20_4.1 0), .ref (u20_4.1 1), .ref (u20_4.1 2), .ref (u20_4.1 3), .ref (u20_4.1 4), .ref (u20_4.1 5), .ref (u20_4.1 6)])), (u20_4.1 0, .inl (k 0, 8, .inl (fun _ => 0))), (u20_4.1 1, .inl (k 0, 8, .inl (fun _ => 0))), (u20_4.1 2, .inl (k 0, 8, .inl (fun _ => 0))), (u20_4.1 3, .inl (k 0, 6, .inl (fun _ => 0))), (u20_4.1 4, .inl (k 0, 6, .inl (fun _ => 0))), (u20_4.1 5, .inl (k 0, 6, .inl (fun _ => 0))), (u20_4.1 6, .inr (5, [.ref (u20_4.1 7), .ref (u20_4.1 8), .ref (u20_4.1 9), .ref (u20_4.1 10), .ref (u20_4.1 11)])), (u20_4.1 7, .inl (k 0, 64, .inl (fun _ => 0))), (u20_4.1 8, .inl (k 0, 8, .inl (fun _ => 0))), (u20_4.1 9, .inl (k 0, 8, .inl (u20_4.2 0))), (u20_4.1 10, .inl (k 0, 3, .inl (fun _ => 0))), (u20_4.1 11, .inl (k 0, 3, .inl (fun _ => 0)))] := hD
  have hP9 := hP.sub (ws' := [(h0, .inr (2, [.ref q5_1, .ref q16_3, .int 0, .int (-1), .int 0, .int 0, .int 0, .int 0])), (q5_1, .inr (6, [.ref (u9_2.1 0), .int 0])), (u9_2.1 0, .inl (k 1, 1000, .inl (fun _ => 0))), (q16_3, .inr (1, [.int 0, .int 0, .int 0, .int 0, .int 0, .int 0, .int 0, .ref (u20_4.1 0), .ref (u20_4.1 1), .ref (u20_4.1 2), .ref (u20_4.1 3), .ref (u20_4.1 4), .ref (u20_4.1 5), .ref (u20_4.1 6)])), (u20_4.1 0, .inl (k 0, 8, .inl (fun _ => 0))), (u20_4.1 1, .inl (k 0, 8, .inl (fun _ => 0))), (u20_4.1 2, .inl (k 0, 8, .inl (fun _ => 0))), (u20_4.1 3, .inl (k 0, 6, .inl (fun _ => 0))), (u20_4.1 4, .inl (k 0, 6, .inl (fun _ => 0))), (u20_4.1 5, .inl (k 0, 6, .inl (fun _ => 0))), (u20_4.1 6, .inr (5, [.ref (u20_4.1 7), .ref (u20_4.1 8), .ref (u20_4.1 9), .ref (u20_4.1 10), .ref (u20_4.1 11)])), (u20_4.1 7, .inl (k 0, 64, .inl (fun _ => 0))), (u20_4.1 8, .inl (k 0, 8, .inl (fun _ => 0))), (u20_4.1 9, .inl (k 0, 8, .inl (u20_4.2 0))), (u20_4.1 10, .inl (k 0, 3, .inl (fun _ => 0))), (u20_4.1 11, .inl (k 0, 3, .inl (fun _ => 0)))]) [0, 1, 2, 3, 4, 5, 6, 7, 8, 9, 10, 11, 12, 13, 14, 15] rfl
  have hD9 := hD.sub (ws' := [(h0, .inr (2, [.ref q5_1, .ref q16_3, .int 0, .int (-1), .int 0, .int 0, .int 0, .int 0])), (q5_1, .inr (6, [.ref (u9_2.1 0), .int 0])), (u9_2.1 0, .inl (k 1, 1000, .inl (fun _ => 0))), (q16_3, .inr (1, [.int 0, .int 0, .int 0, .int 0, .int 0, .int 0, .int 0, .ref (u20_4.1 0), .ref (u20_4.1 1), .ref (u20_4.1 2), .ref (u20_4.1 3), .ref (u20_4.1 4), .ref (u20_4.1 5), .ref (u20_4.1 6)])), (u20_4.1 0, .inl (k 0, 8, .inl (fun _ => 0))), (u20_4.1 1, .inl (k 0, 8, .inl (fun _ => 0))), (u20_4.1 2, .inl (k 0, 8, .inl (fun _ => 0))), (u20_4.1 3, .inl (k 0, 6, .inl (fun _ => 0))), (u20_4.1 4, .inl (k 0, 6, .inl (fun _ => 0))), (u20_4.1 5, .inl (k 0, 6, .inl (fun _ => 0))), (u20_4.1 6, .inr (5, [.ref (u20_4.1 7), .ref (u20_4.1 8), .ref (u20_4.1 9), .ref (u20_4.1 10), .ref (u20_4.1 11)])), (u20_4.1 7, .inl (k 0, 64, .inl (fun _ => 0))), (u20_4.1 8, .inl (k 0, 8, .inl (fun _ => 0))), (u20_4.1 9, .inl (k 0, 8, .inl (u20_4.2 0))), (u20_4.1 10, .inl (k 0, 3, .inl (fun _ => 0))), (u20_4.1 11, .inl (k 0, 3, .inl (fun _ => 0)))]) [0, 1, 2, 3, 4, 5, 6, 7, 8, 9, 10, 11, 12, 13, 14, 15] (by decide) rfl
  have hK9 := hK.sub (tys' := []) [] rfl
  subst hAe
  exact W.vret hx hb hr (fun t ht hW => ⟨⟨mkU [q5_1, (u9_2.1 0), q16_3, (u20_4.1 0), (u20_4.1 1), (u20_4.1 2), (u20_4.1 3), (u20_4.1 4), (u20_4.1 5), (u20_4.1 6), (u20_4.1 7), (u20_4.1 8), (u20_4.1 9), (u20_4.1 10), (u20_4.1 11)] [(u20_4.2 0)], rfl, trivial, by rw [ht]; exact hP9, va_K.moved hW.alike hK9, hD9⟩, hS.F ht⟩) hS.2.2 dX2_init_31
set_option maxHeartbeats 4000000 in
set_option maxRecDepth 100000 in
theorem c_X8_init (l : Launch) (D : va_G) (k : Nat → ClassId) (h0 sz : Nat) : Met l yX8_init (.code yX8_init cX8_init 1 none :: TB) (rmw 4 22 358) (va_Pc [.ref h0] (PW D k sz [(h0, .inr (8, [.null, .null, .int 0, .null, .null, .null]))])) (QV D (S := UT) (fun u => True) (fun u => [(h0, .inr (8, [.ref (u.1 0), .ref (u.1 13), .int 0, .ref (u.1 19), .ref (u.1 20), .ref (u.1 21)])), (u.1 0, .inr (1, [.int 0, .int 0, .int 0, .int 0, .int 0, .int 0, .int 0, .ref (u.1 1), .ref (u.1 2), .ref (u.1 3), .ref (u.1 4), .ref (u.1 5), .ref (u.1 6), .ref (u.1 7)])), (u.1 1, .inl (k 0, 8, .inl (fun _ => 0))), (u.1 2, .inl (k 0, 8, .inl (fun _ => 0))), (u.1 3, .inl (k 0, 8, .inl (fun _ => 0))), (u.1 4, .inl (k 0, 6, .inl (fun _ => 0))), (u.1 5, .inl (k 0, 6, .inl (fun _ => 0))), (u.1 6, .inl (k 0, 6, .inl (fun _ => 0))), (u.1 7, .inr (5, [.ref (u.1 8), .ref (u.1 9), .ref (u.1 10), .ref (u.1 11), .ref (u.1 12)])), (u.1 8, .inl (k 0, 64, .inl (fun _ => 0))), (u.1 9, .inl (k 0, 8, .inl (fun _ => 0))), (u.1 10, .inl (k 0, 8, .inl (u.2 0))), (u.1 11, .inl (k 0, 3, .inl (fun _ => 0))), (u.1 12, .inl (k 0, 3, .inl (fun _ => 0))), (u.1 13, .inr (5, [.ref (u.1 14), .ref (u.1 15), .ref (u.1 16), .ref (u.1 17), .ref (u.1 18)])), (u.1 14, .inl (k 0, 64, .inl (fun _ => 0))), (u.1 15, .inl (k 0, 8, .inl (fun _ => 0))), (u.1 16, .inl (k 0, 8, .inl (u.2 1))), (u.1 17, .inl (k 0, 3, .inl (fun _ => 0))), (u.1 18, .inl (k 0, 3, .inl (fun _ => 0))), (u.1 19, .inl (k 0, 40, .inl (fun _ => 0))), (u.1 20, .inl (k 0, 40, .inl (fun _ => 0))), (u.1 21, .inl (k 0, 40, .inl (fun _ => 0)))]) (fun _ => []) [(h0, .inr (8, [.null, .null, .int 0, .null, .null, .null]))] sz) 22 358 (va_A [(h0, .inr (8, [.null, .null, .int 0, .null, .null, .null]))] sz) := by
  refine Met.ofW (cc := cX8_init) (maxL := 1) (ret := none) (by decide) rfl ?_
  intro p e s m args below meth c s₁ B hml hv
  obtain ⟨rfl, hsz, hP, hK, hD0, hN⟩ := hv
  have hx := B.exec
  have hb := B.bytes
  have hr := B.returns
  have hT : ∀ w ∈ TB, w.before ([.ref h0] : List Value).toArray s = true := fun w h => atoms_spec (ws := .code yX8_init cX8_init 1 none :: TB) B.pre w (List.mem_cons_of_mem _ h)
  have hown : s.vm.findClass RX8 = some m.cls := findClass_of_methodNamed B.named
  have S : CallFix p m c cX8_init 1 s _ TB RX8 := ⟨hx, hb, hml, hown, hT⟩
  have hin : meth.name = "<init>" := (name_of_methodNamed B.named B.method).1
  subst hsz
  have hD := hD0.self (sz := s.heap.size)
  generalize hAe : va_A [(h0, .inr (8, [.null, .null, .int 0, .null, .null, .null]))] s.heap.size = A at hD ⊢
  have hA : ∀ q : Nat, s.heap.size ≤ q → A q := fun q h => by rw [← hAe]; exact Or.inr h
  have hS : va_S A s.heap s.heap [] := va_S.rf
  have hP : va_P D vwCl [(h0, .inr (8, [.null, .null, .int 0, .null, .null, .null]))] s.heap := hP
  have hl := lv_entry ([.ref h0]) (n := 1) (Nat.le_of_ble_eq_true rfl)
  rw [lg_entry_eq]
  generalize (lg_sl ([.ref h0]) ++ List.replicate (1 - (lg_sl ([.ref h0])).length) Slot.unset).toArray = ls at hl ⊢
  have hl : lv_has ls 1 [(0, .ref h0)] := hl
  refine lv_aload_n hx hb dX8_init_0 rfl (lv_at hl 0 rfl) ?_
  refine W.objInit hx hb hown (hT _ t306) (hT _ t129) (hT _ t130) rfl (by rw [hml]; exact hl.1) rfl dX8_init_1 (Nat.le_of_ble_eq_true rfl) (Nat.le_of_ble_eq_true rfl) ?_
  refine W.eq (g2 := F0 m 4 ls []) rfl ?_
  refine lv_aload_n hx hb dX8_init_4 rfl (lv_at hl 0 rfl) ?_
  refine va_new (ci := 1) (fs := [.int 0, .int 0, .int 0, .int 0, .int 0, .int 0, .int 0, .null, .null, .null, .null, .null, .null, .null]) (C := RX1) (T := TX1) (N := 14) hx hb hT in_X1 tyX1 tyX1_ok hown (hT _ t307) (hT _ t153) (hT _ t107) hK hP hD hS hA rfl (fun j hj => by rcases (show j = 0 ∨ j = 1 ∨ j = 2 ∨ j = 3 ∨ j = 4 ∨ j = 5 ∨ j = 6 ∨ j = 7 ∨ j = 8 ∨ j = 9 ∨ j = 10 ∨ j = 11 ∨ j = 12 ∨ j = 13 by omega) with rfl | rfl | rfl | rfl | rfl | rfl | rfl | rfl | rfl | rfl | rfl | rfl | rfl | rfl <;> rfl) (Nat.le_of_ble_eq_true rfl) (Nat.le_of_ble_eq_true rfl) dX8_init_5 (fun q5_1 H hP hD hS => ?_)
  have hP : va_P D vwCl [(h0, .inr (8, [.null, .null, .int 0, .null, .null, .null])), (q5_1, .inr (1, [.int 0, .int 0, .int 0, .int 0, .int 0, .int 0, .int 0, .null, .null, .null, .null, .null, .null, .null]))] H := hP
  have hD : va_D A [(h0, .inr (8, [.null, .null, .int 0, .null, .null, .null])), (q5_1, .inr (1, [.int 0, .int 0, .int 0, .int 0, .int 0, .int 0, .int 0, .null, .null, .null, .null, .null, .null, .null]))] := hD
  refine W.widen (k := 1) (n := 14) (Nat.le_of_ble_eq_true rfl) (Nat.le_of_ble_eq_true rfl) ?_
  refine lv_dup hx hb dX8_init_8 rfl ?_
  refine rw_v (wc := [(q5_1, .inr (1, [.int 0, .int 0, .int 0, .int 0, .int 0, .int 0, .int 0, .null, .null, .null, .null, .null, .null, .null]))]) (wr := [(h0, .inr (8, [.null, .null, .int 0, .null, .null, .null]))]) [1] [0] rfl rfl (by decide) (by decide) (by decide) hP hD hS hA (fun hPc hDc => run_IN (C := RX1) (As := []) (rest := [.ref q5_1, .ref h0]) S (c_X1_init l D k q5_1 _) (gdC t156) (hN.1 _ (List.mem_of_getElem? (i := 4) rfl)) t155 t107 rfl ok_X1_init ⟨rfl, rfl, Nat.le_of_ble_eq_true rfl, Nat.le_of_ble_eq_true rfl⟩ (pw_S hK hN hPc hDc) rfl hl.1 rfl (Nat.le_of_ble_eq_true rfl) ⟨Nat.le_of_ble_eq_true rfl, Nat.le_of_ble_eq_true rfl⟩ dX8_init_9) (fun u9_2 H locs hu9_2 hKu9_2 hP hD hS => ?_)
  have hP : va_P D vwCl [(h0, .inr (8, [.null, .null, .int 0, .null, .null, .null])), (q5_1, .inr (1, [.int 0, .int 0, .int 0, .int 0, .int 0, .int 0, .int 0, .ref (u9_2.1 0), .ref (u9_2.1 1), .ref (u9_2.1 2), .ref (u9_2.1 3), .ref (u9_2.1 4), .ref (u9_2.1 5), .ref (u9_2.1 6)])), (u9_2.1 0, .inl (k 0, 8, .inl (fun _ => 0))), (u9_2.1 1, .inl (k 0, 8, .inl (fun _ => 0))), (u9_2.1 2, .inl (k 0, 8, .inl (fun _ => 0))), (u9_2.1 3, .inl (k 0, 6, .inl (fun _ => 0))), (u9_2.1 4, .inl (k 0, 6, .inl (fun _ => 0))), (u9_2.1 5, .inl (k 0, 6, .inl (fun _ => 0))), (u9_2.1 6, .inr (5, [.ref (u9_2.1 7), .ref (u9_2.1 8), .ref (u9_2.1 9), .ref (u9_2.1 10), .ref (u9_2.1 11)])), (u9_2.1 7, .inl (k 0, 64, .inl (fun _ => 0))), (u9_2.1 8, .inl (k 0, 8, .inl (fun _ => 0))), (u9_2.1 9, .inl (k 0, 8, .inl (u9_2.2 0))), (u9_2.1 10, .inl (k 0, 3, .inl (fun _ => 0))), (u9_2.1 11, .inl (k 0, 3, .inl (fun _ => 0)))] H := hP
  have hD : va_D A [(h0, .inr (8, [.null, .null, .int 0, .null, .null, .null])), (q5_1, .inr (1, [.int 0, .int 0, .int 0, .int 0, .int 0, .int 0, .int 0, .ref (u9_2.1 0), .ref (u9_2.1 1), .ref (u9_2.1 2), .ref (u9_2.1 3), .ref (u9_2.1 4), .ref (u9_2.1 5), .ref (u9_2.1 6)])), (u9_2.1 0, .inl (k 0, 8, .inl (fun _ => 0))), (u9_2.1 1, .inl (k 0, 8, .inl (fun _ => 0))), (u9_2.1 2, .inl (k 0, 8, .inl (fun _ => 0))), (u9_2.1 3, .inl (k 0, 6, .inl (fun _ => 0))), (u9_2.1 4, .inl (k 0, 6, .inl (fun _ => 0))), (u9_2.1 5, .inl (k 0, 6, .inl (fun _ => 0))), (u9_2.1 6, .inr (5, [.ref (u9_2.1 7), .ref (u9_2.1 8), .ref (u9_2.1 9), .ref (u9_2.1 10), .ref (u9_2.1 11)])), (u9_2.1 7, .inl (k 0, 64, .inl (fun _ => 0))), (u9_2.1 8, .inl (k 0, 8, .inl (fun _ => 0))), (u9_2.1 9, .inl (k 0, 8, .inl (u9_2.2 0))), (u9_2.1 10, .inl (k 0, 3, .inl (fun _ => 0))), (u9_2.1 11, .inl (k 0, 3, .inl (fun _ => 0)))] := hD
  refine W.widen (k := 13) (n := 147) (Nat.le_of_ble_eq_true rfl) (Nat.le_of_ble_eq_true rfl) ?_
  refine va_putF (D := D) (ci := 8) (v := .ref q5_1) (ty := .object "WheelMemory$Land") (C := RX8) (T := TX8) (N := 6) hx hb hT in_X8 tyX8 tyX8_ok nmX8 hown hK hP hD hS 0 rfl rfl 0 (by decide) (hT _ t311) (fun _ h9 => h9) rfl hin rfl (by decide +kernel) rfl rfl (Nat.le_of_ble_eq_true rfl) dX8_init_12 (fun H locs hP hD hS => ?_)
  have hP : va_P D vwCl [(h0, .inr (8, [.ref q5_1, .null, .int 0, .null, .null, .null])), (q5_1, .inr (1, [.int 0, .int 0, .int 0, .int 0, .int 0, .int 0, .int 0, .ref (u9_2.1 0), .ref (u9_2.1 1), .ref (u9_2.1 2), .ref (u9_2.1 3), .ref (u9_2.1 4), .ref (u9_2.1 5), .ref (u9_2.1 6)])), (u9_2.1 0, .inl (k 0, 8, .inl (fun _ => 0))), (u9_2.1 1, .inl (k 0, 8, .inl (fun _ => 0))), (u9_2.1 2, .inl (k 0, 8, .inl (fun _ => 0))), (u9_2.1 3, .inl (k 0, 6, .inl (fun _ => 0))), (u9_2.1 4, .inl (k 0, 6, .inl (fun _ => 0))), (u9_2.1 5, .inl (k 0, 6, .inl (fun _ => 0))), (u9_2.1 6, .inr (5, [.ref (u9_2.1 7), .ref (u9_2.1 8), .ref (u9_2.1 9), .ref (u9_2.1 10), .ref (u9_2.1 11)])), (u9_2.1 7, .inl (k 0, 64, .inl (fun _ => 0))), (u9_2.1 8, .inl (k 0, 8, .inl (fun _ => 0))), (u9_2.1 9, .inl (k 0, 8, .inl (u9_2.2 0))), (u9_2.1 10, .inl (k 0, 3, .inl (fun _ => 0))), (u9_2.1 11, .inl (k 0, 3, .inl (fun _ => 0)))] H := hP
  have hD : va_D A [(h0, .inr (8, [.ref q5_1, .null, .int 0, .null, .null, .null])), (q5_1, .inr (1, [.int 0, .int 0, .int 0, .int 0, .int 0, .int 0, .int 0, .ref (u9_2.1 0), .ref (u9_2.1 1), .ref (u9_2.1 2), .ref (u9_2.1 3), .ref (u9_2.1 4), .ref (u9_2.1 5), .ref (u9_2.1 6)])), (u9_2.1 0, .inl (k 0, 8, .inl (fun _ => 0))), (u9_2.1 1, .inl (k 0, 8, .inl (fun _ => 0))), (u9_2.1 2, .inl (k 0, 8, .inl (fun _ => 0))), (u9_2.1 3, .inl (k 0, 6, .inl (fun _ => 0))), (u9_2.1 4, .inl (k 0, 6, .inl (fun _ => 0))), (u9_2.1 5, .inl (k 0, 6, .inl (fun _ => 0))), (u9_2.1 6, .inr (5, [.ref (u9_2.1 7), .ref (u9_2.1 8), .ref (u9_2.1 9), .ref (u9_2.1 10), .ref (u9_2.1 11)])), (u9_2.1 7, .inl (k 0, 64, .inl (fun _ => 0))), (u9_2.1 8, .inl (k 0, 8, .inl (fun _ => 0))), (u9_2.1 9, .inl (k 0, 8, .inl (u9_2.2 0))), (u9_2.1 10, .inl (k 0, 3, .inl (fun _ => 0))), (u9_2.1 11, .inl (k 0, 3, .inl (fun _ => 0)))] := hD
  refine lv_aload_n hx hb dX8_init_15 rfl (lv_at hl 0 rfl) ?_
  refine va_new (ci := 5) (fs := [.null, .null, .null, .null, .null]) (C := RX5) (T := TX5) (N := 5) hx hb hT in_X5 tyX5 tyX5_ok hown (hT _ t309) (hT _ t159) (hT _ t108) hK hP hD hS hA rfl (fun j hj => by rcases (show j = 0 ∨ j = 1 ∨ j = 2 ∨ j = 3 ∨ j = 4 by omega) with rfl | rfl | rfl | rfl | rfl <;> rfl) (Nat.le_of_ble_eq_true rfl) (Nat.le_of_ble_eq_true rfl) dX8_init_16 (fun q16_3 H hP hD hS => ?_)
  have hP : va_P D vwCl [(h0, .inr (8, [.ref q5_1, .null, .int 0, .null, .null, .null])), (q5_1, .inr (1, [.int 0, .int 0, .int 0, .int 0, .int 0, .int 0, .int 0, .ref (u9_2.1 0), .ref (u9_2.1 1), .ref (u9_2.1 2), .ref (u9_2.1 3), .ref (u9_2.1 4), .ref (u9_2.1 5), .ref (u9_2.1 6)])), (u9_2.1 0, .inl (k 0, 8, .inl (fun _ => 0))), (u9_2.1 1, .inl (k 0, 8, .inl (fun _ => 0))), (u9_2.1 2, .inl (k 0, 8, .inl (fun _ => 0))), (u9_2.1 3, .inl (k 0, 6, .inl (fun _ => 0))), (u9_2.1 4, .inl (k 0, 6, .inl (fun _ => 0))), (u9_2.1 5, .inl (k 0, 6, .inl (fun _ => 0))), (u9_2.1 6, .inr (5, [.ref (u9_2.1 7), .ref (u9_2.1 8), .ref (u9_2.1 9), .ref (u9_2.1 10), .ref (u9_2.1 11)])), (u9_2.1 7, .inl (k 0, 64, .inl (fun _ => 0))), (u9_2.1 8, .inl (k 0, 8, .inl (fun _ => 0))), (u9_2.1 9, .inl (k 0, 8, .inl (u9_2.2 0))), (u9_2.1 10, .inl (k 0, 3, .inl (fun _ => 0))), (u9_2.1 11, .inl (k 0, 3, .inl (fun _ => 0))), (q16_3, .inr (5, [.null, .null, .null, .null, .null]))] H := hP
  have hD : va_D A [(h0, .inr (8, [.ref q5_1, .null, .int 0, .null, .null, .null])), (q5_1, .inr (1, [.int 0, .int 0, .int 0, .int 0, .int 0, .int 0, .int 0, .ref (u9_2.1 0), .ref (u9_2.1 1), .ref (u9_2.1 2), .ref (u9_2.1 3), .ref (u9_2.1 4), .ref (u9_2.1 5), .ref (u9_2.1 6)])), (u9_2.1 0, .inl (k 0, 8, .inl (fun _ => 0))), (u9_2.1 1, .inl (k 0, 8, .inl (fun _ => 0))), (u9_2.1 2, .inl (k 0, 8, .inl (fun _ => 0))), (u9_2.1 3, .inl (k 0, 6, .inl (fun _ => 0))), (u9_2.1 4, .inl (k 0, 6, .inl (fun _ => 0))), (u9_2.1 5, .inl (k 0, 6, .inl (fun _ => 0))), (u9_2.1 6, .inr (5, [.ref (u9_2.1 7), .ref (u9_2.1 8), .ref (u9_2.1 9), .ref (u9_2.1 10), .ref (u9_2.1 11)])), (u9_2.1 7, .inl (k 0, 64, .inl (fun _ => 0))), (u9_2.1 8, .inl (k 0, 8, .inl (fun _ => 0))), (u9_2.1 9, .inl (k 0, 8, .inl (u9_2.2 0))), (u9_2.1 10, .inl (k 0, 3, .inl (fun _ => 0))), (u9_2.1 11, .inl (k 0, 3, .inl (fun _ => 0))), (q16_3, .inr (5, [.null, .null, .null, .null, .null]))] := hD
  refine W.widen (k := 14) (n := 152) (Nat.le_of_ble_eq_true rfl) (Nat.le_of_ble_eq_true rfl) ?_
  refine lv_dup hx hb dX8_init_19 rfl ?_
  refine rw_v (wc := [(q16_3, .inr (5, [.null, .null, .null, .null, .null]))]) (wr := [(h0, .inr (8, [.ref q5_1, .null, .int 0, .null, .null, .null])), (q5_1, .inr (1, [.int 0, .int 0, .int 0, .int 0, .int 0, .int 0, .int 0, .ref (u9_2.1 0), .ref (u9_2.1 1), .ref (u9_2.1 2), .ref (u9_2.1 3), .ref (u9_2.1 4), .ref (u9_2.1 5), .ref (u9_2.1 6)])), (u9_2.1 0, .inl (k 0, 8, .inl (fun _ => 0))), (u9_2.1 1, .inl (k 0, 8, .inl (fun _ => 0))), (u9_2.1 2, .inl (k 0, 8, .inl (fun _ => 0))), (u9_2.1 3, .inl (k 0, 6, .inl (fun _ => 0))), (u9_2.1 4, .inl (k 0, 6, .inl (fun _ => 0))), (u9_2.1 5, .inl (k 0, 6, .inl (fun _ => 0))), (u9_2.1 6, .inr (5, [.ref (u9_2.1 7), .ref (u9_2.1 8), .ref (u9_2.1 9), .ref (u9_2.1 10), .ref (u9_2.1 11)])), (u9_2.1 7, .inl (k 0, 64, .inl (fun _ => 0))), (u9_2.1 8, .inl (k 0, 8, .inl (fun _ => 0))), (u9_2.1 9, .inl (k 0, 8, .inl (u9_2.2 0))), (u9_2.1 10, .inl (k 0, 3, .inl (fun _ => 0))), (u9_2.1 11, .inl (k 0, 3, .inl (fun _ => 0)))]) [14] [0, 1, 2, 3, 4, 5, 6, 7, 8, 9, 10, 11, 12, 13] rfl rfl (by decide) (by decide) (by decide) hP hD hS hA (fun hPc hDc => run_I (C := RX5) (As := []) (rest := [.ref q16_3, .ref h0]) S (c_X5_init l D k q16_3 _) (gdC t162) t310 t161 t108 rfl ok_X5_init ⟨rfl, rfl, Nat.le_of_ble_eq_true rfl, Nat.le_of_ble_eq_true rfl⟩ (pw_S hK hN hPc hDc) rfl hl.1 rfl (Nat.le_of_ble_eq_true rfl) ⟨Nat.le_of_ble_eq_true rfl, Nat.le_of_ble_eq_true rfl⟩ dX8_init_20) (fun u20_4 H locs hu20_4 hKu20_4 hP hD hS => ?_)
  have hP : va_P D vwCl [(h0, .inr (8, [.ref q5_1, .null, .int 0, .null, .null, .null])), (q5_1, .inr (1, [.int 0, .int 0, .int 0, .int 0, .int 0, .int 0, .int 0, .ref (u9_2.1 0), .ref (u9_2.1 1), .ref (u9_2.1 2), .ref (u9_2.1 3), .ref (u9_2.1 4), .ref (u9_2.1 5), .ref (u9_2.1 6)])), (u9_2.1 0, .inl (k 0, 8, .inl (fun _ => 0))), (u9_2.1 1, .inl (k 0, 8, .inl (fun _ => 0))), (u9_2.1 2, .inl (k 0, 8, .inl (fun _ => 0))), (u9_2.1 3, .inl (k 0, 6, .inl (fun _ => 0))), (u9_2.1 4, .inl (k 0, 6, .inl (fun _ => 0))), (u9_2.1 5, .inl (k 0, 6, .inl (fun _ => 0))), (u9_2.1 6, .inr (5, [.ref (u9_2.1 7), .ref (u9_2.1 8), .ref (u9_2.1 9), .ref (u9_2.1 10), .ref (u9_2.1 11)])), (u9_2.1 7, .inl (k 0, 64, .inl (fun _ => 0))), (u9_2.1 8, .inl (k 0, 8, .inl (fun _ => 0))), (u9_2.1 9, .inl (k 0, 8, .inl (u9_2.2 0))), (u9_2.1 10, .inl (k 0, 3, .inl (fun _ => 0))), (u9_2.1 11, .inl (k 0, 3, .inl (fun _ => 0))), (q16_3, .inr (5, [.ref (u20_4.1 0), .ref (u20_4.1 1), .ref (u20_4.1 2), .ref (u20_4.1 3), .ref (u20_4.1 4)])), (u20_4.1 0, .inl (k 0, 64, .inl (fun _ => 0))), (u20_4.1 1, .inl (k 0, 8, .inl (fun _ => 0))), (u20_4.1 2, .inl (k 0, 8, .inl (u20_4.2 0))), (u20_4.1 3, .inl (k 0, 3, .inl (fun _ => 0))), (u20_4.1 4, .inl (k 0, 3, .inl (fun _ => 0)))] H := hP
  have hD : va_D A [(h0, .inr (8, [.ref q5_1, .null, .int 0, .null, .null, .null])), (q5_1, .inr (1, [.int 0, .int 0, .int 0, .int 0, .int 0, .int 0, .int 0, .ref (u9_2.1 0), .ref (u9_2.1 1), .ref (u9_2.1 2), .ref (u9_2.1 3), .ref (u9_2.1 4), .ref (u9_2.1 5), .ref (u9_2.1 6)])), (u9_2.1 0, .inl (k 0, 8, .inl (fun _ => 0))), (u9_2.1 1, .inl (k 0, 8, .inl (fun _ => 0))), (u9_2.1 2, .inl (k 0, 8, .inl (fun _ => 0))), (u9_2.1 3, .inl (k 0, 6, .inl (fun _ => 0))), (u9_2.1 4, .inl (k 0, 6, .inl (fun _ => 0))), (u9_2.1 5, .inl (k 0, 6, .inl (fun _ => 0))), (u9_2.1 6, .inr (5, [.ref (u9_2.1 7), .ref (u9_2.1 8), .ref (u9_2.1 9), .ref (u9_2.1 10), .ref (u9_2.1 11)])), (u9_2.1 7, .inl (k 0, 64, .inl (fun _ => 0))), (u9_2.1 8, .inl (k 0, 8, .inl (fun _ => 0))), (u9_2.1 9, .inl (k 0, 8, .inl (u9_2.2 0))), (u9_2.1 10, .inl (k 0, 3, .inl (fun _ => 0))), (u9_2.1 11, .inl (k 0, 3, .inl (fun _ => 0))), (q16_3, .inr (5, [.ref (u20_4.1 0), .ref (u20_4.1 1), .ref (u20_4.1 2), .ref (u20_4.1 3), .ref (u20_4.1 4)])), (u20_4.1 0, .inl (k 0, 64, .inl (fun _ => 0))), (u20_4.1 1, .inl (k 0, 8, .inl (fun _ => 0))), (u20_4.1 2, .inl (k 0, 8, .inl (u20_4.2 0))), (u20_4.1 3, .inl (k 0, 3, .inl (fun _ => 0))), (u20_4.1 4, .inl (k 0, 3, .inl (fun _ => 0)))] := hD
  refine W.widen (k := 19) (n := 238) (Nat.le_of_ble_eq_true rfl) (Nat.le_of_ble_eq_true rfl) ?_
  refine va_putF (D := D) (ci := 8) (v := .ref q16_3) (ty := .object "WheelMemory$State") (C := RX8) (T := TX8) (N := 6) hx hb hT in_X8 tyX8 tyX8_ok nmX8 hown hK hP hD hS 0 rfl rfl 1 (by decide) (hT _ t313) (fun _ h9 => h9) rfl hin rfl (by decide +kernel) rfl rfl (Nat.le_of_ble_eq_true rfl) dX8_init_23 (fun H locs hP hD hS => ?_)
  have hP : va_P D vwCl [(h0, .inr (8, [.ref q5_1, .ref q16_3, .int 0, .null, .null, .null])), (q5_1, .inr (1, [.int 0, .int 0, .int 0, .int 0, .int 0, .int 0, .int 0, .ref (u9_2.1 0), .ref (u9_2.1 1), .ref (u9_2.1 2), .ref (u9_2.1 3), .ref (u9_2.1 4), .ref (u9_2.1 5), .ref (u9_2.1 6)])), (u9_2.1 0, .inl (k 0, 8, .inl (fun _ => 0))), (u9_2.1 1, .inl (k 0, 8, .inl (fun _ => 0))), (u9_2.1 2, .inl (k 0, 8, .inl (fun _ => 0))), (u9_2.1 3, .inl (k 0, 6, .inl (fun _ => 0))), (u9_2.1 4, .inl (k 0, 6, .inl (fun _ => 0))), (u9_2.1 5, .inl (k 0, 6, .inl (fun _ => 0))), (u9_2.1 6, .inr (5, [.ref (u9_2.1 7), .ref (u9_2.1 8), .ref (u9_2.1 9), .ref (u9_2.1 10), .ref (u9_2.1 11)])), (u9_2.1 7, .inl (k 0, 64, .inl (fun _ => 0))), (u9_2.1 8, .inl (k 0, 8, .inl (fun _ => 0))), (u9_2.1 9, .inl (k 0, 8, .inl (u9_2.2 0))), (u9_2.1 10, .inl (k 0, 3, .inl (fun _ => 0))), (u9_2.1 11, .inl (k 0, 3, .inl (fun _ => 0))), (q16_3, .inr (5, [.ref (u20_4.1 0), .ref (u20_4.1 1), .ref (u20_4.1 2), .ref (u20_4.1 3), .ref (u20_4.1 4)])), (u20_4.1 0, .inl (k 0, 64, .inl (fun _ => 0))), (u20_4.1 1, .inl (k 0, 8, .inl (fun _ => 0))), (u20_4.1 2, .inl (k 0, 8, .inl (u20_4.2 0))), (u20_4.1 3, .inl (k 0, 3, .inl (fun _ => 0))), (u20_4.1 4, .inl (k 0, 3, .inl (fun _ => 0)))] H := hP
  have hD : va_D A [(h0, .inr (8, [.ref q5_1, .ref q16_3, .int 0, .null, .null, .null])), (q5_1, .inr (1, [.int 0, .int 0, .int 0, .int 0, .int 0, .int 0, .int 0, .ref (u9_2.1 0), .ref (u9_2.1 1), .ref (u9_2.1 2), .ref (u9_2.1 3), .ref (u9_2.1 4), .ref (u9_2.1 5), .ref (u9_2.1 6)])), (u9_2.1 0, .inl (k 0, 8, .inl (fun _ => 0))), (u9_2.1 1, .inl (k 0, 8, .inl (fun _ => 0))), (u9_2.1 2, .inl (k 0, 8, .inl (fun _ => 0))), (u9_2.1 3, .inl (k 0, 6, .inl (fun _ => 0))), (u9_2.1 4, .inl (k 0, 6, .inl (fun _ => 0))), (u9_2.1 5, .inl (k 0, 6, .inl (fun _ => 0))), (u9_2.1 6, .inr (5, [.ref (u9_2.1 7), .ref (u9_2.1 8), .ref (u9_2.1 9), .ref (u9_2.1 10), .ref (u9_2.1 11)])), (u9_2.1 7, .inl (k 0, 64, .inl (fun _ => 0))), (u9_2.1 8, .inl (k 0, 8, .inl (fun _ => 0))), (u9_2.1 9, .inl (k 0, 8, .inl (u9_2.2 0))), (u9_2.1 10, .inl (k 0, 3, .inl (fun _ => 0))), (u9_2.1 11, .inl (k 0, 3, .inl (fun _ => 0))), (q16_3, .inr (5, [.ref (u20_4.1 0), .ref (u20_4.1 1), .ref (u20_4.1 2), .ref (u20_4.1 3), .ref (u20_4.1 4)])), (u20_4.1 0, .inl (k 0, 64, .inl (fun _ => 0))), (u20_4.1 1, .inl (k 0, 8, .inl (fun _ => 0))), (u20_4.1 2, .inl (k 0, 8, .inl (u20_4.2 0))), (u20_4.1 3, .inl (k 0, 3, .inl (fun _ => 0))), (u20_4.1 4, .inl (k 0, 3, .inl (fun _ => 0)))] := hD
  refine lv_aload_n hx hb dX8_init_26 rfl (lv_at hl 0 rfl) ?_
  refine lv_bipush (v := 40) hx hb dX8_init_27 (by decide) ?_
  refine n_newa (atype := .int) (ty := .int) (cT := k 0) (N' := 40) (a0 := (40, .inl (fun _ => 0))) 0 ra_int rfl hx hb (hT _ t194) rfl hK hP hD hS hA (fun _ => rfl) (by decide) (by decide) (Nat.le_of_ble_eq_true rfl) (Nat.le_of_ble_eq_true rfl) (Nat.le_of_ble_eq_true rfl) dX8_init_29 (fun q29_5 H hP hD hS => ?_)
  have hP : va_P D vwCl [(h0, .inr (8, [.ref q5_1, .ref q16_3, .int 0, .null, .null, .null])), (q5_1, .inr (1, [.int 0, .int 0, .int 0, .int 0, .int 0, .int 0, .int 0, .ref (u9_2.1 0), .ref (u9_2.1 1), .ref (u9_2.1 2), .ref (u9_2.1 3), .ref (u9_2.1 4), .ref (u9_2.1 5), .ref (u9_2.1 6)])), (u9_2.1 0, .inl (k 0, 8, .inl (fun _ => 0))), (u9_2.1 1, .inl (k 0, 8, .inl (fun _ => 0))), (u9_2.1 2, .inl (k 0, 8, .inl (fun _ => 0))), (u9_2.1 3, .inl (k 0, 6, .inl (fun _ => 0))), (u9_2.1 4, .inl (k 0, 6, .inl (fun _ => 0))), (u9_2.1 5, .inl (k 0, 6, .inl (fun _ => 0))), (u9_2.1 6, .inr (5, [.ref (u9_2.1 7), .ref (u9_2.1 8), .ref (u9_2.1 9), .ref (u9_2.1 10), .ref (u9_2.1 11)])), (u9_2.1 7, .inl (k 0, 64, .inl (fun _ => 0))), (u9_2.1 8, .inl (k 0, 8, .inl (fun _ => 0))), (u9_2.1 9, .inl (k 0, 8, .inl (u9_2.2 0))), (u9_2.1 10, .inl (k 0, 3, .inl (fun _ => 0))), (u9_2.1 11, .inl (k 0, 3, .inl (fun _ => 0))), (q16_3, .inr (5, [.ref (u20_4.1 0), .ref (u20_4.1 1), .ref (u20_4.1 2), .ref (u20_4.1 3), .ref (u20_4.1 4)])), (u20_4.1 0, .inl (k 0, 64, .inl (fun _ => 0))), (u20_4.1 1, .inl (k 0, 8, .inl (fun _ => 0))), (u20_4.1 2, .inl (k 0, 8, .inl (u20_4.2 0))), (u20_4.1 3, .inl (k 0, 3, .inl (fun _ => 0))), (u20_4.1 4, .inl (k 0, 3, .inl (fun _ => 0))), (q29_5, .inl (k 0, 40, .inl (fun _ => 0)))] H := hP
  have hD : va_D A [(h0, .inr (8, [.ref q5_1, .ref q16_3, .int 0, .null, .null, .null])), (q5_1, .inr (1, [.int 0, .int 0, .int 0, .int 0, .int 0, .int 0, .int 0, .ref (u9_2.1 0), .ref (u9_2.1 1), .ref (u9_2.1 2), .ref (u9_2.1 3), .ref (u9_2.1 4), .ref (u9_2.1 5), .ref (u9_2.1 6)])), (u9_2.1 0, .inl (k 0, 8, .inl (fun _ => 0))), (u9_2.1 1, .inl (k 0, 8, .inl (fun _ => 0))), (u9_2.1 2, .inl (k 0, 8, .inl (fun _ => 0))), (u9_2.1 3, .inl (k 0, 6, .inl (fun _ => 0))), (u9_2.1 4, .inl (k 0, 6, .inl (fun _ => 0))), (u9_2.1 5, .inl (k 0, 6, .inl (fun _ => 0))), (u9_2.1 6, .inr (5, [.ref (u9_2.1 7), .ref (u9_2.1 8), .ref (u9_2.1 9), .ref (u9_2.1 10), .ref (u9_2.1 11)])), (u9_2.1 7, .inl (k 0, 64, .inl (fun _ => 0))), (u9_2.1 8, .inl (k 0, 8, .inl (fun _ => 0))), (u9_2.1 9, .inl (k 0, 8, .inl (u9_2.2 0))), (u9_2.1 10, .inl (k 0, 3, .inl (fun _ => 0))), (u9_2.1 11, .inl (k 0, 3, .inl (fun _ => 0))), (q16_3, .inr (5, [.ref (u20_4.1 0), .ref (u20_4.1 1), .ref (u20_4.1 2), .ref (u20_4.1 3), .ref (u20_4.1 4)])), (u20_4.1 0, .inl (k 0, 64, .inl (fun _ => 0))), (u20_4.1 1, .inl (k 0, 8, .inl (fun _ => 0))), (u20_4.1 2, .inl (k 0, 8, .inl (u20_4.2 0))), (u20_4.1 3, .inl (k 0, 3, .inl (fun _ => 0))), (u20_4.1 4, .inl (k 0, 3, .inl (fun _ => 0))), (q29_5, .inl (k 0, 40, .inl (fun _ => 0)))] := hD
  refine W.widen (k := 20) (n := 278) (Nat.le_of_ble_eq_true rfl) (Nat.le_of_ble_eq_true rfl) ?_
  refine va_putF (D := D) (ci := 8) (v := .ref q29_5) (ty := .array .int) (C := RX8) (T := TX8) (N := 6) hx hb hT in_X8 tyX8 tyX8_ok nmX8 hown hK hP hD hS 0 rfl rfl 3 (by decide) (hT _ t317) (fun _ h9 => h9) rfl hin rfl (by decide +kernel) rfl rfl (Nat.le_of_ble_eq_true rfl) dX8_init_31 (fun H locs hP hD hS => ?_)
  have hP : va_P D vwCl [(h0, .inr (8, [.ref q5_1, .ref q16_3, .int 0, .ref q29_5, .null, .null])), (q5_1, .inr (1, [.int 0, .int 0, .int 0, .int 0, .int 0, .int 0, .int 0, .ref (u9_2.1 0), .ref (u9_2.1 1), .ref (u9_2.1 2), .ref (u9_2.1 3), .ref (u9_2.1 4), .ref (u9_2.1 5), .ref (u9_2.1 6)])), (u9_2.1 0, .inl (k 0, 8, .inl (fun _ => 0))), (u9_2.1 1, .inl (k 0, 8, .inl (fun _ => 0))), (u9_2.1 2, .inl (k 0, 8, .inl (fun _ => 0))), (u9_2.1 3, .inl (k 0, 6, .inl (fun _ => 0))), (u9_2.1 4, .inl (k 0, 6, .inl (fun _ => 0))), (u9_2.1 5, .inl (k 0, 6, .inl (fun _ => 0))), (u9_2.1 6, .inr (5, [.ref (u9_2.1 7), .ref (u9_2.1 8), .ref (u9_2.1 9), .ref (u9_2.1 10), .ref (u9_2.1 11)])), (u9_2.1 7, .inl (k 0, 64, .inl (fun _ => 0))), (u9_2.1 8, .inl (k 0, 8, .inl (fun _ => 0))), (u9_2.1 9, .inl (k 0, 8, .inl (u9_2.2 0))), (u9_2.1 10, .inl (k 0, 3, .inl (fun _ => 0))), (u9_2.1 11, .inl (k 0, 3, .inl (fun _ => 0))), (q16_3, .inr (5, [.ref (u20_4.1 0), .ref (u20_4.1 1), .ref (u20_4.1 2), .ref (u20_4.1 3), .ref (u20_4.1 4)])), (u20_4.1 0, .inl (k 0, 64, .inl (fun _ => 0))), (u20_4.1 1, .inl (k 0, 8, .inl (fun _ => 0))), (u20_4.1 2, .inl (k 0, 8, .inl (u20_4.2 0))), (u20_4.1 3, .inl (k 0, 3, .inl (fun _ => 0))), (u20_4.1 4, .inl (k 0, 3, .inl (fun _ => 0))), (q29_5, .inl (k 0, 40, .inl (fun _ => 0)))] H := hP
  have hD : va_D A [(h0, .inr (8, [.ref q5_1, .ref q16_3, .int 0, .ref q29_5, .null, .null])), (q5_1, .inr (1, [.int 0, .int 0, .int 0, .int 0, .int 0, .int 0, .int 0, .ref (u9_2.1 0), .ref (u9_2.1 1), .ref (u9_2.1 2), .ref (u9_2.1 3), .ref (u9_2.1 4), .ref (u9_2.1 5), .ref (u9_2.1 6)])), (u9_2.1 0, .inl (k 0, 8, .inl (fun _ => 0))), (u9_2.1 1, .inl (k 0, 8, .inl (fun _ => 0))), (u9_2.1 2, .inl (k 0, 8, .inl (fun _ => 0))), (u9_2.1 3, .inl (k 0, 6, .inl (fun _ => 0))), (u9_2.1 4, .inl (k 0, 6, .inl (fun _ => 0))), (u9_2.1 5, .inl (k 0, 6, .inl (fun _ => 0))), (u9_2.1 6, .inr (5, [.ref (u9_2.1 7), .ref (u9_2.1 8), .ref (u9_2.1 9), .ref (u9_2.1 10), .ref (u9_2.1 11)])), (u9_2.1 7, .inl (k 0, 64, .inl (fun _ => 0))), (u9_2.1 8, .inl (k 0, 8, .inl (fun _ => 0))), (u9_2.1 9, .inl (k 0, 8, .inl (u9_2.2 0))), (u9_2.1 10, .inl (k 0, 3, .inl (fun _ => 0))), (u9_2.1 11, .inl (k 0, 3, .inl (fun _ => 0))), (q16_3, .inr (5, [.ref (u20_4.1 0), .ref (u20_4.1 1), .ref (u20_4.1 2), .ref (u20_4.1 3), .ref (u20_4.1 4)])), (u20_4.1 0, .inl (k 0, 64, .inl (fun _ => 0))), (u20_4.1 1, .inl (k 0, 8, .inl (fun _ => 0))), (u20_4.1 2, .inl (k 0, 8, .inl (u20_4.2 0))), (u20_4.1 3, .inl (k 0, 3, .inl (fun _ => 0))), (u20_4.1 4, .inl (k 0, 3, .inl (fun _ => 0))), (q29_5, .inl (k 0, 40, .inl (fun _ => 0)))] := hD
  refine lv_aload_n hx hb dX8_init_34 rfl (lv_at hl 0 rfl) ?_
  refine lv_bipush (v := 40) hx hb dX8_init_35 (by decide) ?_
  refine n_newa (atype := .int) (ty := .int) (cT := k 0) (N' := 40) (a0 := (40, .inl (fun _ => 0))) 0 ra_int rfl hx hb (hT _ t194) rfl hK hP hD hS hA (fun _ => rfl) (by decide) (by decide) (Nat.le_of_ble_eq_true rfl) (Nat.le_of_ble_eq_true rfl) (Nat.le_of_ble_eq_true rfl) dX8_init_37 (fun q37_6 H hP hD hS => ?_)
  have hP : va_P D vwCl [(h0, .inr (8, [.ref q5_1, .ref q16_3, .int 0, .ref q29_5, .null, .null])), (q5_1, .inr (1, [.int 0, .int 0, .int 0, .int 0, .int 0, .int 0, .int 0, .ref (u9_2.1 0), .ref (u9_2.1 1), .ref (u9_2.1 2), .ref (u9_2.1 3), .ref (u9_2.1 4), .ref (u9_2.1 5), .ref (u9_2.1 6)])), (u9_2.1 0, .inl (k 0, 8, .inl (fun _ => 0))), (u9_2.1 1, .inl (k 0, 8, .inl (fun _ => 0))), (u9_2.1 2, .inl (k 0, 8, .inl (fun _ => 0))), (u9_2.1 3, .inl (k 0, 6, .inl (fun _ => 0))), (u9_2.1 4, .inl (k 0, 6, .inl (fun _ => 0))), (u9_2.1 5, .inl (k 0, 6, .inl (fun _ => 0))), (u9_2.1 6, .inr (5, [.ref (u9_2.1 7), .ref (u9_2.1 8), .ref (u9_2.1 9), .ref (u9_2.1 10), .ref (u9_2.1 11)])), (u9_2.1 7, .inl (k 0, 64, .inl (fun _ => 0))), (u9_2.1 8, .inl (k 0, 8, .inl (fun _ => 0))), (u9_2.1 9, .inl (k 0, 8, .inl (u9_2.2 0))), (u9_2.1 10, .inl (k 0, 3, .inl (fun _ => 0))), (u9_2.1 11, .inl (k 0, 3, .inl (fun _ => 0))), (q16_3, .inr (5, [.ref (u20_4.1 0), .ref (u20_4.1 1), .ref (u20_4.1 2), .ref (u20_4.1 3), .ref (u20_4.1 4)])), (u20_4.1 0, .inl (k 0, 64, .inl (fun _ => 0))), (u20_4.1 1, .inl (k 0, 8, .inl (fun _ => 0))), (u20_4.1 2, .inl (k 0, 8, .inl (u20_4.2 0))), (u20_4.1 3, .inl (k 0, 3, .inl (fun _ => 0))), (u20_4.1 4, .inl (k 0, 3, .inl (fun _ => 0))), (q29_5, .inl (k 0, 40, .inl (fun _ => 0))), (q37_6, .inl (k 0, 40, .inl (fun _ => 0)))] H := hP
  have hD : va_D A [(h0, .inr (8, [.ref q5_1, .ref q16_3, .int 0, .ref q29_5, .null, .null])), (q5_1, .inr (1, [.int 0, .int 0, .int 0, .int 0, .int 0, .int 0, .int 0, .ref (u9_2.1 0), .ref (u9_2.1 1), .ref (u9_2.1 2), .ref (u9_2.1 3), .ref (u9_2.1 4), .ref (u9_2.1 5), .ref (u9_2.1 6)])), (u9_2.1 0, .inl (k 0, 8, .inl (fun _ => 0))), (u9_2.1 1, .inl (k 0, 8, .inl (fun _ => 0))), (u9_2.1 2, .inl (k 0, 8, .inl (fun _ => 0))), (u9_2.1 3, .inl (k 0, 6, .inl (fun _ => 0))), (u9_2.1 4, .inl (k 0, 6, .inl (fun _ => 0))), (u9_2.1 5, .inl (k 0, 6, .inl (fun _ => 0))), (u9_2.1 6, .inr (5, [.ref (u9_2.1 7), .ref (u9_2.1 8), .ref (u9_2.1 9), .ref (u9_2.1 10), .ref (u9_2.1 11)])), (u9_2.1 7, .inl (k 0, 64, .inl (fun _ => 0))), (u9_2.1 8, .inl (k 0, 8, .inl (fun _ => 0))), (u9_2.1 9, .inl (k 0, 8, .inl (u9_2.2 0))), (u9_2.1 10, .inl (k 0, 3, .inl (fun _ => 0))), (u9_2.1 11, .inl (k 0, 3, .inl (fun _ => 0))), (q16_3, .inr (5, [.ref (u20_4.1 0), .ref (u20_4.1 1), .ref (u20_4.1 2), .ref (u20_4.1 3), .ref (u20_4.1 4)])), (u20_4.1 0, .inl (k 0, 64, .inl (fun _ => 0))), (u20_4.1 1, .inl (k 0, 8, .inl (fun _ => 0))), (u20_4.1 2, .inl (k 0, 8, .inl (u20_4.2 0))), (u20_4.1 3, .inl (k 0, 3, .inl (fun _ => 0))), (u20_4.1 4, .inl (k 0, 3, .inl (fun _ => 0))), (q29_5, .inl (k 0, 40, .inl (fun _ => 0))), (q37_6, .inl (k 0, 40, .inl (fun _ => 0)))] := hD
  refine W.widen (k := 21) (n := 318) (Nat.le_of_ble_eq_true rfl) (Nat.le_of_ble_eq_true rfl) ?_
  refine va_putF (D := D) (ci := 8) (v := .ref q37_6) (ty := .array .int) (C := RX8) (T := TX8) (N := 6) hx hb hT in_X8 tyX8 tyX8_ok nmX8 hown hK hP hD hS 0 rfl rfl 4 (by decide) (hT _ t318) (fun _ h9 => h9) rfl hin rfl (by decide +kernel) rfl rfl (Nat.le_of_ble_eq_true rfl) dX8_init_39 (fun H locs hP hD hS => ?_)
  have hP : va_P D vwCl [(h0, .inr (8, [.ref q5_1, .ref q16_3, .int 0, .ref q29_5, .ref q37_6, .null])), (q5_1, .inr (1, [.int 0, .int 0, .int 0, .int 0, .int 0, .int 0, .int 0, .ref (u9_2.1 0), .ref (u9_2.1 1), .ref (u9_2.1 2), .ref (u9_2.1 3), .ref (u9_2.1 4), .ref (u9_2.1 5), .ref (u9_2.1 6)])), (u9_2.1 0, .inl (k 0, 8, .inl (fun _ => 0))), (u9_2.1 1, .inl (k 0, 8, .inl (fun _ => 0))), (u9_2.1 2, .inl (k 0, 8, .inl (fun _ => 0))), (u9_2.1 3, .inl (k 0, 6, .inl (fun _ => 0))), (u9_2.1 4, .inl (k 0, 6, .inl (fun _ => 0))), (u9_2.1 5, .inl (k 0, 6, .inl (fun _ => 0))), (u9_2.1 6, .inr (5, [.ref (u9_2.1 7), .ref (u9_2.1 8), .ref (u9_2.1 9), .ref (u9_2.1 10), .ref (u9_2.1 11)])), (u9_2.1 7, .inl (k 0, 64, .inl (fun _ => 0))), (u9_2.1 8, .inl (k 0, 8, .inl (fun _ => 0))), (u9_2.1 9, .inl (k 0, 8, .inl (u9_2.2 0))), (u9_2.1 10, .inl (k 0, 3, .inl (fun _ => 0))), (u9_2.1 11, .inl (k 0, 3, .inl (fun _ => 0))), (q16_3, .inr (5, [.ref (u20_4.1 0), .ref (u20_4.1 1), .ref (u20_4.1 2), .ref (u20_4.1 3), .ref (u20_4.1 4)])), (u20_4.1 0, .inl (k 0, 64, .inl (fun _ => 0))), (u20_4.1 1, .inl (k 0, 8, .inl (fun _ => 0))), (u20_4.1 2, .inl (k 0, 8, .inl (u20_4.2 0))), (u20_4.1 3, .inl (k 0, 3, .inl (fun _ => 0))), (u20_4.1 4, .inl (k 0, 3, .inl (fun _ => 0))), (q29_5, .inl (k 0, 40, .inl (fun _ => 0))), (q37_6, .inl (k 0, 40, .inl (fun _ => 0)))] H := hP
  have hD : va_D A [(h0, .inr (8, [.ref q5_1, .ref q16_3, .int 0, .ref q29_5, .ref q37_6, .null])), (q5_1, .inr (1, [.int 0, .int 0, .int 0, .int 0, .int 0, .int 0, .int 0, .ref (u9_2.1 0), .ref (u9_2.1 1), .ref (u9_2.1 2), .ref (u9_2.1 3), .ref (u9_2.1 4), .ref (u9_2.1 5), .ref (u9_2.1 6)])), (u9_2.1 0, .inl (k 0, 8, .inl (fun _ => 0))), (u9_2.1 1, .inl (k 0, 8, .inl (fun _ => 0))), (u9_2.1 2, .inl (k 0, 8, .inl (fun _ => 0))), (u9_2.1 3, .inl (k 0, 6, .inl (fun _ => 0))), (u9_2.1 4, .inl (k 0, 6, .inl (fun _ => 0))), (u9_2.1 5, .inl (k 0, 6, .inl (fun _ => 0))), (u9_2.1 6, .inr (5, [.ref (u9_2.1 7), .ref (u9_2.1 8), .ref (u9_2.1 9), .ref (u9_2.1 10), .ref (u9_2.1 11)])), (u9_2.1 7, .inl (k 0, 64, .inl (fun _ => 0))), (u9_2.1 8, .inl (k 0, 8, .inl (fun _ => 0))), (u9_2.1 9, .inl (k 0, 8, .inl (u9_2.2 0))), (u9_2.1 10, .inl (k 0, 3, .inl (fun _ => 0))), (u9_2.1 11, .inl (k 0, 3, .inl (fun _ => 0))), (q16_3, .inr (5, [.ref (u20_4.1 0), .ref (u20_4.1 1), .ref (u20_4.1 2), .ref (u20_4.1 3), .ref (u20_4.1 4)])), (u20_4.1 0, .inl (k 0, 64, .inl (fun _ => 0))), (u20_4.1 1, .inl (k 0, 8, .inl (fun _ => 0))), (u20_4.1 2, .inl (k 0, 8, .inl (u20_4.2 0))), (u20_4.1 3, .inl (k 0, 3, .inl (fun _ => 0))), (u20_4.1 4, .inl (k 0, 3, .inl (fun _ => 0))), (q29_5, .inl (k 0, 40, .inl (fun _ => 0))), (q37_6, .inl (k 0, 40, .inl (fun _ => 0)))] := hD
  refine lv_aload_n hx hb dX8_init_42 rfl (lv_at hl 0 rfl) ?_
  refine lv_bipush (v := 40) hx hb dX8_init_43 (by decide) ?_
  refine n_newa (atype := .int) (ty := .int) (cT := k 0) (N' := 40) (a0 := (40, .inl (fun _ => 0))) 0 ra_int rfl hx hb (hT _ t194) rfl hK hP hD hS hA (fun _ => rfl) (by decide) (by decide) (Nat.le_of_ble_eq_true rfl) (Nat.le_of_ble_eq_true rfl) (Nat.le_of_ble_eq_true rfl) dX8_init_45 (fun q45_7 H hP hD hS => ?_)
  have hP : va_P D vwCl [(h0, .inr (8, [.ref q5_1, .ref q16_3, .int 0, .ref q29_5, .ref q37_6, .null])), (q5_1, .inr (1, [.int 0, .int 0, .int 0, .int 0, .int 0, .int 0, .int 0, .ref (u9_2.1 0), .ref (u9_2.1 1), .ref (u9_2.1 2), .ref (u9_2.1 3), .ref (u9_2.1 4), .ref (u9_2.1 5), .ref (u9_2.1 6)])), (u9_2.1 0, .inl (k 0, 8, .inl (fun _ => 0))), (u9_2.1 1, .inl (k 0, 8, .inl (fun _ => 0))), (u9_2.1 2, .inl (k 0, 8, .inl (fun _ => 0))), (u9_2.1 3, .inl (k 0, 6, .inl (fun _ => 0))), (u9_2.1 4, .inl (k 0, 6, .inl (fun _ => 0))), (u9_2.1 5, .inl (k 0, 6, .inl (fun _ => 0))), (u9_2.1 6, .inr (5, [.ref (u9_2.1 7), .ref (u9_2.1 8), .ref (u9_2.1 9), .ref (u9_2.1 10), .ref (u9_2.1 11)])), (u9_2.1 7, .inl (k 0, 64, .inl (fun _ => 0))), (u9_2.1 8, .inl (k 0, 8, .inl (fun _ => 0))), (u9_2.1 9, .inl (k 0, 8, .inl (u9_2.2 0))), (u9_2.1 10, .inl (k 0, 3, .inl (fun _ => 0))), (u9_2.1 11, .inl (k 0, 3, .inl (fun _ => 0))), (q16_3, .inr (5, [.ref (u20_4.1 0), .ref (u20_4.1 1), .ref (u20_4.1 2), .ref (u20_4.1 3), .ref (u20_4.1 4)])), (u20_4.1 0, .inl (k 0, 64, .inl (fun _ => 0))), (u20_4.1 1, .inl (k 0, 8, .inl (fun _ => 0))), (u20_4.1 2, .inl (k 0, 8, .inl (u20_4.2 0))), (u20_4.1 3, .inl (k 0, 3, .inl (fun _ => 0))), (u20_4.1 4, .inl (k 0, 3, .inl (fun _ => 0))), (q29_5, .inl (k 0, 40, .inl (fun _ => 0))), (q37_6, .inl (k 0, 40, .inl (fun _ => 0))), (q45_7, .inl (k 0, 40, .inl (fun _ => 0)))] H := hP
  have hD : va_D A [(h0, .inr (8, [.ref q5_1, .ref q16_3, .int 0, .ref q29_5, .ref q37_6, .null])), (q5_1, .inr (1, [.int 0, .int 0, .int 0, .int 0, .int 0, .int 0, .int 0, .ref (u9_2.1 0), .ref (u9_2.1 1), .ref (u9_2.1 2), .ref (u9_2.1 3), .ref (u9_2.1 4), .ref (u9_2.1 5), .ref (u9_2.1 6)])), (u9_2.1 0, .inl (k 0, 8, .inl (fun _ => 0))), (u9_2.1 1, .inl (k 0, 8, .inl (fun _ => 0))), (u9_2.1 2, .inl (k 0, 8, .inl (fun _ => 0))), (u9_2.1 3, .inl (k 0, 6, .inl (fun _ => 0))), (u9_2.1 4, .inl (k 0, 6, .inl (fun _ => 0))), (u9_2.1 5, .inl (k 0, 6, .inl (fun _ => 0))), (u9_2.1 6, .inr (5, [.ref (u9_2.1 7), .ref (u9_2.1 8), .ref (u9_2.1 9), .ref (u9_2.1 10), .ref (u9_2.1 11)])), (u9_2.1 7, .inl (k 0, 64, .inl (fun _ => 0))), (u9_2.1 8, .inl (k 0, 8, .inl (fun _ => 0))), (u9_2.1 9, .inl (k 0, 8, .inl (u9_2.2 0))), (u9_2.1 10, .inl (k 0, 3, .inl (fun _ => 0))), (u9_2.1 11, .inl (k 0, 3, .inl (fun _ => 0))), (q16_3, .inr (5, [.ref (u20_4.1 0), .ref (u20_4.1 1), .ref (u20_4.1 2), .ref (u20_4.1 3), .ref (u20_4.1 4)])), (u20_4.1 0, .inl (k 0, 64, .inl (fun _ => 0))), (u20_4.1 1, .inl (k 0, 8, .inl (fun _ => 0))), (u20_4.1 2, .inl (k 0, 8, .inl (u20_4.2 0))), (u20_4.1 3, .inl (k 0, 3, .inl (fun _ => 0))), (u20_4.1 4, .inl (k 0, 3, .inl (fun _ => 0))), (q29_5, .inl (k 0, 40, .inl (fun _ => 0))), (q37_6, .inl (k 0, 40, .inl (fun _ => 0))), (q45_7, .inl (k 0, 40, .inl (fun _ => 0)))] := hD
  refine W.widen (k := 22) (n := 358) (Nat.le_of_ble_eq_true rfl) (Nat.le_of_ble_eq_true rfl) ?_
  refine va_putF (D := D) (ci := 8) (v := .ref q45_7) (ty := .array .int) (C := RX8) (T := TX8) (N := 6) hx hb hT in_X8 tyX8 tyX8_ok nmX8 hown hK hP hD hS 0 rfl rfl 5 (by decide) (hT _ t319) (fun _ h9 => h9) rfl hin rfl (by decide +kernel) rfl rfl (Nat.le_of_ble_eq_true rfl) dX8_init_47 (fun H locs hP hD hS => ?_)
  have hP : va_P D vwCl [(h0, .inr (8, [.ref q5_1, .ref q16_3, .int 0, .ref q29_5, .ref q37_6, .ref q45_7])), (q5_1, .inr (1, [.int 0, .int 0, .int 0, .int 0, .int 0, .int 0, .int 0, .ref (u9_2.1 0), .ref (u9_2.1 1), .ref (u9_2.1 2), .ref (u9_2.1 3), .ref (u9_2.1 4), .ref (u9_2.1 5), .ref (u9_2.1 6)])), (u9_2.1 0, .inl (k 0, 8, .inl (fun _ => 0))), (u9_2.1 1, .inl (k 0, 8, .inl (fun _ => 0))), (u9_2.1 2, .inl (k 0, 8, .inl (fun _ => 0))), (u9_2.1 3, .inl (k 0, 6, .inl (fun _ => 0))), (u9_2.1 4, .inl (k 0, 6, .inl (fun _ => 0))), (u9_2.1 5, .inl (k 0, 6, .inl (fun _ => 0))), (u9_2.1 6, .inr (5, [.ref (u9_2.1 7), .ref (u9_2.1 8), .ref (u9_2.1 9), .ref (u9_2.1 10), .ref (u9_2.1 11)])), (u9_2.1 7, .inl (k 0, 64, .inl (fun _ => 0))), (u9_2.1 8, .inl (k 0, 8, .inl (fun _ => 0))), (u9_2.1 9, .inl (k 0, 8, .inl (u9_2.2 0))), (u9_2.1 10, .inl (k 0, 3, .inl (fun _ => 0))), (u9_2.1 11, .inl (k 0, 3, .inl (fun _ => 0))), (q16_3, .inr (5, [.ref (u20_4.1 0), .ref (u20_4.1 1), .ref (u20_4.1 2), .ref (u20_4.1 3), .ref (u20_4.1 4)])), (u20_4.1 0, .inl (k 0, 64, .inl (fun _ => 0))), (u20_4.1 1, .inl (k 0, 8, .inl (fun _ => 0))), (u20_4.1 2, .inl (k 0, 8, .inl (u20_4.2 0))), (u20_4.1 3, .inl (k 0, 3, .inl (fun _ => 0))), (u20_4.1 4, .inl (k 0, 3, .inl (fun _ => 0))), (q29_5, .inl (k 0, 40, .inl (fun _ => 0))), (q37_6, .inl (k 0, 40, .inl (fun _ => 0))), (q45_7, .inl (k 0, 40, .inl (fun _ => 0)))] H := hP
  have hD : va_D A [(h0, .inr (8, [.ref q5_1, .ref q16_3, .int 0, .ref q29_5, .ref q37_6, .ref q45_7])), (q5_1, .inr (1, [.int 0, .int 0, .int 0, .int 0, .int 0, .int 0, .int 0, .ref (u9_2.1 0), .ref (u9_2.1 1), .ref (u9_2.1 2), .ref (u9_2.1 3), .ref (u9_2.1 4), .ref (u9_2.1 5), .ref (u9_2.1 6)])), (u9_2.1 0, .inl (k 0, 8, .inl (fun _ => 0))), (u9_2.1 1, .inl (k 0, 8, .inl (fun _ => 0))), (u9_2.1 2, .inl (k 0, 8, .inl (fun _ => 0))), (u9_2.1 3, .inl (k 0, 6, .inl (fun _ => 0))), (u9_2.1 4, .inl (k 0, 6, .inl (fun _ => 0))), (u9_2.1 5, .inl (k 0, 6, .inl (fun _ => 0))), (u9_2.1 6, .inr (5, [.ref (u9_2.1 7), .ref (u9_2.1 8), .ref (u9_2.1 9), .ref (u9_2.1 10), .ref (u9_2.1 11)])), (u9_2.1 7, .inl (k 0, 64, .inl (fun _ => 0))), (u9_2.1 8, .inl (k 0, 8, .inl (fun _ => 0))), (u9_2.1 9, .inl (k 0, 8, .inl (u9_2.2 0))), (u9_2.1 10, .inl (k 0, 3, .inl (fun _ => 0))), (u9_2.1 11, .inl (k 0, 3, .inl (fun _ => 0))), (q16_3, .inr (5, [.ref (u20_4.1 0), .ref (u20_4.1 1), .ref (u20_4.1 2), .ref (u20_4.1 3), .ref (u20_4.1 4)])), (u20_4.1 0, .inl (k 0, 64, .inl (fun _ => 0))), (u20_4.1 1, .inl (k 0, 8, .inl (fun _ => 0))), (u20_4.1 2, .inl (k 0, 8, .inl (u20_4.2 0))), (u20_4.1 3, .inl (k 0, 3, .inl (fun _ => 0))), (u20_4.1 4, .inl (k 0, 3, .inl (fun _ => 0))), (q29_5, .inl (k 0, 40, .inl (fun _ => 0))), (q37_6, .inl (k 0, 40, .inl (fun _ => 0))), (q45_7, .inl (k 0, 40, .inl (fun _ => 0)))] := hD
  have hP9 := hP.sub (ws' := [(h0, .inr (8, [.ref q5_1, .ref q16_3, .int 0, .ref q29_5, .ref q37_6, .ref q45_7])), (q5_1, .inr (1, [.int 0, .int 0, .int 0, .int 0, .int 0, .int 0, .int 0, .ref (u9_2.1 0), .ref (u9_2.1 1), .ref (u9_2.1 2), .ref (u9_2.1 3), .ref (u9_2.1 4), .ref (u9_2.1 5), .ref (u9_2.1 6)])), (u9_2.1 0, .inl (k 0, 8, .inl (fun _ => 0))), (u9_2.1 1, .inl (k 0, 8, .inl (fun _ => 0))), (u9_2.1 2, .inl (k 0, 8, .inl (fun _ => 0))), (u9_2.1 3, .inl (k 0, 6, .inl (fun _ => 0))), (u9_2.1 4, .inl (k 0, 6, .inl (fun _ => 0))), (u9_2.1 5, .inl (k 0, 6, .inl (fun _ => 0))), (u9_2.1 6, .inr (5, [.ref (u9_2.1 7), .ref (u9_2.1 8), .ref (u9_2.1 9), .ref (u9_2.1 10), .ref (u9_2.1 11)])), (u9_2.1 7, .inl (k 0, 64, .inl (fun _ => 0))), (u9_2.1 8, .inl (k 0, 8, .inl (fun _ => 0))), (u9_2.1 9, .inl (k 0, 8, .inl (u9_2.2 0))), (u9_2.1 10, .inl (k 0, 3, .inl (fun _ => 0))), (u9_2.1 11, .inl (k 0, 3, .inl (fun _ => 0))), (q16_3, .inr (5, [.ref (u20_4.1 0), .ref (u20_4.1 1), .ref (u20_4.1 2), .ref (u20_4.1 3), .ref (u20_4.1 4)])), (u20_4.1 0, .inl (k 0, 64, .inl (fun _ => 0))), (u20_4.1 1, .inl (k 0, 8, .inl (fun _ => 0))), (u20_4.1 2, .inl (k 0, 8, .inl (u20_4.2 0))), (u20_4.1 3, .inl (k 0, 3, .inl (fun _ => 0))), (u20_4.1 4, .inl (k 0, 3, .inl (fun _ => 0))), (q29_5, .inl (k 0, 40, .inl (fun _ => 0))), (q37_6, .inl (k 0, 40, .inl (fun _ => 0))), (q45_7, .inl (k 0, 40, .inl (fun _ => 0)))]) [0, 1, 2, 3, 4, 5, 6, 7, 8, 9, 10, 11, 12, 13, 14, 15, 16, 17, 18, 19, 20, 21, 22] rfl
  have hD9 := hD.sub (ws' := [(h0, .inr (8, [.ref q5_1, .ref q16_3, .int 0, .ref q29_5, .ref q37_6, .ref q45_7])), (q5_1, .inr (1, [.int 0, .int 0, .int 0, .int 0, .int 0, .int 0, .int 0, .ref (u9_2.1 0), .ref (u9_2.1 1), .ref (u9_2.1 2), .ref (u9_2.1 3), .ref (u9_2.1 4), .ref (u9_2.1 5), .ref (u9_2.1 6)])), (u9_2.1 0, .inl (k 0, 8, .inl (fun _ => 0))), (u9_2.1 1, .inl (k 0, 8, .inl (fun _ => 0))), (u9_2.1 2, .inl (k 0, 8, .inl (fun _ => 0))), (u9_2.1 3, .inl (k 0, 6, .inl (fun _ => 0))), (u9_2.1 4, .inl (k 0, 6, .inl (fun _ => 0))), (u9_2.1 5, .inl (k 0, 6, .inl (fun _ => 0))), (u9_2.1 6, .inr (5, [.ref (u9_2.1 7), .ref (u9_2.1 8), .ref (u9_2.1 9), .ref (u9_2.1 10), .ref (u9_2.1 11)])), (u9_2.1 7, .inl (k 0, 64, .inl (fun _ => 0))), (u9_2.1 8, .inl (k 0, 8, .inl (fun _ => 0))), (u9_2.1 9, .inl (k 0, 8, .inl (u9_2.2 0))), (u9_2.1 10, .inl (k 0, 3, .inl (fun _ => 0))), (u9_2.1 11, .inl (k 0, 3, .inl (fun _ => 0))), (q16_3, .inr (5, [.ref (u20_4.1 0), .ref (u20_4.1 1), .ref (u20_4.1 2), .ref (u20_4.1 3), .ref (u20_4.1 4)])), (u20_4.1 0, .inl (k 0, 64, .inl (fun _ => 0))), (u20_4.1 1, .inl (k 0, 8, .inl (fun _ => 0))), (u20_4.1 2, .inl (k 0, 8, .inl (u20_4.2 0))), (u20_4.1 3, .inl (k 0, 3, .inl (fun _ => 0))), (u20_4.1 4, .inl (k 0, 3, .inl (fun _ => 0))), (q29_5, .inl (k 0, 40, .inl (fun _ => 0))), (q37_6, .inl (k 0, 40, .inl (fun _ => 0))), (q45_7, .inl (k 0, 40, .inl (fun _ => 0)))]) [0, 1, 2, 3, 4, 5, 6, 7, 8, 9, 10, 11, 12, 13, 14, 15, 16, 17, 18, 19, 20, 21, 22] (by decide) rfl
  have hK9 := hK.sub (tys' := []) [] rfl
  subst hAe
  exact W.vret hx hb hr (fun t ht hW => ⟨⟨mkU [q5_1, (u9_2.1 0), (u9_2.1 1), (u9_2.1 2), (u9_2.1 3), (u9_2.1 4), (u9_2.1 5), (u9_2.1 6), (u9_2.1 7), (u9_2.1 8), (u9_2.1 9), (u9_2.1 10), (u9_2.1 11), q16_3, (u20_4.1 0), (u20_4.1 1), (u20_4.1 2), (u20_4.1 3), (u20_4.1 4), q29_5, q37_6, q45_7] [(u9_2.2 0), (u20_4.2 0)], rfl, trivial, by rw [ht]; exact hP9, va_K.moved hW.alike hK9, hD9⟩, hS.F ht⟩) hS.2.2 dX8_init_50
set_option maxHeartbeats 4000000 in
set_option maxRecDepth 100000 in
theorem c_X7_init (l : Launch) (D : va_G) (k : Nat → ClassId) (h0 sz : Nat) : Met l yX7_init (.code yX7_init cX7_init 1 none :: TB) (rmw 1 0 0) (va_Pc [.ref h0] (PW D k sz [(h0, .inr (7, [.int 0, .int 0, .int 0, .int 0, .int 0, .int 0]))])) (QV D (S := UT) (fun u => True) (fun u => []) (fun _ => []) [(h0, .inr (7, [.int 0, .int 0, .int 0, .int 0, .int 0, .int 0]))] sz) 0 0 (va_A [(h0, .inr (7, [.int 0, .int 0, .int 0, .int 0, .int 0, .int 0]))] sz) := by
  refine Met.ofW (cc := cX7_init) (maxL := 1) (ret := none) (by decide) rfl ?_
  intro p e s m args below meth c s₁ B hml hv
  obtain ⟨rfl, hsz, hP, hK, hD0, hN⟩ := hv
  have hx := B.exec
  have hb := B.bytes
  have hr := B.returns
  have hT : ∀ w ∈ TB, w.before ([.ref h0] : List Value).toArray s = true := fun w h => atoms_spec (ws := .code yX7_init cX7_init 1 none :: TB) B.pre w (List.mem_cons_of_mem _ h)
  have hown : s.vm.findClass RX7 = some m.cls := findClass_of_methodNamed B.named
  have S : CallFix p m c cX7_init 1 s _ TB RX7 := ⟨hx, hb, hml, hown, hT⟩
  have hin : meth.name = "<init>" := (name_of_methodNamed B.named B.method).1
  subst hsz
  have hD := hD0.self (sz := s.heap.size)
  generalize hAe : va_A [(h0, .inr (7, [.int 0, .int 0, .int 0, .int 0, .int 0, .int 0]))] s.heap.size = A at hD ⊢
  have hA : ∀ q : Nat, s.heap.size ≤ q → A q := fun q h => by rw [← hAe]; exact Or.inr h
  have hS : va_S A s.heap s.heap [] := va_S.rf
  have hP : va_P D vwCl [(h0, .inr (7, [.int 0, .int 0, .int 0, .int 0, .int 0, .int 0]))] s.heap := hP
  have hl := lv_entry ([.ref h0]) (n := 1) (Nat.le_of_ble_eq_true rfl)
  rw [lg_entry_eq]
  generalize (lg_sl ([.ref h0]) ++ List.replicate (1 - (lg_sl ([.ref h0])).length) Slot.unset).toArray = ls at hl ⊢
  have hl : lv_has ls 1 [(0, .ref h0)] := hl
  refine lv_aload_n hx hb dX7_init_0 rfl (lv_at hl 0 rfl) ?_
  refine W.objInit hx hb hown (hT _ t365) (hT _ t129) (hT _ t130) rfl (by rw [hml]; exact hl.1) rfl dX7_init_1 (Nat.le_of_ble_eq_true rfl) (Nat.le_of_ble_eq_true rfl) ?_
  refine W.eq (g2 := F0 m 4 ls []) rfl ?_
  have hP9 := hP.sub (ws' := []) [] rfl
  have hD9 := hD.sub (ws' := []) [] (by decide) rfl
  have hK9 := hK.sub (tys' := []) [] rfl
  subst hAe
  exact W.vret hx hb hr (fun t ht hW => ⟨⟨mkU [] [], rfl, trivial, by rw [ht]; exact hP9, va_K.moved hW.alike hK9, hD9⟩, hS.F ht⟩) hS.2.2 dX7_init_4
set_option maxHeartbeats 4000000 in
set_option maxRecDepth 100000 in
theorem c_X0_init (l : Launch) (D : va_G) (k : Nat → ClassId) (h0 sz : Nat) : Met l yX0_init (.code yX0_init cX0_init 1 none :: TB) (rmw 1 3 272) (va_Pc [.ref h0] (PW D k sz [(h0, .inr (0, [.null, .null, .null]))])) (QV D (S := UT) (fun u => True) (fun u => []) (fun _ => []) [(h0, .inr (0, [.null, .null, .null]))] sz) 3 272 (va_A [(h0, .inr (0, [.null, .null, .null]))] sz) := by
  refine Met.ofW (cc := cX0_init) (maxL := 1) (ret := none) (by decide) rfl ?_
  intro p e s m args below meth c s₁ B hml hv
  obtain ⟨rfl, hsz, hP, hK, hD0, hN⟩ := hv
  have hx := B.exec
  have hb := B.bytes
  have hr := B.returns
  have hT : ∀ w ∈ TB, w.before ([.ref h0] : List Value).toArray s = true := fun w h => atoms_spec (ws := .code yX0_init cX0_init 1 none :: TB) B.pre w (List.mem_cons_of_mem _ h)
  have hown : s.vm.findClass RX0 = some m.cls := findClass_of_methodNamed B.named
  have S : CallFix p m c cX0_init 1 s _ TB RX0 := ⟨hx, hb, hml, hown, hT⟩
  have hin : meth.name = "<init>" := (name_of_methodNamed B.named B.method).1
  subst hsz
  have hD := hD0.self (sz := s.heap.size)
  generalize hAe : va_A [(h0, .inr (0, [.null, .null, .null]))] s.heap.size = A at hD ⊢
  have hA : ∀ q : Nat, s.heap.size ≤ q → A q := fun q h => by rw [← hAe]; exact Or.inr h
  have hS : va_S A s.heap s.heap [] := va_S.rf
  have hP : va_P D vwCl [(h0, .inr (0, [.null, .null, .null]))] s.heap := hP
  have hl := lv_entry ([.ref h0]) (n := 1) (Nat.le_of_ble_eq_true rfl)
  rw [lg_entry_eq]
  generalize (lg_sl ([.ref h0]) ++ List.replicate (1 - (lg_sl ([.ref h0])).length) Slot.unset).toArray = ls at hl ⊢
  have hl : lv_has ls 1 [(0, .ref h0)] := hl
  refine lv_aload_n hx hb dX0_init_0 rfl (lv_at hl 0 rfl) ?_
  refine W.objInit hx hb hown (hT _ t440) (hT _ t129) (hT _ t130) rfl (by rw [hml]; exact hl.1) rfl dX0_init_1 (Nat.le_of_ble_eq_true rfl) (Nat.le_of_ble_eq_true rfl) ?_
  refine W.eq (g2 := F0 m 4 ls []) rfl ?_
  refine lv_aload_n hx hb dX0_init_4 rfl (lv_at hl 0 rfl) ?_
  refine lv_sipush (v := 256) hx hb dX0_init_5 (by decide) ?_
  refine n_newa (atype := .int) (ty := .int) (cT := k 0) (N' := 256) (a0 := (256, .inl (fun _ => 0))) 0 ra_int rfl hx hb (hT _ t194) rfl hK hP hD hS hA (fun _ => rfl) (by decide) (by decide) (Nat.le_of_ble_eq_true rfl) (Nat.le_of_ble_eq_true rfl) (Nat.le_of_ble_eq_true rfl) dX0_init_8 (fun q8_1 H hP hD hS => ?_)
  have hP : va_P D vwCl [(h0, .inr (0, [.null, .null, .null])), (q8_1, .inl (k 0, 256, .inl (fun _ => 0)))] H := hP
  have hD : va_D A [(h0, .inr (0, [.null, .null, .null])), (q8_1, .inl (k 0, 256, .inl (fun _ => 0)))] := hD
  refine W.widen (k := 1) (n := 256) (Nat.le_of_ble_eq_true rfl) (Nat.le_of_ble_eq_true rfl) ?_
  refine va_putF (D := D) (ci := 0) (v := .ref q8_1) (ty := .array .int) (C := RX0) (T := TX0) (N := 3) hx hb hT in_X0 tyX0 tyX0_ok nmX0 hown hK hP hD hS 0 rfl rfl 0 (by decide) (hT _ t441) (fun _ h9 => h9) rfl hin rfl (by decide +kernel) rfl rfl (Nat.le_of_ble_eq_true rfl) dX0_init_10 (fun H locs hP hD hS => ?_)
  have hP : va_P D vwCl [(h0, .inr (0, [.ref q8_1, .null, .null])), (q8_1, .inl (k 0, 256, .inl (fun _ => 0)))] H := hP
  have hD : va_D A [(h0, .inr (0, [.ref q8_1, .null, .null])), (q8_1, .inl (k 0, 256, .inl (fun _ => 0)))] := hD
  refine lv_aload_n hx hb dX0_init_13 rfl (lv_at hl 0 rfl) ?_
  refine lv_bipush (v := 8) hx hb dX0_init_14 (by decide) ?_
  refine n_newa (atype := .int) (ty := .int) (cT := k 0) (N' := 8) (a0 := (8, .inl (fun _ => 0))) 0 ra_int rfl hx hb (hT _ t194) rfl hK hP hD hS hA (fun _ => rfl) (by decide) (by decide) (Nat.le_of_ble_eq_true rfl) (Nat.le_of_ble_eq_true rfl) (Nat.le_of_ble_eq_true rfl) dX0_init_16 (fun q16_2 H hP hD hS => ?_)
  have hP : va_P D vwCl [(h0, .inr (0, [.ref q8_1, .null, .null])), (q8_1, .inl (k 0, 256, .inl (fun _ => 0))), (q16_2, .inl (k 0, 8, .inl (fun _ => 0)))] H := hP
  have hD : va_D A [(h0, .inr (0, [.ref q8_1, .null, .null])), (q8_1, .inl (k 0, 256, .inl (fun _ => 0))), (q16_2, .inl (k 0, 8, .inl (fun _ => 0)))] := hD
  refine W.widen (k := 2) (n := 264) (Nat.le_of_ble_eq_true rfl) (Nat.le_of_ble_eq_true rfl) ?_
  refine va_putF (D := D) (ci := 0) (v := .ref q16_2) (ty := .array .int) (C := RX0) (T := TX0) (N := 3) hx hb hT in_X0 tyX0 tyX0_ok nmX0 hown hK hP hD hS 0 rfl rfl 1 (by decide) (hT _ t442) (fun _ h9 => h9) rfl hin rfl (by decide +kernel) rfl rfl (Nat.le_of_ble_eq_true rfl) dX0_init_18 (fun H locs hP hD hS => ?_)
  have hP : va_P D vwCl [(h0, .inr (0, [.ref q8_1, .ref q16_2, .null])), (q8_1, .inl (k 0, 256, .inl (fun _ => 0))), (q16_2, .inl (k 0, 8, .inl (fun _ => 0)))] H := hP
  have hD : va_D A [(h0, .inr (0, [.ref q8_1, .ref q16_2, .null])), (q8_1, .inl (k 0, 256, .inl (fun _ => 0))), (q16_2, .inl (k 0, 8, .inl (fun _ => 0)))] := hD
  refine lv_aload_n hx hb dX0_init_21 rfl (lv_at hl 0 rfl) ?_
  refine lv_bipush (v := 8) hx hb dX0_init_22 (by decide) ?_
  refine n_newa (atype := .int) (ty := .int) (cT := k 0) (N' := 8) (a0 := (8, .inl (fun _ => 0))) 0 ra_int rfl hx hb (hT _ t194) rfl hK hP hD hS hA (fun _ => rfl) (by decide) (by decide) (Nat.le_of_ble_eq_true rfl) (Nat.le_of_ble_eq_true rfl) (Nat.le_of_ble_eq_true rfl) dX0_init_24 (fun q24_3 H hP hD hS => ?_)
  have hP : va_P D vwCl [(h0, .inr (0, [.ref q8_1, .ref q16_2, .null])), (q8_1, .inl (k 0, 256, .inl (fun _ => 0))), (q16_2, .inl (k 0, 8, .inl (fun _ => 0))), (q24_3, .inl (k 0, 8, .inl (fun _ => 0)))] H := hP
  have hD : va_D A [(h0, .inr (0, [.ref q8_1, .ref q16_2, .null])), (q8_1, .inl (k 0, 256, .inl (fun _ => 0))), (q16_2, .inl (k 0, 8, .inl (fun _ => 0))), (q24_3, .inl (k 0, 8, .inl (fun _ => 0)))] := hD
  refine W.widen (k := 3) (n := 272) (Nat.le_of_ble_eq_true rfl) (Nat.le_of_ble_eq_true rfl) ?_
  refine va_putF (D := D) (ci := 0) (v := .ref q24_3) (ty := .array .int) (C := RX0) (T := TX0) (N := 3) hx hb hT in_X0 tyX0 tyX0_ok nmX0 hown hK hP hD hS 0 rfl rfl 2 (by decide) (hT _ t443) (fun _ h9 => h9) rfl hin rfl (by decide +kernel) rfl rfl (Nat.le_of_ble_eq_true rfl) dX0_init_26 (fun H locs hP hD hS => ?_)
  have hP : va_P D vwCl [(h0, .inr (0, [.ref q8_1, .ref q16_2, .ref q24_3])), (q8_1, .inl (k 0, 256, .inl (fun _ => 0))), (q16_2, .inl (k 0, 8, .inl (fun _ => 0))), (q24_3, .inl (k 0, 8, .inl (fun _ => 0)))] H := hP
  have hD : va_D A [(h0, .inr (0, [.ref q8_1, .ref q16_2, .ref q24_3])), (q8_1, .inl (k 0, 256, .inl (fun _ => 0))), (q16_2, .inl (k 0, 8, .inl (fun _ => 0))), (q24_3, .inl (k 0, 8, .inl (fun _ => 0)))] := hD
  have hP9 := hP.sub (ws' := []) [] rfl
  have hD9 := hD.sub (ws' := []) [] (by decide) rfl
  have hK9 := hK.sub (tys' := []) [] rfl
  subst hAe
  exact W.vret hx hb hr (fun t ht hW => ⟨⟨mkU [] [], rfl, trivial, by rw [ht]; exact hP9, va_K.moved hW.alike hK9, hD9⟩, hS.F ht⟩) hS.2.2 dX0_init_29
end
section
section RW2
variable {p : Program} {l : Launch} {e : Env} {R : Room} {s : State} {m : MethodId} {args : Array Value} {below : List Frame} {meth : Method} {c : Code} {H : Heap} {locs : List Loc} {cells slots : Nat} {Q : State → Prop} {pc : Nat} {ls : Array Slot} {rest : List Value} {cc : ByteArray} {D : va_G} {A : Nat → Prop} {H0 : Heap} {ws : va_W}
/-- a new array of objects, of a known class -/
theorem n_newq {tys : List (ClassId × FieldType)} {cT : ClassId} {own C : String} {index : Nat} (t0 : Nat) (ht : tys[t0]? = some (cT, .object C)) (hexec : p.tables.exec = Jvm.exec) (hb : c.code = cc) (hown : s.vm.findClass own = some m.cls) (hclink : (Cond.classLink own index C).before args s = true) (hover : va_AO C s) (hK : va_K D vwCl tys s) (hP : va_P D vwCl ws H) (hD : va_D A ws) (hS : va_S A H0 H locs) (hA : ∀ q, H0.size ≤ q → A q)
    {n : Int32} {N' : Nat} (hn : ¬ n < 0) (hN : n.toNatClampNeg = N') (hbytes : N' * 4 ≤ 536870912) (hcells : cells + 1 ≤ R.cells) (hslots : slots + N' ≤ R.slots) (hdg : decode cc pc = .ok (.anewarray index, 3))
    (kk : ∀ (q : Nat) (H1 : Heap), va_P D vwCl (ws ++ [(q, .inl (cT, N', .inr (.inr (.inr (.inr (fun _ => none))))))]) H1 → va_D A (ws ++ [(q, .inl (cT, N', .inr (.inr (.inr (.inr (fun _ => none))))))]) → va_S A H0 H1 locs → W p l e R s m args below meth c H1 locs (cells + 1) (slots + N') Q (F0 m (pc + 3) ls (.ref q :: rest))) : W p l e R s m args below meth c H locs cells slots Q (F0 m pc ls (.int n :: rest)) := by
  refine va_newq hexec hb hown hclink hover hK hP hD hS hA hn hN hbytes hcells hslots hdg (fun q cA H1 hK1 hP1 hD1 hS1 => ?_)
  have e1 : va_RA s cA (.object C) := (hK1.2 tys.length (cA, .object C) (by simp)).2
  have e2 : va_RA s cT (.object C) := (hK.2 t0 _ ht).2
  obtain rfl := ra_obj _ _ e1 e2
  exact kk q H1 hP1 hD1 hS1
end RW2
end
section
/-! ===== BEGIN new T[n][m]: the outer array a place, the inner ones among the pooled ===== -/
/-- f, but v at every address of l -/
def vr_up {α : Type} (f : Nat → α) (l : List Nat) (v : α) : Nat → α := fun a => if a ∈ l then v else f a
theorem vr_up_in {α : Type} {f : Nat → α} {l : List Nat} {v : α} {a : Nat} (h : a ∈ l) : vr_up f l v a = v := if_pos h
theorem vr_up_ne {α : Type} {f : Nat → α} {l : List Nat} {v : α} {a : Nat} (h : a ∉ l) : vr_up f l v a = f a := if_neg h
theorem vr_rows {L l : List Nat} {f : Nat → va_E} {e : va_E} (h : ∀ a, a ∈ l → a ∉ L) : va_pl L f ++ l.map (fun a => (a, e)) = va_pl (L ++ l) (vr_up f l e) := by
  unfold va_pl
  rw [List.map_append]
  congr 1
  · apply List.map_congr_left
    intro a ha
    rw [vr_up_ne (fun q => h a q ha)]
  · apply List.map_congr_left
    intro a ha
    rw [vr_up_in ha]
theorem vr_lay {X rows : va_W} {x : Nat × va_E} {pl : va_W} {D : va_G} {cl : List vw_C} {H : Heap} (hP : va_P D cl (((X ++ pl) ++ [x]) ++ rows) H) : va_P D cl ((X ++ [x]) ++ (pl ++ rows)) H := by
  rw [List.append_assoc (X ++ pl)] at hP
  have h := va_P.swap hP
  rw [← List.append_assoc X] at h
  have h2 := va_P.swap h
  rw [List.append_assoc (X ++ [x])] at h2
  exact h2
theorem vr_layD {X rows : va_W} {x : Nat × va_E} {pl : va_W} {A : Nat → Prop} (hD : va_D A (((X ++ pl) ++ [x]) ++ rows)) : va_D A ((X ++ [x]) ++ (pl ++ rows)) := by
  rw [List.append_assoc (X ++ pl)] at hD
  have h := va_D.swap hD
  rw [← List.append_assoc X] at h
  have h2 := va_D.swap h
  rw [List.append_assoc (X ++ [x])] at h2
  exact h2
theorem vr_outer (c : ClassId) (N h0 : Nat) : ∀ i : Nat, Jvm.Free.Multi.outerC c N h0 i = arrV c N (fun j => va_rf (if j < i then some (h0 + 1 + j) else none))
  | 0 => by
    show ({ cls := c, slots := Array.replicate N .null, vm := .none } : Cell) = _
    rw [arrV_new]
    refine congrArg (arrV c N) (funext fun j => ?_)
    simp [va_rf]
  | i + 1 => by
    show (Jvm.Free.Multi.outerC c N h0 i).setSlot i (.ref (h0 + 1 + i)) = _
    rw [vr_outer c N h0 i, arrV_store]
    refine congrArg (arrV c N) (funext fun j => ?_)
    by_cases e : j = i
    · subst e
      simp [updV, va_rf]
    · by_cases h : j < i
      · simp [updV, e, h, Nat.lt_succ_of_lt h]
      · simp [updV, e, h, show ¬ j < i + 1 by omega]
section VGM
variable {p : Program} {l : Launch} {e : Env} {R : Room} {s : State} {m : MethodId} {args : Array Value} {below : List Frame} {meth : Method} {c : Code} {H : Heap} {locs : List Loc} {cells slots : Nat} {Q : State → Prop}
variable {cc : ByteArray} {pc : Nat} {ls : Array Slot} {rest : List Value} {D : va_G} {cl : List vw_C} {A : Nat → Prop} {a : Nat} {tys : List (ClassId × FieldType)} {ws : va_W} {H0 : Heap}
theorem va_mna {X : va_W} {L : List Nat} {f : Nat → va_E} {cc : ByteArray} (hexec : p.tables.exec = Jvm.exec) (hb : c.code = cc) {own : String} {index : Nat} {ty : FieldType} {cy : ClassId} (hown : s.vm.findClass own = some m.cls) (hclink : (Cond.classLink own index ("[" ++ (FieldType.array ty).toString)).before args s = true) (hover : va_AOA ty s) (harr : (Cond.arrayClass ty).before args s = true) (hcy : s.vm.findClass (FieldType.array ty).toString = some cy)
    (hK : va_K D cl tys s) (hP : va_P D cl (X ++ va_pl L f) H) (hD : va_D A (X ++ va_pl L f)) (hS : va_S A H0 H locs) (hA : ∀ q, H0.size ≤ q → A q) {n k : Int32} {N' K' : Nat} {z : vp_A} (hn : ¬ n < 0) (hk : ¬ k < 0) (hN : n.toNatClampNeg = N') (hM : k.toNatClampNeg = K')
    (hb1 : N' * 4 ≤ 536870912) (hb2 : K' * componentBytes ty ≤ 536870912) (hb3 : K' ≤ 536870912) (hdf : fits ty (defaultValue ty) = true) (hdd : (defaultValue ty).isDefault = true) (hcells : cells + (1 + N') ≤ R.cells) (hslots : slots + (N' + N' * K') ≤ R.slots) (hz : ∀ c : ClassId, Jvm.Free.Multi.innerC c K' (defaultValue ty) = vp_cell c z) (hdg : decode cc pc = .ok (.multianewarray index 2, 4))
    (kk : ∀ (q : Nat) (r : Nat → Nat) (cA : ClassId) (H1 : Heap), (∀ i j : Nat, i < N' → j < N' → r i = r j → i = j) → (∀ i : Nat, i < N' → r i ∉ L) → va_K D cl (tys ++ [(cA, .array ty)]) s →
      va_P D cl ((X ++ [(q, .inl (cA, N', .inr (.inr (.inr (.inr (fun i => if i < N' then some (r i) else none))))))]) ++ va_pl (L ++ (List.range N').map r) (vr_up f ((List.range N').map r) (.inl (cy, z)))) H1 → va_D A ((X ++ [(q, .inl (cA, N', .inr (.inr (.inr (.inr (fun i => if i < N' then some (r i) else none))))))]) ++ va_pl (L ++ (List.range N').map r) (vr_up f ((List.range N').map r) (.inl (cy, z)))) → va_S A H0 H1 locs →
      W p l e R s m args below meth c H1 locs (cells + 1 + N') (slots + N' + N' * K') Q (F0 m (pc + 4) ls (.ref q :: rest))) : W p l e R s m args below meth c H locs cells slots Q (F0 m pc ls (.int k :: .int n :: rest)) := by
  subst hN
  subst hM
  intro T hT Xs
  obtain ⟨vm₁, cA, comp, -, fA, fC, hO, -, X', step⟩ := Xs.multianewarray2F hexec hown hclink (va_AOA.use hover) harr (g := F0 m pc ls (.int k :: .int n :: rest)) rfl (by rw [hb]; exact hdg) rfl hn hk hb1 hb2 hb3 hdf hdd hcells hslots
  have ec : some cy = some comp := hcy.symm.trans fC
  cases ec
  generalize hF : Jvm.Free.Multi.fill (T.setVm vm₁) cA cy n.toNatClampNeg k.toNatClampNeg (defaultValue ty) n.toNatClampNeg = F at X' step
  have hTh : (T.setVm vm₁).heap = H := hT
  obtain ⟨f1, f2, -, -⟩ := Jvm.Free.Multi.fill_facts (T.setVm vm₁) cA cy n.toNatClampNeg k.toNatClampNeg (defaultValue ty) n.toNatClampNeg
  rw [hF, hTh] at f1 f2
  have hold : ∀ x : Nat, x < H.size → F.heap[x]? = H[x]? := fun x hx => by
    have := Jvm.Free.Multi.fill_old (T.setVm vm₁) cA cy n.toNatClampNeg k.toNatClampNeg (defaultValue ty) (a := x) (by rw [hTh]; exact hx) n.toNatClampNeg
    rw [hF, hTh] at this
    exact this
  have hrow : ∀ j : Nat, j < n.toNatClampNeg → F.heap[H.size + 1 + j]? = some (vp_cell cy z) := fun j hj => by
    have := Jvm.Free.Multi.fill_inner (T.setVm vm₁) cA cy n.toNatClampNeg k.toNatClampNeg (defaultValue ty) n.toNatClampNeg j hj
    rw [hF, hTh, hz] at this
    exact this
  have hout : Jvm.Free.Multi.outerC cA n.toNatClampNeg H.size n.toNatClampNeg = vp_cell cA (n.toNatClampNeg, .inr (.inr (.inr (.inr (fun i => if i < n.toNatClampNeg then some (H.size + 1 + i) else none))))) := by
    rw [vp_cell_q]
    exact vr_outer cA n.toNatClampNeg H.size n.toNatClampNeg
  rw [hout] at f2
  have hlt : ∀ a, a ∈ L → a < H.size := fun a ha => by
    obtain ⟨k9, hk9⟩ := va_pl_get (X := X) (f := f) ha
    exact (hP k9 _ hk9).lt
  have hnl : ∀ i : Nat, i < n.toNatClampNeg → H.size + 1 + i ∉ L := fun i _ h => by
    have := hlt _ h
    omega
  have hnm : ∀ a, a ∈ (List.range n.toNatClampNeg).map (fun i => H.size + 1 + i) → a ∉ L := fun a ha h => by
    obtain ⟨i, -, rfl⟩ := List.mem_map.mp ha
    have := hlt _ h
    omega
  have hP0 : va_P D cl (X ++ va_pl L f) F.heap := hP.kept (fun k9 x hx => hold x.1 ((hP k9 x hx).lt))
  have hP1 : va_P D cl ((X ++ va_pl L f) ++ [(H.size, .inl (cA, n.toNatClampNeg, .inr (.inr (.inr (.inr (fun i => if i < n.toNatClampNeg then some (H.size + 1 + i) else none))))))]) F.heap := hP0.app (fun k9 x hx => by
    have h0 : k9 < 1 := (List.getElem?_eq_some_iff.mp hx).1
    rw [show k9 = 0 by omega] at hx
    cases hx
    exact f2)
  have hP2 : va_P D cl (((X ++ va_pl L f) ++ [(H.size, .inl (cA, n.toNatClampNeg, .inr (.inr (.inr (.inr (fun i => if i < n.toNatClampNeg then some (H.size + 1 + i) else none))))))]) ++ ((List.range n.toNatClampNeg).map (fun i => H.size + 1 + i)).map (fun a => (a, .inl (cy, z)))) F.heap := hP1.app (fun k9 x hx => by
    obtain ⟨a, ha, rfl⟩ := List.mem_map.mp (List.mem_of_getElem? hx)
    obtain ⟨i, hi, rfl⟩ := List.mem_map.mp ha
    exact hrow i (List.mem_range.mp hi))
  have hD2 : va_D A (((X ++ va_pl L f) ++ [(H.size, .inl (cA, n.toNatClampNeg, .inr (.inr (.inr (.inr (fun i => if i < n.toNatClampNeg then some (H.size + 1 + i) else none))))))]) ++ ((List.range n.toNatClampNeg).map (fun i => H.size + 1 + i)).map (fun a => (a, .inl (cy, z)))) := by
    have hD1 := hD.push (e := .inl (cA, n.toNatClampNeg, .inr (.inr (.inr (.inr (fun i => if i < n.toNatClampNeg then some (H.size + 1 + i) else none)))))) hP rfl (hA _ hS.1)
    generalize hW1 : (X ++ va_pl L f) ++ [(H.size, .inl (cA, n.toNatClampNeg, .inr (.inr (.inr (.inr (fun i => if i < n.toNatClampNeg then some (H.size + 1 + i) else none))))))] = W1 at hD1 hP1 ⊢
    have hle : ∀ (k9 : Nat) (x : Nat × va_E), W1[k9]? = some x → x.1 ≤ H.size := fun k9 x hx => by
      rw [← hW1] at hx
      by_cases hl : k9 < (X ++ va_pl L f).length
      · rw [List.getElem?_append_left hl] at hx
        exact Nat.le_of_lt ((hP k9 x hx).lt)
      · rw [List.getElem?_append_right (by omega)] at hx
        have h0 : k9 - (X ++ va_pl L f).length < 1 := (List.getElem?_eq_some_iff.mp hx).1
        rw [show k9 - (X ++ va_pl L f).length = 0 by omega] at hx
        cases hx
        exact Nat.le_refl _
    have hr : ∀ (k9 : Nat) (x : Nat × va_E), (((List.range n.toNatClampNeg).map (fun i => H.size + 1 + i)).map (fun a => ((a, .inl (cy, z)) : Nat × va_E)))[k9]? = some x → x.1 = H.size + 1 + k9 := fun k9 x hx => by
      rw [List.getElem?_map, List.getElem?_map] at hx
      by_cases h9 : k9 < n.toNatClampNeg
      · rw [List.getElem?_range h9] at hx
        cases hx
        rfl
      · have hn0 : (List.range n.toNatClampNeg)[k9]? = none := List.getElem?_eq_none (by rw [List.length_range]; omega)
        rw [hn0] at hx
        cases hx
    refine ⟨fun i j x y hi hj hxy => ?_, fun k9 x hx => ?_⟩
    · by_cases h1 : i < W1.length <;> by_cases h2 : j < W1.length
      · rw [List.getElem?_append_left h1] at hi
        rw [List.getElem?_append_left h2] at hj
        exact hD1.1 i j x y hi hj hxy
      · rw [List.getElem?_append_left h1] at hi
        rw [List.getElem?_append_right (by omega)] at hj
        have := hle _ _ hi
        have := hr _ _ hj
        omega
      · rw [List.getElem?_append_right (by omega)] at hi
        rw [List.getElem?_append_left h2] at hj
        have := hle _ _ hj
        have := hr _ _ hi
        omega
      · rw [List.getElem?_append_right (by omega)] at hi hj
        have := hr _ _ hi
        have := hr _ _ hj
        omega
    · by_cases h1 : k9 < W1.length
      · rw [List.getElem?_append_left h1] at hx
        exact hD1.2 k9 x hx
      · rw [List.getElem?_append_right (by omega)] at hx
        have := hr _ _ hx
        exact hA _ (by have := hS.1; omega)
  have hAr : ArrOfT s cA (.array ty) := fun N9 z9 => by
    obtain ⟨-, k9, hk9, cm9, hkk9⟩ := (hO 0 0 0).1
    exact ⟨(fun q hq => by cases hq), k9, hk9, cm9, hkk9⟩
  have hK2 : va_K D cl (tys ++ [(cA, .array ty)]) s := ⟨hK.1, fun k9 x hx => by
    by_cases hl : k9 < tys.length
    · rw [List.getElem?_append_left hl] at hx
      exact hK.2 k9 x hx
    · rw [List.getElem?_append_right (by omega)] at hx
      have h0 : k9 - tys.length < 1 := (List.getElem?_eq_some_iff.mp hx).1
      rw [show k9 - tys.length = 0 by omega] at hx
      cases hx
      exact ⟨hAr, fA⟩⟩
  obtain ⟨t, a1, b1⟩ := kk H.size (fun i => H.size + 1 + i) cA F.heap (fun i j _ _ h => by have h9 : H.size + 1 + i = H.size + 1 + j := h; omega) hnl hK2 (by rw [← vr_rows hnm]; exact vr_lay hP2) (by rw [← vr_rows hnm]; exact vr_layD hD2) ⟨by rw [f1]; have := hS.1; omega, fun x h1 h2 => (hold x (Nat.lt_of_lt_of_le h1 hS.1)).trans (hS.2.1 x h1 h2), hS.2.2⟩ F rfl X'
  refine ⟨t, step t ?_, b1⟩
  have e : T.heap.size = H.size := by rw [hT]
  rw [e]
  exact a1
end VGM
/-! ===== END ===== -/
section RW3
variable {p : Program} {l : Launch} {e : Env} {R : Room} {s : State} {m : MethodId} {args : Array Value} {below : List Frame} {meth : Method} {c : Code} {H : Heap} {locs : List Loc} {cells slots : Nat} {Q : State → Prop} {pc : Nat} {ls : Array Slot} {rest : List Value} {cc : ByteArray} {D : va_G} {A : Nat → Prop} {H0 : Heap} {ws : va_W}
/-- new long[4][60] -/
theorem n_mna {k : Nat → ClassId} {own : String} {index : Nat} (hexec : p.tables.exec = Jvm.exec) (hb : c.code = cc) (hown : s.vm.findClass own = some m.cls) (hclink : (Cond.classLink own index "[[J").before args s = true) (hover : va_AOA .long s) (harr : (Cond.arrayClass .long).before args s = true) (hK : va_K D vwCl (KT k) s) (hP : va_P D vwCl ws H) (hD : va_D A ws) (hS : va_S A H0 H locs) (hA : ∀ q, H0.size ≤ q → A q)
    (hcells : cells + (1 + 4) ≤ R.cells) (hslots : slots + (4 + 4 * 60) ≤ R.slots) (hdg : decode cc pc = .ok (.multianewarray index 2, 4))
    (kk : ∀ (q r0 r1 r2 r3 : Nat) (H1 : Heap), va_P D vwCl (ws ++ [(q, .inl (k 6, 4, .inr (.inr (.inr (.inr (va_up (va_up (va_up (va_up (fun _ => none) 0 (some r0)) 1 (some r1)) 2 (some r2)) 3 (some r3))))))), (r0, .inl (k 2, 60, .inr (.inl (fun _ => 0)))), (r1, .inl (k 2, 60, .inr (.inl (fun _ => 0)))), (r2, .inl (k 2, 60, .inr (.inl (fun _ => 0)))), (r3, .inl (k 2, 60, .inr (.inl (fun _ => 0))))]) H1 → va_D A (ws ++ [(q, .inl (k 6, 4, .inr (.inr (.inr (.inr (va_up (va_up (va_up (va_up (fun _ => none) 0 (some r0)) 1 (some r1)) 2 (some r2)) 3 (some r3))))))), (r0, .inl (k 2, 60, .inr (.inl (fun _ => 0)))), (r1, .inl (k 2, 60, .inr (.inl (fun _ => 0)))), (r2, .inl (k 2, 60, .inr (.inl (fun _ => 0)))), (r3, .inl (k 2, 60, .inr (.inl (fun _ => 0))))]) → va_S A H0 H1 locs → W p l e R s m args below meth c H1 locs (cells + 1 + 4) (slots + 4 + 4 * 60) Q (F0 m (pc + 4) ls (.ref q :: rest))) : W p l e R s m args below meth c H locs cells slots Q (F0 m pc ls (.int 60 :: .int 4 :: rest)) := by
  have hP0 : va_P D vwCl (ws ++ va_pl [] (fun _ => (.inr (0, []) : va_E))) H := by
    rw [show va_pl [] (fun _ => (.inr (0, []) : va_E)) = [] from rfl, List.append_nil]; exact hP
  have hD0 : va_D A (ws ++ va_pl [] (fun _ => (.inr (0, []) : va_E))) := by
    rw [show va_pl [] (fun _ => (.inr (0, []) : va_E)) = [] from rfl, List.append_nil]; exact hD
  have hcy : s.vm.findClass (FieldType.array .long).toString = some (k 2) := va_nm_long (hK.2 2 _ rfl).2
  refine va_mna (ty := .long) (cy := k 2) (N' := 4) (K' := 60) (z := (60, .inr (.inl (fun _ => 0)))) hexec hb hown hclink hover harr hcy hK hP0 hD0 hS hA (by decide) (by decide) (by decide) (by decide) (by decide) (by decide) (by decide) rfl rfl hcells hslots (fun c => rfl) hdg (fun q r cA H1 _ _ hK1 hP1 hD1 hS1 => ?_)
  have e1 : va_RA s cA (.array .long) := (hK1.2 7 (cA, .array .long) rfl).2
  have e2 : va_RA s (k 6) (.array .long) := (hK.2 6 _ rfl).2
  obtain rfl : cA = k 6 := Option.some.inj ((show s.vm.findClass _ = some cA from e1).symm.trans (show s.vm.findClass _ = some (k 6) from e2))
  have el : va_pl ([] ++ (List.range 4).map r) (vr_up (fun _ => (.inr (0, []) : va_E)) ((List.range 4).map r) (.inl (k 2, 60, .inr (.inl (fun _ => 0))))) = [(r 0, .inl (k 2, 60, .inr (.inl (fun _ => 0)))), (r 1, .inl (k 2, 60, .inr (.inl (fun _ => 0)))), (r 2, .inl (k 2, 60, .inr (.inl (fun _ => 0)))), (r 3, .inl (k 2, 60, .inr (.inl (fun _ => 0))))] := by
    have em : (List.range 4).map r = [r 0, r 1, r 2, r 3] := rfl
    rw [em]
    simp [va_pl, vr_up]
  have ef : (fun i => if i < 4 then some (r i) else none) = va_up (va_up (va_up (va_up (fun _ => none) 0 (some (r 0))) 1 (some (r 1))) 2 (some (r 2))) 3 (some (r 3)) := by
    funext i
    simp only [va_up]
    by_cases h3 : i = 3
    · subst h3; rfl
    · by_cases h2 : i = 2
      · subst h2; rfl
      · by_cases h1 : i = 1
        · subst h1; rfl
        · by_cases h0 : i = 0
          · subst h0; rfl
          · rw [if_neg h3, if_neg h2, if_neg h1, if_neg h0, if_neg (by omega)]
  rw [el, List.append_assoc, ef] at hP1 hD1
  exact kk q (r 0) (r 1) (r 2) (r 3) H1 hP1 hD1 hS1
end RW3
end
section
set_option maxHeartbeats 4000000 in
set_option maxRecDepth 100000 in
theorem c_X3_init (l : Launch) (D : va_G) (k : Nat → ClassId) (h0 sz : Nat) : Met l yX3_init (.code yX3_init cX3_init 2 none :: TB) (rmw 3 35 480) (va_Pc [.ref h0] (PW D k sz [(h0, .inr (3, [.null, .null, .null, .null, .null, .int 0, .int 0, .int 0, .int 0, .int 0]))])) (QV D (S := UT) (fun u => True) (fun u => []) (fun _ => []) [(h0, .inr (3, [.null, .null, .null, .null, .null, .int 0, .int 0, .int 0, .int 0, .int 0]))] sz) 35 480 (va_A [(h0, .inr (3, [.null, .null, .null, .null, .null, .int 0, .int 0, .int 0, .int 0, .int 0]))] sz) := by
  refine Met.ofW (cc := cX3_init) (maxL := 2) (ret := none) (by decide) rfl ?_
  intro p e s m args below meth c s₁ B hml hv
  obtain ⟨rfl, hsz, hP, hK, hD0, hN⟩ := hv
  have hx := B.exec
  have hb := B.bytes
  have hr := B.returns
  have hT : ∀ w ∈ TB, w.before ([.ref h0] : List Value).toArray s = true := fun w h => atoms_spec (ws := .code yX3_init cX3_init 2 none :: TB) B.pre w (List.mem_cons_of_mem _ h)
  have hown : s.vm.findClass RX3 = some m.cls := findClass_of_methodNamed B.named
  have S : CallFix p m c cX3_init 2 s _ TB RX3 := ⟨hx, hb, hml, hown, hT⟩
  have hin : meth.name = "<init>" := (name_of_methodNamed B.named B.method).1
  subst hsz
  have hD := hD0.self (sz := s.heap.size)
  generalize hAe : va_A [(h0, .inr (3, [.null, .null, .null, .null, .null, .int 0, .int 0, .int 0, .int 0, .int 0]))] s.heap.size = A at hD ⊢
  have hA : ∀ q : Nat, s.heap.size ≤ q → A q := fun q h => by rw [← hAe]; exact Or.inr h
  have hS : va_S A s.heap s.heap [] := va_S.rf
  have hP : va_P D vwCl [(h0, .inr (3, [.null, .null, .null, .null, .null, .int 0, .int 0, .int 0, .int 0, .int 0]))] s.heap := hP
  have hl := lv_entry ([.ref h0]) (n := 2) (Nat.le_of_ble_eq_true rfl)
  rw [lg_entry_eq]
  generalize (lg_sl ([.ref h0]) ++ List.replicate (2 - (lg_sl ([.ref h0])).length) Slot.unset).toArray = ls at hl ⊢
  have hl : lv_has ls 2 [(0, .ref h0)] := hl
  refine lv_aload_n hx hb dX3_init_0 rfl (lv_at hl 0 rfl) ?_
  refine W.objInit hx hb hown (hT _ t396) (hT _ t129) (hT _ t130) rfl (by rw [hml]; exact hl.1) rfl dX3_init_1 (Nat.le_of_ble_eq_true rfl) (Nat.le_of_ble_eq_true rfl) ?_
  refine W.eq (g2 := F0 m 4 ls []) rfl ?_
  refine lv_aload_n hx hb dX3_init_4 rfl (lv_at hl 0 rfl) ?_
  refine lv_bipush (v := 6) hx hb dX3_init_5 (by decide) ?_
  refine n_newa (atype := .int) (ty := .int) (cT := k 0) (N' := 6) (a0 := (6, .inl (fun _ => 0))) 0 ra_int rfl hx hb (hT _ t194) rfl hK hP hD hS hA (fun _ => rfl) (by decide) (by decide) (Nat.le_of_ble_eq_true rfl) (Nat.le_of_ble_eq_true rfl) (Nat.le_of_ble_eq_true rfl) dX3_init_7 (fun q7_1 H hP hD hS => ?_)
  have hP : va_P D vwCl [(h0, .inr (3, [.null, .null, .null, .null, .null, .int 0, .int 0, .int 0, .int 0, .int 0])), (q7_1, .inl (k 0, 6, .inl (fun _ => 0)))] H := hP
  have hD : va_D A [(h0, .inr (3, [.null, .null, .null, .null, .null, .int 0, .int 0, .int 0, .int 0, .int 0])), (q7_1, .inl (k 0, 6, .inl (fun _ => 0)))] := hD
  refine W.widen (k := 1) (n := 6) (Nat.le_of_ble_eq_true rfl) (Nat.le_of_ble_eq_true rfl) ?_
  refine va_putF (D := D) (ci := 3) (v := .ref q7_1) (ty := .array .int) (C := RX3) (T := TX3) (N := 10) hx hb hT in_X3 tyX3 tyX3_ok nmX3 hown hK hP hD hS 0 rfl rfl 1 (by decide) (hT _ t401) (fun _ h9 => h9) rfl hin rfl (by decide +kernel) rfl rfl (Nat.le_of_ble_eq_true rfl) dX3_init_9 (fun H locs hP hD hS => ?_)
  have hP : va_P D vwCl [(h0, .inr (3, [.null, .ref q7_1, .null, .null, .null, .int 0, .int 0, .int 0, .int 0, .int 0])), (q7_1, .inl (k 0, 6, .inl (fun _ => 0)))] H := hP
  have hD : va_D A [(h0, .inr (3, [.null, .ref q7_1, .null, .null, .null, .int 0, .int 0, .int 0, .int 0, .int 0])), (q7_1, .inl (k 0, 6, .inl (fun _ => 0)))] := hD
  refine lv_aload_n hx hb dX3_init_12 rfl (lv_at hl 0 rfl) ?_
  refine lv_bipush (v := 6) hx hb dX3_init_13 (by decide) ?_
  refine n_newa (atype := .int) (ty := .int) (cT := k 0) (N' := 6) (a0 := (6, .inl (fun _ => 0))) 0 ra_int rfl hx hb (hT _ t194) rfl hK hP hD hS hA (fun _ => rfl) (by decide) (by decide) (Nat.le_of_ble_eq_true rfl) (Nat.le_of_ble_eq_true rfl) (Nat.le_of_ble_eq_true rfl) dX3_init_15 (fun q15_2 H hP hD hS => ?_)
  have hP : va_P D vwCl [(h0, .inr (3, [.null, .ref q7_1, .null, .null, .null, .int 0, .int 0, .int 0, .int 0, .int 0])), (q7_1, .inl (k 0, 6, .inl (fun _ => 0))), (q15_2, .inl (k 0, 6, .inl (fun _ => 0)))] H := hP
  have hD : va_D A [(h0, .inr (3, [.null, .ref q7_1, .null, .null, .null, .int 0, .int 0, .int 0, .int 0, .int 0])), (q7_1, .inl (k 0, 6, .inl (fun _ => 0))), (q15_2, .inl (k 0, 6, .inl (fun _ => 0)))] := hD
  refine W.widen (k := 2) (n := 12) (Nat.le_of_ble_eq_true rfl) (Nat.le_of_ble_eq_true rfl) ?_
  refine va_putF (D := D) (ci := 3) (v := .ref q15_2) (ty := .array .int) (C := RX3) (T := TX3) (N := 10) hx hb hT in_X3 tyX3 tyX3_ok nmX3 hown hK hP hD hS 0 rfl rfl 2 (by decide) (hT _ t403) (fun _ h9 => h9) rfl hin rfl (by decide +kernel) rfl rfl (Nat.le_of_ble_eq_true rfl) dX3_init_17 (fun H locs hP hD hS => ?_)
  have hP : va_P D vwCl [(h0, .inr (3, [.null, .ref q7_1, .ref q15_2, .null, .null, .int 0, .int 0, .int 0, .int 0, .int 0])), (q7_1, .inl (k 0, 6, .inl (fun _ => 0))), (q15_2, .inl (k 0, 6, .inl (fun _ => 0)))] H := hP
  have hD : va_D A [(h0, .inr (3, [.null, .ref q7_1, .ref q15_2, .null, .null, .int 0, .int 0, .int 0, .int 0, .int 0])), (q7_1, .inl (k 0, 6, .inl (fun _ => 0))), (q15_2, .inl (k 0, 6, .inl (fun _ => 0)))] := hD
  refine lv_aload_n hx hb dX3_init_20 rfl (lv_at hl 0 rfl) ?_
  refine lv_iconst (v := 4) hx hb dX3_init_21 (by decide) ?_
  refine n_newa (atype := .int) (ty := .int) (cT := k 0) (N' := 4) (a0 := (4, .inl (fun _ => 0))) 0 ra_int rfl hx hb (hT _ t194) rfl hK hP hD hS hA (fun _ => rfl) (by decide) (by decide) (Nat.le_of_ble_eq_true rfl) (Nat.le_of_ble_eq_true rfl) (Nat.le_of_ble_eq_true rfl) dX3_init_22 (fun q22_3 H hP hD hS => ?_)
  have hP : va_P D vwCl [(h0, .inr (3, [.null, .ref q7_1, .ref q15_2, .null, .null, .int 0, .int 0, .int 0, .int 0, .int 0])), (q7_1, .inl (k 0, 6, .inl (fun _ => 0))), (q15_2, .inl (k 0, 6, .inl (fun _ => 0))), (q22_3, .inl (k 0, 4, .inl (fun _ => 0)))] H := hP
  have hD : va_D A [(h0, .inr (3, [.null, .ref q7_1, .ref q15_2, .null, .null, .int 0, .int 0, .int 0, .int 0, .int 0])), (q7_1, .inl (k 0, 6, .inl (fun _ => 0))), (q15_2, .inl (k 0, 6, .inl (fun _ => 0))), (q22_3, .inl (k 0, 4, .inl (fun _ => 0)))] := hD
  refine W.widen (k := 3) (n := 16) (Nat.le_of_ble_eq_true rfl) (Nat.le_of_ble_eq_true rfl) ?_
  refine va_putF (D := D) (ci := 3) (v := .ref q22_3) (ty := .array .int) (C := RX3) (T := TX3) (N := 10) hx hb hT in_X3 tyX3 tyX3_ok nmX3 hown hK hP hD hS 0 rfl rfl 3 (by decide) (hT _ t404) (fun _ h9 => h9) rfl hin rfl (by decide +kernel) rfl rfl (Nat.le_of_ble_eq_true rfl) dX3_init_24 (fun H locs hP hD hS => ?_)
  have hP : va_P D vwCl [(h0, .inr (3, [.null, .ref q7_1, .ref q15_2, .ref q22_3, .null, .int 0, .int 0, .int 0, .int 0, .int 0])), (q7_1, .inl (k 0, 6, .inl (fun _ => 0))), (q15_2, .inl (k 0, 6, .inl (fun _ => 0))), (q22_3, .inl (k 0, 4, .inl (fun _ => 0)))] H := hP
  have hD : va_D A [(h0, .inr (3, [.null, .ref q7_1, .ref q15_2, .ref q22_3, .null, .int 0, .int 0, .int 0, .int 0, .int 0])), (q7_1, .inl (k 0, 6, .inl (fun _ => 0))), (q15_2, .inl (k 0, 6, .inl (fun _ => 0))), (q22_3, .inl (k 0, 4, .inl (fun _ => 0)))] := hD
  refine lv_aload_n hx hb dX3_init_27 rfl (lv_at hl 0 rfl) ?_
  refine lv_iconst (v := 4) hx hb dX3_init_28 (by decide) ?_
  refine n_newa (atype := .int) (ty := .int) (cT := k 0) (N' := 4) (a0 := (4, .inl (fun _ => 0))) 0 ra_int rfl hx hb (hT _ t194) rfl hK hP hD hS hA (fun _ => rfl) (by decide) (by decide) (Nat.le_of_ble_eq_true rfl) (Nat.le_of_ble_eq_true rfl) (Nat.le_of_ble_eq_true rfl) dX3_init_29 (fun q29_4 H hP hD hS => ?_)
  have hP : va_P D vwCl [(h0, .inr (3, [.null, .ref q7_1, .ref q15_2, .ref q22_3, .null, .int 0, .int 0, .int 0, .int 0, .int 0])), (q7_1, .inl (k 0, 6, .inl (fun _ => 0))), (q15_2, .inl (k 0, 6, .inl (fun _ => 0))), (q22_3, .inl (k 0, 4, .inl (fun _ => 0))), (q29_4, .inl (k 0, 4, .inl (fun _ => 0)))] H := hP
  have hD : va_D A [(h0, .inr (3, [.null, .ref q7_1, .ref q15_2, .ref q22_3, .null, .int 0, .int 0, .int 0, .int 0, .int 0])), (q7_1, .inl (k 0, 6, .inl (fun _ => 0))), (q15_2, .inl (k 0, 6, .inl (fun _ => 0))), (q22_3, .inl (k 0, 4, .inl (fun _ => 0))), (q29_4, .inl (k 0, 4, .inl (fun _ => 0)))] := hD
  refine W.widen (k := 4) (n := 20) (Nat.le_of_ble_eq_true rfl) (Nat.le_of_ble_eq_true rfl) ?_
  refine va_putF (D := D) (ci := 3) (v := .ref q29_4) (ty := .array .int) (C := RX3) (T := TX3) (N := 10) hx hb hT in_X3 tyX3 tyX3_ok nmX3 hown hK hP hD hS 0 rfl rfl 4 (by decide) (hT _ t405) (fun _ h9 => h9) rfl hin rfl (by decide +kernel) rfl rfl (Nat.le_of_ble_eq_true rfl) dX3_init_31 (fun H locs hP hD hS => ?_)
  have hP : va_P D vwCl [(h0, .inr (3, [.null, .ref q7_1, .ref q15_2, .ref q22_3, .ref q29_4, .int 0, .int 0, .int 0, .int 0, .int 0])), (q7_1, .inl (k 0, 6, .inl (fun _ => 0))), (q15_2, .inl (k 0, 6, .inl (fun _ => 0))), (q22_3, .inl (k 0, 4, .inl (fun _ => 0))), (q29_4, .inl (k 0, 4, .inl (fun _ => 0)))] H := hP
  have hD : va_D A [(h0, .inr (3, [.null, .ref q7_1, .ref q15_2, .ref q22_3, .ref q29_4, .int 0, .int 0, .int 0, .int 0, .int 0])), (q7_1, .inl (k 0, 6, .inl (fun _ => 0))), (q15_2, .inl (k 0, 6, .inl (fun _ => 0))), (q22_3, .inl (k 0, 4, .inl (fun _ => 0))), (q29_4, .inl (k 0, 4, .inl (fun _ => 0)))] := hD
  refine lv_aload_n hx hb dX3_init_34 rfl (lv_at hl 0 rfl) ?_
  refine lv_iconst (v := 5) hx hb dX3_init_35 (by decide) ?_
  refine n_newq (cT := k 5) (N' := 5) 5 rfl hx hb hown (hT _ t397) hN.2.2.1 hK hP hD hS hA (by decide) (by decide) (Nat.le_of_ble_eq_true rfl) (Nat.le_of_ble_eq_true rfl) (Nat.le_of_ble_eq_true rfl) dX3_init_36 (fun q36_5 H hP hD hS => ?_)
  have hP : va_P D vwCl [(h0, .inr (3, [.null, .ref q7_1, .ref q15_2, .ref q22_3, .ref q29_4, .int 0, .int 0, .int 0, .int 0, .int 0])), (q7_1, .inl (k 0, 6, .inl (fun _ => 0))), (q15_2, .inl (k 0, 6, .inl (fun _ => 0))), (q22_3, .inl (k 0, 4, .inl (fun _ => 0))), (q29_4, .inl (k 0, 4, .inl (fun _ => 0))), (q36_5, .inl (k 5, 5, .inr (.inr (.inr (.inr (fun _ => none))))))] H := hP
  have hD : va_D A [(h0, .inr (3, [.null, .ref q7_1, .ref q15_2, .ref q22_3, .ref q29_4, .int 0, .int 0, .int 0, .int 0, .int 0])), (q7_1, .inl (k 0, 6, .inl (fun _ => 0))), (q15_2, .inl (k 0, 6, .inl (fun _ => 0))), (q22_3, .inl (k 0, 4, .inl (fun _ => 0))), (q29_4, .inl (k 0, 4, .inl (fun _ => 0))), (q36_5, .inl (k 5, 5, .inr (.inr (.inr (.inr (fun _ => none))))))] := hD
  refine W.widen (k := 5) (n := 25) (Nat.le_of_ble_eq_true rfl) (Nat.le_of_ble_eq_true rfl) ?_
  refine va_putF (D := D) (ci := 3) (v := .ref q36_5) (ty := .array (.object "WheelMemory$State")) (C := RX3) (T := TX3) (N := 10) hx hb hT in_X3 tyX3 tyX3_ok nmX3 hown hK hP hD hS 0 rfl rfl 0 (by decide) (hT _ t400) (fun _ h9 => h9) rfl hin rfl (by decide +kernel) rfl rfl (Nat.le_of_ble_eq_true rfl) dX3_init_39 (fun H locs hP hD hS => ?_)
  have hP : va_P D vwCl [(h0, .inr (3, [.ref q36_5, .ref q7_1, .ref q15_2, .ref q22_3, .ref q29_4, .int 0, .int 0, .int 0, .int 0, .int 0])), (q7_1, .inl (k 0, 6, .inl (fun _ => 0))), (q15_2, .inl (k 0, 6, .inl (fun _ => 0))), (q22_3, .inl (k 0, 4, .inl (fun _ => 0))), (q29_4, .inl (k 0, 4, .inl (fun _ => 0))), (q36_5, .inl (k 5, 5, .inr (.inr (.inr (.inr (fun _ => none))))))] H := hP
  have hD : va_D A [(h0, .inr (3, [.ref q36_5, .ref q7_1, .ref q15_2, .ref q22_3, .ref q29_4, .int 0, .int 0, .int 0, .int 0, .int 0])), (q7_1, .inl (k 0, 6, .inl (fun _ => 0))), (q15_2, .inl (k 0, 6, .inl (fun _ => 0))), (q22_3, .inl (k 0, 4, .inl (fun _ => 0))), (q29_4, .inl (k 0, 4, .inl (fun _ => 0))), (q36_5, .inl (k 5, 5, .inr (.inr (.inr (.inr (fun _ => none))))))] := hD
  refine lv_iconst (v := 0) hx hb dX3_init_42 (by decide) ?_
  refine lv_istore_n (lv' := [(1, .int 0), (0, .ref h0)]) hx hb dX3_init_43 rfl hl (by decide) rfl (fun ls hl => ?_)
  refine lv_iload_n hx hb dX3_init_44 rfl (lv_at hl 0 rfl) ?_
  refine lv_iconst (v := 4) hx hb dX3_init_45 (by decide) ?_
  refine lv_icmp_gt (tgt := 68) hx hb dX3_init_46 (by decide) (fun c_1 => ?_) (fun c_1 => ?_)
  · first | exact absurd c_1 (by decide) | exact absurd (by decide) c_1
  refine lv_aload_n hx hb dX3_init_49 rfl (lv_at hl 1 rfl) ?_
  refine va_get (D := D) (ci := 3) (v := .ref q36_5) (C := RX3) (T := TX3) (N := 10) hx hb hT in_X3 hown hK hP 0 rfl rfl 0 (by decide) (hT _ t400) (fun _ h9 => h9) rfl dX3_init_50 ?_
  refine lv_iload_n hx hb dX3_init_53 rfl (lv_at hl 0 rfl) ?_
  refine va_new (ci := 5) (fs := [.null, .null, .null, .null, .null]) (C := RX5) (T := TX5) (N := 5) hx hb hT in_X5 tyX5 tyX5_ok hown (hT _ t397) (hT _ t159) (hT _ t108) hK hP hD hS hA rfl (fun j hj => by rcases (show j = 0 ∨ j = 1 ∨ j = 2 ∨ j = 3 ∨ j = 4 by omega) with rfl | rfl | rfl | rfl | rfl <;> rfl) (Nat.le_of_ble_eq_true rfl) (Nat.le_of_ble_eq_true rfl) dX3_init_54 (fun q54_6 H hP hD hS => ?_)
  have hP : va_P D vwCl [(h0, .inr (3, [.ref q36_5, .ref q7_1, .ref q15_2, .ref q22_3, .ref q29_4, .int 0, .int 0, .int 0, .int 0, .int 0])), (q7_1, .inl (k 0, 6, .inl (fun _ => 0))), (q15_2, .inl (k 0, 6, .inl (fun _ => 0))), (q22_3, .inl (k 0, 4, .inl (fun _ => 0))), (q29_4, .inl (k 0, 4, .inl (fun _ => 0))), (q36_5, .inl (k 5, 5, .inr (.inr (.inr (.inr (fun _ => none)))))), (q54_6, .inr (5, [.null, .null, .null, .null, .null]))] H := hP
  have hD : va_D A [(h0, .inr (3, [.ref q36_5, .ref q7_1, .ref q15_2, .ref q22_3, .ref q29_4, .int 0, .int 0, .int 0, .int 0, .int 0])), (q7_1, .inl (k 0, 6, .inl (fun _ => 0))), (q15_2, .inl (k 0, 6, .inl (fun _ => 0))), (q22_3, .inl (k 0, 4, .inl (fun _ => 0))), (q29_4, .inl (k 0, 4, .inl (fun _ => 0))), (q36_5, .inl (k 5, 5, .inr (.inr (.inr (.inr (fun _ => none)))))), (q54_6, .inr (5, [.null, .null, .null, .null, .null]))] := hD
  refine W.widen (k := 6) (n := 30) (Nat.le_of_ble_eq_true rfl) (Nat.le_of_ble_eq_true rfl) ?_
  refine lv_dup hx hb dX3_init_57 rfl ?_
  refine rw_v (wc := [(q54_6, .inr (5, [.null, .null, .null, .null, .null]))]) (wr := [(h0, .inr (3, [.ref q36_5, .ref q7_1, .ref q15_2, .ref q22_3, .ref q29_4, .int 0, .int 0, .int 0, .int 0, .int 0])), (q7_1, .inl (k 0, 6, .inl (fun _ => 0))), (q15_2, .inl (k 0, 6, .inl (fun _ => 0))), (q22_3, .inl (k 0, 4, .inl (fun _ => 0))), (q29_4, .inl (k 0, 4, .inl (fun _ => 0))), (q36_5, .inl (k 5, 5, .inr (.inr (.inr (.inr (fun _ => none))))))]) [6] [0, 1, 2, 3, 4, 5] rfl rfl (by decide +kernel) (by decide +kernel) (by decide +kernel) hP hD hS hA (fun hPc hDc => run_I (C := RX5) (As := []) (rest := [.ref q54_6, .int 0, .ref q36_5]) S (c_X5_init l D k q54_6 _) (gdC t162) t399 t161 t108 rfl ok_X5_init ⟨rfl, rfl, Nat.le_of_ble_eq_true rfl, Nat.le_of_ble_eq_true rfl⟩ (pw_S hK hN hPc hDc) rfl hl.1 rfl (Nat.le_of_ble_eq_true rfl) ⟨Nat.le_of_ble_eq_true rfl, Nat.le_of_ble_eq_true rfl⟩ dX3_init_58) (fun u58_7 H locs hu58_7 hKu58_7 hP hD hS => ?_)
  have hP : va_P D vwCl [(h0, .inr (3, [.ref q36_5, .ref q7_1, .ref q15_2, .ref q22_3, .ref q29_4, .int 0, .int 0, .int 0, .int 0, .int 0])), (q7_1, .inl (k 0, 6, .inl (fun _ => 0))), (q15_2, .inl (k 0, 6, .inl (fun _ => 0))), (q22_3, .inl (k 0, 4, .inl (fun _ => 0))), (q29_4, .inl (k 0, 4, .inl (fun _ => 0))), (q36_5, .inl (k 5, 5, .inr (.inr (.inr (.inr (fun _ => none)))))), (q54_6, .inr (5, [.ref (u58_7.1 0), .ref (u58_7.1 1), .ref (u58_7.1 2), .ref (u58_7.1 3), .ref (u58_7.1 4)])), (u58_7.1 0, .inl (k 0, 64, .inl (fun _ => 0))), (u58_7.1 1, .inl (k 0, 8, .inl (fun _ => 0))), (u58_7.1 2, .inl (k 0, 8, .inl (u58_7.2 0))), (u58_7.1 3, .inl (k 0, 3, .inl (fun _ => 0))), (u58_7.1 4, .inl (k 0, 3, .inl (fun _ => 0)))] H := hP
  have hD : va_D A [(h0, .inr (3, [.ref q36_5, .ref q7_1, .ref q15_2, .ref q22_3, .ref q29_4, .int 0, .int 0, .int 0, .int 0, .int 0])), (q7_1, .inl (k 0, 6, .inl (fun _ => 0))), (q15_2, .inl (k 0, 6, .inl (fun _ => 0))), (q22_3, .inl (k 0, 4, .inl (fun _ => 0))), (q29_4, .inl (k 0, 4, .inl (fun _ => 0))), (q36_5, .inl (k 5, 5, .inr (.inr (.inr (.inr (fun _ => none)))))), (q54_6, .inr (5, [.ref (u58_7.1 0), .ref (u58_7.1 1), .ref (u58_7.1 2), .ref (u58_7.1 3), .ref (u58_7.1 4)])), (u58_7.1 0, .inl (k 0, 64, .inl (fun _ => 0))), (u58_7.1 1, .inl (k 0, 8, .inl (fun _ => 0))), (u58_7.1 2, .inl (k 0, 8, .inl (u58_7.2 0))), (u58_7.1 3, .inl (k 0, 3, .inl (fun _ => 0))), (u58_7.1 4, .inl (k 0, 3, .inl (fun _ => 0)))] := hD
  refine W.widen (k := 11) (n := 116) (Nat.le_of_ble_eq_true rfl) (Nat.le_of_ble_eq_true rfl) ?_
  refine va_astq hx hb hK hP hD hS 5 5 6 5 rfl rfl rfl rfl (by unfold vp_in; decide) dX3_init_61 (fun H locs hP hD hS => ?_)
  rw [show ((0 : Int32)).toNatClampNeg = 0 from by decide] at hP hD
  have hP : va_P D vwCl [(h0, .inr (3, [.ref q36_5, .ref q7_1, .ref q15_2, .ref q22_3, .ref q29_4, .int 0, .int 0, .int 0, .int 0, .int 0])), (q7_1, .inl (k 0, 6, .inl (fun _ => 0))), (q15_2, .inl (k 0, 6, .inl (fun _ => 0))), (q22_3, .inl (k 0, 4, .inl (fun _ => 0))), (q29_4, .inl (k 0, 4, .inl (fun _ => 0))), (q36_5, .inl (k 5, 5, .inr (.inr (.inr (.inr (va_up (fun _ => none) 0 (some q54_6))))))), (q54_6, .inr (5, [.ref (u58_7.1 0), .ref (u58_7.1 1), .ref (u58_7.1 2), .ref (u58_7.1 3), .ref (u58_7.1 4)])), (u58_7.1 0, .inl (k 0, 64, .inl (fun _ => 0))), (u58_7.1 1, .inl (k 0, 8, .inl (fun _ => 0))), (u58_7.1 2, .inl (k 0, 8, .inl (u58_7.2 0))), (u58_7.1 3, .inl (k 0, 3, .inl (fun _ => 0))), (u58_7.1 4, .inl (k 0, 3, .inl (fun _ => 0)))] H := hP
  have hD : va_D A [(h0, .inr (3, [.ref q36_5, .ref q7_1, .ref q15_2, .ref q22_3, .ref q29_4, .int 0, .int 0, .int 0, .int 0, .int 0])), (q7_1, .inl (k 0, 6, .inl (fun _ => 0))), (q15_2, .inl (k 0, 6, .inl (fun _ => 0))), (q22_3, .inl (k 0, 4, .inl (fun _ => 0))), (q29_4, .inl (k 0, 4, .inl (fun _ => 0))), (q36_5, .inl (k 5, 5, .inr (.inr (.inr (.inr (va_up (fun _ => none) 0 (some q54_6))))))), (q54_6, .inr (5, [.ref (u58_7.1 0), .ref (u58_7.1 1), .ref (u58_7.1 2), .ref (u58_7.1 3), .ref (u58_7.1 4)])), (u58_7.1 0, .inl (k 0, 64, .inl (fun _ => 0))), (u58_7.1 1, .inl (k 0, 8, .inl (fun _ => 0))), (u58_7.1 2, .inl (k 0, 8, .inl (u58_7.2 0))), (u58_7.1 3, .inl (k 0, 3, .inl (fun _ => 0))), (u58_7.1 4, .inl (k 0, 3, .inl (fun _ => 0)))] := hD
  have hP := hP.sub (ws' := [(h0, .inr (3, [.ref q36_5, .ref q7_1, .ref q15_2, .ref q22_3, .ref q29_4, .int 0, .int 0, .int 0, .int 0, .int 0])), (q36_5, .inl (k 5, 5, .inr (.inr (.inr (.inr (va_up (fun _ => none) 0 (some q54_6)))))))]) [0, 5] rfl
  have hD := hD.sub (ws' := [(h0, .inr (3, [.ref q36_5, .ref q7_1, .ref q15_2, .ref q22_3, .ref q29_4, .int 0, .int 0, .int 0, .int 0, .int 0])), (q36_5, .inl (k 5, 5, .inr (.inr (.inr (.inr (va_up (fun _ => none) 0 (some q54_6)))))))]) [0, 5] (by decide) rfl
  refine lv_iinc (v := 1) (lv' := [(1, .int 1), (0, .ref h0)]) hx hb dX3_init_62 hl (k := 0) rfl (by decide) (by decide) rfl (fun ls hl => ?_)
  refine lv_goto (tgt := 44) hx hb dX3_init_65 (by decide) ?_
  refine lv_iload_n hx hb dX3_init_44 rfl (lv_at hl 0 rfl) ?_
  refine lv_iconst (v := 4) hx hb dX3_init_45 (by decide) ?_
  refine lv_icmp_gt (tgt := 68) hx hb dX3_init_46 (by decide) (fun c_2 => ?_) (fun c_2 => ?_)
  · first | exact absurd c_2 (by decide) | exact absurd (by decide) c_2
  refine lv_aload_n hx hb dX3_init_49 rfl (lv_at hl 1 rfl) ?_
  refine va_get (D := D) (ci := 3) (v := .ref q36_5) (C := RX3) (T := TX3) (N := 10) hx hb hT in_X3 hown hK hP 0 rfl rfl 0 (by decide) (hT _ t400) (fun _ h9 => h9) rfl dX3_init_50 ?_
  refine lv_iload_n hx hb dX3_init_53 rfl (lv_at hl 0 rfl) ?_
  refine va_new (ci := 5) (fs := [.null, .null, .null, .null, .null]) (C := RX5) (T := TX5) (N := 5) hx hb hT in_X5 tyX5 tyX5_ok hown (hT _ t397) (hT _ t159) (hT _ t108) hK hP hD hS hA rfl (fun j hj => by rcases (show j = 0 ∨ j = 1 ∨ j = 2 ∨ j = 3 ∨ j = 4 by omega) with rfl | rfl | rfl | rfl | rfl <;> rfl) (Nat.le_of_ble_eq_true rfl) (Nat.le_of_ble_eq_true rfl) dX3_init_54 (fun q54_8 H hP hD hS => ?_)
  have hP : va_P D vwCl [(h0, .inr (3, [.ref q36_5, .ref q7_1, .ref q15_2, .ref q22_3, .ref q29_4, .int 0, .int 0, .int 0, .int 0, .int 0])), (q36_5, .inl (k 5, 5, .inr (.inr (.inr (.inr (va_up (fun _ => none) 0 (some q54_6))))))), (q54_8, .inr (5, [.null, .null, .null, .null, .null]))] H := hP
  have hD : va_D A [(h0, .inr (3, [.ref q36_5, .ref q7_1, .ref q15_2, .ref q22_3, .ref q29_4, .int 0, .int 0, .int 0, .int 0, .int 0])), (q36_5, .inl (k 5, 5, .inr (.inr (.inr (.inr (va_up (fun _ => none) 0 (some q54_6))))))), (q54_8, .inr (5, [.null, .null, .null, .null, .null]))] := hD
  refine W.widen (k := 12) (n := 121) (Nat.le_of_ble_eq_true rfl) (Nat.le_of_ble_eq_true rfl) ?_
  refine lv_dup hx hb dX3_init_57 rfl ?_
  refine rw_v (wc := [(q54_8, .inr (5, [.null, .null, .null, .null, .null]))]) (wr := [(h0, .inr (3, [.ref q36_5, .ref q7_1, .ref q15_2, .ref q22_3, .ref q29_4, .int 0, .int 0, .int 0, .int 0, .int 0])), (q36_5, .inl (k 5, 5, .inr (.inr (.inr (.inr (va_up (fun _ => none) 0 (some q54_6)))))))]) [2] [0, 1] rfl rfl (by decide +kernel) (by decide +kernel) (by decide +kernel) hP hD hS hA (fun hPc hDc => run_I (C := RX5) (As := []) (rest := [.ref q54_8, .int 1, .ref q36_5]) S (c_X5_init l D k q54_8 _) (gdC t162) t399 t161 t108 rfl ok_X5_init ⟨rfl, rfl, Nat.le_of_ble_eq_true rfl, Nat.le_of_ble_eq_true rfl⟩ (pw_S hK hN hPc hDc) rfl hl.1 rfl (Nat.le_of_ble_eq_true rfl) ⟨Nat.le_of_ble_eq_true rfl, Nat.le_of_ble_eq_true rfl⟩ dX3_init_58) (fun u58_9 H locs hu58_9 hKu58_9 hP hD hS => ?_)
  have hP : va_P D vwCl [(h0, .inr (3, [.ref q36_5, .ref q7_1, .ref q15_2, .ref q22_3, .ref q29_4, .int 0, .int 0, .int 0, .int 0, .int 0])), (q36_5, .inl (k 5, 5, .inr (.inr (.inr (.inr (va_up (fun _ => none) 0 (some q54_6))))))), (q54_8, .inr (5, [.ref (u58_9.1 0), .ref (u58_9.1 1), .ref (u58_9.1 2), .ref (u58_9.1 3), .ref (u58_9.1 4)])), (u58_9.1 0, .inl (k 0, 64, .inl (fun _ => 0))), (u58_9.1 1, .inl (k 0, 8, .inl (fun _ => 0))), (u58_9.1 2, .inl (k 0, 8, .inl (u58_9.2 0))), (u58_9.1 3, .inl (k 0, 3, .inl (fun _ => 0))), (u58_9.1 4, .inl (k 0, 3, .inl (fun _ => 0)))] H := hP
  have hD : va_D A [(h0, .inr (3, [.ref q36_5, .ref q7_1, .ref q15_2, .ref q22_3, .ref q29_4, .int 0, .int 0, .int 0, .int 0, .int 0])), (q36_5, .inl (k 5, 5, .inr (.inr (.inr (.inr (va_up (fun _ => none) 0 (some q54_6))))))), (q54_8, .inr (5, [.ref (u58_9.1 0), .ref (u58_9.1 1), .ref (u58_9.1 2), .ref (u58_9.1 3), .ref (u58_9.1 4)])), (u58_9.1 0, .inl (k 0, 64, .inl (fun _ => 0))), (u58_9.1 1, .inl (k 0, 8, .inl (fun _ => 0))), (u58_9.1 2, .inl (k 0, 8, .inl (u58_9.2 0))), (u58_9.1 3, .inl (k 0, 3, .inl (fun _ => 0))), (u58_9.1 4, .inl (k 0, 3, .inl (fun _ => 0)))] := hD
  refine W.widen (k := 17) (n := 207) (Nat.le_of_ble_eq_true rfl) (Nat.le_of_ble_eq_true rfl) ?_
  refine va_astq hx hb hK hP hD hS 1 5 2 5 rfl rfl rfl rfl (by unfold vp_in; decide) dX3_init_61 (fun H locs hP hD hS => ?_)
  rw [show ((1 : Int32)).toNatClampNeg = 1 from by decide] at hP hD
  have hP : va_P D vwCl [(h0, .inr (3, [.ref q36_5, .ref q7_1, .ref q15_2, .ref q22_3, .ref q29_4, .int 0, .int 0, .int 0, .int 0, .int 0])), (q36_5, .inl (k 5, 5, .inr (.inr (.inr (.inr (va_up (va_up (fun _ => none) 0 (some q54_6)) 1 (some q54_8))))))), (q54_8, .inr (5, [.ref (u58_9.1 0), .ref (u58_9.1 1), .ref (u58_9.1 2), .ref (u58_9.1 3), .ref (u58_9.1 4)])), (u58_9.1 0, .inl (k 0, 64, .inl (fun _ => 0))), (u58_9.1 1, .inl (k 0, 8, .inl (fun _ => 0))), (u58_9.1 2, .inl (k 0, 8, .inl (u58_9.2 0))), (u58_9.1 3, .inl (k 0, 3, .inl (fun _ => 0))), (u58_9.1 4, .inl (k 0, 3, .inl (fun _ => 0)))] H := hP
  have hD : va_D A [(h0, .inr (3, [.ref q36_5, .ref q7_1, .ref q15_2, .ref q22_3, .ref q29_4, .int 0, .int 0, .int 0, .int 0, .int 0])), (q36_5, .inl (k 5, 5, .inr (.inr (.inr (.inr (va_up (va_up (fun _ => none) 0 (some q54_6)) 1 (some q54_8))))))), (q54_8, .inr (5, [.ref (u58_9.1 0), .ref (u58_9.1 1), .ref (u58_9.1 2), .ref (u58_9.1 3), .ref (u58_9.1 4)])), (u58_9.1 0, .inl (k 0, 64, .inl (fun _ => 0))), (u58_9.1 1, .inl (k 0, 8, .inl (fun _ => 0))), (u58_9.1 2, .inl (k 0, 8, .inl (u58_9.2 0))), (u58_9.1 3, .inl (k 0, 3, .inl (fun _ => 0))), (u58_9.1 4, .inl (k 0, 3, .inl (fun _ => 0)))] := hD
  have hP := hP.sub (ws' := [(h0, .inr (3, [.ref q36_5, .ref q7_1, .ref q15_2, .ref q22_3, .ref q29_4, .int 0, .int 0, .int 0, .int 0, .int 0])), (q36_5, .inl (k 5, 5, .inr (.inr (.inr (.inr (va_up (va_up (fun _ => none) 0 (some q54_6)) 1 (some q54_8)))))))]) [0, 1] rfl
  have hD := hD.sub (ws' := [(h0, .inr (3, [.ref q36_5, .ref q7_1, .ref q15_2, .ref q22_3, .ref q29_4, .int 0, .int 0, .int 0, .int 0, .int 0])), (q36_5, .inl (k 5, 5, .inr (.inr (.inr (.inr (va_up (va_up (fun _ => none) 0 (some q54_6)) 1 (some q54_8)))))))]) [0, 1] (by decide) rfl
  refine lv_iinc (v := 2) (lv' := [(1, .int 2), (0, .ref h0)]) hx hb dX3_init_62 hl (k := 0) rfl (by decide) (by decide) rfl (fun ls hl => ?_)
  refine lv_goto (tgt := 44) hx hb dX3_init_65 (by decide) ?_
  refine lv_iload_n hx hb dX3_init_44 rfl (lv_at hl 0 rfl) ?_
  refine lv_iconst (v := 4) hx hb dX3_init_45 (by decide) ?_
  refine lv_icmp_gt (tgt := 68) hx hb dX3_init_46 (by decide) (fun c_3 => ?_) (fun c_3 => ?_)
  · first | exact absurd c_3 (by decide) | exact absurd (by decide) c_3
  refine lv_aload_n hx hb dX3_init_49 rfl (lv_at hl 1 rfl) ?_
  refine va_get (D := D) (ci := 3) (v := .ref q36_5) (C := RX3) (T := TX3) (N := 10) hx hb hT in_X3 hown hK hP 0 rfl rfl 0 (by decide) (hT _ t400) (fun _ h9 => h9) rfl dX3_init_50 ?_
  refine lv_iload_n hx hb dX3_init_53 rfl (lv_at hl 0 rfl) ?_
  refine va_new (ci := 5) (fs := [.null, .null, .null, .null, .null]) (C := RX5) (T := TX5) (N := 5) hx hb hT in_X5 tyX5 tyX5_ok hown (hT _ t397) (hT _ t159) (hT _ t108) hK hP hD hS hA rfl (fun j hj => by rcases (show j = 0 ∨ j = 1 ∨ j = 2 ∨ j = 3 ∨ j = 4 by omega) with rfl | rfl | rfl | rfl | rfl <;> rfl) (Nat.le_of_ble_eq_true rfl) (Nat.le_of_ble_eq_true rfl) dX3_init_54 (fun q54_10 H hP hD hS => ?_)
  have hP : va_P D vwCl [(h0, .inr (3, [.ref q36_5, .ref q7_1, .ref q15_2, .ref q22_3, .ref q29_4, .int 0, .int 0, .int 0, .int 0, .int 0])), (q36_5, .inl (k 5, 5, .inr (.inr (.inr (.inr (va_up (va_up (fun _ => none) 0 (some q54_6)) 1 (some q54_8))))))), (q54_10, .inr (5, [.null, .null, .null, .null, .null]))] H := hP
  have hD : va_D A [(h0, .inr (3, [.ref q36_5, .ref q7_1, .ref q15_2, .ref q22_3, .ref q29_4, .int 0, .int 0, .int 0, .int 0, .int 0])), (q36_5, .inl (k 5, 5, .inr (.inr (.inr (.inr (va_up (va_up (fun _ => none) 0 (some q54_6)) 1 (some q54_8))))))), (q54_10, .inr (5, [.null, .null, .null, .null, .null]))] := hD
  refine W.widen (k := 18) (n := 212) (Nat.le_of_ble_eq_true rfl) (Nat.le_of_ble_eq_true rfl) ?_
  refine lv_dup hx hb dX3_init_57 rfl ?_
  refine rw_v (wc := [(q54_10, .inr (5, [.null, .null, .null, .null, .null]))]) (wr := [(h0, .inr (3, [.ref q36_5, .ref q7_1, .ref q15_2, .ref q22_3, .ref q29_4, .int 0, .int 0, .int 0, .int 0, .int 0])), (q36_5, .inl (k 5, 5, .inr (.inr (.inr (.inr (va_up (va_up (fun _ => none) 0 (some q54_6)) 1 (some q54_8)))))))]) [2] [0, 1] rfl rfl (by decide +kernel) (by decide +kernel) (by decide +kernel) hP hD hS hA (fun hPc hDc => run_I (C := RX5) (As := []) (rest := [.ref q54_10, .int 2, .ref q36_5]) S (c_X5_init l D k q54_10 _) (gdC t162) t399 t161 t108 rfl ok_X5_init ⟨rfl, rfl, Nat.le_of_ble_eq_true rfl, Nat.le_of_ble_eq_true rfl⟩ (pw_S hK hN hPc hDc) rfl hl.1 rfl (Nat.le_of_ble_eq_true rfl) ⟨Nat.le_of_ble_eq_true rfl, Nat.le_of_ble_eq_true rfl⟩ dX3_init_58) (fun u58_11 H locs hu58_11 hKu58_11 hP hD hS => ?_)
  have hP : va_P D vwCl [(h0, .inr (3, [.ref q36_5, .ref q7_1, .ref q15_2, .ref q22_3, .ref q29_4, .int 0, .int 0, .int 0, .int 0, .int 0])), (q36_5, .inl (k 5, 5, .inr (.inr (.inr (.inr (va_up (va_up (fun _ => none) 0 (some q54_6)) 1 (some q54_8))))))), (q54_10, .inr (5, [.ref (u58_11.1 0), .ref (u58_11.1 1), .ref (u58_11.1 2), .ref (u58_11.1 3), .ref (u58_11.1 4)])), (u58_11.1 0, .inl (k 0, 64, .inl (fun _ => 0))), (u58_11.1 1, .inl (k 0, 8, .inl (fun _ => 0))), (u58_11.1 2, .inl (k 0, 8, .inl (u58_11.2 0))), (u58_11.1 3, .inl (k 0, 3, .inl (fun _ => 0))), (u58_11.1 4, .inl (k 0, 3, .inl (fun _ => 0)))] H := hP
  have hD : va_D A [(h0, .inr (3, [.ref q36_5, .ref q7_1, .ref q15_2, .ref q22_3, .ref q29_4, .int 0, .int 0, .int 0, .int 0, .int 0])), (q36_5, .inl (k 5, 5, .inr (.inr (.inr (.inr (va_up (va_up (fun _ => none) 0 (some q54_6)) 1 (some q54_8))))))), (q54_10, .inr (5, [.ref (u58_11.1 0), .ref (u58_11.1 1), .ref (u58_11.1 2), .ref (u58_11.1 3), .ref (u58_11.1 4)])), (u58_11.1 0, .inl (k 0, 64, .inl (fun _ => 0))), (u58_11.1 1, .inl (k 0, 8, .inl (fun _ => 0))), (u58_11.1 2, .inl (k 0, 8, .inl (u58_11.2 0))), (u58_11.1 3, .inl (k 0, 3, .inl (fun _ => 0))), (u58_11.1 4, .inl (k 0, 3, .inl (fun _ => 0)))] := hD
  refine W.widen (k := 23) (n := 298) (Nat.le_of_ble_eq_true rfl) (Nat.le_of_ble_eq_true rfl) ?_
  refine va_astq hx hb hK hP hD hS 1 5 2 5 rfl rfl rfl rfl (by unfold vp_in; decide) dX3_init_61 (fun H locs hP hD hS => ?_)
  rw [show ((2 : Int32)).toNatClampNeg = 2 from by decide] at hP hD
  have hP : va_P D vwCl [(h0, .inr (3, [.ref q36_5, .ref q7_1, .ref q15_2, .ref q22_3, .ref q29_4, .int 0, .int 0, .int 0, .int 0, .int 0])), (q36_5, .inl (k 5, 5, .inr (.inr (.inr (.inr (va_up (va_up (va_up (fun _ => none) 0 (some q54_6)) 1 (some q54_8)) 2 (some q54_10))))))), (q54_10, .inr (5, [.ref (u58_11.1 0), .ref (u58_11.1 1), .ref (u58_11.1 2), .ref (u58_11.1 3), .ref (u58_11.1 4)])), (u58_11.1 0, .inl (k 0, 64, .inl (fun _ => 0))), (u58_11.1 1, .inl (k 0, 8, .inl (fun _ => 0))), (u58_11.1 2, .inl (k 0, 8, .inl (u58_11.2 0))), (u58_11.1 3, .inl (k 0, 3, .inl (fun _ => 0))), (u58_11.1 4, .inl (k 0, 3, .inl (fun _ => 0)))] H := hP
  have hD : va_D A [(h0, .inr (3, [.ref q36_5, .ref q7_1, .ref q15_2, .ref q22_3, .ref q29_4, .int 0, .int 0, .int 0, .int 0, .int 0])), (q36_5, .inl (k 5, 5, .inr (.inr (.inr (.inr (va_up (va_up (va_up (fun _ => none) 0 (some q54_6)) 1 (some q54_8)) 2 (some q54_10))))))), (q54_10, .inr (5, [.ref (u58_11.1 0), .ref (u58_11.1 1), .ref (u58_11.1 2), .ref (u58_11.1 3), .ref (u58_11.1 4)])), (u58_11.1 0, .inl (k 0, 64, .inl (fun _ => 0))), (u58_11.1 1, .inl (k 0, 8, .inl (fun _ => 0))), (u58_11.1 2, .inl (k 0, 8, .inl (u58_11.2 0))), (u58_11.1 3, .inl (k 0, 3, .inl (fun _ => 0))), (u58_11.1 4, .inl (k 0, 3, .inl (fun _ => 0)))] := hD
  have hP := hP.sub (ws' := [(h0, .inr (3, [.ref q36_5, .ref q7_1, .ref q15_2, .ref q22_3, .ref q29_4, .int 0, .int 0, .int 0, .int 0, .int 0])), (q36_5, .inl (k 5, 5, .inr (.inr (.inr (.inr (va_up (va_up (va_up (fun _ => none) 0 (some q54_6)) 1 (some q54_8)) 2 (some q54_10)))))))]) [0, 1] rfl
  have hD := hD.sub (ws' := [(h0, .inr (3, [.ref q36_5, .ref q7_1, .ref q15_2, .ref q22_3, .ref q29_4, .int 0, .int 0, .int 0, .int 0, .int 0])), (q36_5, .inl (k 5, 5, .inr (.inr (.inr (.inr (va_up (va_up (va_up (fun _ => none) 0 (some q54_6)) 1 (some q54_8)) 2 (some q54_10)))))))]) [0, 1] (by decide) rfl
  refine lv_iinc (v := 3) (lv' := [(1, .int 3), (0, .ref h0)]) hx hb dX3_init_62 hl (k := 0) rfl (by decide) (by decide) rfl (fun ls hl => ?_)
  refine lv_goto (tgt := 44) hx hb dX3_init_65 (by decide) ?_
  refine lv_iload_n hx hb dX3_init_44 rfl (lv_at hl 0 rfl) ?_
  refine lv_iconst (v := 4) hx hb dX3_init_45 (by decide) ?_
  refine lv_icmp_gt (tgt := 68) hx hb dX3_init_46 (by decide) (fun c_4 => ?_) (fun c_4 => ?_)
  · first | exact absurd c_4 (by decide) | exact absurd (by decide) c_4
  refine lv_aload_n hx hb dX3_init_49 rfl (lv_at hl 1 rfl) ?_
  refine va_get (D := D) (ci := 3) (v := .ref q36_5) (C := RX3) (T := TX3) (N := 10) hx hb hT in_X3 hown hK hP 0 rfl rfl 0 (by decide) (hT _ t400) (fun _ h9 => h9) rfl dX3_init_50 ?_
  refine lv_iload_n hx hb dX3_init_53 rfl (lv_at hl 0 rfl) ?_
  refine va_new (ci := 5) (fs := [.null, .null, .null, .null, .null]) (C := RX5) (T := TX5) (N := 5) hx hb hT in_X5 tyX5 tyX5_ok hown (hT _ t397) (hT _ t159) (hT _ t108) hK hP hD hS hA rfl (fun j hj => by rcases (show j = 0 ∨ j = 1 ∨ j = 2 ∨ j = 3 ∨ j = 4 by omega) with rfl | rfl | rfl | rfl | rfl <;> rfl) (Nat.le_of_ble_eq_true rfl) (Nat.le_of_ble_eq_true rfl) dX3_init_54 (fun q54_12 H hP hD hS => ?_)
  have hP : va_P D vwCl [(h0, .inr (3, [.ref q36_5, .ref q7_1, .ref q15_2, .ref q22_3, .ref q29_4, .int 0, .int 0, .int 0, .int 0, .int 0])), (q36_5, .inl (k 5, 5, .inr (.inr (.inr (.inr (va_up (va_up (va_up (fun _ => none) 0 (some q54_6)) 1 (some q54_8)) 2 (some q54_10))))))), (q54_12, .inr (5, [.null, .null, .null, .null, .null]))] H := hP
  have hD : va_D A [(h0, .inr (3, [.ref q36_5, .ref q7_1, .ref q15_2, .ref q22_3, .ref q29_4, .int 0, .int 0, .int 0, .int 0, .int 0])), (q36_5, .inl (k 5, 5, .inr (.inr (.inr (.inr (va_up (va_up (va_up (fun _ => none) 0 (some q54_6)) 1 (some q54_8)) 2 (some q54_10))))))), (q54_12, .inr (5, [.null, .null, .null, .null, .null]))] := hD
  refine W.widen (k := 24) (n := 303) (Nat.le_of_ble_eq_true rfl) (Nat.le_of_ble_eq_true rfl) ?_
  refine lv_dup hx hb dX3_init_57 rfl ?_
  refine rw_v (wc := [(q54_12, .inr (5, [.null, .null, .null, .null, .null]))]) (wr := [(h0, .inr (3, [.ref q36_5, .ref q7_1, .ref q15_2, .ref q22_3, .ref q29_4, .int 0, .int 0, .int 0, .int 0, .int 0])), (q36_5, .inl (k 5, 5, .inr (.inr (.inr (.inr (va_up (va_up (va_up (fun _ => none) 0 (some q54_6)) 1 (some q54_8)) 2 (some q54_10)))))))]) [2] [0, 1] rfl rfl (by decide +kernel) (by decide +kernel) (by decide +kernel) hP hD hS hA (fun hPc hDc => run_I (C := RX5) (As := []) (rest := [.ref q54_12, .int 3, .ref q36_5]) S (c_X5_init l D k q54_12 _) (gdC t162) t399 t161 t108 rfl ok_X5_init ⟨rfl, rfl, Nat.le_of_ble_eq_true rfl, Nat.le_of_ble_eq_true rfl⟩ (pw_S hK hN hPc hDc) rfl hl.1 rfl (Nat.le_of_ble_eq_true rfl) ⟨Nat.le_of_ble_eq_true rfl, Nat.le_of_ble_eq_true rfl⟩ dX3_init_58) (fun u58_13 H locs hu58_13 hKu58_13 hP hD hS => ?_)
  have hP : va_P D vwCl [(h0, .inr (3, [.ref q36_5, .ref q7_1, .ref q15_2, .ref q22_3, .ref q29_4, .int 0, .int 0, .int 0, .int 0, .int 0])), (q36_5, .inl (k 5, 5, .inr (.inr (.inr (.inr (va_up (va_up (va_up (fun _ => none) 0 (some q54_6)) 1 (some q54_8)) 2 (some q54_10))))))), (q54_12, .inr (5, [.ref (u58_13.1 0), .ref (u58_13.1 1), .ref (u58_13.1 2), .ref (u58_13.1 3), .ref (u58_13.1 4)])), (u58_13.1 0, .inl (k 0, 64, .inl (fun _ => 0))), (u58_13.1 1, .inl (k 0, 8, .inl (fun _ => 0))), (u58_13.1 2, .inl (k 0, 8, .inl (u58_13.2 0))), (u58_13.1 3, .inl (k 0, 3, .inl (fun _ => 0))), (u58_13.1 4, .inl (k 0, 3, .inl (fun _ => 0)))] H := hP
  have hD : va_D A [(h0, .inr (3, [.ref q36_5, .ref q7_1, .ref q15_2, .ref q22_3, .ref q29_4, .int 0, .int 0, .int 0, .int 0, .int 0])), (q36_5, .inl (k 5, 5, .inr (.inr (.inr (.inr (va_up (va_up (va_up (fun _ => none) 0 (some q54_6)) 1 (some q54_8)) 2 (some q54_10))))))), (q54_12, .inr (5, [.ref (u58_13.1 0), .ref (u58_13.1 1), .ref (u58_13.1 2), .ref (u58_13.1 3), .ref (u58_13.1 4)])), (u58_13.1 0, .inl (k 0, 64, .inl (fun _ => 0))), (u58_13.1 1, .inl (k 0, 8, .inl (fun _ => 0))), (u58_13.1 2, .inl (k 0, 8, .inl (u58_13.2 0))), (u58_13.1 3, .inl (k 0, 3, .inl (fun _ => 0))), (u58_13.1 4, .inl (k 0, 3, .inl (fun _ => 0)))] := hD
  refine W.widen (k := 29) (n := 389) (Nat.le_of_ble_eq_true rfl) (Nat.le_of_ble_eq_true rfl) ?_
  refine va_astq hx hb hK hP hD hS 1 5 2 5 rfl rfl rfl rfl (by unfold vp_in; decide) dX3_init_61 (fun H locs hP hD hS => ?_)
  rw [show ((3 : Int32)).toNatClampNeg = 3 from by decide] at hP hD
  have hP : va_P D vwCl [(h0, .inr (3, [.ref q36_5, .ref q7_1, .ref q15_2, .ref q22_3, .ref q29_4, .int 0, .int 0, .int 0, .int 0, .int 0])), (q36_5, .inl (k 5, 5, .inr (.inr (.inr (.inr (va_up (va_up (va_up (va_up (fun _ => none) 0 (some q54_6)) 1 (some q54_8)) 2 (some q54_10)) 3 (some q54_12))))))), (q54_12, .inr (5, [.ref (u58_13.1 0), .ref (u58_13.1 1), .ref (u58_13.1 2), .ref (u58_13.1 3), .ref (u58_13.1 4)])), (u58_13.1 0, .inl (k 0, 64, .inl (fun _ => 0))), (u58_13.1 1, .inl (k 0, 8, .inl (fun _ => 0))), (u58_13.1 2, .inl (k 0, 8, .inl (u58_13.2 0))), (u58_13.1 3, .inl (k 0, 3, .inl (fun _ => 0))), (u58_13.1 4, .inl (k 0, 3, .inl (fun _ => 0)))] H := hP
  have hD : va_D A [(h0, .inr (3, [.ref q36_5, .ref q7_1, .ref q15_2, .ref q22_3, .ref q29_4, .int 0, .int 0, .int 0, .int 0, .int 0])), (q36_5, .inl (k 5, 5, .inr (.inr (.inr (.inr (va_up (va_up (va_up (va_up (fun _ => none) 0 (some q54_6)) 1 (some q54_8)) 2 (some q54_10)) 3 (some q54_12))))))), (q54_12, .inr (5, [.ref (u58_13.1 0), .ref (u58_13.1 1), .ref (u58_13.1 2), .ref (u58_13.1 3), .ref (u58_13.1 4)])), (u58_13.1 0, .inl (k 0, 64, .inl (fun _ => 0))), (u58_13.1 1, .inl (k 0, 8, .inl (fun _ => 0))), (u58_13.1 2, .inl (k 0, 8, .inl (u58_13.2 0))), (u58_13.1 3, .inl (k 0, 3, .inl (fun _ => 0))), (u58_13.1 4, .inl (k 0, 3, .inl (fun _ => 0)))] := hD
  have hP := hP.sub (ws' := [(h0, .inr (3, [.ref q36_5, .ref q7_1, .ref q15_2, .ref q22_3, .ref q29_4, .int 0, .int 0, .int 0, .int 0, .int 0])), (q36_5, .inl (k 5, 5, .inr (.inr (.inr (.inr (va_up (va_up (va_up (va_up (fun _ => none) 0 (some q54_6)) 1 (some q54_8)) 2 (some q54_10)) 3 (some q54_12)))))))]) [0, 1] rfl
  have hD := hD.sub (ws' := [(h0, .inr (3, [.ref q36_5, .ref q7_1, .ref q15_2, .ref q22_3, .ref q29_4, .int 0, .int 0, .int 0, .int 0, .int 0])), (q36_5, .inl (k 5, 5, .inr (.inr (.inr (.inr (va_up (va_up (va_up (va_up (fun _ => none) 0 (some q54_6)) 1 (some q54_8)) 2 (some q54_10)) 3 (some q54_12)))))))]) [0, 1] (by decide) rfl
  refine lv_iinc (v := 4) (lv' := [(1, .int 4), (0, .ref h0)]) hx hb dX3_init_62 hl (k := 0) rfl (by decide) (by decide) rfl (fun ls hl => ?_)
  refine lv_goto (tgt := 44) hx hb dX3_init_65 (by decide) ?_
  refine lv_iload_n hx hb dX3_init_44 rfl (lv_at hl 0 rfl) ?_
  refine lv_iconst (v := 4) hx hb dX3_init_45 (by decide) ?_
  refine lv_icmp_gt (tgt := 68) hx hb dX3_init_46 (by decide) (fun c_5 => ?_) (fun c_5 => ?_)
  · first | exact absurd c_5 (by decide) | exact absurd (by decide) c_5
  refine lv_aload_n hx hb dX3_init_49 rfl (lv_at hl 1 rfl) ?_
  refine va_get (D := D) (ci := 3) (v := .ref q36_5) (C := RX3) (T := TX3) (N := 10) hx hb hT in_X3 hown hK hP 0 rfl rfl 0 (by decide) (hT _ t400) (fun _ h9 => h9) rfl dX3_init_50 ?_
  refine lv_iload_n hx hb dX3_init_53 rfl (lv_at hl 0 rfl) ?_
  refine va_new (ci := 5) (fs := [.null, .null, .null, .null, .null]) (C := RX5) (T := TX5) (N := 5) hx hb hT in_X5 tyX5 tyX5_ok hown (hT _ t397) (hT _ t159) (hT _ t108) hK hP hD hS hA rfl (fun j hj => by rcases (show j = 0 ∨ j = 1 ∨ j = 2 ∨ j = 3 ∨ j = 4 by omega) with rfl | rfl | rfl | rfl | rfl <;> rfl) (Nat.le_of_ble_eq_true rfl) (Nat.le_of_ble_eq_true rfl) dX3_init_54 (fun q54_14 H hP hD hS => ?_)
  have hP : va_P D vwCl [(h0, .inr (3, [.ref q36_5, .ref q7_1, .ref q15_2, .ref q22_3, .ref q29_4, .int 0, .int 0, .int 0, .int 0, .int 0])), (q36_5, .inl (k 5, 5, .inr (.inr (.inr (.inr (va_up (va_up (va_up (va_up (fun _ => none) 0 (some q54_6)) 1 (some q54_8)) 2 (some q54_10)) 3 (some q54_12))))))), (q54_14, .inr (5, [.null, .null, .null, .null, .null]))] H := hP
  have hD : va_D A [(h0, .inr (3, [.ref q36_5, .ref q7_1, .ref q15_2, .ref q22_3, .ref q29_4, .int 0, .int 0, .int 0, .int 0, .int 0])), (q36_5, .inl (k 5, 5, .inr (.inr (.inr (.inr (va_up (va_up (va_up (va_up (fun _ => none) 0 (some q54_6)) 1 (some q54_8)) 2 (some q54_10)) 3 (some q54_12))))))), (q54_14, .inr (5, [.null, .null, .null, .null, .null]))] := hD
  refine W.widen (k := 30) (n := 394) (Nat.le_of_ble_eq_true rfl) (Nat.le_of_ble_eq_true rfl) ?_
  refine lv_dup hx hb dX3_init_57 rfl ?_
  refine rw_v (wc := [(q54_14, .inr (5, [.null, .null, .null, .null, .null]))]) (wr := [(h0, .inr (3, [.ref q36_5, .ref q7_1, .ref q15_2, .ref q22_3, .ref q29_4, .int 0, .int 0, .int 0, .int 0, .int 0])), (q36_5, .inl (k 5, 5, .inr (.inr (.inr (.inr (va_up (va_up (va_up (va_up (fun _ => none) 0 (some q54_6)) 1 (some q54_8)) 2 (some q54_10)) 3 (some q54_12)))))))]) [2] [0, 1] rfl rfl (by decide +kernel) (by decide +kernel) (by decide +kernel) hP hD hS hA (fun hPc hDc => run_I (C := RX5) (As := []) (rest := [.ref q54_14, .int 4, .ref q36_5]) S (c_X5_init l D k q54_14 _) (gdC t162) t399 t161 t108 rfl ok_X5_init ⟨rfl, rfl, Nat.le_of_ble_eq_true rfl, Nat.le_of_ble_eq_true rfl⟩ (pw_S hK hN hPc hDc) rfl hl.1 rfl (Nat.le_of_ble_eq_true rfl) ⟨Nat.le_of_ble_eq_true rfl, Nat.le_of_ble_eq_true rfl⟩ dX3_init_58) (fun u58_15 H locs hu58_15 hKu58_15 hP hD hS => ?_)
  have hP : va_P D vwCl [(h0, .inr (3, [.ref q36_5, .ref q7_1, .ref q15_2, .ref q22_3, .ref q29_4, .int 0, .int 0, .int 0, .int 0, .int 0])), (q36_5, .inl (k 5, 5, .inr (.inr (.inr (.inr (va_up (va_up (va_up (va_up (fun _ => none) 0 (some q54_6)) 1 (some q54_8)) 2 (some q54_10)) 3 (some q54_12))))))), (q54_14, .inr (5, [.ref (u58_15.1 0), .ref (u58_15.1 1), .ref (u58_15.1 2), .ref (u58_15.1 3), .ref (u58_15.1 4)])), (u58_15.1 0, .inl (k 0, 64, .inl (fun _ => 0))), (u58_15.1 1, .inl (k 0, 8, .inl (fun _ => 0))), (u58_15.1 2, .inl (k 0, 8, .inl (u58_15.2 0))), (u58_15.1 3, .inl (k 0, 3, .inl (fun _ => 0))), (u58_15.1 4, .inl (k 0, 3, .inl (fun _ => 0)))] H := hP
  have hD : va_D A [(h0, .inr (3, [.ref q36_5, .ref q7_1, .ref q15_2, .ref q22_3, .ref q29_4, .int 0, .int 0, .int 0, .int 0, .int 0])), (q36_5, .inl (k 5, 5, .inr (.inr (.inr (.inr (va_up (va_up (va_up (va_up (fun _ => none) 0 (some q54_6)) 1 (some q54_8)) 2 (some q54_10)) 3 (some q54_12))))))), (q54_14, .inr (5, [.ref (u58_15.1 0), .ref (u58_15.1 1), .ref (u58_15.1 2), .ref (u58_15.1 3), .ref (u58_15.1 4)])), (u58_15.1 0, .inl (k 0, 64, .inl (fun _ => 0))), (u58_15.1 1, .inl (k 0, 8, .inl (fun _ => 0))), (u58_15.1 2, .inl (k 0, 8, .inl (u58_15.2 0))), (u58_15.1 3, .inl (k 0, 3, .inl (fun _ => 0))), (u58_15.1 4, .inl (k 0, 3, .inl (fun _ => 0)))] := hD
  refine W.widen (k := 35) (n := 480) (Nat.le_of_ble_eq_true rfl) (Nat.le_of_ble_eq_true rfl) ?_
  refine va_astq hx hb hK hP hD hS 1 5 2 5 rfl rfl rfl rfl (by unfold vp_in; decide) dX3_init_61 (fun H locs hP hD hS => ?_)
  rw [show ((4 : Int32)).toNatClampNeg = 4 from by decide] at hP hD
  have hP : va_P D vwCl [(h0, .inr (3, [.ref q36_5, .ref q7_1, .ref q15_2, .ref q22_3, .ref q29_4, .int 0, .int 0, .int 0, .int 0, .int 0])), (q36_5, .inl (k 5, 5, .inr (.inr (.inr (.inr (va_up (va_up (va_up (va_up (va_up (fun _ => none) 0 (some q54_6)) 1 (some q54_8)) 2 (some q54_10)) 3 (some q54_12)) 4 (some q54_14))))))), (q54_14, .inr (5, [.ref (u58_15.1 0), .ref (u58_15.1 1), .ref (u58_15.1 2), .ref (u58_15.1 3), .ref (u58_15.1 4)])), (u58_15.1 0, .inl (k 0, 64, .inl (fun _ => 0))), (u58_15.1 1, .inl (k 0, 8, .inl (fun _ => 0))), (u58_15.1 2, .inl (k 0, 8, .inl (u58_15.2 0))), (u58_15.1 3, .inl (k 0, 3, .inl (fun _ => 0))), (u58_15.1 4, .inl (k 0, 3, .inl (fun _ => 0)))] H := hP
  have hD : va_D A [(h0, .inr (3, [.ref q36_5, .ref q7_1, .ref q15_2, .ref q22_3, .ref q29_4, .int 0, .int 0, .int 0, .int 0, .int 0])), (q36_5, .inl (k 5, 5, .inr (.inr (.inr (.inr (va_up (va_up (va_up (va_up (va_up (fun _ => none) 0 (some q54_6)) 1 (some q54_8)) 2 (some q54_10)) 3 (some q54_12)) 4 (some q54_14))))))), (q54_14, .inr (5, [.ref (u58_15.1 0), .ref (u58_15.1 1), .ref (u58_15.1 2), .ref (u58_15.1 3), .ref (u58_15.1 4)])), (u58_15.1 0, .inl (k 0, 64, .inl (fun _ => 0))), (u58_15.1 1, .inl (k 0, 8, .inl (fun _ => 0))), (u58_15.1 2, .inl (k 0, 8, .inl (u58_15.2 0))), (u58_15.1 3, .inl (k 0, 3, .inl (fun _ => 0))), (u58_15.1 4, .inl (k 0, 3, .inl (fun _ => 0)))] := hD
  have hP := hP.sub (ws' := [(h0, .inr (3, [.ref q36_5, .ref q7_1, .ref q15_2, .ref q22_3, .ref q29_4, .int 0, .int 0, .int 0, .int 0, .int 0])), (q36_5, .inl (k 5, 5, .inr (.inr (.inr (.inr (va_up (va_up (va_up (va_up (va_up (fun _ => none) 0 (some q54_6)) 1 (some q54_8)) 2 (some q54_10)) 3 (some q54_12)) 4 (some q54_14)))))))]) [0, 1] rfl
  have hD := hD.sub (ws' := [(h0, .inr (3, [.ref q36_5, .ref q7_1, .ref q15_2, .ref q22_3, .ref q29_4, .int 0, .int 0, .int 0, .int 0, .int 0])), (q36_5, .inl (k 5, 5, .inr (.inr (.inr (.inr (va_up (va_up (va_up (va_up (va_up (fun _ => none) 0 (some q54_6)) 1 (some q54_8)) 2 (some q54_10)) 3 (some q54_12)) 4 (some q54_14)))))))]) [0, 1] (by decide) rfl
  refine lv_iinc (v := 5) (lv' := [(1, .int 5), (0, .ref h0)]) hx hb dX3_init_62 hl (k := 0) rfl (by decide) (by decide) rfl (fun ls hl => ?_)
  refine lv_goto (tgt := 44) hx hb dX3_init_65 (by decide) ?_
  refine lv_iload_n hx hb dX3_init_44 rfl (lv_at hl 0 rfl) ?_
  refine lv_iconst (v := 4) hx hb dX3_init_45 (by decide) ?_
  refine lv_icmp_gt (tgt := 68) hx hb dX3_init_46 (by decide) (fun c_6 => ?_) (fun c_6 => ?_)
  rotate_left
  · first | exact absurd c_6 (by decide) | exact absurd (by decide) c_6
  have hP9 := hP.sub (ws' := []) [] rfl
  have hD9 := hD.sub (ws' := []) [] (by decide +kernel) rfl
  have hK9 := hK.sub (tys' := []) [] rfl
  subst hAe
  exact W.vret hx hb hr (fun t ht hW => ⟨⟨mkU [] [], rfl, trivial, by rw [ht]; exact hP9, va_K.moved hW.alike hK9, hD9⟩, hS.F ht⟩) hS.2.2 dX3_init_68
set_option maxHeartbeats 4000000 in
set_option maxRecDepth 100000 in
theorem c_X4_init (l : Launch) (D : va_G) (k : Nat → ClassId) (h0 sz : Nat) : Met l yX4_init (.code yX4_init cX4_init 1 none :: TB) (rmw 2 7 252) (va_Pc [.ref h0] (PW D k sz [(h0, .inr (4, [.null, .null, .null]))])) (QV D (S := UT) (fun u => ∀ j : Nat, j < 4 → u.2 0 j = -1) (fun u => [(h0, .inr (4, [.ref (u.1 0), .ref (u.1 1), .ref (u.1 2)])), (u.1 0, .inl (k 0, 4, .inl (u.2 0))), (u.1 1, .inl (k 0, 4, .inl (fun _ => 0))), (u.1 2, .inl (k 6, 4, .inr (.inr (.inr (.inr (va_up (va_up (va_up (va_up (fun _ => none) 0 (some (u.1 3))) 1 (some (u.1 4))) 2 (some (u.1 5))) 3 (some (u.1 6)))))))), (u.1 3, .inl (k 2, 60, .inr (.inl (fun _ => 0)))), (u.1 4, .inl (k 2, 60, .inr (.inl (fun _ => 0)))), (u.1 5, .inl (k 2, 60, .inr (.inl (fun _ => 0)))), (u.1 6, .inl (k 2, 60, .inr (.inl (fun _ => 0))))]) (fun _ => []) [(h0, .inr (4, [.null, .null, .null]))] sz) 7 252 (va_A [(h0, .inr (4, [.null, .null, .null]))] sz) := by
  refine Met.ofW (cc := cX4_init) (maxL := 1) (ret := none) (by decide) rfl ?_
  intro p e s m args below meth c s₁ B hml hv
  obtain ⟨rfl, hsz, hP, hK, hD0, hN⟩ := hv
  have hx := B.exec
  have hb := B.bytes
  have hr := B.returns
  have hT : ∀ w ∈ TB, w.before ([.ref h0] : List Value).toArray s = true := fun w h => atoms_spec (ws := .code yX4_init cX4_init 1 none :: TB) B.pre w (List.mem_cons_of_mem _ h)
  have hown : s.vm.findClass RX4 = some m.cls := findClass_of_methodNamed B.named
  have S : CallFix p m c cX4_init 1 s _ TB RX4 := ⟨hx, hb, hml, hown, hT⟩
  have hin : meth.name = "<init>" := (name_of_methodNamed B.named B.method).1
  subst hsz
  have hD := hD0.self (sz := s.heap.size)
  generalize hAe : va_A [(h0, .inr (4, [.null, .null, .null]))] s.heap.size = A at hD ⊢
  have hA : ∀ q : Nat, s.heap.size ≤ q → A q := fun q h => by rw [← hAe]; exact Or.inr h
  have hS : va_S A s.heap s.heap [] := va_S.rf
  have hP : va_P D vwCl [(h0, .inr (4, [.null, .null, .null]))] s.heap := hP
  have hl := lv_entry ([.ref h0]) (n := 1) (Nat.le_of_ble_eq_true rfl)
  rw [lg_entry_eq]
  generalize (lg_sl ([.ref h0]) ++ List.replicate (1 - (lg_sl ([.ref h0])).length) Slot.unset).toArray = ls at hl ⊢
  have hl : lv_has ls 1 [(0, .ref h0)] := hl
  refine lv_aload_n hx hb dX4_init_0 rfl (lv_at hl 0 rfl) ?_
  refine W.objInit hx hb hown (hT _ t339) (hT _ t129) (hT _ t130) rfl (by rw [hml]; exact hl.1) rfl dX4_init_1 (Nat.le_of_ble_eq_true rfl) (Nat.le_of_ble_eq_true rfl) ?_
  refine W.eq (g2 := F0 m 4 ls []) rfl ?_
  refine lv_aload_n hx hb dX4_init_4 rfl (lv_at hl 0 rfl) ?_
  refine lv_iconst (v := 4) hx hb dX4_init_5 (by decide) ?_
  refine n_newa (atype := .int) (ty := .int) (cT := k 0) (N' := 4) (a0 := (4, .inl (fun _ => 0))) 0 ra_int rfl hx hb (hT _ t194) rfl hK hP hD hS hA (fun _ => rfl) (by decide) (by decide) (Nat.le_of_ble_eq_true rfl) (Nat.le_of_ble_eq_true rfl) (Nat.le_of_ble_eq_true rfl) dX4_init_6 (fun q6_1 H hP hD hS => ?_)
  have hP : va_P D vwCl [(h0, .inr (4, [.null, .null, .null])), (q6_1, .inl (k 0, 4, .inl (fun _ => 0)))] H := hP
  have hD : va_D A [(h0, .inr (4, [.null, .null, .null])), (q6_1, .inl (k 0, 4, .inl (fun _ => 0)))] := hD
  refine W.widen (k := 1) (n := 4) (Nat.le_of_ble_eq_true rfl) (Nat.le_of_ble_eq_true rfl) ?_
  refine va_putF (D := D) (ci := 4) (v := .ref q6_1) (ty := .array .int) (C := RX4) (T := TX4) (N := 3) hx hb hT in_X4 tyX4 tyX4_ok nmX4 hown hK hP hD hS 0 rfl rfl 0 (by decide) (hT _ t343) (fun _ h9 => h9) rfl hin rfl (by decide +kernel) rfl rfl (Nat.le_of_ble_eq_true rfl) dX4_init_8 (fun H locs hP hD hS => ?_)
  have hP : va_P D vwCl [(h0, .inr (4, [.ref q6_1, .null, .null])), (q6_1, .inl (k 0, 4, .inl (fun _ => 0)))] H := hP
  have hD : va_D A [(h0, .inr (4, [.ref q6_1, .null, .null])), (q6_1, .inl (k 0, 4, .inl (fun _ => 0)))] := hD
  refine lv_aload_n hx hb dX4_init_11 rfl (lv_at hl 0 rfl) ?_
  refine lv_iconst (v := 4) hx hb dX4_init_12 (by decide) ?_
  refine n_newa (atype := .int) (ty := .int) (cT := k 0) (N' := 4) (a0 := (4, .inl (fun _ => 0))) 0 ra_int rfl hx hb (hT _ t194) rfl hK hP hD hS hA (fun _ => rfl) (by decide) (by decide) (Nat.le_of_ble_eq_true rfl) (Nat.le_of_ble_eq_true rfl) (Nat.le_of_ble_eq_true rfl) dX4_init_13 (fun q13_2 H hP hD hS => ?_)
  have hP : va_P D vwCl [(h0, .inr (4, [.ref q6_1, .null, .null])), (q6_1, .inl (k 0, 4, .inl (fun _ => 0))), (q13_2, .inl (k 0, 4, .inl (fun _ => 0)))] H := hP
  have hD : va_D A [(h0, .inr (4, [.ref q6_1, .null, .null])), (q6_1, .inl (k 0, 4, .inl (fun _ => 0))), (q13_2, .inl (k 0, 4, .inl (fun _ => 0)))] := hD
  refine W.widen (k := 2) (n := 8) (Nat.le_of_ble_eq_true rfl) (Nat.le_of_ble_eq_true rfl) ?_
  refine va_putF (D := D) (ci := 4) (v := .ref q13_2) (ty := .array .int) (C := RX4) (T := TX4) (N := 3) hx hb hT in_X4 tyX4 tyX4_ok nmX4 hown hK hP hD hS 0 rfl rfl 1 (by decide) (hT _ t345) (fun _ h9 => h9) rfl hin rfl (by decide +kernel) rfl rfl (Nat.le_of_ble_eq_true rfl) dX4_init_15 (fun H locs hP hD hS => ?_)
  have hP : va_P D vwCl [(h0, .inr (4, [.ref q6_1, .ref q13_2, .null])), (q6_1, .inl (k 0, 4, .inl (fun _ => 0))), (q13_2, .inl (k 0, 4, .inl (fun _ => 0)))] H := hP
  have hD : va_D A [(h0, .inr (4, [.ref q6_1, .ref q13_2, .null])), (q6_1, .inl (k 0, 4, .inl (fun _ => 0))), (q13_2, .inl (k 0, 4, .inl (fun _ => 0)))] := hD
  refine lv_aload_n hx hb dX4_init_18 rfl (lv_at hl 0 rfl) ?_
  refine lv_iconst (v := 4) hx hb dX4_init_19 (by decide) ?_
  refine lv_bipush (v := 60) hx hb dX4_init_20 (by decide) ?_
  refine n_mna (k := k) hx hb hown (hT _ t340) hN.2.2.2 (hT _ t357) hK hP hD hS hA (Nat.le_of_ble_eq_true rfl) (Nat.le_of_ble_eq_true rfl) dX4_init_22 (fun q22_3 r22_3_0 r22_3_1 r22_3_2 r22_3_3 H hP hD hS => ?_)
  have hP : va_P D vwCl [(h0, .inr (4, [.ref q6_1, .ref q13_2, .null])), (q6_1, .inl (k 0, 4, .inl (fun _ => 0))), (q13_2, .inl (k 0, 4, .inl (fun _ => 0))), (q22_3, .inl (k 6, 4, .inr (.inr (.inr (.inr (va_up (va_up (va_up (va_up (fun _ => none) 0 (some r22_3_0)) 1 (some r22_3_1)) 2 (some r22_3_2)) 3 (some r22_3_3))))))), (r22_3_0, .inl (k 2, 60, .inr (.inl (fun _ => 0)))), (r22_3_1, .inl (k 2, 60, .inr (.inl (fun _ => 0)))), (r22_3_2, .inl (k 2, 60, .inr (.inl (fun _ => 0)))), (r22_3_3, .inl (k 2, 60, .inr (.inl (fun _ => 0))))] H := hP
  have hD : va_D A [(h0, .inr (4, [.ref q6_1, .ref q13_2, .null])), (q6_1, .inl (k 0, 4, .inl (fun _ => 0))), (q13_2, .inl (k 0, 4, .inl (fun _ => 0))), (q22_3, .inl (k 6, 4, .inr (.inr (.inr (.inr (va_up (va_up (va_up (va_up (fun _ => none) 0 (some r22_3_0)) 1 (some r22_3_1)) 2 (some r22_3_2)) 3 (some r22_3_3))))))), (r22_3_0, .inl (k 2, 60, .inr (.inl (fun _ => 0)))), (r22_3_1, .inl (k 2, 60, .inr (.inl (fun _ => 0)))), (r22_3_2, .inl (k 2, 60, .inr (.inl (fun _ => 0)))), (r22_3_3, .inl (k 2, 60, .inr (.inl (fun _ => 0))))] := hD
  refine W.widen (k := 7) (n := 252) (Nat.le_of_ble_eq_true rfl) (Nat.le_of_ble_eq_true rfl) ?_
  refine va_putF (D := D) (ci := 4) (v := .ref q22_3) (ty := .array (.array .long)) (C := RX4) (T := TX4) (N := 3) hx hb hT in_X4 tyX4 tyX4_ok nmX4 hown hK hP hD hS 0 rfl rfl 2 (by decide) (hT _ t347) (fun _ h9 => h9) rfl hin rfl (by decide +kernel) rfl rfl (Nat.le_of_ble_eq_true rfl) dX4_init_26 (fun H locs hP hD hS => ?_)
  have hP : va_P D vwCl [(h0, .inr (4, [.ref q6_1, .ref q13_2, .ref q22_3])), (q6_1, .inl (k 0, 4, .inl (fun _ => 0))), (q13_2, .inl (k 0, 4, .inl (fun _ => 0))), (q22_3, .inl (k 6, 4, .inr (.inr (.inr (.inr (va_up (va_up (va_up (va_up (fun _ => none) 0 (some r22_3_0)) 1 (some r22_3_1)) 2 (some r22_3_2)) 3 (some r22_3_3))))))), (r22_3_0, .inl (k 2, 60, .inr (.inl (fun _ => 0)))), (r22_3_1, .inl (k 2, 60, .inr (.inl (fun _ => 0)))), (r22_3_2, .inl (k 2, 60, .inr (.inl (fun _ => 0)))), (r22_3_3, .inl (k 2, 60, .inr (.inl (fun _ => 0))))] H := hP
  have hD : va_D A [(h0, .inr (4, [.ref q6_1, .ref q13_2, .ref q22_3])), (q6_1, .inl (k 0, 4, .inl (fun _ => 0))), (q13_2, .inl (k 0, 4, .inl (fun _ => 0))), (q22_3, .inl (k 6, 4, .inr (.inr (.inr (.inr (va_up (va_up (va_up (va_up (fun _ => none) 0 (some r22_3_0)) 1 (some r22_3_1)) 2 (some r22_3_2)) 3 (some r22_3_3))))))), (r22_3_0, .inl (k 2, 60, .inr (.inl (fun _ => 0)))), (r22_3_1, .inl (k 2, 60, .inr (.inl (fun _ => 0)))), (r22_3_2, .inl (k 2, 60, .inr (.inl (fun _ => 0)))), (r22_3_3, .inl (k 2, 60, .inr (.inl (fun _ => 0))))] := hD
  refine lv_aload_n hx hb dX4_init_29 rfl (lv_at hl 0 rfl) ?_
  refine va_get (D := D) (ci := 4) (v := .ref q6_1) (C := RX4) (T := TX4) (N := 3) hx hb hT in_X4 hown hK hP 0 rfl rfl 0 (by decide) (hT _ t343) (fun _ h9 => h9) rfl dX4_init_30 ?_
  refine lv_iconst (v := (-1)) hx hb dX4_init_33 (by decide) ?_
  refine rw_v (wc := [(q6_1, .inl (k 0, 4, .inl (fun _ => 0)))]) (wr := [(h0, .inr (4, [.ref q6_1, .ref q13_2, .ref q22_3])), (q13_2, .inl (k 0, 4, .inl (fun _ => 0))), (q22_3, .inl (k 6, 4, .inr (.inr (.inr (.inr (va_up (va_up (va_up (va_up (fun _ => none) 0 (some r22_3_0)) 1 (some r22_3_1)) 2 (some r22_3_2)) 3 (some r22_3_3))))))), (r22_3_0, .inl (k 2, 60, .inr (.inl (fun _ => 0)))), (r22_3_1, .inl (k 2, 60, .inr (.inl (fun _ => 0)))), (r22_3_2, .inl (k 2, 60, .inr (.inl (fun _ => 0)))), (r22_3_3, .inl (k 2, 60, .inr (.inl (fun _ => 0))))]) [1] [0, 2, 3, 4, 5, 6, 7] rfl rfl (by decide +kernel) (by decide +kernel) (by decide +kernel) hP hD hS hA (fun hPc hDc => run_S (C := RJ7) (As := [.ref q6_1, .int (-1)]) (rest := []) S (c_fillI l D k q6_1 4 (fun _ => 0) (-1) (by decide) _) (gdC t166) t342 t165 t109 ok_J7_fill_53178 ⟨rfl, rfl, Nat.le_of_ble_eq_true rfl, Nat.le_of_ble_eq_true rfl⟩ (pw_S hK hN hPc hDc) rfl hl.1 rfl (Nat.le_of_ble_eq_true rfl) ⟨Nat.le_of_ble_eq_true rfl, Nat.le_of_ble_eq_true rfl⟩ dX4_init_34) (fun u34_4 H locs hu34_4 hKu34_4 hP hD hS => ?_)
  have hP : va_P D vwCl [(h0, .inr (4, [.ref q6_1, .ref q13_2, .ref q22_3])), (q13_2, .inl (k 0, 4, .inl (fun _ => 0))), (q22_3, .inl (k 6, 4, .inr (.inr (.inr (.inr (va_up (va_up (va_up (va_up (fun _ => none) 0 (some r22_3_0)) 1 (some r22_3_1)) 2 (some r22_3_2)) 3 (some r22_3_3))))))), (r22_3_0, .inl (k 2, 60, .inr (.inl (fun _ => 0)))), (r22_3_1, .inl (k 2, 60, .inr (.inl (fun _ => 0)))), (r22_3_2, .inl (k 2, 60, .inr (.inl (fun _ => 0)))), (r22_3_3, .inl (k 2, 60, .inr (.inl (fun _ => 0)))), (q6_1, .inl (k 0, 4, .inl u34_4))] H := hP
  have hD : va_D A [(h0, .inr (4, [.ref q6_1, .ref q13_2, .ref q22_3])), (q13_2, .inl (k 0, 4, .inl (fun _ => 0))), (q22_3, .inl (k 6, 4, .inr (.inr (.inr (.inr (va_up (va_up (va_up (va_up (fun _ => none) 0 (some r22_3_0)) 1 (some r22_3_1)) 2 (some r22_3_2)) 3 (some r22_3_3))))))), (r22_3_0, .inl (k 2, 60, .inr (.inl (fun _ => 0)))), (r22_3_1, .inl (k 2, 60, .inr (.inl (fun _ => 0)))), (r22_3_2, .inl (k 2, 60, .inr (.inl (fun _ => 0)))), (r22_3_3, .inl (k 2, 60, .inr (.inl (fun _ => 0)))), (q6_1, .inl (k 0, 4, .inl u34_4))] := hD
  have hP9 := hP.sub (ws' := [(h0, .inr (4, [.ref q6_1, .ref q13_2, .ref q22_3])), (q6_1, .inl (k 0, 4, .inl u34_4)), (q13_2, .inl (k 0, 4, .inl (fun _ => 0))), (q22_3, .inl (k 6, 4, .inr (.inr (.inr (.inr (va_up (va_up (va_up (va_up (fun _ => none) 0 (some r22_3_0)) 1 (some r22_3_1)) 2 (some r22_3_2)) 3 (some r22_3_3))))))), (r22_3_0, .inl (k 2, 60, .inr (.inl (fun _ => 0)))), (r22_3_1, .inl (k 2, 60, .inr (.inl (fun _ => 0)))), (r22_3_2, .inl (k 2, 60, .inr (.inl (fun _ => 0)))), (r22_3_3, .inl (k 2, 60, .inr (.inl (fun _ => 0))))]) [0, 7, 1, 2, 3, 4, 5, 6] rfl
  have hD9 := hD.sub (ws' := [(h0, .inr (4, [.ref q6_1, .ref q13_2, .ref q22_3])), (q6_1, .inl (k 0, 4, .inl u34_4)), (q13_2, .inl (k 0, 4, .inl (fun _ => 0))), (q22_3, .inl (k 6, 4, .inr (.inr (.inr (.inr (va_up (va_up (va_up (va_up (fun _ => none) 0 (some r22_3_0)) 1 (some r22_3_1)) 2 (some r22_3_2)) 3 (some r22_3_3))))))), (r22_3_0, .inl (k 2, 60, .inr (.inl (fun _ => 0)))), (r22_3_1, .inl (k 2, 60, .inr (.inl (fun _ => 0)))), (r22_3_2, .inl (k 2, 60, .inr (.inl (fun _ => 0)))), (r22_3_3, .inl (k 2, 60, .inr (.inl (fun _ => 0))))]) [0, 7, 1, 2, 3, 4, 5, 6] (by decide +kernel) rfl
  have hK9 := hK.sub (tys' := []) [] rfl
  subst hAe
  exact W.vret hx hb hr (fun t ht hW => ⟨⟨mkU [q6_1, q13_2, q22_3, r22_3_0, r22_3_1, r22_3_2, r22_3_3] [u34_4], rfl, hu34_4, by rw [ht]; exact hP9, va_K.moved hW.alike hK9, hD9⟩, hS.F ht⟩) hS.2.2 dX4_init_37
end
