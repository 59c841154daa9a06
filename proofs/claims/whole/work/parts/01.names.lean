/-- a private method of a class that the tables say can be made, by its rows of tables_1 -/
def lw_okq (q : MethodName × Nat) : Prop := (q.1.cls ≠ "java/lang/invoke/MethodHandle" ∧ q.1.cls ≠ "java/lang/invoke/VarHandle") ∧ Cond.instantiable q.1.cls q.2 ∈ tables_1 ∧ Cond.privateMethod q.1 ∈ tables_1 ∧ Cond.instanceMethod q.1 ∈ tables_1
theorem lw_p0 : lw_okq (⟨"TaskHouse$Reader", "begin", "()V"⟩, 14) := ⟨⟨by decide +kernel, by decide +kernel⟩, List.mem_of_getElem? (i := 26) (by decide +kernel), List.mem_of_getElem? (i := 395) (by decide +kernel), List.mem_of_getElem? (i := 396) (by decide +kernel)⟩
theorem lw_p1 : lw_okq (⟨"TaskHouse$Tape", "byteAt", "(I)I"⟩, 7) := ⟨⟨by decide +kernel, by decide +kernel⟩, List.mem_of_getElem? (i := 32) (by decide +kernel), List.mem_of_getElem? (i := 411) (by decide +kernel), List.mem_of_getElem? (i := 412) (by decide +kernel)⟩
theorem lw_p2 : lw_okq (⟨"TaskHouse$Tape", "letters", "()I"⟩, 7) := ⟨⟨by decide +kernel, by decide +kernel⟩, List.mem_of_getElem? (i := 32) (by decide +kernel), List.mem_of_getElem? (i := 421) (by decide +kernel), List.mem_of_getElem? (i := 422) (by decide +kernel)⟩
theorem lw_p3 : lw_okq (⟨"TaskHouse$Tape", "kindOfKey", "(I)I"⟩, 7) := ⟨⟨by decide +kernel, by decide +kernel⟩, List.mem_of_getElem? (i := 32) (by decide +kernel), List.mem_of_getElem? (i := 425) (by decide +kernel), List.mem_of_getElem? (i := 426) (by decide +kernel)⟩
theorem lw_p4 : lw_okq (⟨"TaskHouse$Reader", "closeSteps", "()V"⟩, 14) := ⟨⟨by decide +kernel, by decide +kernel⟩, List.mem_of_getElem? (i := 26) (by decide +kernel), List.mem_of_getElem? (i := 438) (by decide +kernel), List.mem_of_getElem? (i := 439) (by decide +kernel)⟩
theorem lw_p5 : lw_okq (⟨"TaskHouse$Reader", "closeAgain", "(I)V"⟩, 14) := ⟨⟨by decide +kernel, by decide +kernel⟩, List.mem_of_getElem? (i := 26) (by decide +kernel), List.mem_of_getElem? (i := 442) (by decide +kernel), List.mem_of_getElem? (i := 443) (by decide +kernel)⟩
theorem lw_p6 : lw_okq (⟨"TaskHouse$Reader", "fail", "(I)V"⟩, 14) := ⟨⟨by decide +kernel, by decide +kernel⟩, List.mem_of_getElem? (i := 26) (by decide +kernel), List.mem_of_getElem? (i := 446) (by decide +kernel), List.mem_of_getElem? (i := 447) (by decide +kernel)⟩
theorem lw_p7 : lw_okq (⟨"TaskHouse$Reader", "hold", "(Z)V"⟩, 14) := ⟨⟨by decide +kernel, by decide +kernel⟩, List.mem_of_getElem? (i := 26) (by decide +kernel), List.mem_of_getElem? (i := 463) (by decide +kernel), List.mem_of_getElem? (i := 464) (by decide +kernel)⟩
theorem lw_p8 : lw_okq (⟨"TaskHouse$Reader", "closeSecond", "(I)V"⟩, 14) := ⟨⟨by decide +kernel, by decide +kernel⟩, List.mem_of_getElem? (i := 26) (by decide +kernel), List.mem_of_getElem? (i := 467) (by decide +kernel), List.mem_of_getElem? (i := 468) (by decide +kernel)⟩
theorem lw_p9 : lw_okq (⟨"TaskHouse$Reader", "turnToSecond", "(I)V"⟩, 14) := ⟨⟨by decide +kernel, by decide +kernel⟩, List.mem_of_getElem? (i := 26) (by decide +kernel), List.mem_of_getElem? (i := 475) (by decide +kernel), List.mem_of_getElem? (i := 476) (by decide +kernel)⟩
theorem lw_p10 : lw_okq (⟨"TaskHouse$Reader", "need", "(I)V"⟩, 14) := ⟨⟨by decide +kernel, by decide +kernel⟩, List.mem_of_getElem? (i := 26) (by decide +kernel), List.mem_of_getElem? (i := 479) (by decide +kernel), List.mem_of_getElem? (i := 480) (by decide +kernel)⟩
theorem lw_p11 : lw_okq (⟨"TaskHouse$Reader", "readStep", "()V"⟩, 14) := ⟨⟨by decide +kernel, by decide +kernel⟩, List.mem_of_getElem? (i := 26) (by decide +kernel), List.mem_of_getElem? (i := 483) (by decide +kernel), List.mem_of_getElem? (i := 484) (by decide +kernel)⟩
theorem lw_p12 : lw_okq (⟨"TaskHouse$Reader", "readDo", "()V"⟩, 14) := ⟨⟨by decide +kernel, by decide +kernel⟩, List.mem_of_getElem? (i := 26) (by decide +kernel), List.mem_of_getElem? (i := 487) (by decide +kernel), List.mem_of_getElem? (i := 488) (by decide +kernel)⟩
theorem lw_p13 : lw_okq (⟨"TaskHouse$Reader", "readNewName", "()V"⟩, 14) := ⟨⟨by decide +kernel, by decide +kernel⟩, List.mem_of_getElem? (i := 26) (by decide +kernel), List.mem_of_getElem? (i := 491) (by decide +kernel), List.mem_of_getElem? (i := 492) (by decide +kernel)⟩
theorem lw_p14 : lw_okq (⟨"TaskHouse$Reader", "doNamed", "(I)I"⟩, 14) := ⟨⟨by decide +kernel, by decide +kernel⟩, List.mem_of_getElem? (i := 26) (by decide +kernel), List.mem_of_getElem? (i := 499) (by decide +kernel), List.mem_of_getElem? (i := 500) (by decide +kernel)⟩
theorem lw_p15 : lw_okq (⟨"TaskHouse$Reader", "readNumber", "(II)I"⟩, 14) := ⟨⟨by decide +kernel, by decide +kernel⟩, List.mem_of_getElem? (i := 26) (by decide +kernel), List.mem_of_getElem? (i := 503) (by decide +kernel), List.mem_of_getElem? (i := 504) (by decide +kernel)⟩
def lw_privs_1 : List (MethodName × Nat) := [(⟨"TaskHouse$Reader", "begin", "()V"⟩, 14), (⟨"TaskHouse$Tape", "byteAt", "(I)I"⟩, 7), (⟨"TaskHouse$Tape", "letters", "()I"⟩, 7), (⟨"TaskHouse$Tape", "kindOfKey", "(I)I"⟩, 7), (⟨"TaskHouse$Reader", "closeSteps", "()V"⟩, 14), (⟨"TaskHouse$Reader", "closeAgain", "(I)V"⟩, 14), (⟨"TaskHouse$Reader", "fail", "(I)V"⟩, 14), (⟨"TaskHouse$Reader", "hold", "(Z)V"⟩, 14), (⟨"TaskHouse$Reader", "closeSecond", "(I)V"⟩, 14), (⟨"TaskHouse$Reader", "turnToSecond", "(I)V"⟩, 14), (⟨"TaskHouse$Reader", "need", "(I)V"⟩, 14), (⟨"TaskHouse$Reader", "readStep", "()V"⟩, 14), (⟨"TaskHouse$Reader", "readDo", "()V"⟩, 14), (⟨"TaskHouse$Reader", "readNewName", "()V"⟩, 14), (⟨"TaskHouse$Reader", "doNamed", "(I)I"⟩, 14), (⟨"TaskHouse$Reader", "readNumber", "(II)I"⟩, 14)]
theorem lw_r1 : ∀ q ∈ lw_privs_1, lw_okq q := List.forall_mem_cons.mpr ⟨lw_p0, List.forall_mem_cons.mpr ⟨lw_p1, List.forall_mem_cons.mpr ⟨lw_p2, List.forall_mem_cons.mpr ⟨lw_p3, List.forall_mem_cons.mpr ⟨lw_p4, List.forall_mem_cons.mpr ⟨lw_p5, List.forall_mem_cons.mpr ⟨lw_p6, List.forall_mem_cons.mpr ⟨lw_p7, List.forall_mem_cons.mpr ⟨lw_p8, List.forall_mem_cons.mpr ⟨lw_p9, List.forall_mem_cons.mpr ⟨lw_p10, List.forall_mem_cons.mpr ⟨lw_p11, List.forall_mem_cons.mpr ⟨lw_p12, List.forall_mem_cons.mpr ⟨lw_p13, List.forall_mem_cons.mpr ⟨lw_p14, List.forall_mem_cons.mpr ⟨lw_p15, fun _ h => absurd h List.not_mem_nil⟩⟩⟩⟩⟩⟩⟩⟩⟩⟩⟩⟩⟩⟩⟩⟩
theorem lw_p16 : lw_okq (⟨"TaskHouse$Reader", "readEyes", "()I"⟩, 14) := ⟨⟨by decide +kernel, by decide +kernel⟩, List.mem_of_getElem? (i := 26) (by decide +kernel), List.mem_of_getElem? (i := 507) (by decide +kernel), List.mem_of_getElem? (i := 508) (by decide +kernel)⟩
theorem lw_p17 : lw_okq (⟨"TaskHouse$Reader", "readSet", "()V"⟩, 14) := ⟨⟨by decide +kernel, by decide +kernel⟩, List.mem_of_getElem? (i := 26) (by decide +kernel), List.mem_of_getElem? (i := 516) (by decide +kernel), List.mem_of_getElem? (i := 517) (by decide +kernel)⟩
theorem lw_p18 : lw_okq (⟨"TaskHouse$Reader", "readField", "()I"⟩, 14) := ⟨⟨by decide +kernel, by decide +kernel⟩, List.mem_of_getElem? (i := 26) (by decide +kernel), List.mem_of_getElem? (i := 520) (by decide +kernel), List.mem_of_getElem? (i := 521) (by decide +kernel)⟩
theorem lw_p19 : lw_okq (⟨"TaskHouse$Reader", "openSteps", "(II)V"⟩, 14) := ⟨⟨by decide +kernel, by decide +kernel⟩, List.mem_of_getElem? (i := 26) (by decide +kernel), List.mem_of_getElem? (i := 528) (by decide +kernel), List.mem_of_getElem? (i := 529) (by decide +kernel)⟩
theorem lw_p20 : lw_okq (⟨"TaskHouse$Reader", "readTest", "()I"⟩, 14) := ⟨⟨by decide +kernel, by decide +kernel⟩, List.mem_of_getElem? (i := 26) (by decide +kernel), List.mem_of_getElem? (i := 532) (by decide +kernel), List.mem_of_getElem? (i := 533) (by decide +kernel)⟩
theorem lw_p21 : lw_okq (⟨"TaskHouse$Walk", "forgetWhatCame", "()V"⟩, 7) := ⟨⟨by decide +kernel, by decide +kernel⟩, List.mem_of_getElem? (i := 309) (by decide +kernel), List.mem_of_getElem? (i := 597) (by decide +kernel), List.mem_of_getElem? (i := 598) (by decide +kernel)⟩
theorem lw_p22 : lw_okq (⟨"TaskHouse$Walk", "follow", "(LTaskHouse$Business;I)I"⟩, 7) := ⟨⟨by decide +kernel, by decide +kernel⟩, List.mem_of_getElem? (i := 309) (by decide +kernel), List.mem_of_getElem? (i := 605) (by decide +kernel), List.mem_of_getElem? (i := 606) (by decide +kernel)⟩
theorem lw_p23 : lw_okq (⟨"TaskHouse$Walk", "comeTo", "(I)V"⟩, 7) := ⟨⟨by decide +kernel, by decide +kernel⟩, List.mem_of_getElem? (i := 309) (by decide +kernel), List.mem_of_getElem? (i := 610) (by decide +kernel), List.mem_of_getElem? (i := 611) (by decide +kernel)⟩
theorem lw_p24 : lw_okq (⟨"TaskHouse$Walk", "isBelow", "(II)Z"⟩, 7) := ⟨⟨by decide +kernel, by decide +kernel⟩, List.mem_of_getElem? (i := 309) (by decide +kernel), List.mem_of_getElem? (i := 618) (by decide +kernel), List.mem_of_getElem? (i := 619) (by decide +kernel)⟩
theorem lw_p25 : lw_okq (⟨"TaskHouse$Walk", "fork", "(II)V"⟩, 7) := ⟨⟨by decide +kernel, by decide +kernel⟩, List.mem_of_getElem? (i := 309) (by decide +kernel), List.mem_of_getElem? (i := 622) (by decide +kernel), List.mem_of_getElem? (i := 623) (by decide +kernel)⟩
theorem lw_p26 : lw_okq (⟨"TaskHouse$Walk", "endsLastWay", "(I)Z"⟩, 7) := ⟨⟨by decide +kernel, by decide +kernel⟩, List.mem_of_getElem? (i := 309) (by decide +kernel), List.mem_of_getElem? (i := 626) (by decide +kernel), List.mem_of_getElem? (i := 627) (by decide +kernel)⟩
theorem lw_p27 : lw_okq (⟨"TaskHouse$Walk", "nextSecondWay", "()I"⟩, 7) := ⟨⟨by decide +kernel, by decide +kernel⟩, List.mem_of_getElem? (i := 309) (by decide +kernel), List.mem_of_getElem? (i := 630) (by decide +kernel), List.mem_of_getElem? (i := 631) (by decide +kernel)⟩
theorem lw_p28 : lw_okq (⟨"TaskHouse", "keepWalk", "(LTaskHouse$Run;)V"⟩, 10) := ⟨⟨by decide +kernel, by decide +kernel⟩, List.mem_of_getElem? (i := 18) (by decide +kernel), List.mem_of_getElem? (i := 672) (by decide +kernel), List.mem_of_getElem? (i := 673) (by decide +kernel)⟩
theorem lw_p29 : lw_okq (⟨"TaskHouse$Business", "hasDo", "(I)Z"⟩, 12) := ⟨⟨by decide +kernel, by decide +kernel⟩, List.mem_of_getElem? (i := 129) (by decide +kernel), List.mem_of_getElem? (i := 687) (by decide +kernel), List.mem_of_getElem? (i := 688) (by decide +kernel)⟩
theorem lw_p30 : lw_okq (⟨"TaskHouse$Tasks", "putByDue", "(I)V"⟩, 10) := ⟨⟨by decide +kernel, by decide +kernel⟩, List.mem_of_getElem? (i := 262) (by decide +kernel), List.mem_of_getElem? (i := 709) (by decide +kernel), List.mem_of_getElem? (i := 710) (by decide +kernel)⟩
theorem lw_p31 : lw_okq (⟨"TaskHouse$Tasks", "isDueBehind", "(II)Z"⟩, 10) := ⟨⟨by decide +kernel, by decide +kernel⟩, List.mem_of_getElem? (i := 262) (by decide +kernel), List.mem_of_getElem? (i := 713) (by decide +kernel), List.mem_of_getElem? (i := 714) (by decide +kernel)⟩
def lw_privs_2 : List (MethodName × Nat) := [(⟨"TaskHouse$Reader", "readEyes", "()I"⟩, 14), (⟨"TaskHouse$Reader", "readSet", "()V"⟩, 14), (⟨"TaskHouse$Reader", "readField", "()I"⟩, 14), (⟨"TaskHouse$Reader", "openSteps", "(II)V"⟩, 14), (⟨"TaskHouse$Reader", "readTest", "()I"⟩, 14), (⟨"TaskHouse$Walk", "forgetWhatCame", "()V"⟩, 7), (⟨"TaskHouse$Walk", "follow", "(LTaskHouse$Business;I)I"⟩, 7), (⟨"TaskHouse$Walk", "comeTo", "(I)V"⟩, 7), (⟨"TaskHouse$Walk", "isBelow", "(II)Z"⟩, 7), (⟨"TaskHouse$Walk", "fork", "(II)V"⟩, 7), (⟨"TaskHouse$Walk", "endsLastWay", "(I)Z"⟩, 7), (⟨"TaskHouse$Walk", "nextSecondWay", "()I"⟩, 7), (⟨"TaskHouse", "keepWalk", "(LTaskHouse$Run;)V"⟩, 10), (⟨"TaskHouse$Business", "hasDo", "(I)Z"⟩, 12), (⟨"TaskHouse$Tasks", "putByDue", "(I)V"⟩, 10), (⟨"TaskHouse$Tasks", "isDueBehind", "(II)Z"⟩, 10)]
theorem lw_r2 : ∀ q ∈ lw_privs_2, lw_okq q := List.forall_mem_cons.mpr ⟨lw_p16, List.forall_mem_cons.mpr ⟨lw_p17, List.forall_mem_cons.mpr ⟨lw_p18, List.forall_mem_cons.mpr ⟨lw_p19, List.forall_mem_cons.mpr ⟨lw_p20, List.forall_mem_cons.mpr ⟨lw_p21, List.forall_mem_cons.mpr ⟨lw_p22, List.forall_mem_cons.mpr ⟨lw_p23, List.forall_mem_cons.mpr ⟨lw_p24, List.forall_mem_cons.mpr ⟨lw_p25, List.forall_mem_cons.mpr ⟨lw_p26, List.forall_mem_cons.mpr ⟨lw_p27, List.forall_mem_cons.mpr ⟨lw_p28, List.forall_mem_cons.mpr ⟨lw_p29, List.forall_mem_cons.mpr ⟨lw_p30, List.forall_mem_cons.mpr ⟨lw_p31, fun _ h => absurd h List.not_mem_nil⟩⟩⟩⟩⟩⟩⟩⟩⟩⟩⟩⟩⟩⟩⟩⟩
theorem lw_p32 : lw_okq (⟨"TaskHouse", "runAt", "(I)LTaskHouse$Run;"⟩, 10) := ⟨⟨by decide +kernel, by decide +kernel⟩, List.mem_of_getElem? (i := 18) (by decide +kernel), List.mem_of_getElem? (i := 721) (by decide +kernel), List.mem_of_getElem? (i := 722) (by decide +kernel)⟩
theorem lw_p33 : lw_okq (⟨"TaskHouse", "isAllowed", "(III)Z"⟩, 10) := ⟨⟨by decide +kernel, by decide +kernel⟩, List.mem_of_getElem? (i := 18) (by decide +kernel), List.mem_of_getElem? (i := 739) (by decide +kernel), List.mem_of_getElem? (i := 740) (by decide +kernel)⟩
theorem lw_p34 : lw_okq (⟨"TaskHouse", "finishTask", "(LTaskHouse$Run;I)V"⟩, 10) := ⟨⟨by decide +kernel, by decide +kernel⟩, List.mem_of_getElem? (i := 18) (by decide +kernel), List.mem_of_getElem? (i := 787) (by decide +kernel), List.mem_of_getElem? (i := 788) (by decide +kernel)⟩
theorem lw_p35 : lw_okq (⟨"TaskHouse", "isListed", "(III)Z"⟩, 10) := ⟨⟨by decide +kernel, by decide +kernel⟩, List.mem_of_getElem? (i := 18) (by decide +kernel), List.mem_of_getElem? (i := 807) (by decide +kernel), List.mem_of_getElem? (i := 808) (by decide +kernel)⟩
theorem lw_p36 : lw_okq (⟨"TaskHouseModel", "put", "(I)V"⟩, 72) := ⟨⟨by decide +kernel, by decide +kernel⟩, List.mem_of_getElem? (i := 835) (by decide +kernel), List.mem_of_getElem? (i := 1063) (by decide +kernel), List.mem_of_getElem? (i := 1064) (by decide +kernel)⟩
theorem lw_p37 : lw_okq (⟨"TaskHouseModel", "next", "(I)V"⟩, 72) := ⟨⟨by decide +kernel, by decide +kernel⟩, List.mem_of_getElem? (i := 835) (by decide +kernel), List.mem_of_getElem? (i := 1078) (by decide +kernel), List.mem_of_getElem? (i := 1079) (by decide +kernel)⟩
theorem lw_p38 : lw_okq (⟨"TaskHouseModel", "isWell", "()Z"⟩, 72) := ⟨⟨by decide +kernel, by decide +kernel⟩, List.mem_of_getElem? (i := 835) (by decide +kernel), List.mem_of_getElem? (i := 1094) (by decide +kernel), List.mem_of_getElem? (i := 1095) (by decide +kernel)⟩
theorem lw_p39 : lw_okq (⟨"TaskHouseModel", "isSign", "(I)Z"⟩, 72) := ⟨⟨by decide +kernel, by decide +kernel⟩, List.mem_of_getElem? (i := 835) (by decide +kernel), List.mem_of_getElem? (i := 1098) (by decide +kernel), List.mem_of_getElem? (i := 1099) (by decide +kernel)⟩
theorem lw_p40 : lw_okq (⟨"TaskHouseModel", "closes", "(I)V"⟩, 72) := ⟨⟨by decide +kernel, by decide +kernel⟩, List.mem_of_getElem? (i := 835) (by decide +kernel), List.mem_of_getElem? (i := 1102) (by decide +kernel), List.mem_of_getElem? (i := 1103) (by decide +kernel)⟩
theorem lw_p41 : lw_okq (⟨"TaskHouseModel", "fails", "(I)V"⟩, 72) := ⟨⟨by decide +kernel, by decide +kernel⟩, List.mem_of_getElem? (i := 835) (by decide +kernel), List.mem_of_getElem? (i := 1106) (by decide +kernel), List.mem_of_getElem? (i := 1107) (by decide +kernel)⟩
theorem lw_p42 : lw_okq (⟨"TaskHouseModel", "emits", "(III)I"⟩, 72) := ⟨⟨by decide +kernel, by decide +kernel⟩, List.mem_of_getElem? (i := 835) (by decide +kernel), List.mem_of_getElem? (i := 1110) (by decide +kernel), List.mem_of_getElem? (i := 1111) (by decide +kernel)⟩
theorem lw_p43 : lw_okq (⟨"TaskHouseModel", "opens", "(IIIII)V"⟩, 72) := ⟨⟨by decide +kernel, by decide +kernel⟩, List.mem_of_getElem? (i := 835) (by decide +kernel), List.mem_of_getElem? (i := 1114) (by decide +kernel), List.mem_of_getElem? (i := 1115) (by decide +kernel)⟩
theorem lw_p44 : lw_okq (⟨"TaskHouseModel", "takes", "(II)V"⟩, 72) := ⟨⟨by decide +kernel, by decide +kernel⟩, List.mem_of_getElem? (i := 835) (by decide +kernel), List.mem_of_getElem? (i := 1118) (by decide +kernel), List.mem_of_getElem? (i := 1119) (by decide +kernel)⟩
theorem lw_p45 : lw_okq (⟨"TaskHouseModel", "takesWord", "(II)V"⟩, 72) := ⟨⟨by decide +kernel, by decide +kernel⟩, List.mem_of_getElem? (i := 835) (by decide +kernel), List.mem_of_getElem? (i := 1122) (by decide +kernel), List.mem_of_getElem? (i := 1123) (by decide +kernel)⟩
theorem lw_p46 : lw_okq (⟨"TaskHouseModel", "isWord", "(I)Z"⟩, 72) := ⟨⟨by decide +kernel, by decide +kernel⟩, List.mem_of_getElem? (i := 835) (by decide +kernel), List.mem_of_getElem? (i := 1126) (by decide +kernel), List.mem_of_getElem? (i := 1127) (by decide +kernel)⟩
theorem lw_p47 : lw_okq (⟨"TaskHouseModel", "step", "(I)V"⟩, 72) := ⟨⟨by decide +kernel, by decide +kernel⟩, List.mem_of_getElem? (i := 835) (by decide +kernel), List.mem_of_getElem? (i := 1130) (by decide +kernel), List.mem_of_getElem? (i := 1131) (by decide +kernel)⟩
def lw_privs_3 : List (MethodName × Nat) := [(⟨"TaskHouse", "runAt", "(I)LTaskHouse$Run;"⟩, 10), (⟨"TaskHouse", "isAllowed", "(III)Z"⟩, 10), (⟨"TaskHouse", "finishTask", "(LTaskHouse$Run;I)V"⟩, 10), (⟨"TaskHouse", "isListed", "(III)Z"⟩, 10), (⟨"TaskHouseModel", "put", "(I)V"⟩, 72), (⟨"TaskHouseModel", "next", "(I)V"⟩, 72), (⟨"TaskHouseModel", "isWell", "()Z"⟩, 72), (⟨"TaskHouseModel", "isSign", "(I)Z"⟩, 72), (⟨"TaskHouseModel", "closes", "(I)V"⟩, 72), (⟨"TaskHouseModel", "fails", "(I)V"⟩, 72), (⟨"TaskHouseModel", "emits", "(III)I"⟩, 72), (⟨"TaskHouseModel", "opens", "(IIIII)V"⟩, 72), (⟨"TaskHouseModel", "takes", "(II)V"⟩, 72), (⟨"TaskHouseModel", "takesWord", "(II)V"⟩, 72), (⟨"TaskHouseModel", "isWord", "(I)Z"⟩, 72), (⟨"TaskHouseModel", "step", "(I)V"⟩, 72)]
theorem lw_r3 : ∀ q ∈ lw_privs_3, lw_okq q := List.forall_mem_cons.mpr ⟨lw_p32, List.forall_mem_cons.mpr ⟨lw_p33, List.forall_mem_cons.mpr ⟨lw_p34, List.forall_mem_cons.mpr ⟨lw_p35, List.forall_mem_cons.mpr ⟨lw_p36, List.forall_mem_cons.mpr ⟨lw_p37, List.forall_mem_cons.mpr ⟨lw_p38, List.forall_mem_cons.mpr ⟨lw_p39, List.forall_mem_cons.mpr ⟨lw_p40, List.forall_mem_cons.mpr ⟨lw_p41, List.forall_mem_cons.mpr ⟨lw_p42, List.forall_mem_cons.mpr ⟨lw_p43, List.forall_mem_cons.mpr ⟨lw_p44, List.forall_mem_cons.mpr ⟨lw_p45, List.forall_mem_cons.mpr ⟨lw_p46, List.forall_mem_cons.mpr ⟨lw_p47, fun _ h => absurd h List.not_mem_nil⟩⟩⟩⟩⟩⟩⟩⟩⟩⟩⟩⟩⟩⟩⟩⟩
theorem lw_p48 : lw_okq (⟨"TaskHouseModel", "aDo", "(I)V"⟩, 72) := ⟨⟨by decide +kernel, by decide +kernel⟩, List.mem_of_getElem? (i := 835) (by decide +kernel), List.mem_of_getElem? (i := 1138) (by decide +kernel), List.mem_of_getElem? (i := 1139) (by decide +kernel)⟩
theorem lw_p49 : lw_okq (⟨"TaskHouseModel", "doNamed", "(J)I"⟩, 72) := ⟨⟨by decide +kernel, by decide +kernel⟩, List.mem_of_getElem? (i := 835) (by decide +kernel), List.mem_of_getElem? (i := 1142) (by decide +kernel), List.mem_of_getElem? (i := 1143) (by decide +kernel)⟩
theorem lw_p50 : lw_okq (⟨"TaskHouseModel", "number", "(III)I"⟩, 72) := ⟨⟨by decide +kernel, by decide +kernel⟩, List.mem_of_getElem? (i := 835) (by decide +kernel), List.mem_of_getElem? (i := 1146) (by decide +kernel), List.mem_of_getElem? (i := 1147) (by decide +kernel)⟩
theorem lw_p51 : lw_okq (⟨"TaskHouseModel", "fieldOf", "(I)I"⟩, 72) := ⟨⟨by decide +kernel, by decide +kernel⟩, List.mem_of_getElem? (i := 835) (by decide +kernel), List.mem_of_getElem? (i := 1150) (by decide +kernel), List.mem_of_getElem? (i := 1151) (by decide +kernel)⟩
theorem lw_p52 : lw_okq (⟨"TaskHouseModel", "holds", "()V"⟩, 72) := ⟨⟨by decide +kernel, by decide +kernel⟩, List.mem_of_getElem? (i := 835) (by decide +kernel), List.mem_of_getElem? (i := 1154) (by decide +kernel), List.mem_of_getElem? (i := 1155) (by decide +kernel)⟩
theorem lw_p53 : lw_okq (⟨"TaskHouseModel", "isPerson", "(I)Z"⟩, 72) := ⟨⟨by decide +kernel, by decide +kernel⟩, List.mem_of_getElem? (i := 835) (by decide +kernel), List.mem_of_getElem? (i := 1172) (by decide +kernel), List.mem_of_getElem? (i := 1173) (by decide +kernel)⟩
theorem lw_p54 : lw_okq (⟨"TaskHouseModel", "goes", "(II)Z"⟩, 72) := ⟨⟨by decide +kernel, by decide +kernel⟩, List.mem_of_getElem? (i := 835) (by decide +kernel), List.mem_of_getElem? (i := 1204) (by decide +kernel), List.mem_of_getElem? (i := 1205) (by decide +kernel)⟩
theorem lw_p55 : lw_okq (⟨"TaskHouseModel", "comes", "(III)V"⟩, 72) := ⟨⟨by decide +kernel, by decide +kernel⟩, List.mem_of_getElem? (i := 835) (by decide +kernel), List.mem_of_getElem? (i := 1208) (by decide +kernel), List.mem_of_getElem? (i := 1209) (by decide +kernel)⟩
theorem lw_p56 : lw_okq (⟨"TaskHouseModel", "isTask", "(I)Z"⟩, 72) := ⟨⟨by decide +kernel, by decide +kernel⟩, List.mem_of_getElem? (i := 835) (by decide +kernel), List.mem_of_getElem? (i := 1221) (by decide +kernel), List.mem_of_getElem? (i := 1222) (by decide +kernel)⟩
theorem lw_p57 : lw_okq (⟨"TaskHouseModel", "mayDo", "(II)Z"⟩, 72) := ⟨⟨by decide +kernel, by decide +kernel⟩, List.mem_of_getElem? (i := 835) (by decide +kernel), List.mem_of_getElem? (i := 1229) (by decide +kernel), List.mem_of_getElem? (i := 1230) (by decide +kernel)⟩
theorem lw_p58 : lw_okq (⟨"TaskHouseModel", "didLast", "(II)I"⟩, 72) := ⟨⟨by decide +kernel, by decide +kernel⟩, List.mem_of_getElem? (i := 835) (by decide +kernel), List.mem_of_getElem? (i := 1234) (by decide +kernel), List.mem_of_getElem? (i := 1235) (by decide +kernel)⟩
theorem lw_p59 : lw_okq (⟨"TaskHouseModel", "claims", "(I)I"⟩, 72) := ⟨⟨by decide +kernel, by decide +kernel⟩, List.mem_of_getElem? (i := 835) (by decide +kernel), List.mem_of_getElem? (i := 1242) (by decide +kernel), List.mem_of_getElem? (i := 1243) (by decide +kernel)⟩
theorem lw_p60 : lw_okq (⟨"TaskHouseModel", "isListed", "(II)Z"⟩, 72) := ⟨⟨by decide +kernel, by decide +kernel⟩, List.mem_of_getElem? (i := 835) (by decide +kernel), List.mem_of_getElem? (i := 1259) (by decide +kernel), List.mem_of_getElem? (i := 1260) (by decide +kernel)⟩
def lw_privs_4 : List (MethodName × Nat) := [(⟨"TaskHouseModel", "aDo", "(I)V"⟩, 72), (⟨"TaskHouseModel", "doNamed", "(J)I"⟩, 72), (⟨"TaskHouseModel", "number", "(III)I"⟩, 72), (⟨"TaskHouseModel", "fieldOf", "(I)I"⟩, 72), (⟨"TaskHouseModel", "holds", "()V"⟩, 72), (⟨"TaskHouseModel", "isPerson", "(I)Z"⟩, 72), (⟨"TaskHouseModel", "goes", "(II)Z"⟩, 72), (⟨"TaskHouseModel", "comes", "(III)V"⟩, 72), (⟨"TaskHouseModel", "isTask", "(I)Z"⟩, 72), (⟨"TaskHouseModel", "mayDo", "(II)Z"⟩, 72), (⟨"TaskHouseModel", "didLast", "(II)I"⟩, 72), (⟨"TaskHouseModel", "claims", "(I)I"⟩, 72), (⟨"TaskHouseModel", "isListed", "(II)Z"⟩, 72)]
theorem lw_r4 : ∀ q ∈ lw_privs_4, lw_okq q := List.forall_mem_cons.mpr ⟨lw_p48, List.forall_mem_cons.mpr ⟨lw_p49, List.forall_mem_cons.mpr ⟨lw_p50, List.forall_mem_cons.mpr ⟨lw_p51, List.forall_mem_cons.mpr ⟨lw_p52, List.forall_mem_cons.mpr ⟨lw_p53, List.forall_mem_cons.mpr ⟨lw_p54, List.forall_mem_cons.mpr ⟨lw_p55, List.forall_mem_cons.mpr ⟨lw_p56, List.forall_mem_cons.mpr ⟨lw_p57, List.forall_mem_cons.mpr ⟨lw_p58, List.forall_mem_cons.mpr ⟨lw_p59, List.forall_mem_cons.mpr ⟨lw_p60, fun _ h => absurd h List.not_mem_nil⟩⟩⟩⟩⟩⟩⟩⟩⟩⟩⟩⟩⟩
def lw_privs : List (MethodName × Nat) := lw_privs_1 ++ (lw_privs_2 ++ (lw_privs_3 ++ (lw_privs_4)))
def lw_tbl : List Cond := k2_sels lw_privs ++ tables_1
theorem lw_privs_ok : ∀ q ∈ lw_privs, lw_okq q := by
  show ∀ q ∈ lw_privs_1 ++ (lw_privs_2 ++ (lw_privs_3 ++ (lw_privs_4))), lw_okq q
  exact List.forall_mem_append.mpr ⟨lw_r1, List.forall_mem_append.mpr ⟨lw_r2, List.forall_mem_append.mpr ⟨lw_r3, lw_r4⟩⟩⟩
def RX0 : String := "TaskHouse$Business"
def TX0 : u_T := fun k => match k with
  | 0 => ("TaskHouse$Business", "steps", "I", false)
  | 1 => ("TaskHouse$Business", "dos", "I", false)
  | 2 => ("TaskHouse$Business", "boths", "I", false)
  | 3 => ("TaskHouse$Business", "length", "I", false)
  | 4 => ("TaskHouse$Business", "orders", "[I", true)
  | 5 => ("TaskHouse$Business", "subjects", "[I", true)
  | 6 => ("TaskHouse$Business", "numbers", "[I", true)
  | 7 => ("TaskHouse$Business", "targets", "[I", true)
  | 8 => ("TaskHouse$Business", "roles", "[I", true)
  | 9 => ("TaskHouse$Business", "hours", "[I", true)
  | 10 => ("TaskHouse$Business", "eyes", "[I", true)
  | _ => ("TaskHouse$Business", "places", "[I", true)
def tyX0 : Nat → FieldType := fun k => match k with
  | 0 => .int
  | 1 => .int
  | 2 => .int
  | 3 => .int
  | 4 => .array .int
  | 5 => .array .int
  | 6 => .array .int
  | 7 => .array .int
  | 8 => .array .int
  | 9 => .array .int
  | 10 => .array .int
  | _ => .array .int
abbrev wsX00 : List Cond := u_ws RX0 TX0 12
theorem nmX0 : ∀ a, a < 12 → ∀ b, b < 12 → a ≠ b → (TX0 a).2.1 ≠ (TX0 b).2.1 := by decide +kernel
theorem tyX0_ok : ∀ k, k < 12 → parseFieldDescriptor (TX0 k).2.2.1 = some (tyX0 k) := by decide +kernel
abbrev cX0_init : ByteArray := prog_2_method_1_code
def yX0_init : MethodName := ⟨RX0, "<init>", "()V"⟩
abbrev cX0_clear : ByteArray := prog_2_method_2_code
def yX0_clear : MethodName := ⟨RX0, "clear", "()V"⟩
abbrev cX0_add : ByteArray := prog_2_method_3_code
def yX0_add : MethodName := ⟨RX0, "add", "(IIII)I"⟩
abbrev cX0_addDo : ByteArray := prog_2_method_4_code
def yX0_addDo : MethodName := ⟨RX0, "addDo", "(III)V"⟩
abbrev cX0_addFork : ByteArray := prog_2_method_5_code
def yX0_addFork : MethodName := ⟨RX0, "addFork", "()I"⟩
abbrev cX0_aim : ByteArray := prog_2_method_6_code
def yX0_aim : MethodName := ⟨RX0, "aim", "(II)V"⟩
abbrev cX0_subjectAt : ByteArray := prog_2_method_7_code
def yX0_subjectAt : MethodName := ⟨RX0, "subjectAt", "(I)I"⟩
abbrev cX0_hasOrder : ByteArray := prog_2_method_8_code
def yX0_hasOrder : MethodName := ⟨RX0, "hasOrder", "(I)Z"⟩
abbrev cX0_roleOf : ByteArray := prog_2_method_9_code
def yX0_roleOf : MethodName := ⟨RX0, "roleOf", "(I)I"⟩
abbrev cX0_hoursOf : ByteArray := prog_2_method_10_code
def yX0_hoursOf : MethodName := ⟨RX0, "hoursOf", "(I)I"⟩
abbrev cX0_eyesOf : ByteArray := prog_2_method_11_code
def yX0_eyesOf : MethodName := ⟨RX0, "eyesOf", "(I)I"⟩
abbrev cX0_placeBehind : ByteArray := prog_2_method_12_code
def yX0_placeBehind : MethodName := ⟨RX0, "placeBehind", "(I)I"⟩
abbrev cX0_hasDo : ByteArray := prog_2_method_13_code
def yX0_hasDo : MethodName := ⟨RX0, "hasDo", "(I)Z"⟩
def RX1 : String := "TaskHouse$Calendar"
def TX1 : u_T := fun k => match k with
  | _ => ("", "", "", false)
def tyX1 : Nat → FieldType := fun k => match k with
  | _ => .int
abbrev wsX10 : List Cond := u_ws RX1 TX1 0
theorem nmX1 : ∀ a, a < 0 → ∀ b, b < 0 → a ≠ b → (TX1 a).2.1 ≠ (TX1 b).2.1 := by decide +kernel
theorem tyX1_ok : ∀ k, k < 0 → parseFieldDescriptor (TX1 k).2.2.1 = some (tyX1 k) := by decide +kernel
abbrev cX1_endOfWorkingHour : ByteArray := prog_3_method_2_code
def yX1_endOfWorkingHour : MethodName := ⟨RX1, "endOfWorkingHour", "(II)I"⟩
abbrev cX1_workingHoursBefore : ByteArray := prog_3_method_3_code
def yX1_workingHoursBefore : MethodName := ⟨RX1, "workingHoursBefore", "(I)I"⟩
def RX2 : String := "TaskHouse$Persons"
def TX2 : u_T := fun k => match k with
  | 0 => ("TaskHouse$Persons", "count", "I", false)
  | 1 => ("TaskHouse$Persons", "roles", "[I", true)
  | 2 => ("TaskHouse$Persons", "loads", "[I", true)
  | 3 => ("TaskHouse$Persons", "claims", "[I", true)
  | 4 => ("TaskHouse$Persons", "finished", "[I", true)
  | 5 => ("TaskHouse$Persons", "deputies", "[I", true)
  | _ => ("TaskHouse$Persons", "gone", "[Z", true)
def tyX2 : Nat → FieldType := fun k => match k with
  | 0 => .int
  | 1 => .array .int
  | 2 => .array .int
  | 3 => .array .int
  | 4 => .array .int
  | 5 => .array .int
  | _ => .array .boolean
abbrev wsX20 : List Cond := u_ws RX2 TX2 7
theorem nmX2 : ∀ a, a < 7 → ∀ b, b < 7 → a ≠ b → (TX2 a).2.1 ≠ (TX2 b).2.1 := by decide +kernel
theorem tyX2_ok : ∀ k, k < 7 → parseFieldDescriptor (TX2 k).2.2.1 = some (tyX2 k) := by decide +kernel
abbrev cX2_init : ByteArray := prog_4_method_1_code
def yX2_init : MethodName := ⟨RX2, "<init>", "()V"⟩
abbrev cX2_has : ByteArray := prog_4_method_2_code
def yX2_has : MethodName := ⟨RX2, "has", "(I)Z"⟩
abbrev cX2_add : ByteArray := prog_4_method_3_code
def yX2_add : MethodName := ⟨RX2, "add", "(II)I"⟩
abbrev cX2_standInFor : ByteArray := prog_4_method_4_code
def yX2_standInFor : MethodName := ⟨RX2, "standInFor", "(I)I"⟩
abbrev cX2_rolesServed : ByteArray := prog_4_method_5_code
def yX2_rolesServed : MethodName := ⟨RX2, "rolesServed", "(I)I"⟩
abbrev cX2_hasRoom : ByteArray := prog_4_method_6_code
def yX2_hasRoom : MethodName := ⟨RX2, "hasRoom", "(I)Z"⟩
abbrev cX2_dropClaim : ByteArray := prog_4_method_7_code
def yX2_dropClaim : MethodName := ⟨RX2, "dropClaim", "(I)V"⟩
abbrev cX2_countFinished : ByteArray := prog_4_method_8_code
def yX2_countFinished : MethodName := ⟨RX2, "countFinished", "(I)V"⟩
def RX3 : String := "TaskHouse$Reader"
def TX3 : u_T := fun k => match k with
  | 0 => ("TaskHouse$Reader", "tape", "LTaskHouse$Tape;", true)
  | 1 => ("TaskHouse$Reader", "faultKind", "I", false)
  | 2 => ("TaskHouse$Reader", "faultPlace", "I", false)
  | 3 => ("TaskHouse$Reader", "draft", "LTaskHouse$Business;", false)
  | 4 => ("TaskHouse$Reader", "complete", "Z", false)
  | 5 => ("TaskHouse$Reader", "told", "I", false)
  | 6 => ("TaskHouse$Reader", "names", "[I", true)
  | 7 => ("TaskHouse$Reader", "open", "I", false)
  | 8 => ("TaskHouse$Reader", "words", "[I", true)
  | 9 => ("TaskHouse$Reader", "heads", "[I", true)
  | 10 => ("TaskHouse$Reader", "firstEnds", "[I", true)
  | 11 => ("TaskHouse$Reader", "inSecond", "[Z", true)
  | 12 => ("TaskHouse$Reader", "firstHeld", "[Z", true)
  | _ => ("TaskHouse$Reader", "held", "[Z", true)
def tyX3 : Nat → FieldType := fun k => match k with
  | 0 => .object "TaskHouse$Tape"
  | 1 => .int
  | 2 => .int
  | 3 => .object "TaskHouse$Business"
  | 4 => .boolean
  | 5 => .int
  | 6 => .array .int
  | 7 => .int
  | 8 => .array .int
  | 9 => .array .int
  | 10 => .array .int
  | 11 => .array .boolean
  | 12 => .array .boolean
  | _ => .array .boolean
abbrev wsX30 : List Cond := u_ws RX3 TX3 14
theorem nmX3 : ∀ a, a < 14 → ∀ b, b < 14 → a ≠ b → (TX3 a).2.1 ≠ (TX3 b).2.1 := by decide +kernel
theorem tyX3_ok : ∀ k, k < 14 → parseFieldDescriptor (TX3 k).2.2.1 = some (tyX3 k) := by decide +kernel
abbrev cX3_init : ByteArray := prog_5_method_1_code
def yX3_init : MethodName := ⟨RX3, "<init>", "()V"⟩
abbrev cX3_read : ByteArray := prog_5_method_2_code
def yX3_read : MethodName := ⟨RX3, "read", "()LTaskHouse$Business;"⟩
abbrev cX3_begin : ByteArray := prog_5_method_3_code
def yX3_begin : MethodName := ⟨RX3, "begin", "()V"⟩
abbrev cX3_fail : ByteArray := prog_5_method_4_code
def yX3_fail : MethodName := ⟨RX3, "fail", "(I)V"⟩
abbrev cX3_readStep : ByteArray := prog_5_method_5_code
def yX3_readStep : MethodName := ⟨RX3, "readStep", "()V"⟩
abbrev cX3_readDo : ByteArray := prog_5_method_6_code
def yX3_readDo : MethodName := ⟨RX3, "readDo", "()V"⟩
abbrev cX3_readSet : ByteArray := prog_5_method_7_code
def yX3_readSet : MethodName := ⟨RX3, "readSet", "()V"⟩
abbrev cX3_readTest : ByteArray := prog_5_method_8_code
def yX3_readTest : MethodName := ⟨RX3, "readTest", "()I"⟩
abbrev cX3_readNewName : ByteArray := prog_5_method_9_code
def yX3_readNewName : MethodName := ⟨RX3, "readNewName", "()V"⟩
abbrev cX3_readEyes : ByteArray := prog_5_method_10_code
def yX3_readEyes : MethodName := ⟨RX3, "readEyes", "()I"⟩
abbrev cX3_doNamed : ByteArray := prog_5_method_11_code
def yX3_doNamed : MethodName := ⟨RX3, "doNamed", "(I)I"⟩
abbrev cX3_readField : ByteArray := prog_5_method_12_code
def yX3_readField : MethodName := ⟨RX3, "readField", "()I"⟩
abbrev cX3_readNumber : ByteArray := prog_5_method_13_code
def yX3_readNumber : MethodName := ⟨RX3, "readNumber", "(II)I"⟩
abbrev cX3_need : ByteArray := prog_5_method_14_code
def yX3_need : MethodName := ⟨RX3, "need", "(I)V"⟩
abbrev cX3_hold : ByteArray := prog_5_method_15_code
def yX3_hold : MethodName := ⟨RX3, "hold", "(Z)V"⟩
abbrev cX3_openSteps : ByteArray := prog_5_method_16_code
def yX3_openSteps : MethodName := ⟨RX3, "openSteps", "(II)V"⟩
abbrev cX3_closeSteps : ByteArray := prog_5_method_17_code
def yX3_closeSteps : MethodName := ⟨RX3, "closeSteps", "()V"⟩
abbrev cX3_closeAgain : ByteArray := prog_5_method_18_code
def yX3_closeAgain : MethodName := ⟨RX3, "closeAgain", "(I)V"⟩
abbrev cX3_turnToSecond : ByteArray := prog_5_method_19_code
def yX3_turnToSecond : MethodName := ⟨RX3, "turnToSecond", "(I)V"⟩
abbrev cX3_closeSecond : ByteArray := prog_5_method_20_code
def yX3_closeSecond : MethodName := ⟨RX3, "closeSecond", "(I)V"⟩
def RX4 : String := "TaskHouse$Run"
def TX4 : u_T := fun k => match k with
  | 0 => ("TaskHouse$Run", "number", "I", true)
  | 1 => ("TaskHouse$Run", "business", "LTaskHouse$Business;", true)
  | 2 => ("TaskHouse$Run", "fields", "[I", true)
  | 3 => ("TaskHouse$Run", "ways", "[I", true)
  | 4 => ("TaskHouse$Run", "doers", "[I", true)
  | 5 => ("TaskHouse$Run", "over", "Z", false)
  | _ => ("TaskHouse$Run", "waiting", "I", false)
def tyX4 : Nat → FieldType := fun k => match k with
  | 0 => .int
  | 1 => .object "TaskHouse$Business"
  | 2 => .array .int
  | 3 => .array .int
  | 4 => .array .int
  | 5 => .boolean
  | _ => .int
abbrev wsX40 : List Cond := u_ws RX4 TX4 7
theorem nmX4 : ∀ a, a < 7 → ∀ b, b < 7 → a ≠ b → (TX4 a).2.1 ≠ (TX4 b).2.1 := by decide +kernel
theorem tyX4_ok : ∀ k, k < 7 → parseFieldDescriptor (TX4 k).2.2.1 = some (tyX4 k) := by decide +kernel
abbrev cX4_init : ByteArray := prog_6_method_1_code
def yX4_init : MethodName := ⟨RX4, "<init>", "(ILTaskHouse$Business;)V"⟩
abbrev cX4_lastDoerOf : ByteArray := prog_6_method_2_code
def yX4_lastDoerOf : MethodName := ⟨RX4, "lastDoerOf", "(I)I"⟩
abbrev cX4_noteDoer : ByteArray := prog_6_method_3_code
def yX4_noteDoer : MethodName := ⟨RX4, "noteDoer", "(II)V"⟩
abbrev cX4_take : ByteArray := prog_6_method_4_code
def yX4_take : MethodName := ⟨RX4, "take", "(LTaskHouse$Walk;)V"⟩
def RX5 : String := "TaskHouse$Tape"
def TX5 : u_T := fun k => match k with
  | 0 => ("TaskHouse$Tape", "bytes", "[B", true)
  | 1 => ("TaskHouse$Tape", "length", "I", false)
  | 2 => ("TaskHouse$Tape", "kind", "I", false)
  | 3 => ("TaskHouse$Tape", "start", "I", false)
  | 4 => ("TaskHouse$Tape", "value", "I", false)
  | 5 => ("TaskHouse$Tape", "at", "I", false)
  | _ => ("TaskHouse$Tape", "wordKeys", "[I", true)
def tyX5 : Nat → FieldType := fun k => match k with
  | 0 => .array .byte
  | 1 => .int
  | 2 => .int
  | 3 => .int
  | 4 => .int
  | 5 => .int
  | _ => .array .int
abbrev wsX50 : List Cond := u_ws RX5 TX5 7
theorem nmX5 : ∀ a, a < 7 → ∀ b, b < 7 → a ≠ b → (TX5 a).2.1 ≠ (TX5 b).2.1 := by decide +kernel
theorem tyX5_ok : ∀ k, k < 7 → parseFieldDescriptor (TX5 k).2.2.1 = some (tyX5 k) := by decide +kernel
abbrev cX5_init : ByteArray := prog_7_method_1_code
def yX5_init : MethodName := ⟨RX5, "<init>", "()V"⟩
abbrev cX5_addFour : ByteArray := prog_7_method_2_code
def yX5_addFour : MethodName := ⟨RX5, "addFour", "(I)V"⟩
abbrev cX5_rewind : ByteArray := prog_7_method_3_code
def yX5_rewind : MethodName := ⟨RX5, "rewind", "()V"⟩
abbrev cX5_take : ByteArray := prog_7_method_4_code
def yX5_take : MethodName := ⟨RX5, "take", "()V"⟩
abbrev cX5_isTaskName : ByteArray := prog_7_method_5_code
def yX5_isTaskName : MethodName := ⟨RX5, "isTaskName", "()Z"⟩
abbrev cX5_letters : ByteArray := prog_7_method_6_code
def yX5_letters : MethodName := ⟨RX5, "letters", "()I"⟩
abbrev cX5_kindOfKey : ByteArray := prog_7_method_7_code
def yX5_kindOfKey : MethodName := ⟨RX5, "kindOfKey", "(I)I"⟩
abbrev cX5_byteAt : ByteArray := prog_7_method_8_code
def yX5_byteAt : MethodName := ⟨RX5, "byteAt", "(I)I"⟩
abbrev cX5_keyOf : ByteArray := prog_7_method_9_code
def yX5_keyOf : MethodName := ⟨RX5, "keyOf", "(Ljava/lang/String;)I"⟩
abbrev cX5_withLetter : ByteArray := prog_7_method_10_code
def yX5_withLetter : MethodName := ⟨RX5, "withLetter", "(II)I"⟩
abbrev cX5_signKind : ByteArray := prog_7_method_11_code
def yX5_signKind : MethodName := ⟨RX5, "signKind", "(I)I"⟩
abbrev cX5_isBlank : ByteArray := prog_7_method_12_code
def yX5_isBlank : MethodName := ⟨RX5, "isBlank", "(I)Z"⟩
abbrev cX5_isLetter : ByteArray := prog_7_method_13_code
def yX5_isLetter : MethodName := ⟨RX5, "isLetter", "(I)Z"⟩
abbrev cX5_isDigit : ByteArray := prog_7_method_14_code
def yX5_isDigit : MethodName := ⟨RX5, "isDigit", "(I)Z"⟩
def RX6 : String := "TaskHouse$Tasks"
def TX6 : u_T := fun k => match k with
  | 0 => ("TaskHouse$Tasks", "count", "I", false)
  | 1 => ("TaskHouse$Tasks", "runs", "[I", true)
  | 2 => ("TaskHouse$Tasks", "dos", "[I", true)
  | 3 => ("TaskHouse$Tasks", "roles", "[I", true)
  | 4 => ("TaskHouse$Tasks", "comeHours", "[I", true)
  | 5 => ("TaskHouse$Tasks", "dues", "[I", true)
  | 6 => ("TaskHouse$Tasks", "states", "[I", true)
  | 7 => ("TaskHouse$Tasks", "owners", "[I", true)
  | 8 => ("TaskHouse$Tasks", "doneHours", "[I", true)
  | _ => ("TaskHouse$Tasks", "byDue", "[I", true)
def tyX6 : Nat → FieldType := fun k => match k with
  | 0 => .int
  | 1 => .array .int
  | 2 => .array .int
  | 3 => .array .int
  | 4 => .array .int
  | 5 => .array .int
  | 6 => .array .int
  | 7 => .array .int
  | 8 => .array .int
  | _ => .array .int
abbrev wsX60 : List Cond := u_ws RX6 TX6 10
theorem nmX6 : ∀ a, a < 10 → ∀ b, b < 10 → a ≠ b → (TX6 a).2.1 ≠ (TX6 b).2.1 := by decide +kernel
theorem tyX6_ok : ∀ k, k < 10 → parseFieldDescriptor (TX6 k).2.2.1 = some (tyX6 k) := by decide +kernel
abbrev cX6_init : ByteArray := prog_8_method_1_code
def yX6_init : MethodName := ⟨RX6, "<init>", "()V"⟩
abbrev cX6_has : ByteArray := prog_8_method_2_code
def yX6_has : MethodName := ⟨RX6, "has", "(I)Z"⟩
abbrev cX6_isIn : ByteArray := prog_8_method_3_code
def yX6_isIn : MethodName := ⟨RX6, "isIn", "(II)Z"⟩
abbrev cX6_hasRoomFor : ByteArray := prog_8_method_4_code
def yX6_hasRoomFor : MethodName := ⟨RX6, "hasRoomFor", "(I)Z"⟩
abbrev cX6_add : ByteArray := prog_8_method_5_code
def yX6_add : MethodName := ⟨RX6, "add", "(IIIII)V"⟩
abbrev cX6_putByDue : ByteArray := prog_8_method_6_code
def yX6_putByDue : MethodName := ⟨RX6, "putByDue", "(I)V"⟩
abbrev cX6_isDueBehind : ByteArray := prog_8_method_7_code
def yX6_isDueBehind : MethodName := ⟨RX6, "isDueBehind", "(II)Z"⟩
abbrev cX6_give : ByteArray := prog_8_method_8_code
def yX6_give : MethodName := ⟨RX6, "give", "(II)V"⟩
abbrev cX6_reopen : ByteArray := prog_8_method_9_code
def yX6_reopen : MethodName := ⟨RX6, "reopen", "(I)V"⟩
abbrev cX6_reopenAllOf : ByteArray := prog_8_method_10_code
def yX6_reopenAllOf : MethodName := ⟨RX6, "reopenAllOf", "(I)V"⟩
abbrev cX6_finish : ByteArray := prog_8_method_11_code
def yX6_finish : MethodName := ⟨RX6, "finish", "(II)V"⟩
def RX7 : String := "TaskHouse$Walk"
def TX7 : u_T := fun k => match k with
  | 0 => ("TaskHouse$Walk", "fields", "[I", true)
  | 1 => ("TaskHouse$Walk", "ways", "[I", true)
  | 2 => ("TaskHouse$Walk", "came", "[I", true)
  | 3 => ("TaskHouse$Walk", "cameCount", "I", false)
  | 4 => ("TaskHouse$Walk", "over", "Z", false)
  | 5 => ("TaskHouse$Walk", "secondWays", "[I", true)
  | _ => ("TaskHouse$Walk", "secondCount", "I", false)
def tyX7 : Nat → FieldType := fun k => match k with
  | 0 => .array .int
  | 1 => .array .int
  | 2 => .array .int
  | 3 => .int
  | 4 => .boolean
  | 5 => .array .int
  | _ => .int
abbrev wsX70 : List Cond := u_ws RX7 TX7 7
theorem nmX7 : ∀ a, a < 7 → ∀ b, b < 7 → a ≠ b → (TX7 a).2.1 ≠ (TX7 b).2.1 := by decide +kernel
theorem tyX7_ok : ∀ k, k < 7 → parseFieldDescriptor (TX7 k).2.2.1 = some (tyX7 k) := by decide +kernel
abbrev cX7_init : ByteArray := prog_9_method_1_code
def yX7_init : MethodName := ⟨RX7, "<init>", "()V"⟩
abbrev cX7_startAnew : ByteArray := prog_9_method_2_code
def yX7_startAnew : MethodName := ⟨RX7, "startAnew", "()V"⟩
abbrev cX7_startFrom : ByteArray := prog_9_method_3_code
def yX7_startFrom : MethodName := ⟨RX7, "startFrom", "(LTaskHouse$Run;)V"⟩
abbrev cX7_forgetWhatCame : ByteArray := prog_9_method_4_code
def yX7_forgetWhatCame : MethodName := ⟨RX7, "forgetWhatCame", "()V"⟩
abbrev cX7_put : ByteArray := prog_9_method_5_code
def yX7_put : MethodName := ⟨RX7, "put", "(II)V"⟩
abbrev cX7_go : ByteArray := prog_9_method_6_code
def yX7_go : MethodName := ⟨RX7, "go", "(LTaskHouse$Business;I)V"⟩
abbrev cX7_follow : ByteArray := prog_9_method_7_code
def yX7_follow : MethodName := ⟨RX7, "follow", "(LTaskHouse$Business;I)I"⟩
abbrev cX7_nextSecondWay : ByteArray := prog_9_method_8_code
def yX7_nextSecondWay : MethodName := ⟨RX7, "nextSecondWay", "()I"⟩
abbrev cX7_comeTo : ByteArray := prog_9_method_9_code
def yX7_comeTo : MethodName := ⟨RX7, "comeTo", "(I)V"⟩
abbrev cX7_isBelow : ByteArray := prog_9_method_10_code
def yX7_isBelow : MethodName := ⟨RX7, "isBelow", "(II)Z"⟩
abbrev cX7_fork : ByteArray := prog_9_method_11_code
def yX7_fork : MethodName := ⟨RX7, "fork", "(II)V"⟩
abbrev cX7_endsLastWay : ByteArray := prog_9_method_12_code
def yX7_endsLastWay : MethodName := ⟨RX7, "endsLastWay", "(I)Z"⟩
def RX8 : String := "TaskHouse"
def TX8 : u_T := fun k => match k with
  | 0 => ("TaskHouse", "reader", "LTaskHouse$Reader;", true)
  | 1 => ("TaskHouse", "persons", "LTaskHouse$Persons;", true)
  | 2 => ("TaskHouse", "tasks", "LTaskHouse$Tasks;", true)
  | 3 => ("TaskHouse", "walk", "LTaskHouse$Walk;", true)
  | 4 => ("TaskHouse", "runs", "[LTaskHouse$Run;", true)
  | 5 => ("TaskHouse", "runCount", "I", false)
  | 6 => ("TaskHouse", "current", "LTaskHouse$Business;", false)
  | 7 => ("TaskHouse", "clock", "I", false)
  | 8 => ("TaskHouse", "latestFault", "I", false)
  | _ => ("TaskHouse", "latestPlace", "I", false)
def tyX8 : Nat → FieldType := fun k => match k with
  | 0 => .object "TaskHouse$Reader"
  | 1 => .object "TaskHouse$Persons"
  | 2 => .object "TaskHouse$Tasks"
  | 3 => .object "TaskHouse$Walk"
  | 4 => .array (.object "TaskHouse$Run")
  | 5 => .int
  | 6 => .object "TaskHouse$Business"
  | 7 => .int
  | 8 => .int
  | _ => .int
abbrev wsX80 : List Cond := u_ws RX8 TX8 10
theorem nmX8 : ∀ a, a < 10 → ∀ b, b < 10 → a ≠ b → (TX8 a).2.1 ≠ (TX8 b).2.1 := by decide +kernel
theorem tyX8_ok : ∀ k, k < 10 → parseFieldDescriptor (TX8 k).2.2.1 = some (tyX8 k) := by decide +kernel
abbrev cX8_init : ByteArray := prog_1_method_1_code
def yX8_init : MethodName := ⟨RX8, "<init>", "()V"⟩
abbrev cX8_feed : ByteArray := prog_1_method_2_code
def yX8_feed : MethodName := ⟨RX8, "feed", "(IIIII)I"⟩
abbrev cX8_end : ByteArray := prog_1_method_3_code
def yX8_end : MethodName := ⟨RX8, "end", "(I)I"⟩
abbrev cX8_business : ByteArray := prog_1_method_4_code
def yX8_business : MethodName := ⟨RX8, "business", "()I"⟩
abbrev cX8_fault : ByteArray := prog_1_method_5_code
def yX8_fault : MethodName := ⟨RX8, "fault", "(I)I"⟩
abbrev cX8_person : ByteArray := prog_1_method_6_code
def yX8_person : MethodName := ⟨RX8, "person", "(II)I"⟩
abbrev cX8_deputy : ByteArray := prog_1_method_7_code
def yX8_deputy : MethodName := ⟨RX8, "deputy", "(II)Z"⟩
abbrev cX8_away : ByteArray := prog_1_method_8_code
def yX8_away : MethodName := ⟨RX8, "away", "(IZ)Z"⟩
abbrev cX8_stands : ByteArray := prog_1_method_9_code
def yX8_stands : MethodName := ⟨RX8, "stands", "(I)I"⟩
abbrev cX8_hour : ByteArray := prog_1_method_10_code
def yX8_hour : MethodName := ⟨RX8, "hour", "(I)Z"⟩
abbrev cX8_run : ByteArray := prog_1_method_11_code
def yX8_run : MethodName := ⟨RX8, "run", "()I"⟩
abbrev cX8_runOf : ByteArray := prog_1_method_12_code
def yX8_runOf : MethodName := ⟨RX8, "runOf", "(II)I"⟩
abbrev cX8_task : ByteArray := prog_1_method_13_code
def yX8_task : MethodName := ⟨RX8, "task", "(II)I"⟩
abbrev cX8_may : ByteArray := prog_1_method_14_code
def yX8_may : MethodName := ⟨RX8, "may", "(II)I"⟩
abbrev cX8_claim : ByteArray := prog_1_method_15_code
def yX8_claim : MethodName := ⟨RX8, "claim", "(II)I"⟩
abbrev cX8_giveBack : ByteArray := prog_1_method_16_code
def yX8_giveBack : MethodName := ⟨RX8, "giveBack", "(I)Z"⟩
abbrev cX8_done : ByteArray := prog_1_method_17_code
def yX8_done : MethodName := ⟨RX8, "done", "(III)I"⟩
abbrev cX8_list : ByteArray := prog_1_method_18_code
def yX8_list : MethodName := ⟨RX8, "list", "(I)I"⟩
abbrev cX8_listed : ByteArray := prog_1_method_19_code
def yX8_listed : MethodName := ⟨RX8, "listed", "(II)I"⟩
abbrev cX8_offer : ByteArray := prog_1_method_20_code
def yX8_offer : MethodName := ⟨RX8, "offer", "(I)I"⟩
abbrev cX8_late : ByteArray := prog_1_method_21_code
def yX8_late : MethodName := ⟨RX8, "late", "()I"⟩
abbrev cX8_personOf : ByteArray := prog_1_method_22_code
def yX8_personOf : MethodName := ⟨RX8, "personOf", "(II)I"⟩
abbrev cX8_due : ByteArray := prog_1_method_23_code
def yX8_due : MethodName := ⟨RX8, "due", "(II)I"⟩
abbrev cX8_about : ByteArray := prog_1_method_24_code
def yX8_about : MethodName := ⟨RX8, "about", "(I)I"⟩
abbrev cX8_runAt : ByteArray := prog_1_method_25_code
def yX8_runAt : MethodName := ⟨RX8, "runAt", "(I)LTaskHouse$Run;"⟩
abbrev cX8_isListed : ByteArray := prog_1_method_26_code
def yX8_isListed : MethodName := ⟨RX8, "isListed", "(III)Z"⟩
abbrev cX8_isAllowed : ByteArray := prog_1_method_27_code
def yX8_isAllowed : MethodName := ⟨RX8, "isAllowed", "(III)Z"⟩
abbrev cX8_finishTask : ByteArray := prog_1_method_28_code
def yX8_finishTask : MethodName := ⟨RX8, "finishTask", "(LTaskHouse$Run;I)V"⟩
abbrev cX8_keepWalk : ByteArray := prog_1_method_29_code
def yX8_keepWalk : MethodName := ⟨RX8, "keepWalk", "(LTaskHouse$Run;)V"⟩
def RX9 : String := "TaskHouseModel"
def TX9 : u_T := fun k => match k with
  | 0 => ("TaskHouseModel", "tape", "[B", true)
  | 1 => ("TaskHouseModel", "taped", "I", false)
  | 2 => ("TaskHouseModel", "at", "I", false)
  | 3 => ("TaskHouseModel", "token", "I", false)
  | 4 => ("TaskHouseModel", "sort", "I", false)
  | 5 => ("TaskHouseModel", "told", "J", false)
  | 6 => ("TaskHouseModel", "letters", "I", false)
  | 7 => ("TaskHouseModel", "wrong", "I", false)
  | 8 => ("TaskHouseModel", "wrongAt", "I", false)
  | 9 => ("TaskHouseModel", "fault", "I", false)
  | 10 => ("TaskHouseModel", "faultAt", "I", false)
  | 11 => ("TaskHouseModel", "newSteps", "I", false)
  | 12 => ("TaskHouseModel", "newDos", "I", false)
  | 13 => ("TaskHouseModel", "newForks", "I", false)
  | 14 => ("TaskHouseModel", "newCode", "I", false)
  | 15 => ("TaskHouseModel", "newOrder", "[I", true)
  | 16 => ("TaskHouseModel", "newA", "[I", true)
  | 17 => ("TaskHouseModel", "newB", "[I", true)
  | 18 => ("TaskHouseModel", "newTo", "[I", true)
  | 19 => ("TaskHouseModel", "newName", "[J", true)
  | 20 => ("TaskHouseModel", "newRole", "[I", true)
  | 21 => ("TaskHouseModel", "newDue", "[I", true)
  | 22 => ("TaskHouseModel", "newEyes", "[I", true)
  | 23 => ("TaskHouseModel", "steps", "I", false)
  | 24 => ("TaskHouseModel", "dos", "I", false)
  | 25 => ("TaskHouseModel", "codes", "I", false)
  | 26 => ("TaskHouseModel", "order", "[I", true)
  | 27 => ("TaskHouseModel", "orderA", "[I", true)
  | 28 => ("TaskHouseModel", "orderB", "[I", true)
  | 29 => ("TaskHouseModel", "orderTo", "[I", true)
  | 30 => ("TaskHouseModel", "role", "[I", true)
  | 31 => ("TaskHouseModel", "dueIn", "[I", true)
  | 32 => ("TaskHouseModel", "eyes", "[I", true)
  | 33 => ("TaskHouseModel", "deep", "I", false)
  | 34 => ("TaskHouseModel", "open", "[I", true)
  | 35 => ("TaskHouseModel", "openAt", "[I", true)
  | 36 => ("TaskHouseModel", "openField", "[I", true)
  | 37 => ("TaskHouseModel", "openNumber", "[I", true)
  | 38 => ("TaskHouseModel", "hasDo", "[Z", true)
  | 39 => ("TaskHouseModel", "firstHas", "[Z", true)
  | 40 => ("TaskHouseModel", "runs", "I", false)
  | 41 => ("TaskHouseModel", "runCodes", "[I", true)
  | 42 => ("TaskHouseModel", "runOrder", "[I", true)
  | 43 => ("TaskHouseModel", "runA", "[I", true)
  | 44 => ("TaskHouseModel", "runB", "[I", true)
  | 45 => ("TaskHouseModel", "runTo", "[I", true)
  | 46 => ("TaskHouseModel", "runRole", "[I", true)
  | 47 => ("TaskHouseModel", "runDue", "[I", true)
  | 48 => ("TaskHouseModel", "runEyes", "[I", true)
  | 49 => ("TaskHouseModel", "field", "[I", true)
  | 50 => ("TaskHouseModel", "ended", "[I", true)
  | 51 => ("TaskHouseModel", "isOver", "[Z", true)
  | 52 => ("TaskHouseModel", "hadField", "[I", true)
  | 53 => ("TaskHouseModel", "hadEnded", "[I", true)
  | 54 => ("TaskHouseModel", "clock", "I", false)
  | 55 => ("TaskHouseModel", "tasks", "I", false)
  | 56 => ("TaskHouseModel", "taskRun", "[I", true)
  | 57 => ("TaskHouseModel", "taskDo", "[I", true)
  | 58 => ("TaskHouseModel", "taskAt", "[I", true)
  | 59 => ("TaskHouseModel", "taskCame", "[I", true)
  | 60 => ("TaskHouseModel", "taskDue", "[I", true)
  | 61 => ("TaskHouseModel", "taskState", "[I", true)
  | 62 => ("TaskHouseModel", "taskBy", "[I", true)
  | 63 => ("TaskHouseModel", "taskDone", "[I", true)
  | 64 => ("TaskHouseModel", "people", "I", false)
  | 65 => ("TaskHouseModel", "roles", "[I", true)
  | 66 => ("TaskHouseModel", "load", "[I", true)
  | 67 => ("TaskHouseModel", "deputy", "[I", true)
  | 68 => ("TaskHouseModel", "isAway", "[Z", true)
  | 69 => ("TaskHouseModel", "pile", "[I", true)
  | 70 => ("TaskHouseModel", "doneAs", "[I", true)
  | _ => ("TaskHouseModel", "doneMany", "I", false)
def tyX9 : Nat → FieldType := fun k => match k with
  | 0 => .array .byte
  | 1 => .int
  | 2 => .int
  | 3 => .int
  | 4 => .int
  | 5 => .long
  | 6 => .int
  | 7 => .int
  | 8 => .int
  | 9 => .int
  | 10 => .int
  | 11 => .int
  | 12 => .int
  | 13 => .int
  | 14 => .int
  | 15 => .array .int
  | 16 => .array .int
  | 17 => .array .int
  | 18 => .array .int
  | 19 => .array .long
  | 20 => .array .int
  | 21 => .array .int
  | 22 => .array .int
  | 23 => .int
  | 24 => .int
  | 25 => .int
  | 26 => .array .int
  | 27 => .array .int
  | 28 => .array .int
  | 29 => .array .int
  | 30 => .array .int
  | 31 => .array .int
  | 32 => .array .int
  | 33 => .int
  | 34 => .array .int
  | 35 => .array .int
  | 36 => .array .int
  | 37 => .array .int
  | 38 => .array .boolean
  | 39 => .array .boolean
  | 40 => .int
  | 41 => .array .int
  | 42 => .array .int
  | 43 => .array .int
  | 44 => .array .int
  | 45 => .array .int
  | 46 => .array .int
  | 47 => .array .int
  | 48 => .array .int
  | 49 => .array .int
  | 50 => .array .int
  | 51 => .array .boolean
  | 52 => .array .int
  | 53 => .array .int
  | 54 => .int
  | 55 => .int
  | 56 => .array .int
  | 57 => .array .int
  | 58 => .array .int
  | 59 => .array .int
  | 60 => .array .int
  | 61 => .array .int
  | 62 => .array .int
  | 63 => .array .int
  | 64 => .int
  | 65 => .array .int
  | 66 => .array .int
  | 67 => .array .int
  | 68 => .array .boolean
  | 69 => .array .int
  | 70 => .array .int
  | _ => .int
abbrev wsX90 : List Cond := u_ws RX9 TX9 72
theorem nmX9 : ∀ a, a < 72 → ∀ b, b < 72 → a ≠ b → (TX9 a).2.1 ≠ (TX9 b).2.1 := by decide +kernel
theorem tyX9_ok : ∀ k, k < 72 → parseFieldDescriptor (TX9 k).2.2.1 = some (tyX9 k) := by decide +kernel
abbrev cX9_init : ByteArray := prog_11_method_1_code
def yX9_init : MethodName := ⟨RX9, "<init>", "()V"⟩
abbrev cX9_in : ByteArray := prog_11_method_2_code
def yX9_in : MethodName := ⟨RX9, "in", "(JJJ)Z"⟩
abbrev cX9_put : ByteArray := prog_11_method_3_code
def yX9_put : MethodName := ⟨RX9, "put", "(I)V"⟩
abbrev cX9_feed : ByteArray := prog_11_method_4_code
def yX9_feed : MethodName := ⟨RX9, "feed", "(IIIII)I"⟩
abbrev cX9_end : ByteArray := prog_11_method_5_code
def yX9_end : MethodName := ⟨RX9, "end", "(I)I"⟩
abbrev cX9_isWell : ByteArray := prog_11_method_6_code
def yX9_isWell : MethodName := ⟨RX9, "isWell", "()Z"⟩
abbrev cX9_fails : ByteArray := prog_11_method_7_code
def yX9_fails : MethodName := ⟨RX9, "fails", "(I)V"⟩
abbrev cX9_wordOf : ByteArray := prog_11_method_8_code
def yX9_wordOf : MethodName := ⟨RX9, "wordOf", "(I)I"⟩
abbrev cX9_next : ByteArray := prog_11_method_9_code
def yX9_next : MethodName := ⟨RX9, "next", "(I)V"⟩
abbrev cX9_isSign : ByteArray := prog_11_method_10_code
def yX9_isSign : MethodName := ⟨RX9, "isSign", "(I)Z"⟩
abbrev cX9_isWord : ByteArray := prog_11_method_11_code
def yX9_isWord : MethodName := ⟨RX9, "isWord", "(I)Z"⟩
abbrev cX9_takes : ByteArray := prog_11_method_12_code
def yX9_takes : MethodName := ⟨RX9, "takes", "(II)V"⟩
abbrev cX9_takesWord : ByteArray := prog_11_method_13_code
def yX9_takesWord : MethodName := ⟨RX9, "takesWord", "(II)V"⟩
abbrev cX9_number : ByteArray := prog_11_method_14_code
def yX9_number : MethodName := ⟨RX9, "number", "(III)I"⟩
abbrev cX9_fieldOf : ByteArray := prog_11_method_15_code
def yX9_fieldOf : MethodName := ⟨RX9, "fieldOf", "(I)I"⟩
abbrev cX9_emits : ByteArray := prog_11_method_16_code
def yX9_emits : MethodName := ⟨RX9, "emits", "(III)I"⟩
abbrev cX9_opens : ByteArray := prog_11_method_17_code
def yX9_opens : MethodName := ⟨RX9, "opens", "(IIIII)V"⟩
abbrev cX9_doNamed : ByteArray := prog_11_method_18_code
def yX9_doNamed : MethodName := ⟨RX9, "doNamed", "(J)I"⟩
abbrev cX9_aDo : ByteArray := prog_11_method_19_code
def yX9_aDo : MethodName := ⟨RX9, "aDo", "(I)V"⟩
abbrev cX9_step : ByteArray := prog_11_method_20_code
def yX9_step : MethodName := ⟨RX9, "step", "(I)V"⟩
abbrev cX9_closes : ByteArray := prog_11_method_21_code
def yX9_closes : MethodName := ⟨RX9, "closes", "(I)V"⟩
abbrev cX9_business : ByteArray := prog_11_method_22_code
def yX9_business : MethodName := ⟨RX9, "business", "()I"⟩
abbrev cX9_holds : ByteArray := prog_11_method_23_code
def yX9_holds : MethodName := ⟨RX9, "holds", "()V"⟩
abbrev cX9_fault : ByteArray := prog_11_method_24_code
def yX9_fault : MethodName := ⟨RX9, "fault", "(I)I"⟩
abbrev cX9_isPerson : ByteArray := prog_11_method_25_code
def yX9_isPerson : MethodName := ⟨RX9, "isPerson", "(I)Z"⟩
abbrev cX9_isTask : ByteArray := prog_11_method_26_code
def yX9_isTask : MethodName := ⟨RX9, "isTask", "(I)Z"⟩
abbrev cX9_person : ByteArray := prog_11_method_27_code
def yX9_person : MethodName := ⟨RX9, "person", "(II)I"⟩
abbrev cX9_deputy : ByteArray := prog_11_method_28_code
def yX9_deputy : MethodName := ⟨RX9, "deputy", "(II)Z"⟩
abbrev cX9_away : ByteArray := prog_11_method_29_code
def yX9_away : MethodName := ⟨RX9, "away", "(IZ)Z"⟩
abbrev cX9_stands : ByteArray := prog_11_method_30_code
def yX9_stands : MethodName := ⟨RX9, "stands", "(I)I"⟩
abbrev cX9_hour : ByteArray := prog_11_method_31_code
def yX9_hour : MethodName := ⟨RX9, "hour", "(I)Z"⟩
abbrev cX9_isWorking : ByteArray := prog_11_method_32_code
def yX9_isWorking : MethodName := ⟨RX9, "isWorking", "(I)Z"⟩
abbrev cX9_behind : ByteArray := prog_11_method_33_code
def yX9_behind : MethodName := ⟨RX9, "behind", "(II)I"⟩
abbrev cX9_due : ByteArray := prog_11_method_34_code
def yX9_due : MethodName := ⟨RX9, "due", "(II)I"⟩
abbrev cX9_goes : ByteArray := prog_11_method_35_code
def yX9_goes : MethodName := ⟨RX9, "goes", "(II)Z"⟩
abbrev cX9_comes : ByteArray := prog_11_method_36_code
def yX9_comes : MethodName := ⟨RX9, "comes", "(III)V"⟩
abbrev cX9_run : ByteArray := prog_11_method_37_code
def yX9_run : MethodName := ⟨RX9, "run", "()I"⟩
abbrev cX9_runOf : ByteArray := prog_11_method_38_code
def yX9_runOf : MethodName := ⟨RX9, "runOf", "(II)I"⟩
abbrev cX9_task : ByteArray := prog_11_method_39_code
def yX9_task : MethodName := ⟨RX9, "task", "(II)I"⟩
abbrev cX9_didLast : ByteArray := prog_11_method_40_code
def yX9_didLast : MethodName := ⟨RX9, "didLast", "(II)I"⟩
abbrev cX9_mayDo : ByteArray := prog_11_method_41_code
def yX9_mayDo : MethodName := ⟨RX9, "mayDo", "(II)Z"⟩
abbrev cX9_may : ByteArray := prog_11_method_42_code
def yX9_may : MethodName := ⟨RX9, "may", "(II)I"⟩
abbrev cX9_claims : ByteArray := prog_11_method_43_code
def yX9_claims : MethodName := ⟨RX9, "claims", "(I)I"⟩
abbrev cX9_claim : ByteArray := prog_11_method_44_code
def yX9_claim : MethodName := ⟨RX9, "claim", "(II)I"⟩
abbrev cX9_giveBack : ByteArray := prog_11_method_45_code
def yX9_giveBack : MethodName := ⟨RX9, "giveBack", "(I)Z"⟩
abbrev cX9_done : ByteArray := prog_11_method_46_code
def yX9_done : MethodName := ⟨RX9, "done", "(III)I"⟩
abbrev cX9_isListed : ByteArray := prog_11_method_47_code
def yX9_isListed : MethodName := ⟨RX9, "isListed", "(II)Z"⟩
abbrev cX9_list : ByteArray := prog_11_method_48_code
def yX9_list : MethodName := ⟨RX9, "list", "(I)I"⟩
abbrev cX9_listed : ByteArray := prog_11_method_49_code
def yX9_listed : MethodName := ⟨RX9, "listed", "(II)I"⟩
abbrev cX9_offer : ByteArray := prog_11_method_50_code
def yX9_offer : MethodName := ⟨RX9, "offer", "(I)I"⟩
abbrev cX9_late : ByteArray := prog_11_method_51_code
def yX9_late : MethodName := ⟨RX9, "late", "()I"⟩
abbrev cX9_personOf : ByteArray := prog_11_method_52_code
def yX9_personOf : MethodName := ⟨RX9, "personOf", "(II)I"⟩
abbrev cX9_about : ByteArray := prog_11_method_53_code
def yX9_about : MethodName := ⟨RX9, "about", "(I)I"⟩
def RJ9 : String := "java/lang/Math"
def TJ9 : u_T := fun k => match k with
  | _ => ("", "", "", false)
def tyJ9 : Nat → FieldType := fun k => match k with
  | _ => .int
abbrev wsJ90 : List Cond := u_ws RJ9 TJ9 0
theorem nmJ9 : ∀ a, a < 0 → ∀ b, b < 0 → a ≠ b → (TJ9 a).2.1 ≠ (TJ9 b).2.1 := by decide +kernel
theorem tyJ9_ok : ∀ k, k < 0 → parseFieldDescriptor (TJ9 k).2.2.1 = some (tyJ9 k) := by decide +kernel
abbrev cJ9_max_7cf53 : ByteArray := prog_12_method_65_code
def yJ9_max_7cf53 : MethodName := ⟨RJ9, "max", "(II)I"⟩
abbrev cJ9_min_7cf53 : ByteArray := prog_12_method_69_code
def yJ9_min_7cf53 : MethodName := ⟨RJ9, "min", "(II)I"⟩
def RJ0 : String := "java/lang/String"
def TJ0 : u_T := fun k => match k with
  | _ => ("", "", "", false)
def tyJ0 : Nat → FieldType := fun k => match k with
  | _ => .int
abbrev wsJ00 : List Cond := u_ws RJ0 TJ0 0
theorem nmJ0 : ∀ a, a < 0 → ∀ b, b < 0 → a ≠ b → (TJ0 a).2.1 ≠ (TJ0 b).2.1 := by decide +kernel
theorem tyJ0_ok : ∀ k, k < 0 → parseFieldDescriptor (TJ0 k).2.2.1 = some (tyJ0 k) := by decide +kernel
abbrev cJ0_length_8abf5 : ByteArray := prog_13_method_54_code
def yJ0_length_8abf5 : MethodName := ⟨RJ0, "length", "()I"⟩
abbrev cJ0_charAt_5068e : ByteArray := prog_13_method_56_code
def yJ0_charAt_5068e : MethodName := ⟨RJ0, "charAt", "(I)C"⟩
abbrev cJ0_coder_7d493 : ByteArray := prog_13_method_152_code
def yJ0_coder_7d493 : MethodName := ⟨RJ0, "coder", "()B"⟩
abbrev cJ0_isLatin1_aae02 : ByteArray := prog_13_method_154_code
def yJ0_isLatin1_aae02 : MethodName := ⟨RJ0, "isLatin1", "()Z"⟩
abbrev cJ0_checkIndex_df160 : ByteArray := prog_13_method_155_code
def yJ0_checkIndex_df160 : MethodName := ⟨RJ0, "checkIndex", "(II)V"⟩
def RJ1 : String := "java/lang/StringLatin1"
def TJ1 : u_T := fun k => match k with
  | _ => ("", "", "", false)
def tyJ1 : Nat → FieldType := fun k => match k with
  | _ => .int
abbrev wsJ10 : List Cond := u_ws RJ1 TJ1 0
theorem nmJ1 : ∀ a, a < 0 → ∀ b, b < 0 → a ≠ b → (TJ1 a).2.1 ≠ (TJ1 b).2.1 := by decide +kernel
theorem tyJ1_ok : ∀ k, k < 0 → parseFieldDescriptor (TJ1 k).2.2.1 = some (tyJ1 k) := by decide +kernel
abbrev cJ1_charAt_3b067 : ByteArray := prog_14_method_2_code
def yJ1_charAt_3b067 : MethodName := ⟨RJ1, "charAt", "([BI)C"⟩
def RJ2 : String := "java/lang/StringUTF16"
def TJ2 : u_T := fun k => match k with
  | _ => ("", "", "", false)
def tyJ2 : Nat → FieldType := fun k => match k with
  | _ => .int
abbrev wsJ20 : List Cond := u_ws RJ2 TJ2 0
theorem nmJ2 : ∀ a, a < 0 → ∀ b, b < 0 → a ≠ b → (TJ2 a).2.1 ≠ (TJ2 b).2.1 := by decide +kernel
theorem tyJ2_ok : ∀ k, k < 0 → parseFieldDescriptor (TJ2 k).2.2.1 = some (tyJ2 k) := by decide +kernel
abbrev cJ2_getChar_3b067 : ByteArray := prog_15_method_5_code
def yJ2_getChar_3b067 : MethodName := ⟨RJ2, "getChar", "([BI)C"⟩
abbrev cJ2_length_9d52b : ByteArray := prog_15_method_6_code
def yJ2_length_9d52b : MethodName := ⟨RJ2, "length", "([B)I"⟩
abbrev cJ2_charAt_3b067 : ByteArray := prog_15_method_83_code
def yJ2_charAt_3b067 : MethodName := ⟨RJ2, "charAt", "([BI)C"⟩
abbrev cJ2_checkIndex_2214a : ByteArray := prog_15_method_91_code
def yJ2_checkIndex_2214a : MethodName := ⟨RJ2, "checkIndex", "(I[B)V"⟩
def RJ10 : String := "java/lang/System"
def TJ10 : u_T := fun k => match k with
  | _ => ("", "", "", false)
def tyJ10 : Nat → FieldType := fun k => match k with
  | _ => .int
abbrev wsJ100 : List Cond := u_ws RJ10 TJ10 0
theorem nmJ10 : ∀ a, a < 0 → ∀ b, b < 0 → a ≠ b → (TJ10 a).2.1 ≠ (TJ10 b).2.1 := by decide +kernel
theorem tyJ10_ok : ∀ k, k < 0 → parseFieldDescriptor (TJ10 k).2.2.1 = some (tyJ10 k) := by decide +kernel
def RJ3 : String := "jdk/internal/util/Preconditions"
def TJ3 : u_T := fun k => match k with
  | _ => ("", "", "", false)
def tyJ3 : Nat → FieldType := fun k => match k with
  | _ => .int
abbrev wsJ30 : List Cond := u_ws RJ3 TJ3 0
theorem nmJ3 : ∀ a, a < 0 → ∀ b, b < 0 → a ≠ b → (TJ3 a).2.1 ≠ (TJ3 b).2.1 := by decide +kernel
theorem tyJ3_ok : ∀ k, k < 0 → parseFieldDescriptor (TJ3 k).2.2.1 = some (tyJ3 k) := by decide +kernel
abbrev cJ3_checkIndex_8e157 : ByteArray := prog_17_method_11_code
def yJ3_checkIndex_8e157 : MethodName := ⟨RJ3, "checkIndex", "(IILjava/util/function/BiFunction;)I"⟩
def RL : String := "TaskHouseLaw"
abbrev cL_law : ByteArray := code
def yL_law : MethodName := ⟨RL, "law", "([I)Z"⟩
