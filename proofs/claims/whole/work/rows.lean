section
/-- a private method of a class that the tables say can be made, by its rows of tables_1 -/
def lw_okq (q : MethodName × Nat) : Prop := (q.1.cls ≠ "java/lang/invoke/MethodHandle" ∧ q.1.cls ≠ "java/lang/invoke/VarHandle") ∧ Cond.instantiable q.1.cls q.2 ∈ tables_1 ∧ Cond.privateMethod q.1 ∈ tables_1 ∧ Cond.instanceMethod q.1 ∈ tables_1
theorem lw_p0 : lw_okq (⟨"TaskHouse$Reader", "begin", "()V"⟩, 14) := ⟨⟨by decide +kernel, by decide +kernel⟩, List.mem_of_getElem? (i := 26) (by decide +kernel), List.mem_of_getElem? (i := 395) (by decide +kernel), List.mem_of_getElem? (i := 396) (by decide +kernel)⟩
theorem lw_p1 : lw_okq (⟨"TaskHouse$Tape", "byteAt", "(I)I"⟩, 7) := ⟨⟨by decide +kernel, by decide +kernel⟩, List.mem_of_getElem? (i := 32) (by decide +kernel), List.mem_of_getElem? (i := 411) (by decide +kernel), List.mem_of_getElem? (i := 412) (by decide +kernel)⟩
theorem lw_p2 : lw_okq (⟨"TaskHouse$Tape", "letters", "()I"⟩, 7) := ⟨⟨by decide +kernel, by decide +kernel⟩, List.mem_of_getElem? (i := 32) (by decide +kernel), List.mem_of_getElem? (i := 421) (by decide +kernel), List.mem_of_getElem? (i := 422) (by decide +kernel)⟩
theorem lw_p3 : lw_okq (⟨"TaskHouse$Tape", "kindOfKey", "(I)I"⟩, 7) := ⟨⟨by decide +kernel, by decide +kernel⟩, List.mem_of_getElem? (i := 32) (by decide +kernel), List.mem_of_getElem? (i := 425) (by decide +kernel), List.mem_of_getElem? (i := 426) (by decide +kernel)⟩
theorem lw_p4 : lw_okq (⟨"TaskHouse$Reader", "closeSteps", "()V"⟩, 14) := ⟨⟨by decide +kernel, by decide +kernel⟩, List.mem_of_getElem? (i := 26) (by decide +kernel), List.mem_of_getElem? (i := 438) (by decide +kernel), List.mem_of_getElem? (i := 439) (by decide +kernel)⟩
theorem lw_p5 : lw_okq (⟨"TaskHouse$Reader", "closeAgain", "(I)V"⟩, 14) := ⟨⟨by decide +kernel, by decide +kernel⟩, List.mem_of_getElem? (i := 26) (by decide +kernel), List.mem_of_getElem? (i := 442) (by decide +kernel), List.mem_of_getElem? (i := 443) (by decide +kernel)⟩
theorem lw_p6 : lw_okq (⟨"TaskHouse$Reader", "fail", "(I)V"⟩, 14) := ⟨⟨by decide +kernel, by decide +kernel⟩, List.mem_of_getElem? (i := 26) (by decide +kernel), List.mem_of_getElem? (i := 446) (by decide +kernel), List.mem_of_getElem? (i := 447) (by decide +kernel)⟩
theorem lw_p7 : lw_okq (⟨"TaskHouse$Reader", "hold", "(Z)V"⟩, 14) := ⟨⟨by decide +kernel, by decide +kernel⟩, List.mem_of_getElem? (i := 26) (by decide +kernel), List.mem_of_getElem? (i := 463) (by decide +kernel), List.mem_of_getElem? (i := 464) (by decide +kernel)⟩
theorem lw_p8 : lw_okq (⟨"TaskHouse$Reader", "closeSecond", "(I)V"⟩, 14) := ⟨⟨by decide +kernel, by decide +kernel⟩, List.mem_of_getElem? (i := 26) (by decide +kernel), List.mem_of_getElem? (i := 467) (by decide +kernel), List.mem_of_getElem? (i := 468) (by decide +kernel)⟩
theorem lw_p9 : lw_okq (⟨"TaskHouse$Reader", "turnToSecond", "(I)V"⟩, 14) := ⟨⟨by decide +kernel, by decide +kernel⟩, List.mem_of_getElem? (i := 26) (by decide +kernel), List.mem_of_getElem? (i := 475) (by decide +kernel), List.mem_of_getElem? (i := 476) (by decide +kernel)⟩
theorem lw_p10 : lw_okq (⟨"TaskHouse$Reader", "need", "(I)V"⟩, 14) := ⟨⟨by decide +kernel, by decide +kernel⟩, List.mem_of_getElem? (i := 26) (by decide +kernel), List.mem_of_getElem? (i := 479) (by decide +kernel), List.mem_of_getElem? (i := 480) (by decide +kernel)⟩
theorem lw_p11 : lw_okq (⟨"TaskHouse$Reader", "readStep", "()V"⟩, 14) := ⟨⟨by decide +kernel, by decide +kernel⟩, List.mem_of_getElem? (i := 26) (by decide +kernel), List.mem_of_getElem? (i := 483) (by decide +kernel), List.mem_of_getElem? (i := 484) (by decide +kernel)⟩
theorem lw_p12 : lw_okq (⟨"TaskHouse$Reader", "readDo", "()V"⟩, 14) := ⟨⟨by decide +kernel, by decide +kernel⟩, List.mem_of_getElem? (i := 26) (by decide +kernel), List.mem_of_getElem? (i := 487) (by decide +kernel), List.mem_of_getElem? (i := 488) (by decide +kernel)⟩
theorem lw_p13 : lw_okq (⟨"TaskHouse$Reader", "readNewName", "()V"⟩, 14) := ⟨⟨by decide +kernel, by decide +kernel⟩, List.mem_of_getElem? (i := 26) (by decide +kernel), List.mem_of_getElem? (i := 491) (by decide +kernel), List.mem_of_getElem? (i := 492) (by decide +kernel)⟩
theorem lw_p14 : lw_okq (⟨"TaskHouse$Reader", "doNamed", "(I)I"⟩, 14) := ⟨⟨by decide +kernel, by decide +kernel⟩, List.mem_of_getElem? (i := 26) (by decide +kernel), List.mem_of_getElem? (i := 499) (by decide +kernel), List.mem_of_getElem? (i := 500) (by decide +kernel)⟩
theorem lw_p15 : lw_okq (⟨"TaskHouse$Reader", "readNumber", "(II)I"⟩, 14) := ⟨⟨by decide +kernel, by decide +kernel⟩, List.mem_of_getElem? (i := 26) (by decide +kernel), List.mem_of_getElem? (i := 503) (by decide +kernel), List.mem_of_getElem? (i := 504) (by decide +kernel)⟩
def lw_privs_1 : List (MethodName × Nat) := [(⟨"TaskHouse$Reader", "begin", "()V"⟩, 14), (⟨"TaskHouse$Tape", "byteAt", "(I)I"⟩, 7), (⟨"TaskHouse$Tape", "letters", "()I"⟩, 7), (⟨"TaskHouse$Tape", "kindOfKey", "(I)I"⟩, 7), (⟨"TaskHouse$Reader", "closeSteps", "()V"⟩, 14), (⟨"TaskHouse$Reader", "closeAgain", "(I)V"⟩, 14), (⟨"TaskHouse$Reader", "fail", "(I)V"⟩, 14), (⟨"TaskHouse$Reader", "hold", "(Z)V"⟩, 14), (⟨"TaskHouse$Reader", "closeSecond", "(I)V"⟩, 14), (⟨"TaskHouse$Reader", "turnToSecond", "(I)V"⟩, 14), (⟨"TaskHouse$Reader", "need", "(I)V"⟩, 14), (⟨"TaskHouse$Reader", "readStep", "()V"⟩, 14), (⟨"TaskHouse$Reader", "readDo", "()V"⟩, 14), (⟨"TaskHouse$Reader", "readNewName", "()V"⟩, 14), (⟨"TaskHouse$Reader", "doNamed", "(I)I"⟩, 14), (⟨"TaskHouse$Reader", "readNumber", "(II)I"⟩, 14)]
theorem lw_r1 : ∀ q ∈ lw_privs_1, lw_okq q := List.forall_mem_cons.mpr ⟨lw_p0, List.forall_mem_cons.mpr ⟨lw_p1, List.forall_mem_cons.mpr ⟨lw_p2, List.forall_mem_cons.mpr ⟨lw_p3, List.forall_mem_cons.mpr ⟨lw_p4, List.forall_mem_cons.mpr ⟨lw_p5, List.forall_mem_cons.mpr ⟨lw_p6, List.forall_mem_cons.mpr ⟨lw_p7, List.forall_mem_cons.mpr ⟨lw_p8, List.forall_mem_cons.mpr ⟨lw_p9, List.forall_mem_cons.mpr ⟨lw_p10, List.forall_mem_cons.mpr ⟨lw_p11, List.forall_mem_cons.mpr ⟨lw_p12, List.forall_mem_cons.mpr ⟨lw_p13, List.forall_mem_cons.mpr ⟨lw_p14, List.forall_mem_cons.mpr ⟨lw_p15, fun _ h => absurd h List.not_mem_nil⟩⟩⟩⟩⟩⟩⟩⟩⟩⟩⟩⟩⟩⟩⟩⟩
theorem lw_p16 : lw_okq (⟨"TaskHouse$Reader", "readEyes", "()I"⟩, 14) := ⟨⟨by decide +kernel, by decide +kernel⟩, List.mem_of_getElem? (i := 26) (by decide +kernel), List.mem_of_getElem? (i := 507) (by decide +kernel), List.mem_of_getElem? (i := 508) (by decide +kernel)⟩
theorem lw_p17 : lw_okq (⟨"TaskHouse$Reader", "readSet", "()V"⟩, 14) := ⟨⟨by decide +kernel, by decide +kernel⟩, List.mem_of_getElem? (i := 26) (by decide +kernel), List.mem_of_getElem? (i := 516) (by decide +kernel), List.mem_of_getElem? (i := 517) (by decide +kernel)⟩
theorem lw_p18 : lw_okq (⟨"TaskHouse$Reader", "readField", "()I"⟩, 14) := ⟨⟨by decide +kernel, by decide +kernel⟩, List.mem_of_getElem? (i := 26) (by decide +kernel), List.mem_of_getElem? (i := 520) (by decide +kernel), List.mem_of_getElem? (i := 521) (by decide +kernel)⟩
theorem lw_p19 : lw_okq (⟨"TaskHouse$Reader", "openSteps", "(II)V"⟩, 14) := ⟨⟨by decide +kernel, by decide +kernel⟩, List.mem_of_getElem? (i := 26) (by decide +kernel), List.mem_of_getElem? (i := 528) (by decide +kernel), List.mem_of_getElem? (i := 529) (by decide +kernel)⟩
theorem lw_p20 : lw_okq (⟨"TaskHouse$Reader", "readTest", "()I"⟩, 14) := ⟨⟨by decide +kernel, by decide +kernel⟩, List.mem_of_getElem? (i := 26) (by decide +kernel), List.mem_of_getElem? (i := 532) (by decide +kernel), List.mem_of_getElem? (i := 533) (by decide +kernel)⟩
theorem lw_p21 : lw_okq (⟨"TaskHouse$Walk", "forgetWhatCame", "()V"⟩, 7) := ⟨⟨by decide +kernel, by decide +kernel⟩, List.mem_of_getElem? (i := 309) (by decide +kernel), List.mem_of_getElem? (i := 597) (by decide +kernel), List.mem_of_getElem? (i := 598) (by decide +kernel)⟩
theorem lw_p22 : lw_okq (⟨"TaskHouse$Walk", "follow", "(LTaskHouse$Business;I)I"⟩, 7) := ⟨⟨by decide +kernel, by decide +kernel⟩, List.mem_of_getElem? (i := 309) (by decide +kernel), List.mem_of_getElem? (i := 605) (by decide +kernel), List.mem_of_getElem? (i := 606) (by decide +kernel)⟩
theorem lw_p23 : lw_okq (⟨"TaskHouse$Walk", "comeTo", "(I)V"⟩, 7) := ⟨⟨by decide +kernel, by decide +kernel⟩, List.mem_of_getElem? (i := 309) (by decide +kernel), List.mem_of_getElem? (i := 610) (by decide +kernel), List.mem_of_getElem? (i := 611) (by decide +kernel)⟩
theorem lw_p24 : lw_okq (⟨"TaskHouse$Walk", "isBelow", "(II)Z"⟩, 7) := ⟨⟨by decide +kernel, by decide +kernel⟩, List.mem_of_getElem? (i := 309) (by decide +kernel), List.mem_of_getElem? (i := 618) (by decide +kernel), List.mem_of_getElem? (i := 619) (by decide +kernel)⟩
theorem lw_p25 : lw_okq (⟨"TaskHouse$Walk", "fork", "(II)V"⟩, 7) := ⟨⟨by decide +kernel, by decide +kernel⟩, List.mem_of_getElem? (i := 309) (by decide +kernel), List.mem_of_getElem? (i := 622) (by decide +kernel), List.mem_of_getElem? (i := 623) (by decide +kernel)⟩
theorem lw_p26 : lw_okq (⟨"TaskHouse$Walk", "endsLastWay", "(I)Z"⟩, 7) := ⟨⟨by decide +kernel, by decide +kernel⟩, List.mem_of_getElem? (i := 309) (by decide +kernel), List.mem_of_getElem? (i := 626) (by decide +kernel), List.mem_of_getElem? (i := 627) (by decide +kernel)⟩
theorem lw_p27 : lw_okq (⟨"TaskHouse$Walk", "nextSecondWay", "()I"⟩, 7) := ⟨⟨by decide +kernel, by decide +kernel⟩, List.mem_of_getElem? (i := 309) (by decide +kernel), List.mem_of_getElem? (i := 630) (by decide +kernel), List.mem_of_getElem? (i := 631) (by decide +kernel)⟩
theorem lw_p28 : lw_okq (⟨"TaskHouse", "keepWalk", "(LTaskHouse$Run;)V"⟩, 10) := ⟨⟨by decide +kernel, by decide +kernel⟩, List.mem_of_getElem? (i := 18) (by decide +kernel), List.mem_of_getElem? (i := 672) (by decide +kernel), List.mem_of_getElem? (i := 673) (by decide +kernel)⟩
theorem lw_p29 : lw_okq (⟨"TaskHouse$Business", "hasDo", "(I)Z"⟩, 12) := ⟨⟨by decide +kernel, by decide +kernel⟩, List.mem_of_getElem? (i := 129) (by decide +kernel), List.mem_of_getElem? (i := 687) (by decide +kernel), List.mem_of_getElem? (i := 688) (by decide +kernel)⟩
theorem lw_p30 : lw_okq (⟨"TaskHouse$Tasks", "putByDue", "(I)V"⟩, 10) := ⟨⟨by decide +kernel, by decide +kernel⟩, List.mem_of_getElem? (i := 262) (by decide +kernel), List.mem_of_getElem? (i := 709) (by decide +kernel), List.mem_of_getElem? (i := 710) (by decide +kernel)⟩
theorem lw_p31 : lw_okq (⟨"TaskHouse$Tasks", "isDueBehind", "(II)Z"⟩, 10) := ⟨⟨by decide +kernel, by decide +kernel⟩, List.mem_of_getElem? (i := 262) (by decide +kernel), List.mem_of_getElem? (i := 713) (by decide +kernel), List.mem_of_getElem? (i := 714) (by decide +kernel)⟩
def lw_privs_2 : List (MethodName × Nat) := [(⟨"TaskHouse$Reader", "readEyes", "()I"⟩, 14), (⟨"TaskHouse$Reader", "readSet", "()V"⟩, 14), (⟨"TaskHouse$Reader", "readField", "()I"⟩, 14), (⟨"TaskHouse$Reader", "openSteps", "(II)V"⟩, 14), (⟨"TaskHouse$Reader", "readTest", "()I"⟩, 14), (⟨"TaskHouse$Walk", "forgetWhatCame", "()V"⟩, 7), (⟨"TaskHouse$Walk", "follow", "(LTaskHouse$Business;I)I"⟩, 7), (⟨"TaskHouse$Walk", "comeTo", "(I)V"⟩, 7), (⟨"TaskHouse$Walk", "isBelow", "(II)Z"⟩, 7), (⟨"TaskHouse$Walk", "fork", "(II)V"⟩, 7), (⟨"TaskHouse$Walk", "endsLastWay", "(I)Z"⟩, 7), (⟨"TaskHouse$Walk", "nextSecondWay", "()I"⟩, 7), (⟨"TaskHouse", "keepWalk", "(LTaskHouse$Run;)V"⟩, 10), (⟨"TaskHouse$Business", "hasDo", "(I)Z"⟩, 12), (⟨"TaskHouse$Tasks", "putByDue", "(I)V"⟩, 10), (⟨"TaskHouse$Tasks", "isDueBehind", "(II)Z"⟩, 10)]
theorem lw_r2 : ∀ q ∈ lw_privs_2, lw_okq q := List.forall_mem_cons.mpr ⟨lw_p16, List.forall_mem_cons.mpr ⟨lw_p17, List.forall_mem_cons.mpr ⟨lw_p18, List.forall_mem_cons.mpr ⟨lw_p19, List.forall_mem_cons.mpr ⟨lw_p20, List.forall_mem_cons.mpr ⟨lw_p21, List.forall_mem_cons.mpr ⟨lw_p22, List.forall_mem_cons.mpr ⟨lw_p23, List.forall_mem_cons.mpr ⟨lw_p24, List.forall_mem_cons.mpr ⟨lw_p25, List.forall_mem_cons.mpr ⟨lw_p26, List.forall_mem_cons.mpr ⟨lw_p27, List.forall_mem_cons.mpr ⟨lw_p28, List.forall_mem_cons.mpr ⟨lw_p29, List.forall_mem_cons.mpr ⟨lw_p30, List.forall_mem_cons.mpr ⟨lw_p31, fun _ h => absurd h List.not_mem_nil⟩⟩⟩⟩⟩⟩⟩⟩⟩⟩⟩⟩⟩⟩⟩⟩
theorem lw_p32 : lw_okq (⟨"TaskHouse", "runAt", "(I)LTaskHouse$Run;"⟩, 10) := ⟨⟨by decide +kernel, by decide +kernel⟩, List.mem_of_getElem? (i := 18) (by decide +kernel), List.mem_of_getElem? (i := 721) (by decide +kernel), List.mem_of_getElem? (i := 722) (by decide +kernel)⟩
theorem lw_p33 : lw_okq (⟨"TaskHouse", "isAllowed", "(III)Z"⟩, 10) := ⟨⟨by decide +kernel, by decide +kernel⟩, List.mem_of_getElem? (i := 18) (by decide +kernel), List.mem_of_getElem? (i := 739) (by decide +kernel), List.mem_of_getElem? (i := 740) (by decide +kernel)⟩
theorem lw_p34 : lw_okq (⟨"TaskHouse", "finishTask", "(LTaskHouse$Run;I)V"⟩, 10) := ⟨⟨by decide +kernel, by decide +kernel⟩, List.mem_of_getElem? (i := 18) (by decide +kernel), List.mem_of_getElem? (i := 787) (by decide +kernel), List.mem_of_getElem? (i := 788) (by decide +kernel)⟩
theorem lw_p35 : lw_okq (⟨"TaskHouse", "isListed", "(III)Z"⟩, 10) := ⟨⟨by decide +kernel, by decide +kernel⟩, List.mem_of_getElem? (i := 18) (by decide +kernel), List.mem_of_getElem? (i := 807) (by decide +kernel), List.mem_of_getElem? (i := 808) (by decide +kernel)⟩
theorem lw_p36 : lw_okq (⟨"TaskHouseModel", "put", "(I)V"⟩, 72) := ⟨⟨by decide +kernel, by decide +kernel⟩, List.mem_of_getElem? (i := 835) (by decide +kernel), List.mem_of_getElem? (i := 1063) (by decide +kernel), List.mem_of_getElem? (i := 1064) (by decide +kernel)⟩
theorem lw_p37 : lw_okq (⟨"TaskHouseModel", "next", "(I)V"⟩, 72) := ⟨⟨by decide +kernel, by decide +kernel⟩, List.mem_of_getElem? (i := 835) (by decide +kernel), List.mem_of_getElem? (i := 1078) (by decide +kernel), List.mem_of_getElem? (i := 1079) (by decide +kernel)⟩
theorem lw_p38 : lw_okq (⟨"TaskHouseModel", "isWell", "()Z"⟩, 72) := ⟨⟨by decide +kernel, by decide +kernel⟩, List.mem_of_getElem? (i := 835) (by decide +kernel), List.mem_of_getElem? (i := 1094) (by decide +kernel), List.mem_of_getElem? (i := 1095) (by decide +kernel)⟩
theorem lw_p39 : lw_okq (⟨"TaskHouseModel", "isSign", "(I)Z"⟩, 72) := ⟨⟨by decide +kernel, by decide +kernel⟩, List.mem_of_getElem? (i := 835) (by decide +kernel), List.mem_of_getElem? (i := 1098) (by decide +kernel), List.mem_of_getElem? (i := 1099) (by decide +kernel)⟩
theorem lw_p40 : lw_okq (⟨"TaskHouseModel", "closes", "(I)V"⟩, 72) := ⟨⟨by decide +kernel, by decide +kernel⟩, List.mem_of_getElem? (i := 835) (by decide +kernel), List.mem_of_getElem? (i := 1102) (by decide +kernel), List.mem_of_getElem? (i := 1103) (by decide +kernel)⟩
theorem lw_p41 : lw_okq (⟨"TaskHouseModel", "fails", "(I)V"⟩, 72) := ⟨⟨by decide +kernel, by decide +kernel⟩, List.mem_of_getElem? (i := 835) (by decide +kernel), List.mem_of_getElem? (i := 1106) (by decide +kernel), List.mem_of_getElem? (i := 1107) (by decide +kernel)⟩
theorem lw_p42 : lw_okq (⟨"TaskHouseModel", "emits", "(III)I"⟩, 72) := ⟨⟨by decide +kernel, by decide +kernel⟩, List.mem_of_getElem? (i := 835) (by decide +kernel), List.mem_of_getElem? (i := 1110) (by decide +kernel), List.mem_of_getElem? (i := 1111) (by decide +kernel)⟩
theorem lw_p43 : lw_okq (⟨"TaskHouseModel", "opens", "(IIIII)V"⟩, 72) := ⟨⟨by decide +kernel, by decide +kernel⟩, List.mem_of_getElem? (i := 835) (by decide +kernel), List.mem_of_getElem? (i := 1114) (by decide +kernel), List.mem_of_getElem? (i := 1115) (by decide +kernel)⟩
theorem lw_p44 : lw_okq (⟨"TaskHouseModel", "takes", "(II)V"⟩, 72) := ⟨⟨by decide +kernel, by decide +kernel⟩, List.mem_of_getElem? (i := 835) (by decide +kernel), List.mem_of_getElem? (i := 1118) (by decide +kernel), List.mem_of_getElem? (i := 1119) (by decide +kernel)⟩
theorem lw_p45 : lw_okq (⟨"TaskHouseModel", "takesWord", "(II)V"⟩, 72) := ⟨⟨by decide +kernel, by decide +kernel⟩, List.mem_of_getElem? (i := 835) (by decide +kernel), List.mem_of_getElem? (i := 1122) (by decide +kernel), List.mem_of_getElem? (i := 1123) (by decide +kernel)⟩
theorem lw_p46 : lw_okq (⟨"TaskHouseModel", "isWord", "(I)Z"⟩, 72) := ⟨⟨by decide +kernel, by decide +kernel⟩, List.mem_of_getElem? (i := 835) (by decide +kernel), List.mem_of_getElem? (i := 1126) (by decide +kernel), List.mem_of_getElem? (i := 1127) (by decide +kernel)⟩
theorem lw_p47 : lw_okq (⟨"TaskHouseModel", "step", "(I)V"⟩, 72) := ⟨⟨by decide +kernel, by decide +kernel⟩, List.mem_of_getElem? (i := 835) (by decide +kernel), List.mem_of_getElem? (i := 1130) (by decide +kernel), List.mem_of_getElem? (i := 1131) (by decide +kernel)⟩
def lw_privs_3 : List (MethodName × Nat) := [(⟨"TaskHouse", "runAt", "(I)LTaskHouse$Run;"⟩, 10), (⟨"TaskHouse", "isAllowed", "(III)Z"⟩, 10), (⟨"TaskHouse", "finishTask", "(LTaskHouse$Run;I)V"⟩, 10), (⟨"TaskHouse", "isListed", "(III)Z"⟩, 10), (⟨"TaskHouseModel", "put", "(I)V"⟩, 72), (⟨"TaskHouseModel", "next", "(I)V"⟩, 72), (⟨"TaskHouseModel", "isWell", "()Z"⟩, 72), (⟨"TaskHouseModel", "isSign", "(I)Z"⟩, 72), (⟨"TaskHouseModel", "closes", "(I)V"⟩, 72), (⟨"TaskHouseModel", "fails", "(I)V"⟩, 72), (⟨"TaskHouseModel", "emits", "(III)I"⟩, 72), (⟨"TaskHouseModel", "opens", "(IIIII)V"⟩, 72), (⟨"TaskHouseModel", "takes", "(II)V"⟩, 72), (⟨"TaskHouseModel", "takesWord", "(II)V"⟩, 72), (⟨"TaskHouseModel", "isWord", "(I)Z"⟩, 72), (⟨"TaskHouseModel", "step", "(I)V"⟩, 72)]
theorem lw_r3 : ∀ q ∈ lw_privs_3, lw_okq q := List.forall_mem_cons.mpr ⟨lw_p32, List.forall_mem_cons.mpr ⟨lw_p33, List.forall_mem_cons.mpr ⟨lw_p34, List.forall_mem_cons.mpr ⟨lw_p35, List.forall_mem_cons.mpr ⟨lw_p36, List.forall_mem_cons.mpr ⟨lw_p37, List.forall_mem_cons.mpr ⟨lw_p38, List.forall_mem_cons.mpr ⟨lw_p39, List.forall_mem_cons.mpr ⟨lw_p40, List.forall_mem_cons.mpr ⟨lw_p41, List.forall_mem_cons.mpr ⟨lw_p42, List.forall_mem_cons.mpr ⟨lw_p43, List.forall_mem_cons.mpr ⟨lw_p44, List.forall_mem_cons.mpr ⟨lw_p45, List.forall_mem_cons.mpr ⟨lw_p46, List.forall_mem_cons.mpr ⟨lw_p47, fun _ h => absurd h List.not_mem_nil⟩⟩⟩⟩⟩⟩⟩⟩⟩⟩⟩⟩⟩⟩⟩⟩
theorem lw_p48 : lw_okq (⟨"TaskHouseModel", "aDo", "(I)V"⟩, 72) := ⟨⟨by decide +kernel, by decide +kernel⟩, List.mem_of_getElem? (i := 835) (by decide +kernel), List.mem_of_getElem? (i := 1138) (by decide +kernel), List.mem_of_getElem? (i := 1139) (by decide +kernel)⟩
theorem lw_p49 : lw_okq (⟨"TaskHouseModel", "doNamed", "(J)I"⟩, 72) := ⟨⟨by decide +kernel, by decide +kernel⟩, List.mem_of_getElem? (i := 835) (by decide +kernel), List.mem_of_getElem? (i := 1142) (by decide +kernel), List.mem_of_getElem? (i := 1143) (by decide +kernel)⟩
theorem lw_p50 : lw_okq (⟨"TaskHouseModel", "number", "(III)I"⟩, 72) := ⟨⟨by decide +kernel, by decide +kernel⟩, List.mem_of_getElem? (i := 835) (by decide +kernel), List.mem_of_getElem? (i := 1146) (by decide +kernel), List.mem_of_getElem? (i := 1147) (by decide +kernel)⟩
theorem lw_p51 : lw_okq (⟨"TaskHouseModel", "fieldOf", "(I)I"⟩, 72) := ⟨⟨by decide +kernel, by decide +kernel⟩, List.mem_of_getElem? (i := 835) (by decide +kernel), List.mem_of_getElem? (i := 1150) (by decide +kernel), List.mem_of_getElem? (i := 1151) (by decide +kernel)⟩
theorem lw_p52 : lw_okq (⟨"TaskHouseModel", "holds", "()V"⟩, 72) := ⟨⟨by decide +kernel, by decide +kernel⟩, List.mem_of_getElem? (i := 835) (by decide +kernel), List.mem_of_getElem? (i := 1154) (by decide +kernel), List.mem_of_getElem? (i := 1155) (by decide +kernel)⟩
theorem lw_p53 : lw_okq (⟨"TaskHouseModel", "isPerson", "(I)Z"⟩, 72) := ⟨⟨by decide +kernel, by decide +kernel⟩, List.mem_of_getElem? (i := 835) (by decide +kernel), List.mem_of_getElem? (i := 1172) (by decide +kernel), List.mem_of_getElem? (i := 1173) (by decide +kernel)⟩
theorem lw_p54 : lw_okq (⟨"TaskHouseModel", "goes", "(II)Z"⟩, 72) := ⟨⟨by decide +kernel, by decide +kernel⟩, List.mem_of_getElem? (i := 835) (by decide +kernel), List.mem_of_getElem? (i := 1204) (by decide +kernel), List.mem_of_getElem? (i := 1205) (by decide +kernel)⟩
theorem lw_p55 : lw_okq (⟨"TaskHouseModel", "comes", "(III)V"⟩, 72) := ⟨⟨by decide +kernel, by decide +kernel⟩, List.mem_of_getElem? (i := 835) (by decide +kernel), List.mem_of_getElem? (i := 1208) (by decide +kernel), List.mem_of_getElem? (i := 1209) (by decide +kernel)⟩
theorem lw_p56 : lw_okq (⟨"TaskHouseModel", "isTask", "(I)Z"⟩, 72) := ⟨⟨by decide +kernel, by decide +kernel⟩, List.mem_of_getElem? (i := 835) (by decide +kernel), List.mem_of_getElem? (i := 1221) (by decide +kernel), List.mem_of_getElem? (i := 1222) (by decide +kernel)⟩
theorem lw_p57 : lw_okq (⟨"TaskHouseModel", "mayDo", "(II)Z"⟩, 72) := ⟨⟨by decide +kernel, by decide +kernel⟩, List.mem_of_getElem? (i := 835) (by decide +kernel), List.mem_of_getElem? (i := 1229) (by decide +kernel), List.mem_of_getElem? (i := 1230) (by decide +kernel)⟩
theorem lw_p58 : lw_okq (⟨"TaskHouseModel", "didLast", "(II)I"⟩, 72) := ⟨⟨by decide +kernel, by decide +kernel⟩, List.mem_of_getElem? (i := 835) (by decide +kernel), List.mem_of_getElem? (i := 1234) (by decide +kernel), List.mem_of_getElem? (i := 1235) (by decide +kernel)⟩
theorem lw_p59 : lw_okq (⟨"TaskHouseModel", "claims", "(I)I"⟩, 72) := ⟨⟨by decide +kernel, by decide +kernel⟩, List.mem_of_getElem? (i := 835) (by decide +kernel), List.mem_of_getElem? (i := 1242) (by decide +kernel), List.mem_of_getElem? (i := 1243) (by decide +kernel)⟩
theorem lw_p60 : lw_okq (⟨"TaskHouseModel", "isListed", "(II)Z"⟩, 72) := ⟨⟨by decide +kernel, by decide +kernel⟩, List.mem_of_getElem? (i := 835) (by decide +kernel), List.mem_of_getElem? (i := 1259) (by decide +kernel), List.mem_of_getElem? (i := 1260) (by decide +kernel)⟩
def lw_privs_4 : List (MethodName × Nat) := [(⟨"TaskHouseModel", "aDo", "(I)V"⟩, 72), (⟨"TaskHouseModel", "doNamed", "(J)I"⟩, 72), (⟨"TaskHouseModel", "number", "(III)I"⟩, 72), (⟨"TaskHouseModel", "fieldOf", "(I)I"⟩, 72), (⟨"TaskHouseModel", "holds", "()V"⟩, 72), (⟨"TaskHouseModel", "isPerson", "(I)Z"⟩, 72), (⟨"TaskHouseModel", "goes", "(II)Z"⟩, 72), (⟨"TaskHouseModel", "comes", "(III)V"⟩, 72), (⟨"TaskHouseModel", "isTask", "(I)Z"⟩, 72), (⟨"TaskHouseModel", "mayDo", "(II)Z"⟩, 72), (⟨"TaskHouseModel", "didLast", "(II)I"⟩, 72), (⟨"TaskHouseModel", "claims", "(I)I"⟩, 72), (⟨"TaskHouseModel", "isListed", "(II)Z"⟩, 72)]
theorem lw_r4 : ∀ q ∈ lw_privs_4, lw_okq q := List.forall_mem_cons.mpr ⟨lw_p48, List.forall_mem_cons.mpr ⟨lw_p49, List.forall_mem_cons.mpr ⟨lw_p50, List.forall_mem_cons.mpr ⟨lw_p51, List.forall_mem_cons.mpr ⟨lw_p52, List.forall_mem_cons.mpr ⟨lw_p53, List.forall_mem_cons.mpr ⟨lw_p54, List.forall_mem_cons.mpr ⟨lw_p55, List.forall_mem_cons.mpr ⟨lw_p56, List.forall_mem_cons.mpr ⟨lw_p57, List.forall_mem_cons.mpr ⟨lw_p58, List.forall_mem_cons.mpr ⟨lw_p59, List.forall_mem_cons.mpr ⟨lw_p60, fun _ h => absurd h List.not_mem_nil⟩⟩⟩⟩⟩⟩⟩⟩⟩⟩⟩⟩⟩
def lw_privs : List (MethodName × Nat) := lw_privs_1 ++ (lw_privs_2 ++ (lw_privs_3 ++ (lw_privs_4)))
def lw_tbl : List Cond := k2_sels lw_privs ++ tables_1
theorem lw_privs_ok : ∀ q ∈ lw_privs, lw_okq q := by
  show ∀ q ∈ lw_privs_1 ++ (lw_privs_2 ++ (lw_privs_3 ++ (lw_privs_4))), lw_okq q
  exact List.forall_mem_append.mpr ⟨lw_r1, List.forall_mem_append.mpr ⟨lw_r2, List.forall_mem_append.mpr ⟨lw_r3, lw_r4⟩⟩⟩
def RX0 : String := "TaskHouse$Business"
def TX0 : u_T := fun k => match k with
  | 0 => ("TaskHouse$Business", "steps", "I", false)
  | 1 => ("TaskHouse$Business", "dos", "I", false)
  | 2 => ("TaskHouse$Business", "boths", "I", false)
  | 3 => ("TaskHouse$Business", "length", "I", false)
  | 4 => ("TaskHouse$Business", "orders", "[I", true)
  | 5 => ("TaskHouse$Business", "subjects", "[I", true)
  | 6 => ("TaskHouse$Business", "numbers", "[I", true)
  | 7 => ("TaskHouse$Business", "targets", "[I", true)
  | 8 => ("TaskHouse$Business", "roles", "[I", true)
  | 9 => ("TaskHouse$Business", "hours", "[I", true)
  | 10 => ("TaskHouse$Business", "eyes", "[I", true)
  | _ => ("TaskHouse$Business", "places", "[I", true)
def tyX0 : Nat → FieldType := fun k => match k with
  | 0 => .int
  | 1 => .int
  | 2 => .int
  | 3 => .int
  | 4 => .array .int
  | 5 => .array .int
  | 6 => .array .int
  | 7 => .array .int
  | 8 => .array .int
  | 9 => .array .int
  | 10 => .array .int
  | _ => .array .int
abbrev wsX00 : List Cond := u_ws RX0 TX0 12
theorem nmX0 : ∀ a, a < 12 → ∀ b, b < 12 → a ≠ b → (TX0 a).2.1 ≠ (TX0 b).2.1 := by decide +kernel
theorem tyX0_ok : ∀ k, k < 12 → parseFieldDescriptor (TX0 k).2.2.1 = some (tyX0 k) := by decide +kernel
abbrev cX0_init : ByteArray := prog_2_method_1_code
def yX0_init : MethodName := ⟨RX0, "<init>", "()V"⟩
abbrev cX0_clear : ByteArray := prog_2_method_2_code
def yX0_clear : MethodName := ⟨RX0, "clear", "()V"⟩
abbrev cX0_add : ByteArray := prog_2_method_3_code
def yX0_add : MethodName := ⟨RX0, "add", "(IIII)I"⟩
abbrev cX0_addDo : ByteArray := prog_2_method_4_code
def yX0_addDo : MethodName := ⟨RX0, "addDo", "(III)V"⟩
abbrev cX0_addFork : ByteArray := prog_2_method_5_code
def yX0_addFork : MethodName := ⟨RX0, "addFork", "()I"⟩
abbrev cX0_aim : ByteArray := prog_2_method_6_code
def yX0_aim : MethodName := ⟨RX0, "aim", "(II)V"⟩
abbrev cX0_subjectAt : ByteArray := prog_2_method_7_code
def yX0_subjectAt : MethodName := ⟨RX0, "subjectAt", "(I)I"⟩
abbrev cX0_hasOrder : ByteArray := prog_2_method_8_code
def yX0_hasOrder : MethodName := ⟨RX0, "hasOrder", "(I)Z"⟩
abbrev cX0_roleOf : ByteArray := prog_2_method_9_code
def yX0_roleOf : MethodName := ⟨RX0, "roleOf", "(I)I"⟩
abbrev cX0_hoursOf : ByteArray := prog_2_method_10_code
def yX0_hoursOf : MethodName := ⟨RX0, "hoursOf", "(I)I"⟩
abbrev cX0_eyesOf : ByteArray := prog_2_method_11_code
def yX0_eyesOf : MethodName := ⟨RX0, "eyesOf", "(I)I"⟩
abbrev cX0_placeBehind : ByteArray := prog_2_method_12_code
def yX0_placeBehind : MethodName := ⟨RX0, "placeBehind", "(I)I"⟩
abbrev cX0_hasDo : ByteArray := prog_2_method_13_code
def yX0_hasDo : MethodName := ⟨RX0, "hasDo", "(I)Z"⟩
def RX1 : String := "TaskHouse$Calendar"
def TX1 : u_T := fun k => match k with
  | _ => ("", "", "", false)
def tyX1 : Nat → FieldType := fun k => match k with
  | _ => .int
abbrev wsX10 : List Cond := u_ws RX1 TX1 0
theorem nmX1 : ∀ a, a < 0 → ∀ b, b < 0 → a ≠ b → (TX1 a).2.1 ≠ (TX1 b).2.1 := by decide +kernel
theorem tyX1_ok : ∀ k, k < 0 → parseFieldDescriptor (TX1 k).2.2.1 = some (tyX1 k) := by decide +kernel
abbrev cX1_endOfWorkingHour : ByteArray := prog_3_method_2_code
def yX1_endOfWorkingHour : MethodName := ⟨RX1, "endOfWorkingHour", "(II)I"⟩
abbrev cX1_workingHoursBefore : ByteArray := prog_3_method_3_code
def yX1_workingHoursBefore : MethodName := ⟨RX1, "workingHoursBefore", "(I)I"⟩
def RX2 : String := "TaskHouse$Persons"
def TX2 : u_T := fun k => match k with
  | 0 => ("TaskHouse$Persons", "count", "I", false)
  | 1 => ("TaskHouse$Persons", "roles", "[I", true)
  | 2 => ("TaskHouse$Persons", "loads", "[I", true)
  | 3 => ("TaskHouse$Persons", "claims", "[I", true)
  | 4 => ("TaskHouse$Persons", "finished", "[I", true)
  | 5 => ("TaskHouse$Persons", "deputies", "[I", true)
  | _ => ("TaskHouse$Persons", "gone", "[Z", true)
def tyX2 : Nat → FieldType := fun k => match k with
  | 0 => .int
  | 1 => .array .int
  | 2 => .array .int
  | 3 => .array .int
  | 4 => .array .int
  | 5 => .array .int
  | _ => .array .boolean
abbrev wsX20 : List Cond := u_ws RX2 TX2 7
theorem nmX2 : ∀ a, a < 7 → ∀ b, b < 7 → a ≠ b → (TX2 a).2.1 ≠ (TX2 b).2.1 := by decide +kernel
theorem tyX2_ok : ∀ k, k < 7 → parseFieldDescriptor (TX2 k).2.2.1 = some (tyX2 k) := by decide +kernel
abbrev cX2_init : ByteArray := prog_4_method_1_code
def yX2_init : MethodName := ⟨RX2, "<init>", "()V"⟩
abbrev cX2_has : ByteArray := prog_4_method_2_code
def yX2_has : MethodName := ⟨RX2, "has", "(I)Z"⟩
abbrev cX2_add : ByteArray := prog_4_method_3_code
def yX2_add : MethodName := ⟨RX2, "add", "(II)I"⟩
abbrev cX2_standInFor : ByteArray := prog_4_method_4_code
def yX2_standInFor : MethodName := ⟨RX2, "standInFor", "(I)I"⟩
abbrev cX2_rolesServed : ByteArray := prog_4_method_5_code
def yX2_rolesServed : MethodName := ⟨RX2, "rolesServed", "(I)I"⟩
abbrev cX2_hasRoom : ByteArray := prog_4_method_6_code
def yX2_hasRoom : MethodName := ⟨RX2, "hasRoom", "(I)Z"⟩
abbrev cX2_dropClaim : ByteArray := prog_4_method_7_code
def yX2_dropClaim : MethodName := ⟨RX2, "dropClaim", "(I)V"⟩
abbrev cX2_countFinished : ByteArray := prog_4_method_8_code
def yX2_countFinished : MethodName := ⟨RX2, "countFinished", "(I)V"⟩
def RX3 : String := "TaskHouse$Reader"
def TX3 : u_T := fun k => match k with
  | 0 => ("TaskHouse$Reader", "tape", "LTaskHouse$Tape;", true)
  | 1 => ("TaskHouse$Reader", "faultKind", "I", false)
  | 2 => ("TaskHouse$Reader", "faultPlace", "I", false)
  | 3 => ("TaskHouse$Reader", "draft", "LTaskHouse$Business;", false)
  | 4 => ("TaskHouse$Reader", "complete", "Z", false)
  | 5 => ("TaskHouse$Reader", "told", "I", false)
  | 6 => ("TaskHouse$Reader", "names", "[I", true)
  | 7 => ("TaskHouse$Reader", "open", "I", false)
  | 8 => ("TaskHouse$Reader", "words", "[I", true)
  | 9 => ("TaskHouse$Reader", "heads", "[I", true)
  | 10 => ("TaskHouse$Reader", "firstEnds", "[I", true)
  | 11 => ("TaskHouse$Reader", "inSecond", "[Z", true)
  | 12 => ("TaskHouse$Reader", "firstHeld", "[Z", true)
  | _ => ("TaskHouse$Reader", "held", "[Z", true)
def tyX3 : Nat → FieldType := fun k => match k with
  | 0 => .object "TaskHouse$Tape"
  | 1 => .int
  | 2 => .int
  | 3 => .object "TaskHouse$Business"
  | 4 => .boolean
  | 5 => .int
  | 6 => .array .int
  | 7 => .int
  | 8 => .array .int
  | 9 => .array .int
  | 10 => .array .int
  | 11 => .array .boolean
  | 12 => .array .boolean
  | _ => .array .boolean
abbrev wsX30 : List Cond := u_ws RX3 TX3 14
theorem nmX3 : ∀ a, a < 14 → ∀ b, b < 14 → a ≠ b → (TX3 a).2.1 ≠ (TX3 b).2.1 := by decide +kernel
theorem tyX3_ok : ∀ k, k < 14 → parseFieldDescriptor (TX3 k).2.2.1 = some (tyX3 k) := by decide +kernel
abbrev cX3_init : ByteArray := prog_5_method_1_code
def yX3_init : MethodName := ⟨RX3, "<init>", "()V"⟩
abbrev cX3_read : ByteArray := prog_5_method_2_code
def yX3_read : MethodName := ⟨RX3, "read", "()LTaskHouse$Business;"⟩
abbrev cX3_begin : ByteArray := prog_5_method_3_code
def yX3_begin : MethodName := ⟨RX3, "begin", "()V"⟩
abbrev cX3_fail : ByteArray := prog_5_method_4_code
def yX3_fail : MethodName := ⟨RX3, "fail", "(I)V"⟩
abbrev cX3_readStep : ByteArray := prog_5_method_5_code
def yX3_readStep : MethodName := ⟨RX3, "readStep", "()V"⟩
abbrev cX3_readDo : ByteArray := prog_5_method_6_code
def yX3_readDo : MethodName := ⟨RX3, "readDo", "()V"⟩
abbrev cX3_readSet : ByteArray := prog_5_method_7_code
def yX3_readSet : MethodName := ⟨RX3, "readSet", "()V"⟩
abbrev cX3_readTest : ByteArray := prog_5_method_8_code
def yX3_readTest : MethodName := ⟨RX3, "readTest", "()I"⟩
abbrev cX3_readNewName : ByteArray := prog_5_method_9_code
def yX3_readNewName : MethodName := ⟨RX3, "readNewName", "()V"⟩
abbrev cX3_readEyes : ByteArray := prog_5_method_10_code
def yX3_readEyes : MethodName := ⟨RX3, "readEyes", "()I"⟩
abbrev cX3_doNamed : ByteArray := prog_5_method_11_code
def yX3_doNamed : MethodName := ⟨RX3, "doNamed", "(I)I"⟩
abbrev cX3_readField : ByteArray := prog_5_method_12_code
def yX3_readField : MethodName := ⟨RX3, "readField", "()I"⟩
abbrev cX3_readNumber : ByteArray := prog_5_method_13_code
def yX3_readNumber : MethodName := ⟨RX3, "readNumber", "(II)I"⟩
abbrev cX3_need : ByteArray := prog_5_method_14_code
def yX3_need : MethodName := ⟨RX3, "need", "(I)V"⟩
abbrev cX3_hold : ByteArray := prog_5_method_15_code
def yX3_hold : MethodName := ⟨RX3, "hold", "(Z)V"⟩
abbrev cX3_openSteps : ByteArray := prog_5_method_16_code
def yX3_openSteps : MethodName := ⟨RX3, "openSteps", "(II)V"⟩
abbrev cX3_closeSteps : ByteArray := prog_5_method_17_code
def yX3_closeSteps : MethodName := ⟨RX3, "closeSteps", "()V"⟩
abbrev cX3_closeAgain : ByteArray := prog_5_method_18_code
def yX3_closeAgain : MethodName := ⟨RX3, "closeAgain", "(I)V"⟩
abbrev cX3_turnToSecond : ByteArray := prog_5_method_19_code
def yX3_turnToSecond : MethodName := ⟨RX3, "turnToSecond", "(I)V"⟩
abbrev cX3_closeSecond : ByteArray := prog_5_method_20_code
def yX3_closeSecond : MethodName := ⟨RX3, "closeSecond", "(I)V"⟩
def RX4 : String := "TaskHouse$Run"
def TX4 : u_T := fun k => match k with
  | 0 => ("TaskHouse$Run", "number", "I", true)
  | 1 => ("TaskHouse$Run", "business", "LTaskHouse$Business;", true)
  | 2 => ("TaskHouse$Run", "fields", "[I", true)
  | 3 => ("TaskHouse$Run", "ways", "[I", true)
  | 4 => ("TaskHouse$Run", "doers", "[I", true)
  | 5 => ("TaskHouse$Run", "over", "Z", false)
  | _ => ("TaskHouse$Run", "waiting", "I", false)
def tyX4 : Nat → FieldType := fun k => match k with
  | 0 => .int
  | 1 => .object "TaskHouse$Business"
  | 2 => .array .int
  | 3 => .array .int
  | 4 => .array .int
  | 5 => .boolean
  | _ => .int
abbrev wsX40 : List Cond := u_ws RX4 TX4 7
theorem nmX4 : ∀ a, a < 7 → ∀ b, b < 7 → a ≠ b → (TX4 a).2.1 ≠ (TX4 b).2.1 := by decide +kernel
theorem tyX4_ok : ∀ k, k < 7 → parseFieldDescriptor (TX4 k).2.2.1 = some (tyX4 k) := by decide +kernel
abbrev cX4_init : ByteArray := prog_6_method_1_code
def yX4_init : MethodName := ⟨RX4, "<init>", "(ILTaskHouse$Business;)V"⟩
abbrev cX4_lastDoerOf : ByteArray := prog_6_method_2_code
def yX4_lastDoerOf : MethodName := ⟨RX4, "lastDoerOf", "(I)I"⟩
abbrev cX4_noteDoer : ByteArray := prog_6_method_3_code
def yX4_noteDoer : MethodName := ⟨RX4, "noteDoer", "(II)V"⟩
abbrev cX4_take : ByteArray := prog_6_method_4_code
def yX4_take : MethodName := ⟨RX4, "take", "(LTaskHouse$Walk;)V"⟩
def RX5 : String := "TaskHouse$Tape"
def TX5 : u_T := fun k => match k with
  | 0 => ("TaskHouse$Tape", "bytes", "[B", true)
  | 1 => ("TaskHouse$Tape", "length", "I", false)
  | 2 => ("TaskHouse$Tape", "kind", "I", false)
  | 3 => ("TaskHouse$Tape", "start", "I", false)
  | 4 => ("TaskHouse$Tape", "value", "I", false)
  | 5 => ("TaskHouse$Tape", "at", "I", false)
  | _ => ("TaskHouse$Tape", "wordKeys", "[I", true)
def tyX5 : Nat → FieldType := fun k => match k with
  | 0 => .array .byte
  | 1 => .int
  | 2 => .int
  | 3 => .int
  | 4 => .int
  | 5 => .int
  | _ => .array .int
abbrev wsX50 : List Cond := u_ws RX5 TX5 7
theorem nmX5 : ∀ a, a < 7 → ∀ b, b < 7 → a ≠ b → (TX5 a).2.1 ≠ (TX5 b).2.1 := by decide +kernel
theorem tyX5_ok : ∀ k, k < 7 → parseFieldDescriptor (TX5 k).2.2.1 = some (tyX5 k) := by decide +kernel
abbrev cX5_init : ByteArray := prog_7_method_1_code
def yX5_init : MethodName := ⟨RX5, "<init>", "()V"⟩
abbrev cX5_addFour : ByteArray := prog_7_method_2_code
def yX5_addFour : MethodName := ⟨RX5, "addFour", "(I)V"⟩
abbrev cX5_rewind : ByteArray := prog_7_method_3_code
def yX5_rewind : MethodName := ⟨RX5, "rewind", "()V"⟩
abbrev cX5_take : ByteArray := prog_7_method_4_code
def yX5_take : MethodName := ⟨RX5, "take", "()V"⟩
abbrev cX5_isTaskName : ByteArray := prog_7_method_5_code
def yX5_isTaskName : MethodName := ⟨RX5, "isTaskName", "()Z"⟩
abbrev cX5_letters : ByteArray := prog_7_method_6_code
def yX5_letters : MethodName := ⟨RX5, "letters", "()I"⟩
abbrev cX5_kindOfKey : ByteArray := prog_7_method_7_code
def yX5_kindOfKey : MethodName := ⟨RX5, "kindOfKey", "(I)I"⟩
abbrev cX5_byteAt : ByteArray := prog_7_method_8_code
def yX5_byteAt : MethodName := ⟨RX5, "byteAt", "(I)I"⟩
abbrev cX5_keyOf : ByteArray := prog_7_method_9_code
def yX5_keyOf : MethodName := ⟨RX5, "keyOf", "(Ljava/lang/String;)I"⟩
abbrev cX5_withLetter : ByteArray := prog_7_method_10_code
def yX5_withLetter : MethodName := ⟨RX5, "withLetter", "(II)I"⟩
abbrev cX5_signKind : ByteArray := prog_7_method_11_code
def yX5_signKind : MethodName := ⟨RX5, "signKind", "(I)I"⟩
abbrev cX5_isBlank : ByteArray := prog_7_method_12_code
def yX5_isBlank : MethodName := ⟨RX5, "isBlank", "(I)Z"⟩
abbrev cX5_isLetter : ByteArray := prog_7_method_13_code
def yX5_isLetter : MethodName := ⟨RX5, "isLetter", "(I)Z"⟩
abbrev cX5_isDigit : ByteArray := prog_7_method_14_code
def yX5_isDigit : MethodName := ⟨RX5, "isDigit", "(I)Z"⟩
def RX6 : String := "TaskHouse$Tasks"
def TX6 : u_T := fun k => match k with
  | 0 => ("TaskHouse$Tasks", "count", "I", false)
  | 1 => ("TaskHouse$Tasks", "runs", "[I", true)
  | 2 => ("TaskHouse$Tasks", "dos", "[I", true)
  | 3 => ("TaskHouse$Tasks", "roles", "[I", true)
  | 4 => ("TaskHouse$Tasks", "comeHours", "[I", true)
  | 5 => ("TaskHouse$Tasks", "dues", "[I", true)
  | 6 => ("TaskHouse$Tasks", "states", "[I", true)
  | 7 => ("TaskHouse$Tasks", "owners", "[I", true)
  | 8 => ("TaskHouse$Tasks", "doneHours", "[I", true)
  | _ => ("TaskHouse$Tasks", "byDue", "[I", true)
def tyX6 : Nat → FieldType := fun k => match k with
  | 0 => .int
  | 1 => .array .int
  | 2 => .array .int
  | 3 => .array .int
  | 4 => .array .int
  | 5 => .array .int
  | 6 => .array .int
  | 7 => .array .int
  | 8 => .array .int
  | _ => .array .int
abbrev wsX60 : List Cond := u_ws RX6 TX6 10
theorem nmX6 : ∀ a, a < 10 → ∀ b, b < 10 → a ≠ b → (TX6 a).2.1 ≠ (TX6 b).2.1 := by decide +kernel
theorem tyX6_ok : ∀ k, k < 10 → parseFieldDescriptor (TX6 k).2.2.1 = some (tyX6 k) := by decide +kernel
abbrev cX6_init : ByteArray := prog_8_method_1_code
def yX6_init : MethodName := ⟨RX6, "<init>", "()V"⟩
abbrev cX6_has : ByteArray := prog_8_method_2_code
def yX6_has : MethodName := ⟨RX6, "has", "(I)Z"⟩
abbrev cX6_isIn : ByteArray := prog_8_method_3_code
def yX6_isIn : MethodName := ⟨RX6, "isIn", "(II)Z"⟩
abbrev cX6_hasRoomFor : ByteArray := prog_8_method_4_code
def yX6_hasRoomFor : MethodName := ⟨RX6, "hasRoomFor", "(I)Z"⟩
abbrev cX6_add : ByteArray := prog_8_method_5_code
def yX6_add : MethodName := ⟨RX6, "add", "(IIIII)V"⟩
abbrev cX6_putByDue : ByteArray := prog_8_method_6_code
def yX6_putByDue : MethodName := ⟨RX6, "putByDue", "(I)V"⟩
abbrev cX6_isDueBehind : ByteArray := prog_8_method_7_code
def yX6_isDueBehind : MethodName := ⟨RX6, "isDueBehind", "(II)Z"⟩
abbrev cX6_give : ByteArray := prog_8_method_8_code
def yX6_give : MethodName := ⟨RX6, "give", "(II)V"⟩
abbrev cX6_reopen : ByteArray := prog_8_method_9_code
def yX6_reopen : MethodName := ⟨RX6, "reopen", "(I)V"⟩
abbrev cX6_reopenAllOf : ByteArray := prog_8_method_10_code
def yX6_reopenAllOf : MethodName := ⟨RX6, "reopenAllOf", "(I)V"⟩
abbrev cX6_finish : ByteArray := prog_8_method_11_code
def yX6_finish : MethodName := ⟨RX6, "finish", "(II)V"⟩
def RX7 : String := "TaskHouse$Walk"
def TX7 : u_T := fun k => match k with
  | 0 => ("TaskHouse$Walk", "fields", "[I", true)
  | 1 => ("TaskHouse$Walk", "ways", "[I", true)
  | 2 => ("TaskHouse$Walk", "came", "[I", true)
  | 3 => ("TaskHouse$Walk", "cameCount", "I", false)
  | 4 => ("TaskHouse$Walk", "over", "Z", false)
  | 5 => ("TaskHouse$Walk", "secondWays", "[I", true)
  | _ => ("TaskHouse$Walk", "secondCount", "I", false)
def tyX7 : Nat → FieldType := fun k => match k with
  | 0 => .array .int
  | 1 => .array .int
  | 2 => .array .int
  | 3 => .int
  | 4 => .boolean
  | 5 => .array .int
  | _ => .int
abbrev wsX70 : List Cond := u_ws RX7 TX7 7
theorem nmX7 : ∀ a, a < 7 → ∀ b, b < 7 → a ≠ b → (TX7 a).2.1 ≠ (TX7 b).2.1 := by decide +kernel
theorem tyX7_ok : ∀ k, k < 7 → parseFieldDescriptor (TX7 k).2.2.1 = some (tyX7 k) := by decide +kernel
abbrev cX7_init : ByteArray := prog_9_method_1_code
def yX7_init : MethodName := ⟨RX7, "<init>", "()V"⟩
abbrev cX7_startAnew : ByteArray := prog_9_method_2_code
def yX7_startAnew : MethodName := ⟨RX7, "startAnew", "()V"⟩
abbrev cX7_startFrom : ByteArray := prog_9_method_3_code
def yX7_startFrom : MethodName := ⟨RX7, "startFrom", "(LTaskHouse$Run;)V"⟩
abbrev cX7_forgetWhatCame : ByteArray := prog_9_method_4_code
def yX7_forgetWhatCame : MethodName := ⟨RX7, "forgetWhatCame", "()V"⟩
abbrev cX7_put : ByteArray := prog_9_method_5_code
def yX7_put : MethodName := ⟨RX7, "put", "(II)V"⟩
abbrev cX7_go : ByteArray := prog_9_method_6_code
def yX7_go : MethodName := ⟨RX7, "go", "(LTaskHouse$Business;I)V"⟩
abbrev cX7_follow : ByteArray := prog_9_method_7_code
def yX7_follow : MethodName := ⟨RX7, "follow", "(LTaskHouse$Business;I)I"⟩
abbrev cX7_nextSecondWay : ByteArray := prog_9_method_8_code
def yX7_nextSecondWay : MethodName := ⟨RX7, "nextSecondWay", "()I"⟩
abbrev cX7_comeTo : ByteArray := prog_9_method_9_code
def yX7_comeTo : MethodName := ⟨RX7, "comeTo", "(I)V"⟩
abbrev cX7_isBelow : ByteArray := prog_9_method_10_code
def yX7_isBelow : MethodName := ⟨RX7, "isBelow", "(II)Z"⟩
abbrev cX7_fork : ByteArray := prog_9_method_11_code
def yX7_fork : MethodName := ⟨RX7, "fork", "(II)V"⟩
abbrev cX7_endsLastWay : ByteArray := prog_9_method_12_code
def yX7_endsLastWay : MethodName := ⟨RX7, "endsLastWay", "(I)Z"⟩
def RX8 : String := "TaskHouse"
def TX8 : u_T := fun k => match k with
  | 0 => ("TaskHouse", "reader", "LTaskHouse$Reader;", true)
  | 1 => ("TaskHouse", "persons", "LTaskHouse$Persons;", true)
  | 2 => ("TaskHouse", "tasks", "LTaskHouse$Tasks;", true)
  | 3 => ("TaskHouse", "walk", "LTaskHouse$Walk;", true)
  | 4 => ("TaskHouse", "runs", "[LTaskHouse$Run;", true)
  | 5 => ("TaskHouse", "runCount", "I", false)
  | 6 => ("TaskHouse", "current", "LTaskHouse$Business;", false)
  | 7 => ("TaskHouse", "clock", "I", false)
  | 8 => ("TaskHouse", "latestFault", "I", false)
  | _ => ("TaskHouse", "latestPlace", "I", false)
def tyX8 : Nat → FieldType := fun k => match k with
  | 0 => .object "TaskHouse$Reader"
  | 1 => .object "TaskHouse$Persons"
  | 2 => .object "TaskHouse$Tasks"
  | 3 => .object "TaskHouse$Walk"
  | 4 => .array (.object "TaskHouse$Run")
  | 5 => .int
  | 6 => .object "TaskHouse$Business"
  | 7 => .int
  | 8 => .int
  | _ => .int
abbrev wsX80 : List Cond := u_ws RX8 TX8 10
theorem nmX8 : ∀ a, a < 10 → ∀ b, b < 10 → a ≠ b → (TX8 a).2.1 ≠ (TX8 b).2.1 := by decide +kernel
theorem tyX8_ok : ∀ k, k < 10 → parseFieldDescriptor (TX8 k).2.2.1 = some (tyX8 k) := by decide +kernel
abbrev cX8_init : ByteArray := prog_1_method_1_code
def yX8_init : MethodName := ⟨RX8, "<init>", "()V"⟩
abbrev cX8_feed : ByteArray := prog_1_method_2_code
def yX8_feed : MethodName := ⟨RX8, "feed", "(IIIII)I"⟩
abbrev cX8_end : ByteArray := prog_1_method_3_code
def yX8_end : MethodName := ⟨RX8, "end", "(I)I"⟩
abbrev cX8_business : ByteArray := prog_1_method_4_code
def yX8_business : MethodName := ⟨RX8, "business", "()I"⟩
abbrev cX8_fault : ByteArray := prog_1_method_5_code
def yX8_fault : MethodName := ⟨RX8, "fault", "(I)I"⟩
abbrev cX8_person : ByteArray := prog_1_method_6_code
def yX8_person : MethodName := ⟨RX8, "person", "(II)I"⟩
abbrev cX8_deputy : ByteArray := prog_1_method_7_code
def yX8_deputy : MethodName := ⟨RX8, "deputy", "(II)Z"⟩
abbrev cX8_away : ByteArray := prog_1_method_8_code
def yX8_away : MethodName := ⟨RX8, "away", "(IZ)Z"⟩
abbrev cX8_stands : ByteArray := prog_1_method_9_code
def yX8_stands : MethodName := ⟨RX8, "stands", "(I)I"⟩
abbrev cX8_hour : ByteArray := prog_1_method_10_code
def yX8_hour : MethodName := ⟨RX8, "hour", "(I)Z"⟩
abbrev cX8_run : ByteArray := prog_1_method_11_code
def yX8_run : MethodName := ⟨RX8, "run", "()I"⟩
abbrev cX8_runOf : ByteArray := prog_1_method_12_code
def yX8_runOf : MethodName := ⟨RX8, "runOf", "(II)I"⟩
abbrev cX8_task : ByteArray := prog_1_method_13_code
def yX8_task : MethodName := ⟨RX8, "task", "(II)I"⟩
abbrev cX8_may : ByteArray := prog_1_method_14_code
def yX8_may : MethodName := ⟨RX8, "may", "(II)I"⟩
abbrev cX8_claim : ByteArray := prog_1_method_15_code
def yX8_claim : MethodName := ⟨RX8, "claim", "(II)I"⟩
abbrev cX8_giveBack : ByteArray := prog_1_method_16_code
def yX8_giveBack : MethodName := ⟨RX8, "giveBack", "(I)Z"⟩
abbrev cX8_done : ByteArray := prog_1_method_17_code
def yX8_done : MethodName := ⟨RX8, "done", "(III)I"⟩
abbrev cX8_list : ByteArray := prog_1_method_18_code
def yX8_list : MethodName := ⟨RX8, "list", "(I)I"⟩
abbrev cX8_listed : ByteArray := prog_1_method_19_code
def yX8_listed : MethodName := ⟨RX8, "listed", "(II)I"⟩
abbrev cX8_offer : ByteArray := prog_1_method_20_code
def yX8_offer : MethodName := ⟨RX8, "offer", "(I)I"⟩
abbrev cX8_late : ByteArray := prog_1_method_21_code
def yX8_late : MethodName := ⟨RX8, "late", "()I"⟩
abbrev cX8_personOf : ByteArray := prog_1_method_22_code
def yX8_personOf : MethodName := ⟨RX8, "personOf", "(II)I"⟩
abbrev cX8_due : ByteArray := prog_1_method_23_code
def yX8_due : MethodName := ⟨RX8, "due", "(II)I"⟩
abbrev cX8_about : ByteArray := prog_1_method_24_code
def yX8_about : MethodName := ⟨RX8, "about", "(I)I"⟩
abbrev cX8_runAt : ByteArray := prog_1_method_25_code
def yX8_runAt : MethodName := ⟨RX8, "runAt", "(I)LTaskHouse$Run;"⟩
abbrev cX8_isListed : ByteArray := prog_1_method_26_code
def yX8_isListed : MethodName := ⟨RX8, "isListed", "(III)Z"⟩
abbrev cX8_isAllowed : ByteArray := prog_1_method_27_code
def yX8_isAllowed : MethodName := ⟨RX8, "isAllowed", "(III)Z"⟩
abbrev cX8_finishTask : ByteArray := prog_1_method_28_code
def yX8_finishTask : MethodName := ⟨RX8, "finishTask", "(LTaskHouse$Run;I)V"⟩
abbrev cX8_keepWalk : ByteArray := prog_1_method_29_code
def yX8_keepWalk : MethodName := ⟨RX8, "keepWalk", "(LTaskHouse$Run;)V"⟩
def RX9 : String := "TaskHouseModel"
def TX9 : u_T := fun k => match k with
  | 0 => ("TaskHouseModel", "tape", "[B", true)
  | 1 => ("TaskHouseModel", "taped", "I", false)
  | 2 => ("TaskHouseModel", "at", "I", false)
  | 3 => ("TaskHouseModel", "token", "I", false)
  | 4 => ("TaskHouseModel", "sort", "I", false)
  | 5 => ("TaskHouseModel", "told", "J", false)
  | 6 => ("TaskHouseModel", "letters", "I", false)
  | 7 => ("TaskHouseModel", "wrong", "I", false)
  | 8 => ("TaskHouseModel", "wrongAt", "I", false)
  | 9 => ("TaskHouseModel", "fault", "I", false)
  | 10 => ("TaskHouseModel", "faultAt", "I", false)
  | 11 => ("TaskHouseModel", "newSteps", "I", false)
  | 12 => ("TaskHouseModel", "newDos", "I", false)
  | 13 => ("TaskHouseModel", "newForks", "I", false)
  | 14 => ("TaskHouseModel", "newCode", "I", false)
  | 15 => ("TaskHouseModel", "newOrder", "[I", true)
  | 16 => ("TaskHouseModel", "newA", "[I", true)
  | 17 => ("TaskHouseModel", "newB", "[I", true)
  | 18 => ("TaskHouseModel", "newTo", "[I", true)
  | 19 => ("TaskHouseModel", "newName", "[J", true)
  | 20 => ("TaskHouseModel", "newRole", "[I", true)
  | 21 => ("TaskHouseModel", "newDue", "[I", true)
  | 22 => ("TaskHouseModel", "newEyes", "[I", true)
  | 23 => ("TaskHouseModel", "steps", "I", false)
  | 24 => ("TaskHouseModel", "dos", "I", false)
  | 25 => ("TaskHouseModel", "codes", "I", false)
  | 26 => ("TaskHouseModel", "order", "[I", true)
  | 27 => ("TaskHouseModel", "orderA", "[I", true)
  | 28 => ("TaskHouseModel", "orderB", "[I", true)
  | 29 => ("TaskHouseModel", "orderTo", "[I", true)
  | 30 => ("TaskHouseModel", "role", "[I", true)
  | 31 => ("TaskHouseModel", "dueIn", "[I", true)
  | 32 => ("TaskHouseModel", "eyes", "[I", true)
  | 33 => ("TaskHouseModel", "deep", "I", false)
  | 34 => ("TaskHouseModel", "open", "[I", true)
  | 35 => ("TaskHouseModel", "openAt", "[I", true)
  | 36 => ("TaskHouseModel", "openField", "[I", true)
  | 37 => ("TaskHouseModel", "openNumber", "[I", true)
  | 38 => ("TaskHouseModel", "hasDo", "[Z", true)
  | 39 => ("TaskHouseModel", "firstHas", "[Z", true)
  | 40 => ("TaskHouseModel", "runs", "I", false)
  | 41 => ("TaskHouseModel", "runCodes", "[I", true)
  | 42 => ("TaskHouseModel", "runOrder", "[I", true)
  | 43 => ("TaskHouseModel", "runA", "[I", true)
  | 44 => ("TaskHouseModel", "runB", "[I", true)
  | 45 => ("TaskHouseModel", "runTo", "[I", true)
  | 46 => ("TaskHouseModel", "runRole", "[I", true)
  | 47 => ("TaskHouseModel", "runDue", "[I", true)
  | 48 => ("TaskHouseModel", "runEyes", "[I", true)
  | 49 => ("TaskHouseModel", "field", "[I", true)
  | 50 => ("TaskHouseModel", "ended", "[I", true)
  | 51 => ("TaskHouseModel", "isOver", "[Z", true)
  | 52 => ("TaskHouseModel", "hadField", "[I", true)
  | 53 => ("TaskHouseModel", "hadEnded", "[I", true)
  | 54 => ("TaskHouseModel", "clock", "I", false)
  | 55 => ("TaskHouseModel", "tasks", "I", false)
  | 56 => ("TaskHouseModel", "taskRun", "[I", true)
  | 57 => ("TaskHouseModel", "taskDo", "[I", true)
  | 58 => ("TaskHouseModel", "taskAt", "[I", true)
  | 59 => ("TaskHouseModel", "taskCame", "[I", true)
  | 60 => ("TaskHouseModel", "taskDue", "[I", true)
  | 61 => ("TaskHouseModel", "taskState", "[I", true)
  | 62 => ("TaskHouseModel", "taskBy", "[I", true)
  | 63 => ("TaskHouseModel", "taskDone", "[I", true)
  | 64 => ("TaskHouseModel", "people", "I", false)
  | 65 => ("TaskHouseModel", "roles", "[I", true)
  | 66 => ("TaskHouseModel", "load", "[I", true)
  | 67 => ("TaskHouseModel", "deputy", "[I", true)
  | 68 => ("TaskHouseModel", "isAway", "[Z", true)
  | 69 => ("TaskHouseModel", "pile", "[I", true)
  | 70 => ("TaskHouseModel", "doneAs", "[I", true)
  | _ => ("TaskHouseModel", "doneMany", "I", false)
def tyX9 : Nat → FieldType := fun k => match k with
  | 0 => .array .byte
  | 1 => .int
  | 2 => .int
  | 3 => .int
  | 4 => .int
  | 5 => .long
  | 6 => .int
  | 7 => .int
  | 8 => .int
  | 9 => .int
  | 10 => .int
  | 11 => .int
  | 12 => .int
  | 13 => .int
  | 14 => .int
  | 15 => .array .int
  | 16 => .array .int
  | 17 => .array .int
  | 18 => .array .int
  | 19 => .array .long
  | 20 => .array .int
  | 21 => .array .int
  | 22 => .array .int
  | 23 => .int
  | 24 => .int
  | 25 => .int
  | 26 => .array .int
  | 27 => .array .int
  | 28 => .array .int
  | 29 => .array .int
  | 30 => .array .int
  | 31 => .array .int
  | 32 => .array .int
  | 33 => .int
  | 34 => .array .int
  | 35 => .array .int
  | 36 => .array .int
  | 37 => .array .int
  | 38 => .array .boolean
  | 39 => .array .boolean
  | 40 => .int
  | 41 => .array .int
  | 42 => .array .int
  | 43 => .array .int
  | 44 => .array .int
  | 45 => .array .int
  | 46 => .array .int
  | 47 => .array .int
  | 48 => .array .int
  | 49 => .array .int
  | 50 => .array .int
  | 51 => .array .boolean
  | 52 => .array .int
  | 53 => .array .int
  | 54 => .int
  | 55 => .int
  | 56 => .array .int
  | 57 => .array .int
  | 58 => .array .int
  | 59 => .array .int
  | 60 => .array .int
  | 61 => .array .int
  | 62 => .array .int
  | 63 => .array .int
  | 64 => .int
  | 65 => .array .int
  | 66 => .array .int
  | 67 => .array .int
  | 68 => .array .boolean
  | 69 => .array .int
  | 70 => .array .int
  | _ => .int
abbrev wsX90 : List Cond := u_ws RX9 TX9 72
theorem nmX9 : ∀ a, a < 72 → ∀ b, b < 72 → a ≠ b → (TX9 a).2.1 ≠ (TX9 b).2.1 := by decide +kernel
theorem tyX9_ok : ∀ k, k < 72 → parseFieldDescriptor (TX9 k).2.2.1 = some (tyX9 k) := by decide +kernel
abbrev cX9_init : ByteArray := prog_11_method_1_code
def yX9_init : MethodName := ⟨RX9, "<init>", "()V"⟩
abbrev cX9_in : ByteArray := prog_11_method_2_code
def yX9_in : MethodName := ⟨RX9, "in", "(JJJ)Z"⟩
abbrev cX9_put : ByteArray := prog_11_method_3_code
def yX9_put : MethodName := ⟨RX9, "put", "(I)V"⟩
abbrev cX9_feed : ByteArray := prog_11_method_4_code
def yX9_feed : MethodName := ⟨RX9, "feed", "(IIIII)I"⟩
abbrev cX9_end : ByteArray := prog_11_method_5_code
def yX9_end : MethodName := ⟨RX9, "end", "(I)I"⟩
abbrev cX9_isWell : ByteArray := prog_11_method_6_code
def yX9_isWell : MethodName := ⟨RX9, "isWell", "()Z"⟩
abbrev cX9_fails : ByteArray := prog_11_method_7_code
def yX9_fails : MethodName := ⟨RX9, "fails", "(I)V"⟩
abbrev cX9_wordOf : ByteArray := prog_11_method_8_code
def yX9_wordOf : MethodName := ⟨RX9, "wordOf", "(I)I"⟩
abbrev cX9_next : ByteArray := prog_11_method_9_code
def yX9_next : MethodName := ⟨RX9, "next", "(I)V"⟩
abbrev cX9_isSign : ByteArray := prog_11_method_10_code
def yX9_isSign : MethodName := ⟨RX9, "isSign", "(I)Z"⟩
abbrev cX9_isWord : ByteArray := prog_11_method_11_code
def yX9_isWord : MethodName := ⟨RX9, "isWord", "(I)Z"⟩
abbrev cX9_takes : ByteArray := prog_11_method_12_code
def yX9_takes : MethodName := ⟨RX9, "takes", "(II)V"⟩
abbrev cX9_takesWord : ByteArray := prog_11_method_13_code
def yX9_takesWord : MethodName := ⟨RX9, "takesWord", "(II)V"⟩
abbrev cX9_number : ByteArray := prog_11_method_14_code
def yX9_number : MethodName := ⟨RX9, "number", "(III)I"⟩
abbrev cX9_fieldOf : ByteArray := prog_11_method_15_code
def yX9_fieldOf : MethodName := ⟨RX9, "fieldOf", "(I)I"⟩
abbrev cX9_emits : ByteArray := prog_11_method_16_code
def yX9_emits : MethodName := ⟨RX9, "emits", "(III)I"⟩
abbrev cX9_opens : ByteArray := prog_11_method_17_code
def yX9_opens : MethodName := ⟨RX9, "opens", "(IIIII)V"⟩
abbrev cX9_doNamed : ByteArray := prog_11_method_18_code
def yX9_doNamed : MethodName := ⟨RX9, "doNamed", "(J)I"⟩
abbrev cX9_aDo : ByteArray := prog_11_method_19_code
def yX9_aDo : MethodName := ⟨RX9, "aDo", "(I)V"⟩
abbrev cX9_step : ByteArray := prog_11_method_20_code
def yX9_step : MethodName := ⟨RX9, "step", "(I)V"⟩
abbrev cX9_closes : ByteArray := prog_11_method_21_code
def yX9_closes : MethodName := ⟨RX9, "closes", "(I)V"⟩
abbrev cX9_business : ByteArray := prog_11_method_22_code
def yX9_business : MethodName := ⟨RX9, "business", "()I"⟩
abbrev cX9_holds : ByteArray := prog_11_method_23_code
def yX9_holds : MethodName := ⟨RX9, "holds", "()V"⟩
abbrev cX9_fault : ByteArray := prog_11_method_24_code
def yX9_fault : MethodName := ⟨RX9, "fault", "(I)I"⟩
abbrev cX9_isPerson : ByteArray := prog_11_method_25_code
def yX9_isPerson : MethodName := ⟨RX9, "isPerson", "(I)Z"⟩
abbrev cX9_isTask : ByteArray := prog_11_method_26_code
def yX9_isTask : MethodName := ⟨RX9, "isTask", "(I)Z"⟩
abbrev cX9_person : ByteArray := prog_11_method_27_code
def yX9_person : MethodName := ⟨RX9, "person", "(II)I"⟩
abbrev cX9_deputy : ByteArray := prog_11_method_28_code
def yX9_deputy : MethodName := ⟨RX9, "deputy", "(II)Z"⟩
abbrev cX9_away : ByteArray := prog_11_method_29_code
def yX9_away : MethodName := ⟨RX9, "away", "(IZ)Z"⟩
abbrev cX9_stands : ByteArray := prog_11_method_30_code
def yX9_stands : MethodName := ⟨RX9, "stands", "(I)I"⟩
abbrev cX9_hour : ByteArray := prog_11_method_31_code
def yX9_hour : MethodName := ⟨RX9, "hour", "(I)Z"⟩
abbrev cX9_isWorking : ByteArray := prog_11_method_32_code
def yX9_isWorking : MethodName := ⟨RX9, "isWorking", "(I)Z"⟩
abbrev cX9_behind : ByteArray := prog_11_method_33_code
def yX9_behind : MethodName := ⟨RX9, "behind", "(II)I"⟩
abbrev cX9_due : ByteArray := prog_11_method_34_code
def yX9_due : MethodName := ⟨RX9, "due", "(II)I"⟩
abbrev cX9_goes : ByteArray := prog_11_method_35_code
def yX9_goes : MethodName := ⟨RX9, "goes", "(II)Z"⟩
abbrev cX9_comes : ByteArray := prog_11_method_36_code
def yX9_comes : MethodName := ⟨RX9, "comes", "(III)V"⟩
abbrev cX9_run : ByteArray := prog_11_method_37_code
def yX9_run : MethodName := ⟨RX9, "run", "()I"⟩
abbrev cX9_runOf : ByteArray := prog_11_method_38_code
def yX9_runOf : MethodName := ⟨RX9, "runOf", "(II)I"⟩
abbrev cX9_task : ByteArray := prog_11_method_39_code
def yX9_task : MethodName := ⟨RX9, "task", "(II)I"⟩
abbrev cX9_didLast : ByteArray := prog_11_method_40_code
def yX9_didLast : MethodName := ⟨RX9, "didLast", "(II)I"⟩
abbrev cX9_mayDo : ByteArray := prog_11_method_41_code
def yX9_mayDo : MethodName := ⟨RX9, "mayDo", "(II)Z"⟩
abbrev cX9_may : ByteArray := prog_11_method_42_code
def yX9_may : MethodName := ⟨RX9, "may", "(II)I"⟩
abbrev cX9_claims : ByteArray := prog_11_method_43_code
def yX9_claims : MethodName := ⟨RX9, "claims", "(I)I"⟩
abbrev cX9_claim : ByteArray := prog_11_method_44_code
def yX9_claim : MethodName := ⟨RX9, "claim", "(II)I"⟩
abbrev cX9_giveBack : ByteArray := prog_11_method_45_code
def yX9_giveBack : MethodName := ⟨RX9, "giveBack", "(I)Z"⟩
abbrev cX9_done : ByteArray := prog_11_method_46_code
def yX9_done : MethodName := ⟨RX9, "done", "(III)I"⟩
abbrev cX9_isListed : ByteArray := prog_11_method_47_code
def yX9_isListed : MethodName := ⟨RX9, "isListed", "(II)Z"⟩
abbrev cX9_list : ByteArray := prog_11_method_48_code
def yX9_list : MethodName := ⟨RX9, "list", "(I)I"⟩
abbrev cX9_listed : ByteArray := prog_11_method_49_code
def yX9_listed : MethodName := ⟨RX9, "listed", "(II)I"⟩
abbrev cX9_offer : ByteArray := prog_11_method_50_code
def yX9_offer : MethodName := ⟨RX9, "offer", "(I)I"⟩
abbrev cX9_late : ByteArray := prog_11_method_51_code
def yX9_late : MethodName := ⟨RX9, "late", "()I"⟩
abbrev cX9_personOf : ByteArray := prog_11_method_52_code
def yX9_personOf : MethodName := ⟨RX9, "personOf", "(II)I"⟩
abbrev cX9_about : ByteArray := prog_11_method_53_code
def yX9_about : MethodName := ⟨RX9, "about", "(I)I"⟩
def RJ9 : String := "java/lang/Math"
def TJ9 : u_T := fun k => match k with
  | _ => ("", "", "", false)
def tyJ9 : Nat → FieldType := fun k => match k with
  | _ => .int
abbrev wsJ90 : List Cond := u_ws RJ9 TJ9 0
theorem nmJ9 : ∀ a, a < 0 → ∀ b, b < 0 → a ≠ b → (TJ9 a).2.1 ≠ (TJ9 b).2.1 := by decide +kernel
theorem tyJ9_ok : ∀ k, k < 0 → parseFieldDescriptor (TJ9 k).2.2.1 = some (tyJ9 k) := by decide +kernel
abbrev cJ9_max_7cf53 : ByteArray := prog_12_method_65_code
def yJ9_max_7cf53 : MethodName := ⟨RJ9, "max", "(II)I"⟩
abbrev cJ9_min_7cf53 : ByteArray := prog_12_method_69_code
def yJ9_min_7cf53 : MethodName := ⟨RJ9, "min", "(II)I"⟩
def RJ0 : String := "java/lang/String"
def TJ0 : u_T := fun k => match k with
  | _ => ("", "", "", false)
def tyJ0 : Nat → FieldType := fun k => match k with
  | _ => .int
abbrev wsJ00 : List Cond := u_ws RJ0 TJ0 0
theorem nmJ0 : ∀ a, a < 0 → ∀ b, b < 0 → a ≠ b → (TJ0 a).2.1 ≠ (TJ0 b).2.1 := by decide +kernel
theorem tyJ0_ok : ∀ k, k < 0 → parseFieldDescriptor (TJ0 k).2.2.1 = some (tyJ0 k) := by decide +kernel
abbrev cJ0_length_8abf5 : ByteArray := prog_13_method_54_code
def yJ0_length_8abf5 : MethodName := ⟨RJ0, "length", "()I"⟩
abbrev cJ0_charAt_5068e : ByteArray := prog_13_method_56_code
def yJ0_charAt_5068e : MethodName := ⟨RJ0, "charAt", "(I)C"⟩
abbrev cJ0_coder_7d493 : ByteArray := prog_13_method_152_code
def yJ0_coder_7d493 : MethodName := ⟨RJ0, "coder", "()B"⟩
abbrev cJ0_isLatin1_aae02 : ByteArray := prog_13_method_154_code
def yJ0_isLatin1_aae02 : MethodName := ⟨RJ0, "isLatin1", "()Z"⟩
abbrev cJ0_checkIndex_df160 : ByteArray := prog_13_method_155_code
def yJ0_checkIndex_df160 : MethodName := ⟨RJ0, "checkIndex", "(II)V"⟩
def RJ1 : String := "java/lang/StringLatin1"
def TJ1 : u_T := fun k => match k with
  | _ => ("", "", "", false)
def tyJ1 : Nat → FieldType := fun k => match k with
  | _ => .int
abbrev wsJ10 : List Cond := u_ws RJ1 TJ1 0
theorem nmJ1 : ∀ a, a < 0 → ∀ b, b < 0 → a ≠ b → (TJ1 a).2.1 ≠ (TJ1 b).2.1 := by decide +kernel
theorem tyJ1_ok : ∀ k, k < 0 → parseFieldDescriptor (TJ1 k).2.2.1 = some (tyJ1 k) := by decide +kernel
abbrev cJ1_charAt_3b067 : ByteArray := prog_14_method_2_code
def yJ1_charAt_3b067 : MethodName := ⟨RJ1, "charAt", "([BI)C"⟩
def RJ2 : String := "java/lang/StringUTF16"
def TJ2 : u_T := fun k => match k with
  | _ => ("", "", "", false)
def tyJ2 : Nat → FieldType := fun k => match k with
  | _ => .int
abbrev wsJ20 : List Cond := u_ws RJ2 TJ2 0
theorem nmJ2 : ∀ a, a < 0 → ∀ b, b < 0 → a ≠ b → (TJ2 a).2.1 ≠ (TJ2 b).2.1 := by decide +kernel
theorem tyJ2_ok : ∀ k, k < 0 → parseFieldDescriptor (TJ2 k).2.2.1 = some (tyJ2 k) := by decide +kernel
abbrev cJ2_getChar_3b067 : ByteArray := prog_15_method_5_code
def yJ2_getChar_3b067 : MethodName := ⟨RJ2, "getChar", "([BI)C"⟩
abbrev cJ2_length_9d52b : ByteArray := prog_15_method_6_code
def yJ2_length_9d52b : MethodName := ⟨RJ2, "length", "([B)I"⟩
abbrev cJ2_charAt_3b067 : ByteArray := prog_15_method_83_code
def yJ2_charAt_3b067 : MethodName := ⟨RJ2, "charAt", "([BI)C"⟩
abbrev cJ2_checkIndex_2214a : ByteArray := prog_15_method_91_code
def yJ2_checkIndex_2214a : MethodName := ⟨RJ2, "checkIndex", "(I[B)V"⟩
def RJ10 : String := "java/lang/System"
def TJ10 : u_T := fun k => match k with
  | _ => ("", "", "", false)
def tyJ10 : Nat → FieldType := fun k => match k with
  | _ => .int
abbrev wsJ100 : List Cond := u_ws RJ10 TJ10 0
theorem nmJ10 : ∀ a, a < 0 → ∀ b, b < 0 → a ≠ b → (TJ10 a).2.1 ≠ (TJ10 b).2.1 := by decide +kernel
theorem tyJ10_ok : ∀ k, k < 0 → parseFieldDescriptor (TJ10 k).2.2.1 = some (tyJ10 k) := by decide +kernel
def RJ3 : String := "jdk/internal/util/Preconditions"
def TJ3 : u_T := fun k => match k with
  | _ => ("", "", "", false)
def tyJ3 : Nat → FieldType := fun k => match k with
  | _ => .int
abbrev wsJ30 : List Cond := u_ws RJ3 TJ3 0
theorem nmJ3 : ∀ a, a < 0 → ∀ b, b < 0 → a ≠ b → (TJ3 a).2.1 ≠ (TJ3 b).2.1 := by decide +kernel
theorem tyJ3_ok : ∀ k, k < 0 → parseFieldDescriptor (TJ3 k).2.2.1 = some (tyJ3 k) := by decide +kernel
abbrev cJ3_checkIndex_8e157 : ByteArray := prog_17_method_11_code
def yJ3_checkIndex_8e157 : MethodName := ⟨RJ3, "checkIndex", "(IILjava/util/function/BiFunction;)I"⟩
def RL : String := "TaskHouseLaw"
abbrev cL_law : ByteArray := code
def yL_law : MethodName := ⟨RL, "law", "([I)Z"⟩
end
section
theorem dX0_init_0 : decode cX0_init 0 = .ok (.aload_n 0, 1) := by decide +kernel
theorem dX0_init_1 : decode cX0_init 1 = .ok (.invokespecial 3, 3) := by decide +kernel
theorem dX0_init_4 : decode cX0_init 4 = .ok (.aload_n 0, 1) := by decide +kernel
theorem dX0_init_5 : decode cX0_init 5 = .ok (.iconst 0, 1) := by decide +kernel
theorem dX0_init_6 : decode cX0_init 6 = .ok (.putfield 9, 3) := by decide +kernel
theorem dX0_init_9 : decode cX0_init 9 = .ok (.aload_n 0, 1) := by decide +kernel
theorem dX0_init_10 : decode cX0_init 10 = .ok (.iconst 0, 1) := by decide +kernel
theorem dX0_init_11 : decode cX0_init 11 = .ok (.putfield 15, 3) := by decide +kernel
theorem dX0_init_14 : decode cX0_init 14 = .ok (.aload_n 0, 1) := by decide +kernel
theorem dX0_init_15 : decode cX0_init 15 = .ok (.iconst 0, 1) := by decide +kernel
theorem dX0_init_16 : decode cX0_init 16 = .ok (.putfield 18, 3) := by decide +kernel
theorem dX0_init_19 : decode cX0_init 19 = .ok (.aload_n 0, 1) := by decide +kernel
theorem dX0_init_20 : decode cX0_init 20 = .ok (.iconst 0, 1) := by decide +kernel
theorem dX0_init_21 : decode cX0_init 21 = .ok (.putfield 21, 3) := by decide +kernel
theorem dX0_init_24 : decode cX0_init 24 = .ok (.aload_n 0, 1) := by decide +kernel
theorem dX0_init_25 : decode cX0_init 25 = .ok (.bipush 121, 2) := by decide +kernel
theorem dX0_init_27 : decode cX0_init 27 = .ok (.newarray .int, 2) := by decide +kernel
theorem dX0_init_29 : decode cX0_init 29 = .ok (.putfield 24, 3) := by decide +kernel
theorem dX0_init_32 : decode cX0_init 32 = .ok (.aload_n 0, 1) := by decide +kernel
theorem dX0_init_33 : decode cX0_init 33 = .ok (.bipush 121, 2) := by decide +kernel
theorem dX0_init_35 : decode cX0_init 35 = .ok (.newarray .int, 2) := by decide +kernel
theorem dX0_init_37 : decode cX0_init 37 = .ok (.putfield 28, 3) := by decide +kernel
theorem dX0_init_40 : decode cX0_init 40 = .ok (.aload_n 0, 1) := by decide +kernel
theorem dX0_init_41 : decode cX0_init 41 = .ok (.bipush 121, 2) := by decide +kernel
theorem dX0_init_43 : decode cX0_init 43 = .ok (.newarray .int, 2) := by decide +kernel
theorem dX0_init_45 : decode cX0_init 45 = .ok (.putfield 31, 3) := by decide +kernel
theorem dX0_init_48 : decode cX0_init 48 = .ok (.aload_n 0, 1) := by decide +kernel
theorem dX0_init_49 : decode cX0_init 49 = .ok (.bipush 121, 2) := by decide +kernel
theorem dX0_init_51 : decode cX0_init 51 = .ok (.newarray .int, 2) := by decide +kernel
theorem dX0_init_53 : decode cX0_init 53 = .ok (.putfield 34, 3) := by decide +kernel
theorem dX0_init_56 : decode cX0_init 56 = .ok (.aload_n 0, 1) := by decide +kernel
theorem dX0_init_57 : decode cX0_init 57 = .ok (.bipush 40, 2) := by decide +kernel
theorem dX0_init_59 : decode cX0_init 59 = .ok (.newarray .int, 2) := by decide +kernel
theorem dX0_init_61 : decode cX0_init 61 = .ok (.putfield 37, 3) := by decide +kernel
theorem dX0_init_64 : decode cX0_init 64 = .ok (.aload_n 0, 1) := by decide +kernel
theorem dX0_init_65 : decode cX0_init 65 = .ok (.bipush 40, 2) := by decide +kernel
theorem dX0_init_67 : decode cX0_init 67 = .ok (.newarray .int, 2) := by decide +kernel
theorem dX0_init_69 : decode cX0_init 69 = .ok (.putfield 40, 3) := by decide +kernel
theorem dX0_init_72 : decode cX0_init 72 = .ok (.aload_n 0, 1) := by decide +kernel
theorem dX0_init_73 : decode cX0_init 73 = .ok (.bipush 40, 2) := by decide +kernel
theorem dX0_init_75 : decode cX0_init 75 = .ok (.newarray .int, 2) := by decide +kernel
theorem dX0_init_77 : decode cX0_init 77 = .ok (.putfield 43, 3) := by decide +kernel
theorem dX0_init_80 : decode cX0_init 80 = .ok (.aload_n 0, 1) := by decide +kernel
theorem dX0_init_81 : decode cX0_init 81 = .ok (.bipush 40, 2) := by decide +kernel
theorem dX0_init_83 : decode cX0_init 83 = .ok (.newarray .int, 2) := by decide +kernel
theorem dX0_init_85 : decode cX0_init 85 = .ok (.putfield 46, 3) := by decide +kernel
theorem dX0_init_88 : decode cX0_init 88 = .ok (.return_, 1) := by decide +kernel
theorem dX0_clear_0 : decode cX0_clear 0 = .ok (.aload_n 0, 1) := by decide +kernel
theorem dX0_clear_1 : decode cX0_clear 1 = .ok (.iconst 0, 1) := by decide +kernel
theorem dX0_clear_2 : decode cX0_clear 2 = .ok (.putfield 9, 3) := by decide +kernel
theorem dX0_clear_5 : decode cX0_clear 5 = .ok (.aload_n 0, 1) := by decide +kernel
theorem dX0_clear_6 : decode cX0_clear 6 = .ok (.iconst 0, 1) := by decide +kernel
theorem dX0_clear_7 : decode cX0_clear 7 = .ok (.putfield 15, 3) := by decide +kernel
theorem dX0_clear_10 : decode cX0_clear 10 = .ok (.aload_n 0, 1) := by decide +kernel
theorem dX0_clear_11 : decode cX0_clear 11 = .ok (.iconst 0, 1) := by decide +kernel
theorem dX0_clear_12 : decode cX0_clear 12 = .ok (.putfield 18, 3) := by decide +kernel
theorem dX0_clear_15 : decode cX0_clear 15 = .ok (.aload_n 0, 1) := by decide +kernel
theorem dX0_clear_16 : decode cX0_clear 16 = .ok (.iconst 0, 1) := by decide +kernel
theorem dX0_clear_17 : decode cX0_clear 17 = .ok (.putfield 21, 3) := by decide +kernel
theorem dX0_clear_20 : decode cX0_clear 20 = .ok (.return_, 1) := by decide +kernel
theorem dX0_add_0 : decode cX0_add 0 = .ok (.aload_n 0, 1) := by decide +kernel
theorem dX0_add_1 : decode cX0_add 1 = .ok (.getfield 21, 3) := by decide +kernel
theorem dX0_add_4 : decode cX0_add 4 = .ok (.istore 5, 2) := by decide +kernel
theorem dX0_add_6 : decode cX0_add 6 = .ok (.iload 5, 2) := by decide +kernel
theorem dX0_add_8 : decode cX0_add 8 = .ok (.ifCond .lt 10, 3) := by decide +kernel
theorem dX0_add_11 : decode cX0_add 11 = .ok (.iload 5, 2) := by decide +kernel
theorem dX0_add_13 : decode cX0_add 13 = .ok (.bipush 121, 2) := by decide +kernel
theorem dX0_add_15 : decode cX0_add 15 = .ok (.if_icmp .lt 5, 3) := by decide +kernel
theorem dX0_add_18 : decode cX0_add 18 = .ok (.iconst (-1), 1) := by decide +kernel
theorem dX0_add_19 : decode cX0_add 19 = .ok (.ireturn, 1) := by decide +kernel
theorem dX0_add_20 : decode cX0_add 20 = .ok (.aload_n 0, 1) := by decide +kernel
theorem dX0_add_21 : decode cX0_add 21 = .ok (.getfield 24, 3) := by decide +kernel
theorem dX0_add_24 : decode cX0_add 24 = .ok (.iload 5, 2) := by decide +kernel
theorem dX0_add_26 : decode cX0_add 26 = .ok (.iload_n 1, 1) := by decide +kernel
theorem dX0_add_27 : decode cX0_add 27 = .ok (.iastore, 1) := by decide +kernel
theorem dX0_add_28 : decode cX0_add 28 = .ok (.aload_n 0, 1) := by decide +kernel
theorem dX0_add_29 : decode cX0_add 29 = .ok (.getfield 28, 3) := by decide +kernel
theorem dX0_add_32 : decode cX0_add 32 = .ok (.iload 5, 2) := by decide +kernel
theorem dX0_add_34 : decode cX0_add 34 = .ok (.iload_n 2, 1) := by decide +kernel
theorem dX0_add_35 : decode cX0_add 35 = .ok (.iastore, 1) := by decide +kernel
theorem dX0_add_36 : decode cX0_add 36 = .ok (.aload_n 0, 1) := by decide +kernel
theorem dX0_add_37 : decode cX0_add 37 = .ok (.getfield 31, 3) := by decide +kernel
theorem dX0_add_40 : decode cX0_add 40 = .ok (.iload 5, 2) := by decide +kernel
theorem dX0_add_42 : decode cX0_add 42 = .ok (.iload_n 3, 1) := by decide +kernel
theorem dX0_add_43 : decode cX0_add 43 = .ok (.iastore, 1) := by decide +kernel
theorem dX0_add_44 : decode cX0_add 44 = .ok (.aload_n 0, 1) := by decide +kernel
theorem dX0_add_45 : decode cX0_add 45 = .ok (.getfield 34, 3) := by decide +kernel
theorem dX0_add_48 : decode cX0_add 48 = .ok (.iload 5, 2) := by decide +kernel
theorem dX0_add_50 : decode cX0_add 50 = .ok (.iload 4, 2) := by decide +kernel
theorem dX0_add_52 : decode cX0_add 52 = .ok (.iastore, 1) := by decide +kernel
theorem dX0_add_53 : decode cX0_add 53 = .ok (.aload_n 0, 1) := by decide +kernel
theorem dX0_add_54 : decode cX0_add 54 = .ok (.dup, 1) := by decide +kernel
theorem dX0_add_55 : decode cX0_add 55 = .ok (.getfield 21, 3) := by decide +kernel
theorem dX0_add_58 : decode cX0_add 58 = .ok (.iconst 1, 1) := by decide +kernel
theorem dX0_add_59 : decode cX0_add 59 = .ok (.iadd, 1) := by decide +kernel
theorem dX0_add_60 : decode cX0_add 60 = .ok (.putfield 21, 3) := by decide +kernel
theorem dX0_add_63 : decode cX0_add 63 = .ok (.iload 5, 2) := by decide +kernel
theorem dX0_add_65 : decode cX0_add 65 = .ok (.ireturn, 1) := by decide +kernel
theorem dX0_addDo_0 : decode cX0_addDo 0 = .ok (.aload_n 0, 1) := by decide +kernel
theorem dX0_addDo_1 : decode cX0_addDo 1 = .ok (.getfield 15, 3) := by decide +kernel
theorem dX0_addDo_4 : decode cX0_addDo 4 = .ok (.istore 4, 2) := by decide +kernel
theorem dX0_addDo_6 : decode cX0_addDo 6 = .ok (.iload 4, 2) := by decide +kernel
theorem dX0_addDo_8 : decode cX0_addDo 8 = .ok (.ifCond .lt 10, 3) := by decide +kernel
theorem dX0_addDo_11 : decode cX0_addDo 11 = .ok (.iload 4, 2) := by decide +kernel
theorem dX0_addDo_13 : decode cX0_addDo 13 = .ok (.bipush 40, 2) := by decide +kernel
theorem dX0_addDo_15 : decode cX0_addDo 15 = .ok (.if_icmp .lt 4, 3) := by decide +kernel
theorem dX0_addDo_18 : decode cX0_addDo 18 = .ok (.return_, 1) := by decide +kernel
theorem dX0_addDo_19 : decode cX0_addDo 19 = .ok (.aload_n 0, 1) := by decide +kernel
theorem dX0_addDo_20 : decode cX0_addDo 20 = .ok (.getfield 37, 3) := by decide +kernel
theorem dX0_addDo_23 : decode cX0_addDo 23 = .ok (.iload 4, 2) := by decide +kernel
theorem dX0_addDo_25 : decode cX0_addDo 25 = .ok (.iload_n 1, 1) := by decide +kernel
theorem dX0_addDo_26 : decode cX0_addDo 26 = .ok (.iastore, 1) := by decide +kernel
theorem dX0_addDo_27 : decode cX0_addDo 27 = .ok (.aload_n 0, 1) := by decide +kernel
theorem dX0_addDo_28 : decode cX0_addDo 28 = .ok (.getfield 40, 3) := by decide +kernel
theorem dX0_addDo_31 : decode cX0_addDo 31 = .ok (.iload 4, 2) := by decide +kernel
theorem dX0_addDo_33 : decode cX0_addDo 33 = .ok (.iload_n 2, 1) := by decide +kernel
theorem dX0_addDo_34 : decode cX0_addDo 34 = .ok (.iastore, 1) := by decide +kernel
theorem dX0_addDo_35 : decode cX0_addDo 35 = .ok (.aload_n 0, 1) := by decide +kernel
theorem dX0_addDo_36 : decode cX0_addDo 36 = .ok (.getfield 43, 3) := by decide +kernel
theorem dX0_addDo_39 : decode cX0_addDo 39 = .ok (.iload 4, 2) := by decide +kernel
theorem dX0_addDo_41 : decode cX0_addDo 41 = .ok (.iload_n 3, 1) := by decide +kernel
theorem dX0_addDo_42 : decode cX0_addDo 42 = .ok (.iastore, 1) := by decide +kernel
theorem dX0_addDo_43 : decode cX0_addDo 43 = .ok (.aload_n 0, 1) := by decide +kernel
theorem dX0_addDo_44 : decode cX0_addDo 44 = .ok (.getfield 46, 3) := by decide +kernel
theorem dX0_addDo_47 : decode cX0_addDo 47 = .ok (.iload 4, 2) := by decide +kernel
theorem dX0_addDo_49 : decode cX0_addDo 49 = .ok (.aload_n 0, 1) := by decide +kernel
theorem dX0_addDo_50 : decode cX0_addDo 50 = .ok (.iconst 0, 1) := by decide +kernel
theorem dX0_addDo_51 : decode cX0_addDo 51 = .ok (.iload 4, 2) := by decide +kernel
theorem dX0_addDo_53 : decode cX0_addDo 53 = .ok (.iconst 0, 1) := by decide +kernel
theorem dX0_addDo_54 : decode cX0_addDo 54 = .ok (.iconst 0, 1) := by decide +kernel
theorem dX0_addDo_55 : decode cX0_addDo 55 = .ok (.invokevirtual 49, 3) := by decide +kernel
theorem dX0_addDo_58 : decode cX0_addDo 58 = .ok (.iastore, 1) := by decide +kernel
theorem dX0_addDo_59 : decode cX0_addDo 59 = .ok (.aload_n 0, 1) := by decide +kernel
theorem dX0_addDo_60 : decode cX0_addDo 60 = .ok (.dup, 1) := by decide +kernel
theorem dX0_addDo_61 : decode cX0_addDo 61 = .ok (.getfield 15, 3) := by decide +kernel
theorem dX0_addDo_64 : decode cX0_addDo 64 = .ok (.iconst 1, 1) := by decide +kernel
theorem dX0_addDo_65 : decode cX0_addDo 65 = .ok (.iadd, 1) := by decide +kernel
theorem dX0_addDo_66 : decode cX0_addDo 66 = .ok (.putfield 15, 3) := by decide +kernel
theorem dX0_addDo_69 : decode cX0_addDo 69 = .ok (.return_, 1) := by decide +kernel
theorem dX0_addFork_0 : decode cX0_addFork 0 = .ok (.aload_n 0, 1) := by decide +kernel
theorem dX0_addFork_1 : decode cX0_addFork 1 = .ok (.iconst 4, 1) := by decide +kernel
theorem dX0_addFork_2 : decode cX0_addFork 2 = .ok (.aload_n 0, 1) := by decide +kernel
theorem dX0_addFork_3 : decode cX0_addFork 3 = .ok (.getfield 18, 3) := by decide +kernel
theorem dX0_addFork_6 : decode cX0_addFork 6 = .ok (.iconst 0, 1) := by decide +kernel
theorem dX0_addFork_7 : decode cX0_addFork 7 = .ok (.iconst 0, 1) := by decide +kernel
theorem dX0_addFork_8 : decode cX0_addFork 8 = .ok (.invokevirtual 49, 3) := by decide +kernel
theorem dX0_addFork_11 : decode cX0_addFork 11 = .ok (.istore_n 1, 1) := by decide +kernel
theorem dX0_addFork_12 : decode cX0_addFork 12 = .ok (.aload_n 0, 1) := by decide +kernel
theorem dX0_addFork_13 : decode cX0_addFork 13 = .ok (.dup, 1) := by decide +kernel
theorem dX0_addFork_14 : decode cX0_addFork 14 = .ok (.getfield 18, 3) := by decide +kernel
theorem dX0_addFork_17 : decode cX0_addFork 17 = .ok (.iconst 1, 1) := by decide +kernel
theorem dX0_addFork_18 : decode cX0_addFork 18 = .ok (.iadd, 1) := by decide +kernel
theorem dX0_addFork_19 : decode cX0_addFork 19 = .ok (.putfield 18, 3) := by decide +kernel
theorem dX0_addFork_22 : decode cX0_addFork 22 = .ok (.iload_n 1, 1) := by decide +kernel
theorem dX0_addFork_23 : decode cX0_addFork 23 = .ok (.ireturn, 1) := by decide +kernel
theorem dX0_aim_0 : decode cX0_aim 0 = .ok (.aload_n 0, 1) := by decide +kernel
theorem dX0_aim_1 : decode cX0_aim 1 = .ok (.iload_n 1, 1) := by decide +kernel
theorem dX0_aim_2 : decode cX0_aim 2 = .ok (.invokevirtual 53, 3) := by decide +kernel
theorem dX0_aim_5 : decode cX0_aim 5 = .ok (.ifCond .eq 10, 3) := by decide +kernel
theorem dX0_aim_8 : decode cX0_aim 8 = .ok (.aload_n 0, 1) := by decide +kernel
theorem dX0_aim_9 : decode cX0_aim 9 = .ok (.getfield 34, 3) := by decide +kernel
theorem dX0_aim_12 : decode cX0_aim 12 = .ok (.iload_n 1, 1) := by decide +kernel
theorem dX0_aim_13 : decode cX0_aim 13 = .ok (.iload_n 2, 1) := by decide +kernel
theorem dX0_aim_14 : decode cX0_aim 14 = .ok (.iastore, 1) := by decide +kernel
theorem dX0_aim_15 : decode cX0_aim 15 = .ok (.return_, 1) := by decide +kernel
theorem dX0_subjectAt_0 : decode cX0_subjectAt 0 = .ok (.aload_n 0, 1) := by decide +kernel
theorem dX0_subjectAt_1 : decode cX0_subjectAt 1 = .ok (.iload_n 1, 1) := by decide +kernel
theorem dX0_subjectAt_2 : decode cX0_subjectAt 2 = .ok (.invokevirtual 53, 3) := by decide +kernel
theorem dX0_subjectAt_5 : decode cX0_subjectAt 5 = .ok (.ifCond .eq 12, 3) := by decide +kernel
theorem dX0_subjectAt_8 : decode cX0_subjectAt 8 = .ok (.aload_n 0, 1) := by decide +kernel
theorem dX0_subjectAt_9 : decode cX0_subjectAt 9 = .ok (.getfield 28, 3) := by decide +kernel
theorem dX0_subjectAt_12 : decode cX0_subjectAt 12 = .ok (.iload_n 1, 1) := by decide +kernel
theorem dX0_subjectAt_13 : decode cX0_subjectAt 13 = .ok (.iaload, 1) := by decide +kernel
theorem dX0_subjectAt_14 : decode cX0_subjectAt 14 = .ok (.goto 4, 3) := by decide +kernel
theorem dX0_subjectAt_17 : decode cX0_subjectAt 17 = .ok (.iconst 0, 1) := by decide +kernel
theorem dX0_subjectAt_18 : decode cX0_subjectAt 18 = .ok (.ireturn, 1) := by decide +kernel
theorem dX0_hasOrder_0 : decode cX0_hasOrder 0 = .ok (.iload_n 1, 1) := by decide +kernel
theorem dX0_hasOrder_1 : decode cX0_hasOrder 1 = .ok (.ifCond .lt 21, 3) := by decide +kernel
theorem dX0_hasOrder_4 : decode cX0_hasOrder 4 = .ok (.iload_n 1, 1) := by decide +kernel
theorem dX0_hasOrder_5 : decode cX0_hasOrder 5 = .ok (.aload_n 0, 1) := by decide +kernel
theorem dX0_hasOrder_6 : decode cX0_hasOrder 6 = .ok (.getfield 21, 3) := by decide +kernel
theorem dX0_hasOrder_9 : decode cX0_hasOrder 9 = .ok (.if_icmp .ge 13, 3) := by decide +kernel
theorem dX0_hasOrder_12 : decode cX0_hasOrder 12 = .ok (.iload_n 1, 1) := by decide +kernel
theorem dX0_hasOrder_13 : decode cX0_hasOrder 13 = .ok (.bipush 121, 2) := by decide +kernel
theorem dX0_hasOrder_15 : decode cX0_hasOrder 15 = .ok (.if_icmp .ge 7, 3) := by decide +kernel
theorem dX0_hasOrder_18 : decode cX0_hasOrder 18 = .ok (.iconst 1, 1) := by decide +kernel
theorem dX0_hasOrder_19 : decode cX0_hasOrder 19 = .ok (.goto 4, 3) := by decide +kernel
theorem dX0_hasOrder_22 : decode cX0_hasOrder 22 = .ok (.iconst 0, 1) := by decide +kernel
theorem dX0_hasOrder_23 : decode cX0_hasOrder 23 = .ok (.ireturn, 1) := by decide +kernel
theorem dX0_roleOf_0 : decode cX0_roleOf 0 = .ok (.aload_n 0, 1) := by decide +kernel
theorem dX0_roleOf_1 : decode cX0_roleOf 1 = .ok (.iload_n 1, 1) := by decide +kernel
theorem dX0_roleOf_2 : decode cX0_roleOf 2 = .ok (.invokevirtual 57, 3) := by decide +kernel
theorem dX0_roleOf_5 : decode cX0_roleOf 5 = .ok (.ifCond .eq 12, 3) := by decide +kernel
theorem dX0_roleOf_8 : decode cX0_roleOf 8 = .ok (.aload_n 0, 1) := by decide +kernel
theorem dX0_roleOf_9 : decode cX0_roleOf 9 = .ok (.getfield 37, 3) := by decide +kernel
theorem dX0_roleOf_12 : decode cX0_roleOf 12 = .ok (.iload_n 1, 1) := by decide +kernel
theorem dX0_roleOf_13 : decode cX0_roleOf 13 = .ok (.iaload, 1) := by decide +kernel
theorem dX0_roleOf_14 : decode cX0_roleOf 14 = .ok (.goto 4, 3) := by decide +kernel
theorem dX0_roleOf_17 : decode cX0_roleOf 17 = .ok (.iconst 0, 1) := by decide +kernel
theorem dX0_roleOf_18 : decode cX0_roleOf 18 = .ok (.ireturn, 1) := by decide +kernel
theorem dX0_hoursOf_0 : decode cX0_hoursOf 0 = .ok (.aload_n 0, 1) := by decide +kernel
theorem dX0_hoursOf_1 : decode cX0_hoursOf 1 = .ok (.iload_n 1, 1) := by decide +kernel
theorem dX0_hoursOf_2 : decode cX0_hoursOf 2 = .ok (.invokevirtual 57, 3) := by decide +kernel
theorem dX0_hoursOf_5 : decode cX0_hoursOf 5 = .ok (.ifCond .eq 12, 3) := by decide +kernel
theorem dX0_hoursOf_8 : decode cX0_hoursOf 8 = .ok (.aload_n 0, 1) := by decide +kernel
theorem dX0_hoursOf_9 : decode cX0_hoursOf 9 = .ok (.getfield 40, 3) := by decide +kernel
theorem dX0_hoursOf_12 : decode cX0_hoursOf 12 = .ok (.iload_n 1, 1) := by decide +kernel
theorem dX0_hoursOf_13 : decode cX0_hoursOf 13 = .ok (.iaload, 1) := by decide +kernel
theorem dX0_hoursOf_14 : decode cX0_hoursOf 14 = .ok (.goto 4, 3) := by decide +kernel
theorem dX0_hoursOf_17 : decode cX0_hoursOf 17 = .ok (.iconst 1, 1) := by decide +kernel
theorem dX0_hoursOf_18 : decode cX0_hoursOf 18 = .ok (.ireturn, 1) := by decide +kernel
theorem dX0_eyesOf_0 : decode cX0_eyesOf 0 = .ok (.aload_n 0, 1) := by decide +kernel
theorem dX0_eyesOf_1 : decode cX0_eyesOf 1 = .ok (.iload_n 1, 1) := by decide +kernel
theorem dX0_eyesOf_2 : decode cX0_eyesOf 2 = .ok (.invokevirtual 57, 3) := by decide +kernel
theorem dX0_eyesOf_5 : decode cX0_eyesOf 5 = .ok (.ifCond .eq 12, 3) := by decide +kernel
theorem dX0_eyesOf_8 : decode cX0_eyesOf 8 = .ok (.aload_n 0, 1) := by decide +kernel
theorem dX0_eyesOf_9 : decode cX0_eyesOf 9 = .ok (.getfield 43, 3) := by decide +kernel
theorem dX0_eyesOf_12 : decode cX0_eyesOf 12 = .ok (.iload_n 1, 1) := by decide +kernel
theorem dX0_eyesOf_13 : decode cX0_eyesOf 13 = .ok (.iaload, 1) := by decide +kernel
theorem dX0_eyesOf_14 : decode cX0_eyesOf 14 = .ok (.goto 4, 3) := by decide +kernel
theorem dX0_eyesOf_17 : decode cX0_eyesOf 17 = .ok (.iconst (-1), 1) := by decide +kernel
theorem dX0_eyesOf_18 : decode cX0_eyesOf 18 = .ok (.ireturn, 1) := by decide +kernel
theorem dX0_placeBehind_0 : decode cX0_placeBehind 0 = .ok (.aload_n 0, 1) := by decide +kernel
theorem dX0_placeBehind_1 : decode cX0_placeBehind 1 = .ok (.iload_n 1, 1) := by decide +kernel
theorem dX0_placeBehind_2 : decode cX0_placeBehind 2 = .ok (.invokevirtual 57, 3) := by decide +kernel
theorem dX0_placeBehind_5 : decode cX0_placeBehind 5 = .ok (.ifCond .eq 14, 3) := by decide +kernel
theorem dX0_placeBehind_8 : decode cX0_placeBehind 8 = .ok (.aload_n 0, 1) := by decide +kernel
theorem dX0_placeBehind_9 : decode cX0_placeBehind 9 = .ok (.getfield 46, 3) := by decide +kernel
theorem dX0_placeBehind_12 : decode cX0_placeBehind 12 = .ok (.iload_n 1, 1) := by decide +kernel
theorem dX0_placeBehind_13 : decode cX0_placeBehind 13 = .ok (.iaload, 1) := by decide +kernel
theorem dX0_placeBehind_14 : decode cX0_placeBehind 14 = .ok (.iconst 1, 1) := by decide +kernel
theorem dX0_placeBehind_15 : decode cX0_placeBehind 15 = .ok (.iadd, 1) := by decide +kernel
theorem dX0_placeBehind_16 : decode cX0_placeBehind 16 = .ok (.goto 4, 3) := by decide +kernel
theorem dX0_placeBehind_19 : decode cX0_placeBehind 19 = .ok (.iconst (-1), 1) := by decide +kernel
theorem dX0_placeBehind_20 : decode cX0_placeBehind 20 = .ok (.ireturn, 1) := by decide +kernel
theorem dX0_hasDo_0 : decode cX0_hasDo 0 = .ok (.iload_n 1, 1) := by decide +kernel
theorem dX0_hasDo_1 : decode cX0_hasDo 1 = .ok (.ifCond .lt 21, 3) := by decide +kernel
theorem dX0_hasDo_4 : decode cX0_hasDo 4 = .ok (.iload_n 1, 1) := by decide +kernel
theorem dX0_hasDo_5 : decode cX0_hasDo 5 = .ok (.aload_n 0, 1) := by decide +kernel
theorem dX0_hasDo_6 : decode cX0_hasDo 6 = .ok (.getfield 15, 3) := by decide +kernel
theorem dX0_hasDo_9 : decode cX0_hasDo 9 = .ok (.if_icmp .ge 13, 3) := by decide +kernel
theorem dX0_hasDo_12 : decode cX0_hasDo 12 = .ok (.iload_n 1, 1) := by decide +kernel
theorem dX0_hasDo_13 : decode cX0_hasDo 13 = .ok (.bipush 40, 2) := by decide +kernel
theorem dX0_hasDo_15 : decode cX0_hasDo 15 = .ok (.if_icmp .ge 7, 3) := by decide +kernel
theorem dX0_hasDo_18 : decode cX0_hasDo 18 = .ok (.iconst 1, 1) := by decide +kernel
theorem dX0_hasDo_19 : decode cX0_hasDo 19 = .ok (.goto 4, 3) := by decide +kernel
theorem dX0_hasDo_22 : decode cX0_hasDo 22 = .ok (.iconst 0, 1) := by decide +kernel
theorem dX0_hasDo_23 : decode cX0_hasDo 23 = .ok (.ireturn, 1) := by decide +kernel
theorem dX1_endOfWorkingHour_0 : decode cX1_endOfWorkingHour 0 = .ok (.iload_n 0, 1) := by decide +kernel
theorem dX1_endOfWorkingHour_1 : decode cX1_endOfWorkingHour 1 = .ok (.invokestatic 9, 3) := by decide +kernel
theorem dX1_endOfWorkingHour_4 : decode cX1_endOfWorkingHour 4 = .ok (.iload_n 1, 1) := by decide +kernel
theorem dX1_endOfWorkingHour_5 : decode cX1_endOfWorkingHour 5 = .ok (.iadd, 1) := by decide +kernel
theorem dX1_endOfWorkingHour_6 : decode cX1_endOfWorkingHour 6 = .ok (.iconst 1, 1) := by decide +kernel
theorem dX1_endOfWorkingHour_7 : decode cX1_endOfWorkingHour 7 = .ok (.isub, 1) := by decide +kernel
theorem dX1_endOfWorkingHour_8 : decode cX1_endOfWorkingHour 8 = .ok (.istore_n 2, 1) := by decide +kernel
theorem dX1_endOfWorkingHour_9 : decode cX1_endOfWorkingHour 9 = .ok (.iload_n 2, 1) := by decide +kernel
theorem dX1_endOfWorkingHour_10 : decode cX1_endOfWorkingHour 10 = .ok (.bipush 40, 2) := by decide +kernel
theorem dX1_endOfWorkingHour_12 : decode cX1_endOfWorkingHour 12 = .ok (.irem, 1) := by decide +kernel
theorem dX1_endOfWorkingHour_13 : decode cX1_endOfWorkingHour 13 = .ok (.istore_n 3, 1) := by decide +kernel
theorem dX1_endOfWorkingHour_14 : decode cX1_endOfWorkingHour 14 = .ok (.iload_n 2, 1) := by decide +kernel
theorem dX1_endOfWorkingHour_15 : decode cX1_endOfWorkingHour 15 = .ok (.bipush 40, 2) := by decide +kernel
theorem dX1_endOfWorkingHour_17 : decode cX1_endOfWorkingHour 17 = .ok (.idiv, 1) := by decide +kernel
theorem dX1_endOfWorkingHour_18 : decode cX1_endOfWorkingHour 18 = .ok (.sipush 168, 3) := by decide +kernel
theorem dX1_endOfWorkingHour_21 : decode cX1_endOfWorkingHour 21 = .ok (.imul, 1) := by decide +kernel
theorem dX1_endOfWorkingHour_22 : decode cX1_endOfWorkingHour 22 = .ok (.iload_n 3, 1) := by decide +kernel
theorem dX1_endOfWorkingHour_23 : decode cX1_endOfWorkingHour 23 = .ok (.bipush 8, 2) := by decide +kernel
theorem dX1_endOfWorkingHour_25 : decode cX1_endOfWorkingHour 25 = .ok (.idiv, 1) := by decide +kernel
theorem dX1_endOfWorkingHour_26 : decode cX1_endOfWorkingHour 26 = .ok (.bipush 24, 2) := by decide +kernel
theorem dX1_endOfWorkingHour_28 : decode cX1_endOfWorkingHour 28 = .ok (.imul, 1) := by decide +kernel
theorem dX1_endOfWorkingHour_29 : decode cX1_endOfWorkingHour 29 = .ok (.iadd, 1) := by decide +kernel
theorem dX1_endOfWorkingHour_30 : decode cX1_endOfWorkingHour 30 = .ok (.bipush 9, 2) := by decide +kernel
theorem dX1_endOfWorkingHour_32 : decode cX1_endOfWorkingHour 32 = .ok (.iadd, 1) := by decide +kernel
theorem dX1_endOfWorkingHour_33 : decode cX1_endOfWorkingHour 33 = .ok (.iload_n 3, 1) := by decide +kernel
theorem dX1_endOfWorkingHour_34 : decode cX1_endOfWorkingHour 34 = .ok (.bipush 8, 2) := by decide +kernel
theorem dX1_endOfWorkingHour_36 : decode cX1_endOfWorkingHour 36 = .ok (.irem, 1) := by decide +kernel
theorem dX1_endOfWorkingHour_37 : decode cX1_endOfWorkingHour 37 = .ok (.iadd, 1) := by decide +kernel
theorem dX1_endOfWorkingHour_38 : decode cX1_endOfWorkingHour 38 = .ok (.istore 4, 2) := by decide +kernel
theorem dX1_endOfWorkingHour_40 : decode cX1_endOfWorkingHour 40 = .ok (.iload 4, 2) := by decide +kernel
theorem dX1_endOfWorkingHour_42 : decode cX1_endOfWorkingHour 42 = .ok (.iconst 1, 1) := by decide +kernel
theorem dX1_endOfWorkingHour_43 : decode cX1_endOfWorkingHour 43 = .ok (.iadd, 1) := by decide +kernel
theorem dX1_endOfWorkingHour_44 : decode cX1_endOfWorkingHour 44 = .ok (.ireturn, 1) := by decide +kernel
theorem dX1_workingHoursBefore_0 : decode cX1_workingHoursBefore 0 = .ok (.iload_n 0, 1) := by decide +kernel
theorem dX1_workingHoursBefore_1 : decode cX1_workingHoursBefore 1 = .ok (.sipush 168, 3) := by decide +kernel
theorem dX1_workingHoursBefore_4 : decode cX1_workingHoursBefore 4 = .ok (.irem, 1) := by decide +kernel
theorem dX1_workingHoursBefore_5 : decode cX1_workingHoursBefore 5 = .ok (.istore_n 1, 1) := by decide +kernel
theorem dX1_workingHoursBefore_6 : decode cX1_workingHoursBefore 6 = .ok (.iload_n 1, 1) := by decide +kernel
theorem dX1_workingHoursBefore_7 : decode cX1_workingHoursBefore 7 = .ok (.bipush 24, 2) := by decide +kernel
theorem dX1_workingHoursBefore_9 : decode cX1_workingHoursBefore 9 = .ok (.idiv, 1) := by decide +kernel
theorem dX1_workingHoursBefore_10 : decode cX1_workingHoursBefore 10 = .ok (.istore_n 2, 1) := by decide +kernel
theorem dX1_workingHoursBefore_11 : decode cX1_workingHoursBefore 11 = .ok (.iload_n 1, 1) := by decide +kernel
theorem dX1_workingHoursBefore_12 : decode cX1_workingHoursBefore 12 = .ok (.bipush 24, 2) := by decide +kernel
theorem dX1_workingHoursBefore_14 : decode cX1_workingHoursBefore 14 = .ok (.irem, 1) := by decide +kernel
theorem dX1_workingHoursBefore_15 : decode cX1_workingHoursBefore 15 = .ok (.bipush 9, 2) := by decide +kernel
theorem dX1_workingHoursBefore_17 : decode cX1_workingHoursBefore 17 = .ok (.isub, 1) := by decide +kernel
theorem dX1_workingHoursBefore_18 : decode cX1_workingHoursBefore 18 = .ok (.iconst 0, 1) := by decide +kernel
theorem dX1_workingHoursBefore_19 : decode cX1_workingHoursBefore 19 = .ok (.invokestatic 13, 3) := by decide +kernel
theorem dX1_workingHoursBefore_22 : decode cX1_workingHoursBefore 22 = .ok (.bipush 8, 2) := by decide +kernel
theorem dX1_workingHoursBefore_24 : decode cX1_workingHoursBefore 24 = .ok (.invokestatic 19, 3) := by decide +kernel
theorem dX1_workingHoursBefore_27 : decode cX1_workingHoursBefore 27 = .ok (.istore_n 3, 1) := by decide +kernel
theorem dX1_workingHoursBefore_28 : decode cX1_workingHoursBefore 28 = .ok (.iload_n 2, 1) := by decide +kernel
theorem dX1_workingHoursBefore_29 : decode cX1_workingHoursBefore 29 = .ok (.iconst 5, 1) := by decide +kernel
theorem dX1_workingHoursBefore_30 : decode cX1_workingHoursBefore 30 = .ok (.if_icmp .ge 12, 3) := by decide +kernel
theorem dX1_workingHoursBefore_33 : decode cX1_workingHoursBefore 33 = .ok (.iload_n 2, 1) := by decide +kernel
theorem dX1_workingHoursBefore_34 : decode cX1_workingHoursBefore 34 = .ok (.bipush 8, 2) := by decide +kernel
theorem dX1_workingHoursBefore_36 : decode cX1_workingHoursBefore 36 = .ok (.imul, 1) := by decide +kernel
theorem dX1_workingHoursBefore_37 : decode cX1_workingHoursBefore 37 = .ok (.iload_n 3, 1) := by decide +kernel
theorem dX1_workingHoursBefore_38 : decode cX1_workingHoursBefore 38 = .ok (.iadd, 1) := by decide +kernel
theorem dX1_workingHoursBefore_39 : decode cX1_workingHoursBefore 39 = .ok (.goto 5, 3) := by decide +kernel
theorem dX1_workingHoursBefore_42 : decode cX1_workingHoursBefore 42 = .ok (.bipush 40, 2) := by decide +kernel
theorem dX1_workingHoursBefore_44 : decode cX1_workingHoursBefore 44 = .ok (.istore 4, 2) := by decide +kernel
theorem dX1_workingHoursBefore_46 : decode cX1_workingHoursBefore 46 = .ok (.iload_n 0, 1) := by decide +kernel
theorem dX1_workingHoursBefore_47 : decode cX1_workingHoursBefore 47 = .ok (.sipush 168, 3) := by decide +kernel
theorem dX1_workingHoursBefore_50 : decode cX1_workingHoursBefore 50 = .ok (.idiv, 1) := by decide +kernel
theorem dX1_workingHoursBefore_51 : decode cX1_workingHoursBefore 51 = .ok (.bipush 40, 2) := by decide +kernel
theorem dX1_workingHoursBefore_53 : decode cX1_workingHoursBefore 53 = .ok (.imul, 1) := by decide +kernel
theorem dX1_workingHoursBefore_54 : decode cX1_workingHoursBefore 54 = .ok (.iload 4, 2) := by decide +kernel
theorem dX1_workingHoursBefore_56 : decode cX1_workingHoursBefore 56 = .ok (.iadd, 1) := by decide +kernel
theorem dX1_workingHoursBefore_57 : decode cX1_workingHoursBefore 57 = .ok (.ireturn, 1) := by decide +kernel
theorem dX2_init_0 : decode cX2_init 0 = .ok (.aload_n 0, 1) := by decide +kernel
theorem dX2_init_1 : decode cX2_init 1 = .ok (.invokespecial 3, 3) := by decide +kernel
theorem dX2_init_4 : decode cX2_init 4 = .ok (.aload_n 0, 1) := by decide +kernel
theorem dX2_init_5 : decode cX2_init 5 = .ok (.iconst 0, 1) := by decide +kernel
theorem dX2_init_6 : decode cX2_init 6 = .ok (.putfield 9, 3) := by decide +kernel
theorem dX2_init_9 : decode cX2_init 9 = .ok (.aload_n 0, 1) := by decide +kernel
theorem dX2_init_10 : decode cX2_init 10 = .ok (.bipush 8, 2) := by decide +kernel
theorem dX2_init_12 : decode cX2_init 12 = .ok (.newarray .int, 2) := by decide +kernel
theorem dX2_init_14 : decode cX2_init 14 = .ok (.putfield 15, 3) := by decide +kernel
theorem dX2_init_17 : decode cX2_init 17 = .ok (.aload_n 0, 1) := by decide +kernel
theorem dX2_init_18 : decode cX2_init 18 = .ok (.bipush 8, 2) := by decide +kernel
theorem dX2_init_20 : decode cX2_init 20 = .ok (.newarray .int, 2) := by decide +kernel
theorem dX2_init_22 : decode cX2_init 22 = .ok (.putfield 19, 3) := by decide +kernel
theorem dX2_init_25 : decode cX2_init 25 = .ok (.aload_n 0, 1) := by decide +kernel
theorem dX2_init_26 : decode cX2_init 26 = .ok (.bipush 8, 2) := by decide +kernel
theorem dX2_init_28 : decode cX2_init 28 = .ok (.newarray .int, 2) := by decide +kernel
theorem dX2_init_30 : decode cX2_init 30 = .ok (.putfield 22, 3) := by decide +kernel
theorem dX2_init_33 : decode cX2_init 33 = .ok (.aload_n 0, 1) := by decide +kernel
theorem dX2_init_34 : decode cX2_init 34 = .ok (.bipush 8, 2) := by decide +kernel
theorem dX2_init_36 : decode cX2_init 36 = .ok (.newarray .int, 2) := by decide +kernel
theorem dX2_init_38 : decode cX2_init 38 = .ok (.putfield 25, 3) := by decide +kernel
theorem dX2_init_41 : decode cX2_init 41 = .ok (.aload_n 0, 1) := by decide +kernel
theorem dX2_init_42 : decode cX2_init 42 = .ok (.bipush 8, 2) := by decide +kernel
theorem dX2_init_44 : decode cX2_init 44 = .ok (.newarray .int, 2) := by decide +kernel
theorem dX2_init_46 : decode cX2_init 46 = .ok (.putfield 28, 3) := by decide +kernel
theorem dX2_init_49 : decode cX2_init 49 = .ok (.aload_n 0, 1) := by decide +kernel
theorem dX2_init_50 : decode cX2_init 50 = .ok (.bipush 8, 2) := by decide +kernel
theorem dX2_init_52 : decode cX2_init 52 = .ok (.newarray .boolean, 2) := by decide +kernel
theorem dX2_init_54 : decode cX2_init 54 = .ok (.putfield 31, 3) := by decide +kernel
theorem dX2_init_57 : decode cX2_init 57 = .ok (.return_, 1) := by decide +kernel
theorem dX2_has_0 : decode cX2_has 0 = .ok (.iload_n 1, 1) := by decide +kernel
theorem dX2_has_1 : decode cX2_has 1 = .ok (.ifCond .lt 21, 3) := by decide +kernel
theorem dX2_has_4 : decode cX2_has 4 = .ok (.iload_n 1, 1) := by decide +kernel
theorem dX2_has_5 : decode cX2_has 5 = .ok (.aload_n 0, 1) := by decide +kernel
theorem dX2_has_6 : decode cX2_has 6 = .ok (.getfield 9, 3) := by decide +kernel
theorem dX2_has_9 : decode cX2_has 9 = .ok (.if_icmp .ge 13, 3) := by decide +kernel
theorem dX2_has_12 : decode cX2_has 12 = .ok (.iload_n 1, 1) := by decide +kernel
theorem dX2_has_13 : decode cX2_has 13 = .ok (.bipush 8, 2) := by decide +kernel
theorem dX2_has_15 : decode cX2_has 15 = .ok (.if_icmp .ge 7, 3) := by decide +kernel
theorem dX2_has_18 : decode cX2_has 18 = .ok (.iconst 1, 1) := by decide +kernel
theorem dX2_has_19 : decode cX2_has 19 = .ok (.goto 4, 3) := by decide +kernel
theorem dX2_has_22 : decode cX2_has 22 = .ok (.iconst 0, 1) := by decide +kernel
theorem dX2_has_23 : decode cX2_has 23 = .ok (.ireturn, 1) := by decide +kernel
theorem dX2_add_0 : decode cX2_add 0 = .ok (.aload_n 0, 1) := by decide +kernel
theorem dX2_add_1 : decode cX2_add 1 = .ok (.getfield 9, 3) := by decide +kernel
theorem dX2_add_4 : decode cX2_add 4 = .ok (.istore_n 3, 1) := by decide +kernel
theorem dX2_add_5 : decode cX2_add 5 = .ok (.iload_n 3, 1) := by decide +kernel
theorem dX2_add_6 : decode cX2_add 6 = .ok (.ifCond .lt 9, 3) := by decide +kernel
theorem dX2_add_9 : decode cX2_add 9 = .ok (.iload_n 3, 1) := by decide +kernel
theorem dX2_add_10 : decode cX2_add 10 = .ok (.bipush 8, 2) := by decide +kernel
theorem dX2_add_12 : decode cX2_add 12 = .ok (.if_icmp .lt 5, 3) := by decide +kernel
theorem dX2_add_15 : decode cX2_add 15 = .ok (.iconst (-1), 1) := by decide +kernel
theorem dX2_add_16 : decode cX2_add 16 = .ok (.ireturn, 1) := by decide +kernel
theorem dX2_add_17 : decode cX2_add 17 = .ok (.aload_n 0, 1) := by decide +kernel
theorem dX2_add_18 : decode cX2_add 18 = .ok (.getfield 15, 3) := by decide +kernel
theorem dX2_add_21 : decode cX2_add 21 = .ok (.iload_n 3, 1) := by decide +kernel
theorem dX2_add_22 : decode cX2_add 22 = .ok (.iload_n 1, 1) := by decide +kernel
theorem dX2_add_23 : decode cX2_add 23 = .ok (.iastore, 1) := by decide +kernel
theorem dX2_add_24 : decode cX2_add 24 = .ok (.aload_n 0, 1) := by decide +kernel
theorem dX2_add_25 : decode cX2_add 25 = .ok (.getfield 19, 3) := by decide +kernel
theorem dX2_add_28 : decode cX2_add 28 = .ok (.iload_n 3, 1) := by decide +kernel
theorem dX2_add_29 : decode cX2_add 29 = .ok (.iload_n 2, 1) := by decide +kernel
theorem dX2_add_30 : decode cX2_add 30 = .ok (.iastore, 1) := by decide +kernel
theorem dX2_add_31 : decode cX2_add 31 = .ok (.aload_n 0, 1) := by decide +kernel
theorem dX2_add_32 : decode cX2_add 32 = .ok (.getfield 22, 3) := by decide +kernel
theorem dX2_add_35 : decode cX2_add 35 = .ok (.iload_n 3, 1) := by decide +kernel
theorem dX2_add_36 : decode cX2_add 36 = .ok (.iconst 0, 1) := by decide +kernel
theorem dX2_add_37 : decode cX2_add 37 = .ok (.iastore, 1) := by decide +kernel
theorem dX2_add_38 : decode cX2_add 38 = .ok (.aload_n 0, 1) := by decide +kernel
theorem dX2_add_39 : decode cX2_add 39 = .ok (.getfield 25, 3) := by decide +kernel
theorem dX2_add_42 : decode cX2_add 42 = .ok (.iload_n 3, 1) := by decide +kernel
theorem dX2_add_43 : decode cX2_add 43 = .ok (.iconst 0, 1) := by decide +kernel
theorem dX2_add_44 : decode cX2_add 44 = .ok (.iastore, 1) := by decide +kernel
theorem dX2_add_45 : decode cX2_add 45 = .ok (.aload_n 0, 1) := by decide +kernel
theorem dX2_add_46 : decode cX2_add 46 = .ok (.getfield 28, 3) := by decide +kernel
theorem dX2_add_49 : decode cX2_add 49 = .ok (.iload_n 3, 1) := by decide +kernel
theorem dX2_add_50 : decode cX2_add 50 = .ok (.iconst (-1), 1) := by decide +kernel
theorem dX2_add_51 : decode cX2_add 51 = .ok (.iastore, 1) := by decide +kernel
theorem dX2_add_52 : decode cX2_add 52 = .ok (.aload_n 0, 1) := by decide +kernel
theorem dX2_add_53 : decode cX2_add 53 = .ok (.getfield 31, 3) := by decide +kernel
theorem dX2_add_56 : decode cX2_add 56 = .ok (.iload_n 3, 1) := by decide +kernel
theorem dX2_add_57 : decode cX2_add 57 = .ok (.iconst 0, 1) := by decide +kernel
theorem dX2_add_58 : decode cX2_add 58 = .ok (.bastore, 1) := by decide +kernel
theorem dX2_add_59 : decode cX2_add 59 = .ok (.aload_n 0, 1) := by decide +kernel
theorem dX2_add_60 : decode cX2_add 60 = .ok (.dup, 1) := by decide +kernel
theorem dX2_add_61 : decode cX2_add 61 = .ok (.getfield 9, 3) := by decide +kernel
theorem dX2_add_64 : decode cX2_add 64 = .ok (.iconst 1, 1) := by decide +kernel
theorem dX2_add_65 : decode cX2_add 65 = .ok (.iadd, 1) := by decide +kernel
theorem dX2_add_66 : decode cX2_add 66 = .ok (.putfield 9, 3) := by decide +kernel
theorem dX2_add_69 : decode cX2_add 69 = .ok (.iload_n 3, 1) := by decide +kernel
theorem dX2_add_70 : decode cX2_add 70 = .ok (.ireturn, 1) := by decide +kernel
theorem dX2_standInFor_0 : decode cX2_standInFor 0 = .ok (.iload_n 1, 1) := by decide +kernel
theorem dX2_standInFor_1 : decode cX2_standInFor 1 = .ok (.istore_n 2, 1) := by decide +kernel
theorem dX2_standInFor_2 : decode cX2_standInFor 2 = .ok (.iconst 0, 1) := by decide +kernel
theorem dX2_standInFor_3 : decode cX2_standInFor 3 = .ok (.istore_n 3, 1) := by decide +kernel
theorem dX2_standInFor_4 : decode cX2_standInFor 4 = .ok (.iload_n 3, 1) := by decide +kernel
theorem dX2_standInFor_5 : decode cX2_standInFor 5 = .ok (.bipush 8, 2) := by decide +kernel
theorem dX2_standInFor_7 : decode cX2_standInFor 7 = .ok (.if_icmp .ge 35, 3) := by decide +kernel
theorem dX2_standInFor_10 : decode cX2_standInFor 10 = .ok (.aload_n 0, 1) := by decide +kernel
theorem dX2_standInFor_11 : decode cX2_standInFor 11 = .ok (.iload_n 2, 1) := by decide +kernel
theorem dX2_standInFor_12 : decode cX2_standInFor 12 = .ok (.invokevirtual 35, 3) := by decide +kernel
theorem dX2_standInFor_15 : decode cX2_standInFor 15 = .ok (.ifCond .eq 27, 3) := by decide +kernel
theorem dX2_standInFor_18 : decode cX2_standInFor 18 = .ok (.aload_n 0, 1) := by decide +kernel
theorem dX2_standInFor_19 : decode cX2_standInFor 19 = .ok (.getfield 31, 3) := by decide +kernel
theorem dX2_standInFor_22 : decode cX2_standInFor 22 = .ok (.iload_n 2, 1) := by decide +kernel
theorem dX2_standInFor_23 : decode cX2_standInFor 23 = .ok (.baload, 1) := by decide +kernel
theorem dX2_standInFor_24 : decode cX2_standInFor 24 = .ok (.ifCond .ne 5, 3) := by decide +kernel
theorem dX2_standInFor_27 : decode cX2_standInFor 27 = .ok (.iload_n 2, 1) := by decide +kernel
theorem dX2_standInFor_28 : decode cX2_standInFor 28 = .ok (.ireturn, 1) := by decide +kernel
theorem dX2_standInFor_29 : decode cX2_standInFor 29 = .ok (.aload_n 0, 1) := by decide +kernel
theorem dX2_standInFor_30 : decode cX2_standInFor 30 = .ok (.getfield 28, 3) := by decide +kernel
theorem dX2_standInFor_33 : decode cX2_standInFor 33 = .ok (.iload_n 2, 1) := by decide +kernel
theorem dX2_standInFor_34 : decode cX2_standInFor 34 = .ok (.iaload, 1) := by decide +kernel
theorem dX2_standInFor_35 : decode cX2_standInFor 35 = .ok (.istore_n 2, 1) := by decide +kernel
theorem dX2_standInFor_36 : decode cX2_standInFor 36 = .ok (.iinc 3 1, 3) := by decide +kernel
theorem dX2_standInFor_39 : decode cX2_standInFor 39 = .ok (.goto (-35), 3) := by decide +kernel
theorem dX2_standInFor_42 : decode cX2_standInFor 42 = .ok (.iconst (-1), 1) := by decide +kernel
theorem dX2_standInFor_43 : decode cX2_standInFor 43 = .ok (.ireturn, 1) := by decide +kernel
theorem dX2_rolesServed_0 : decode cX2_rolesServed 0 = .ok (.aload_n 0, 1) := by decide +kernel
theorem dX2_rolesServed_1 : decode cX2_rolesServed 1 = .ok (.iload_n 1, 1) := by decide +kernel
theorem dX2_rolesServed_2 : decode cX2_rolesServed 2 = .ok (.invokevirtual 35, 3) := by decide +kernel
theorem dX2_rolesServed_5 : decode cX2_rolesServed 5 = .ok (.ifCond .eq 12, 3) := by decide +kernel
theorem dX2_rolesServed_8 : decode cX2_rolesServed 8 = .ok (.aload_n 0, 1) := by decide +kernel
theorem dX2_rolesServed_9 : decode cX2_rolesServed 9 = .ok (.getfield 31, 3) := by decide +kernel
theorem dX2_rolesServed_12 : decode cX2_rolesServed 12 = .ok (.iload_n 1, 1) := by decide +kernel
theorem dX2_rolesServed_13 : decode cX2_rolesServed 13 = .ok (.baload, 1) := by decide +kernel
theorem dX2_rolesServed_14 : decode cX2_rolesServed 14 = .ok (.ifCond .eq 5, 3) := by decide +kernel
theorem dX2_rolesServed_17 : decode cX2_rolesServed 17 = .ok (.iconst 0, 1) := by decide +kernel
theorem dX2_rolesServed_18 : decode cX2_rolesServed 18 = .ok (.ireturn, 1) := by decide +kernel
theorem dX2_rolesServed_19 : decode cX2_rolesServed 19 = .ok (.aload_n 0, 1) := by decide +kernel
theorem dX2_rolesServed_20 : decode cX2_rolesServed 20 = .ok (.getfield 15, 3) := by decide +kernel
theorem dX2_rolesServed_23 : decode cX2_rolesServed 23 = .ok (.iload_n 1, 1) := by decide +kernel
theorem dX2_rolesServed_24 : decode cX2_rolesServed 24 = .ok (.iaload, 1) := by decide +kernel
theorem dX2_rolesServed_25 : decode cX2_rolesServed 25 = .ok (.istore_n 2, 1) := by decide +kernel
theorem dX2_rolesServed_26 : decode cX2_rolesServed 26 = .ok (.iconst 0, 1) := by decide +kernel
theorem dX2_rolesServed_27 : decode cX2_rolesServed 27 = .ok (.istore_n 3, 1) := by decide +kernel
theorem dX2_rolesServed_28 : decode cX2_rolesServed 28 = .ok (.iload_n 3, 1) := by decide +kernel
theorem dX2_rolesServed_29 : decode cX2_rolesServed 29 = .ok (.aload_n 0, 1) := by decide +kernel
theorem dX2_rolesServed_30 : decode cX2_rolesServed 30 = .ok (.getfield 9, 3) := by decide +kernel
theorem dX2_rolesServed_33 : decode cX2_rolesServed 33 = .ok (.if_icmp .ge 27, 3) := by decide +kernel
theorem dX2_rolesServed_36 : decode cX2_rolesServed 36 = .ok (.aload_n 0, 1) := by decide +kernel
theorem dX2_rolesServed_37 : decode cX2_rolesServed 37 = .ok (.iload_n 3, 1) := by decide +kernel
theorem dX2_rolesServed_38 : decode cX2_rolesServed 38 = .ok (.invokevirtual 39, 3) := by decide +kernel
theorem dX2_rolesServed_41 : decode cX2_rolesServed 41 = .ok (.iload_n 1, 1) := by decide +kernel
theorem dX2_rolesServed_42 : decode cX2_rolesServed 42 = .ok (.if_icmp .ne 12, 3) := by decide +kernel
theorem dX2_rolesServed_45 : decode cX2_rolesServed 45 = .ok (.iload_n 2, 1) := by decide +kernel
theorem dX2_rolesServed_46 : decode cX2_rolesServed 46 = .ok (.aload_n 0, 1) := by decide +kernel
theorem dX2_rolesServed_47 : decode cX2_rolesServed 47 = .ok (.getfield 15, 3) := by decide +kernel
theorem dX2_rolesServed_50 : decode cX2_rolesServed 50 = .ok (.iload_n 3, 1) := by decide +kernel
theorem dX2_rolesServed_51 : decode cX2_rolesServed 51 = .ok (.iaload, 1) := by decide +kernel
theorem dX2_rolesServed_52 : decode cX2_rolesServed 52 = .ok (.ior, 1) := by decide +kernel
theorem dX2_rolesServed_53 : decode cX2_rolesServed 53 = .ok (.istore_n 2, 1) := by decide +kernel
theorem dX2_rolesServed_54 : decode cX2_rolesServed 54 = .ok (.iinc 3 1, 3) := by decide +kernel
theorem dX2_rolesServed_57 : decode cX2_rolesServed 57 = .ok (.goto (-29), 3) := by decide +kernel
theorem dX2_rolesServed_60 : decode cX2_rolesServed 60 = .ok (.iload_n 2, 1) := by decide +kernel
theorem dX2_rolesServed_61 : decode cX2_rolesServed 61 = .ok (.ireturn, 1) := by decide +kernel
theorem dX2_hasRoom_0 : decode cX2_hasRoom 0 = .ok (.aload_n 0, 1) := by decide +kernel
theorem dX2_hasRoom_1 : decode cX2_hasRoom 1 = .ok (.iload_n 1, 1) := by decide +kernel
theorem dX2_hasRoom_2 : decode cX2_hasRoom 2 = .ok (.invokevirtual 35, 3) := by decide +kernel
theorem dX2_hasRoom_5 : decode cX2_hasRoom 5 = .ok (.ifCond .eq 22, 3) := by decide +kernel
theorem dX2_hasRoom_8 : decode cX2_hasRoom 8 = .ok (.aload_n 0, 1) := by decide +kernel
theorem dX2_hasRoom_9 : decode cX2_hasRoom 9 = .ok (.getfield 22, 3) := by decide +kernel
theorem dX2_hasRoom_12 : decode cX2_hasRoom 12 = .ok (.iload_n 1, 1) := by decide +kernel
theorem dX2_hasRoom_13 : decode cX2_hasRoom 13 = .ok (.iaload, 1) := by decide +kernel
theorem dX2_hasRoom_14 : decode cX2_hasRoom 14 = .ok (.aload_n 0, 1) := by decide +kernel
theorem dX2_hasRoom_15 : decode cX2_hasRoom 15 = .ok (.getfield 19, 3) := by decide +kernel
theorem dX2_hasRoom_18 : decode cX2_hasRoom 18 = .ok (.iload_n 1, 1) := by decide +kernel
theorem dX2_hasRoom_19 : decode cX2_hasRoom 19 = .ok (.iaload, 1) := by decide +kernel
theorem dX2_hasRoom_20 : decode cX2_hasRoom 20 = .ok (.if_icmp .ge 7, 3) := by decide +kernel
theorem dX2_hasRoom_23 : decode cX2_hasRoom 23 = .ok (.iconst 1, 1) := by decide +kernel
theorem dX2_hasRoom_24 : decode cX2_hasRoom 24 = .ok (.goto 4, 3) := by decide +kernel
theorem dX2_hasRoom_27 : decode cX2_hasRoom 27 = .ok (.iconst 0, 1) := by decide +kernel
theorem dX2_hasRoom_28 : decode cX2_hasRoom 28 = .ok (.ireturn, 1) := by decide +kernel
theorem dX2_dropClaim_0 : decode cX2_dropClaim 0 = .ok (.aload_n 0, 1) := by decide +kernel
theorem dX2_dropClaim_1 : decode cX2_dropClaim 1 = .ok (.iload_n 1, 1) := by decide +kernel
theorem dX2_dropClaim_2 : decode cX2_dropClaim 2 = .ok (.invokevirtual 35, 3) := by decide +kernel
theorem dX2_dropClaim_5 : decode cX2_dropClaim 5 = .ok (.ifCond .eq 13, 3) := by decide +kernel
theorem dX2_dropClaim_8 : decode cX2_dropClaim 8 = .ok (.aload_n 0, 1) := by decide +kernel
theorem dX2_dropClaim_9 : decode cX2_dropClaim 9 = .ok (.getfield 22, 3) := by decide +kernel
theorem dX2_dropClaim_12 : decode cX2_dropClaim 12 = .ok (.iload_n 1, 1) := by decide +kernel
theorem dX2_dropClaim_13 : decode cX2_dropClaim 13 = .ok (.dup2, 1) := by decide +kernel
theorem dX2_dropClaim_14 : decode cX2_dropClaim 14 = .ok (.iaload, 1) := by decide +kernel
theorem dX2_dropClaim_15 : decode cX2_dropClaim 15 = .ok (.iconst 1, 1) := by decide +kernel
theorem dX2_dropClaim_16 : decode cX2_dropClaim 16 = .ok (.isub, 1) := by decide +kernel
theorem dX2_dropClaim_17 : decode cX2_dropClaim 17 = .ok (.iastore, 1) := by decide +kernel
theorem dX2_dropClaim_18 : decode cX2_dropClaim 18 = .ok (.return_, 1) := by decide +kernel
theorem dX2_countFinished_0 : decode cX2_countFinished 0 = .ok (.aload_n 0, 1) := by decide +kernel
theorem dX2_countFinished_1 : decode cX2_countFinished 1 = .ok (.iload_n 1, 1) := by decide +kernel
theorem dX2_countFinished_2 : decode cX2_countFinished 2 = .ok (.invokevirtual 35, 3) := by decide +kernel
theorem dX2_countFinished_5 : decode cX2_countFinished 5 = .ok (.ifCond .eq 13, 3) := by decide +kernel
theorem dX2_countFinished_8 : decode cX2_countFinished 8 = .ok (.aload_n 0, 1) := by decide +kernel
theorem dX2_countFinished_9 : decode cX2_countFinished 9 = .ok (.getfield 25, 3) := by decide +kernel
theorem dX2_countFinished_12 : decode cX2_countFinished 12 = .ok (.iload_n 1, 1) := by decide +kernel
theorem dX2_countFinished_13 : decode cX2_countFinished 13 = .ok (.dup2, 1) := by decide +kernel
theorem dX2_countFinished_14 : decode cX2_countFinished 14 = .ok (.iaload, 1) := by decide +kernel
theorem dX2_countFinished_15 : decode cX2_countFinished 15 = .ok (.iconst 1, 1) := by decide +kernel
theorem dX2_countFinished_16 : decode cX2_countFinished 16 = .ok (.iadd, 1) := by decide +kernel
theorem dX2_countFinished_17 : decode cX2_countFinished 17 = .ok (.iastore, 1) := by decide +kernel
theorem dX2_countFinished_18 : decode cX2_countFinished 18 = .ok (.return_, 1) := by decide +kernel
theorem dX4_init_0 : decode cX4_init 0 = .ok (.aload_n 0, 1) := by decide +kernel
theorem dX4_init_1 : decode cX4_init 1 = .ok (.invokespecial 3, 3) := by decide +kernel
theorem dX4_init_4 : decode cX4_init 4 = .ok (.aload_n 0, 1) := by decide +kernel
theorem dX4_init_5 : decode cX4_init 5 = .ok (.iload_n 1, 1) := by decide +kernel
theorem dX4_init_6 : decode cX4_init 6 = .ok (.putfield 9, 3) := by decide +kernel
theorem dX4_init_9 : decode cX4_init 9 = .ok (.aload_n 0, 1) := by decide +kernel
theorem dX4_init_10 : decode cX4_init 10 = .ok (.aload_n 2, 1) := by decide +kernel
theorem dX4_init_11 : decode cX4_init 11 = .ok (.putfield 15, 3) := by decide +kernel
theorem dX4_init_14 : decode cX4_init 14 = .ok (.aload_n 0, 1) := by decide +kernel
theorem dX4_init_15 : decode cX4_init 15 = .ok (.iconst 4, 1) := by decide +kernel
theorem dX4_init_16 : decode cX4_init 16 = .ok (.newarray .int, 2) := by decide +kernel
theorem dX4_init_18 : decode cX4_init 18 = .ok (.putfield 19, 3) := by decide +kernel
theorem dX4_init_21 : decode cX4_init 21 = .ok (.aload_n 0, 1) := by decide +kernel
theorem dX4_init_22 : decode cX4_init 22 = .ok (.bipush 40, 2) := by decide +kernel
theorem dX4_init_24 : decode cX4_init 24 = .ok (.newarray .int, 2) := by decide +kernel
theorem dX4_init_26 : decode cX4_init 26 = .ok (.putfield 23, 3) := by decide +kernel
theorem dX4_init_29 : decode cX4_init 29 = .ok (.aload_n 0, 1) := by decide +kernel
theorem dX4_init_30 : decode cX4_init 30 = .ok (.bipush 40, 2) := by decide +kernel
theorem dX4_init_32 : decode cX4_init 32 = .ok (.newarray .int, 2) := by decide +kernel
theorem dX4_init_34 : decode cX4_init 34 = .ok (.putfield 26, 3) := by decide +kernel
theorem dX4_init_37 : decode cX4_init 37 = .ok (.iconst 0, 1) := by decide +kernel
theorem dX4_init_38 : decode cX4_init 38 = .ok (.istore_n 3, 1) := by decide +kernel
theorem dX4_init_39 : decode cX4_init 39 = .ok (.iload_n 3, 1) := by decide +kernel
theorem dX4_init_40 : decode cX4_init 40 = .ok (.bipush 40, 2) := by decide +kernel
theorem dX4_init_42 : decode cX4_init 42 = .ok (.if_icmp .ge 16, 3) := by decide +kernel
theorem dX4_init_45 : decode cX4_init 45 = .ok (.aload_n 0, 1) := by decide +kernel
theorem dX4_init_46 : decode cX4_init 46 = .ok (.getfield 26, 3) := by decide +kernel
theorem dX4_init_49 : decode cX4_init 49 = .ok (.iload_n 3, 1) := by decide +kernel
theorem dX4_init_50 : decode cX4_init 50 = .ok (.iconst (-1), 1) := by decide +kernel
theorem dX4_init_51 : decode cX4_init 51 = .ok (.iastore, 1) := by decide +kernel
theorem dX4_init_52 : decode cX4_init 52 = .ok (.iinc 3 1, 3) := by decide +kernel
theorem dX4_init_55 : decode cX4_init 55 = .ok (.goto (-16), 3) := by decide +kernel
theorem dX4_init_58 : decode cX4_init 58 = .ok (.aload_n 0, 1) := by decide +kernel
theorem dX4_init_59 : decode cX4_init 59 = .ok (.iconst 0, 1) := by decide +kernel
theorem dX4_init_60 : decode cX4_init 60 = .ok (.putfield 29, 3) := by decide +kernel
theorem dX4_init_63 : decode cX4_init 63 = .ok (.aload_n 0, 1) := by decide +kernel
theorem dX4_init_64 : decode cX4_init 64 = .ok (.iconst 0, 1) := by decide +kernel
theorem dX4_init_65 : decode cX4_init 65 = .ok (.putfield 33, 3) := by decide +kernel
theorem dX4_init_68 : decode cX4_init 68 = .ok (.return_, 1) := by decide +kernel
theorem dX4_lastDoerOf_0 : decode cX4_lastDoerOf 0 = .ok (.iload_n 1, 1) := by decide +kernel
theorem dX4_lastDoerOf_1 : decode cX4_lastDoerOf 1 = .ok (.ifCond .lt 18, 3) := by decide +kernel
theorem dX4_lastDoerOf_4 : decode cX4_lastDoerOf 4 = .ok (.iload_n 1, 1) := by decide +kernel
theorem dX4_lastDoerOf_5 : decode cX4_lastDoerOf 5 = .ok (.bipush 40, 2) := by decide +kernel
theorem dX4_lastDoerOf_7 : decode cX4_lastDoerOf 7 = .ok (.if_icmp .ge 12, 3) := by decide +kernel
theorem dX4_lastDoerOf_10 : decode cX4_lastDoerOf 10 = .ok (.aload_n 0, 1) := by decide +kernel
theorem dX4_lastDoerOf_11 : decode cX4_lastDoerOf 11 = .ok (.getfield 26, 3) := by decide +kernel
theorem dX4_lastDoerOf_14 : decode cX4_lastDoerOf 14 = .ok (.iload_n 1, 1) := by decide +kernel
theorem dX4_lastDoerOf_15 : decode cX4_lastDoerOf 15 = .ok (.iaload, 1) := by decide +kernel
theorem dX4_lastDoerOf_16 : decode cX4_lastDoerOf 16 = .ok (.goto 4, 3) := by decide +kernel
theorem dX4_lastDoerOf_19 : decode cX4_lastDoerOf 19 = .ok (.iconst (-1), 1) := by decide +kernel
theorem dX4_lastDoerOf_20 : decode cX4_lastDoerOf 20 = .ok (.ireturn, 1) := by decide +kernel
theorem dX4_noteDoer_0 : decode cX4_noteDoer 0 = .ok (.iload_n 1, 1) := by decide +kernel
theorem dX4_noteDoer_1 : decode cX4_noteDoer 1 = .ok (.ifCond .lt 16, 3) := by decide +kernel
theorem dX4_noteDoer_4 : decode cX4_noteDoer 4 = .ok (.iload_n 1, 1) := by decide +kernel
theorem dX4_noteDoer_5 : decode cX4_noteDoer 5 = .ok (.bipush 40, 2) := by decide +kernel
theorem dX4_noteDoer_7 : decode cX4_noteDoer 7 = .ok (.if_icmp .ge 10, 3) := by decide +kernel
theorem dX4_noteDoer_10 : decode cX4_noteDoer 10 = .ok (.aload_n 0, 1) := by decide +kernel
theorem dX4_noteDoer_11 : decode cX4_noteDoer 11 = .ok (.getfield 26, 3) := by decide +kernel
theorem dX4_noteDoer_14 : decode cX4_noteDoer 14 = .ok (.iload_n 1, 1) := by decide +kernel
theorem dX4_noteDoer_15 : decode cX4_noteDoer 15 = .ok (.iload_n 2, 1) := by decide +kernel
theorem dX4_noteDoer_16 : decode cX4_noteDoer 16 = .ok (.iastore, 1) := by decide +kernel
theorem dX4_noteDoer_17 : decode cX4_noteDoer 17 = .ok (.return_, 1) := by decide +kernel
theorem dX4_take_0 : decode cX4_take 0 = .ok (.aload_n 1, 1) := by decide +kernel
theorem dX4_take_1 : decode cX4_take 1 = .ok (.getfield 36, 3) := by decide +kernel
theorem dX4_take_4 : decode cX4_take 4 = .ok (.iconst 0, 1) := by decide +kernel
theorem dX4_take_5 : decode cX4_take 5 = .ok (.aload_n 0, 1) := by decide +kernel
theorem dX4_take_6 : decode cX4_take 6 = .ok (.getfield 19, 3) := by decide +kernel
theorem dX4_take_9 : decode cX4_take 9 = .ok (.iconst 0, 1) := by decide +kernel
theorem dX4_take_10 : decode cX4_take 10 = .ok (.iconst 4, 1) := by decide +kernel
theorem dX4_take_11 : decode cX4_take 11 = .ok (.invokestatic 39, 3) := by decide +kernel
theorem dX4_take_14 : decode cX4_take 14 = .ok (.aload_n 1, 1) := by decide +kernel
theorem dX4_take_15 : decode cX4_take 15 = .ok (.getfield 45, 3) := by decide +kernel
theorem dX4_take_18 : decode cX4_take 18 = .ok (.iconst 0, 1) := by decide +kernel
theorem dX4_take_19 : decode cX4_take 19 = .ok (.aload_n 0, 1) := by decide +kernel
theorem dX4_take_20 : decode cX4_take 20 = .ok (.getfield 23, 3) := by decide +kernel
theorem dX4_take_23 : decode cX4_take 23 = .ok (.iconst 0, 1) := by decide +kernel
theorem dX4_take_24 : decode cX4_take 24 = .ok (.bipush 40, 2) := by decide +kernel
theorem dX4_take_26 : decode cX4_take 26 = .ok (.invokestatic 39, 3) := by decide +kernel
theorem dX4_take_29 : decode cX4_take 29 = .ok (.aload_n 0, 1) := by decide +kernel
theorem dX4_take_30 : decode cX4_take 30 = .ok (.aload_n 1, 1) := by decide +kernel
theorem dX4_take_31 : decode cX4_take 31 = .ok (.getfield 46, 3) := by decide +kernel
theorem dX4_take_34 : decode cX4_take 34 = .ok (.putfield 29, 3) := by decide +kernel
theorem dX4_take_37 : decode cX4_take 37 = .ok (.return_, 1) := by decide +kernel
theorem dX6_init_0 : decode cX6_init 0 = .ok (.aload_n 0, 1) := by decide +kernel
theorem dX6_init_1 : decode cX6_init 1 = .ok (.invokespecial 3, 3) := by decide +kernel
theorem dX6_init_4 : decode cX6_init 4 = .ok (.aload_n 0, 1) := by decide +kernel
theorem dX6_init_5 : decode cX6_init 5 = .ok (.iconst 0, 1) := by decide +kernel
theorem dX6_init_6 : decode cX6_init 6 = .ok (.putfield 9, 3) := by decide +kernel
theorem dX6_init_9 : decode cX6_init 9 = .ok (.aload_n 0, 1) := by decide +kernel
theorem dX6_init_10 : decode cX6_init 10 = .ok (.sipush 200, 3) := by decide +kernel
theorem dX6_init_13 : decode cX6_init 13 = .ok (.newarray .int, 2) := by decide +kernel
theorem dX6_init_15 : decode cX6_init 15 = .ok (.putfield 15, 3) := by decide +kernel
theorem dX6_init_18 : decode cX6_init 18 = .ok (.aload_n 0, 1) := by decide +kernel
theorem dX6_init_19 : decode cX6_init 19 = .ok (.sipush 200, 3) := by decide +kernel
theorem dX6_init_22 : decode cX6_init 22 = .ok (.newarray .int, 2) := by decide +kernel
theorem dX6_init_24 : decode cX6_init 24 = .ok (.putfield 19, 3) := by decide +kernel
theorem dX6_init_27 : decode cX6_init 27 = .ok (.aload_n 0, 1) := by decide +kernel
theorem dX6_init_28 : decode cX6_init 28 = .ok (.sipush 200, 3) := by decide +kernel
theorem dX6_init_31 : decode cX6_init 31 = .ok (.newarray .int, 2) := by decide +kernel
theorem dX6_init_33 : decode cX6_init 33 = .ok (.putfield 22, 3) := by decide +kernel
theorem dX6_init_36 : decode cX6_init 36 = .ok (.aload_n 0, 1) := by decide +kernel
theorem dX6_init_37 : decode cX6_init 37 = .ok (.sipush 200, 3) := by decide +kernel
theorem dX6_init_40 : decode cX6_init 40 = .ok (.newarray .int, 2) := by decide +kernel
theorem dX6_init_42 : decode cX6_init 42 = .ok (.putfield 25, 3) := by decide +kernel
theorem dX6_init_45 : decode cX6_init 45 = .ok (.aload_n 0, 1) := by decide +kernel
theorem dX6_init_46 : decode cX6_init 46 = .ok (.sipush 200, 3) := by decide +kernel
theorem dX6_init_49 : decode cX6_init 49 = .ok (.newarray .int, 2) := by decide +kernel
theorem dX6_init_51 : decode cX6_init 51 = .ok (.putfield 28, 3) := by decide +kernel
theorem dX6_init_54 : decode cX6_init 54 = .ok (.aload_n 0, 1) := by decide +kernel
theorem dX6_init_55 : decode cX6_init 55 = .ok (.sipush 200, 3) := by decide +kernel
theorem dX6_init_58 : decode cX6_init 58 = .ok (.newarray .int, 2) := by decide +kernel
theorem dX6_init_60 : decode cX6_init 60 = .ok (.putfield 31, 3) := by decide +kernel
theorem dX6_init_63 : decode cX6_init 63 = .ok (.aload_n 0, 1) := by decide +kernel
theorem dX6_init_64 : decode cX6_init 64 = .ok (.sipush 200, 3) := by decide +kernel
theorem dX6_init_67 : decode cX6_init 67 = .ok (.newarray .int, 2) := by decide +kernel
theorem dX6_init_69 : decode cX6_init 69 = .ok (.putfield 34, 3) := by decide +kernel
theorem dX6_init_72 : decode cX6_init 72 = .ok (.aload_n 0, 1) := by decide +kernel
theorem dX6_init_73 : decode cX6_init 73 = .ok (.sipush 200, 3) := by decide +kernel
theorem dX6_init_76 : decode cX6_init 76 = .ok (.newarray .int, 2) := by decide +kernel
theorem dX6_init_78 : decode cX6_init 78 = .ok (.putfield 37, 3) := by decide +kernel
theorem dX6_init_81 : decode cX6_init 81 = .ok (.aload_n 0, 1) := by decide +kernel
theorem dX6_init_82 : decode cX6_init 82 = .ok (.sipush 200, 3) := by decide +kernel
theorem dX6_init_85 : decode cX6_init 85 = .ok (.newarray .int, 2) := by decide +kernel
theorem dX6_init_87 : decode cX6_init 87 = .ok (.putfield 40, 3) := by decide +kernel
theorem dX6_init_90 : decode cX6_init 90 = .ok (.return_, 1) := by decide +kernel
theorem dX6_has_0 : decode cX6_has 0 = .ok (.iload_n 1, 1) := by decide +kernel
theorem dX6_has_1 : decode cX6_has 1 = .ok (.ifCond .lt 22, 3) := by decide +kernel
theorem dX6_has_4 : decode cX6_has 4 = .ok (.iload_n 1, 1) := by decide +kernel
theorem dX6_has_5 : decode cX6_has 5 = .ok (.aload_n 0, 1) := by decide +kernel
theorem dX6_has_6 : decode cX6_has 6 = .ok (.getfield 9, 3) := by decide +kernel
theorem dX6_has_9 : decode cX6_has 9 = .ok (.if_icmp .ge 14, 3) := by decide +kernel
theorem dX6_has_12 : decode cX6_has 12 = .ok (.iload_n 1, 1) := by decide +kernel
theorem dX6_has_13 : decode cX6_has 13 = .ok (.sipush 200, 3) := by decide +kernel
theorem dX6_has_16 : decode cX6_has 16 = .ok (.if_icmp .ge 7, 3) := by decide +kernel
theorem dX6_has_19 : decode cX6_has 19 = .ok (.iconst 1, 1) := by decide +kernel
theorem dX6_has_20 : decode cX6_has 20 = .ok (.goto 4, 3) := by decide +kernel
theorem dX6_has_23 : decode cX6_has 23 = .ok (.iconst 0, 1) := by decide +kernel
theorem dX6_has_24 : decode cX6_has 24 = .ok (.ireturn, 1) := by decide +kernel
theorem dX6_isIn_0 : decode cX6_isIn 0 = .ok (.aload_n 0, 1) := by decide +kernel
theorem dX6_isIn_1 : decode cX6_isIn 1 = .ok (.iload_n 1, 1) := by decide +kernel
theorem dX6_isIn_2 : decode cX6_isIn 2 = .ok (.invokevirtual 43, 3) := by decide +kernel
theorem dX6_isIn_5 : decode cX6_isIn 5 = .ok (.ifCond .eq 17, 3) := by decide +kernel
theorem dX6_isIn_8 : decode cX6_isIn 8 = .ok (.aload_n 0, 1) := by decide +kernel
theorem dX6_isIn_9 : decode cX6_isIn 9 = .ok (.getfield 31, 3) := by decide +kernel
theorem dX6_isIn_12 : decode cX6_isIn 12 = .ok (.iload_n 1, 1) := by decide +kernel
theorem dX6_isIn_13 : decode cX6_isIn 13 = .ok (.iaload, 1) := by decide +kernel
theorem dX6_isIn_14 : decode cX6_isIn 14 = .ok (.iload_n 2, 1) := by decide +kernel
theorem dX6_isIn_15 : decode cX6_isIn 15 = .ok (.if_icmp .ne 7, 3) := by decide +kernel
theorem dX6_isIn_18 : decode cX6_isIn 18 = .ok (.iconst 1, 1) := by decide +kernel
theorem dX6_isIn_19 : decode cX6_isIn 19 = .ok (.goto 4, 3) := by decide +kernel
theorem dX6_isIn_22 : decode cX6_isIn 22 = .ok (.iconst 0, 1) := by decide +kernel
theorem dX6_isIn_23 : decode cX6_isIn 23 = .ok (.ireturn, 1) := by decide +kernel
theorem dX6_hasRoomFor_0 : decode cX6_hasRoomFor 0 = .ok (.aload_n 0, 1) := by decide +kernel
theorem dX6_hasRoomFor_1 : decode cX6_hasRoomFor 1 = .ok (.getfield 9, 3) := by decide +kernel
theorem dX6_hasRoomFor_4 : decode cX6_hasRoomFor 4 = .ok (.iload_n 1, 1) := by decide +kernel
theorem dX6_hasRoomFor_5 : decode cX6_hasRoomFor 5 = .ok (.iadd, 1) := by decide +kernel
theorem dX6_hasRoomFor_6 : decode cX6_hasRoomFor 6 = .ok (.sipush 200, 3) := by decide +kernel
theorem dX6_hasRoomFor_9 : decode cX6_hasRoomFor 9 = .ok (.if_icmp .gt 7, 3) := by decide +kernel
theorem dX6_hasRoomFor_12 : decode cX6_hasRoomFor 12 = .ok (.iconst 1, 1) := by decide +kernel
theorem dX6_hasRoomFor_13 : decode cX6_hasRoomFor 13 = .ok (.goto 4, 3) := by decide +kernel
theorem dX6_hasRoomFor_16 : decode cX6_hasRoomFor 16 = .ok (.iconst 0, 1) := by decide +kernel
theorem dX6_hasRoomFor_17 : decode cX6_hasRoomFor 17 = .ok (.ireturn, 1) := by decide +kernel
theorem dX6_add_0 : decode cX6_add 0 = .ok (.aload_n 0, 1) := by decide +kernel
theorem dX6_add_1 : decode cX6_add 1 = .ok (.getfield 9, 3) := by decide +kernel
theorem dX6_add_4 : decode cX6_add 4 = .ok (.istore 6, 2) := by decide +kernel
theorem dX6_add_6 : decode cX6_add 6 = .ok (.iload 6, 2) := by decide +kernel
theorem dX6_add_8 : decode cX6_add 8 = .ok (.ifCond .lt 11, 3) := by decide +kernel
theorem dX6_add_11 : decode cX6_add 11 = .ok (.iload 6, 2) := by decide +kernel
theorem dX6_add_13 : decode cX6_add 13 = .ok (.sipush 200, 3) := by decide +kernel
theorem dX6_add_16 : decode cX6_add 16 = .ok (.if_icmp .lt 4, 3) := by decide +kernel
theorem dX6_add_19 : decode cX6_add 19 = .ok (.return_, 1) := by decide +kernel
theorem dX6_add_20 : decode cX6_add 20 = .ok (.aload_n 0, 1) := by decide +kernel
theorem dX6_add_21 : decode cX6_add 21 = .ok (.getfield 15, 3) := by decide +kernel
theorem dX6_add_24 : decode cX6_add 24 = .ok (.iload 6, 2) := by decide +kernel
theorem dX6_add_26 : decode cX6_add 26 = .ok (.iload_n 1, 1) := by decide +kernel
theorem dX6_add_27 : decode cX6_add 27 = .ok (.iastore, 1) := by decide +kernel
theorem dX6_add_28 : decode cX6_add 28 = .ok (.aload_n 0, 1) := by decide +kernel
theorem dX6_add_29 : decode cX6_add 29 = .ok (.getfield 19, 3) := by decide +kernel
theorem dX6_add_32 : decode cX6_add 32 = .ok (.iload 6, 2) := by decide +kernel
theorem dX6_add_34 : decode cX6_add 34 = .ok (.iload_n 2, 1) := by decide +kernel
theorem dX6_add_35 : decode cX6_add 35 = .ok (.iastore, 1) := by decide +kernel
theorem dX6_add_36 : decode cX6_add 36 = .ok (.aload_n 0, 1) := by decide +kernel
theorem dX6_add_37 : decode cX6_add 37 = .ok (.getfield 22, 3) := by decide +kernel
theorem dX6_add_40 : decode cX6_add 40 = .ok (.iload 6, 2) := by decide +kernel
theorem dX6_add_42 : decode cX6_add 42 = .ok (.iload_n 3, 1) := by decide +kernel
theorem dX6_add_43 : decode cX6_add 43 = .ok (.iastore, 1) := by decide +kernel
theorem dX6_add_44 : decode cX6_add 44 = .ok (.aload_n 0, 1) := by decide +kernel
theorem dX6_add_45 : decode cX6_add 45 = .ok (.getfield 25, 3) := by decide +kernel
theorem dX6_add_48 : decode cX6_add 48 = .ok (.iload 6, 2) := by decide +kernel
theorem dX6_add_50 : decode cX6_add 50 = .ok (.iload 4, 2) := by decide +kernel
theorem dX6_add_52 : decode cX6_add 52 = .ok (.iastore, 1) := by decide +kernel
theorem dX6_add_53 : decode cX6_add 53 = .ok (.aload_n 0, 1) := by decide +kernel
theorem dX6_add_54 : decode cX6_add 54 = .ok (.getfield 28, 3) := by decide +kernel
theorem dX6_add_57 : decode cX6_add 57 = .ok (.iload 6, 2) := by decide +kernel
theorem dX6_add_59 : decode cX6_add 59 = .ok (.iload 5, 2) := by decide +kernel
theorem dX6_add_61 : decode cX6_add 61 = .ok (.iastore, 1) := by decide +kernel
theorem dX6_add_62 : decode cX6_add 62 = .ok (.aload_n 0, 1) := by decide +kernel
theorem dX6_add_63 : decode cX6_add 63 = .ok (.getfield 31, 3) := by decide +kernel
theorem dX6_add_66 : decode cX6_add 66 = .ok (.iload 6, 2) := by decide +kernel
theorem dX6_add_68 : decode cX6_add 68 = .ok (.iconst 0, 1) := by decide +kernel
theorem dX6_add_69 : decode cX6_add 69 = .ok (.iastore, 1) := by decide +kernel
theorem dX6_add_70 : decode cX6_add 70 = .ok (.aload_n 0, 1) := by decide +kernel
theorem dX6_add_71 : decode cX6_add 71 = .ok (.getfield 34, 3) := by decide +kernel
theorem dX6_add_74 : decode cX6_add 74 = .ok (.iload 6, 2) := by decide +kernel
theorem dX6_add_76 : decode cX6_add 76 = .ok (.iconst (-1), 1) := by decide +kernel
theorem dX6_add_77 : decode cX6_add 77 = .ok (.iastore, 1) := by decide +kernel
theorem dX6_add_78 : decode cX6_add 78 = .ok (.aload_n 0, 1) := by decide +kernel
theorem dX6_add_79 : decode cX6_add 79 = .ok (.getfield 37, 3) := by decide +kernel
theorem dX6_add_82 : decode cX6_add 82 = .ok (.iload 6, 2) := by decide +kernel
theorem dX6_add_84 : decode cX6_add 84 = .ok (.iconst (-1), 1) := by decide +kernel
theorem dX6_add_85 : decode cX6_add 85 = .ok (.iastore, 1) := by decide +kernel
theorem dX6_add_86 : decode cX6_add 86 = .ok (.aload_n 0, 1) := by decide +kernel
theorem dX6_add_87 : decode cX6_add 87 = .ok (.iload 6, 2) := by decide +kernel
theorem dX6_add_89 : decode cX6_add 89 = .ok (.invokevirtual 47, 3) := by decide +kernel
theorem dX6_add_92 : decode cX6_add 92 = .ok (.aload_n 0, 1) := by decide +kernel
theorem dX6_add_93 : decode cX6_add 93 = .ok (.dup, 1) := by decide +kernel
theorem dX6_add_94 : decode cX6_add 94 = .ok (.getfield 9, 3) := by decide +kernel
theorem dX6_add_97 : decode cX6_add 97 = .ok (.iconst 1, 1) := by decide +kernel
theorem dX6_add_98 : decode cX6_add 98 = .ok (.iadd, 1) := by decide +kernel
theorem dX6_add_99 : decode cX6_add 99 = .ok (.putfield 9, 3) := by decide +kernel
theorem dX6_add_102 : decode cX6_add 102 = .ok (.return_, 1) := by decide +kernel
theorem dX6_putByDue_0 : decode cX6_putByDue 0 = .ok (.iload_n 1, 1) := by decide +kernel
theorem dX6_putByDue_1 : decode cX6_putByDue 1 = .ok (.istore_n 2, 1) := by decide +kernel
theorem dX6_putByDue_2 : decode cX6_putByDue 2 = .ok (.iload_n 2, 1) := by decide +kernel
theorem dX6_putByDue_3 : decode cX6_putByDue 3 = .ok (.ifCond .le 39, 3) := by decide +kernel
theorem dX6_putByDue_6 : decode cX6_putByDue 6 = .ok (.aload_n 0, 1) := by decide +kernel
theorem dX6_putByDue_7 : decode cX6_putByDue 7 = .ok (.aload_n 0, 1) := by decide +kernel
theorem dX6_putByDue_8 : decode cX6_putByDue 8 = .ok (.getfield 40, 3) := by decide +kernel
theorem dX6_putByDue_11 : decode cX6_putByDue 11 = .ok (.iload_n 2, 1) := by decide +kernel
theorem dX6_putByDue_12 : decode cX6_putByDue 12 = .ok (.iconst 1, 1) := by decide +kernel
theorem dX6_putByDue_13 : decode cX6_putByDue 13 = .ok (.isub, 1) := by decide +kernel
theorem dX6_putByDue_14 : decode cX6_putByDue 14 = .ok (.iaload, 1) := by decide +kernel
theorem dX6_putByDue_15 : decode cX6_putByDue 15 = .ok (.iload_n 1, 1) := by decide +kernel
theorem dX6_putByDue_16 : decode cX6_putByDue 16 = .ok (.invokevirtual 51, 3) := by decide +kernel
theorem dX6_putByDue_19 : decode cX6_putByDue 19 = .ok (.ifCond .eq 23, 3) := by decide +kernel
theorem dX6_putByDue_22 : decode cX6_putByDue 22 = .ok (.aload_n 0, 1) := by decide +kernel
theorem dX6_putByDue_23 : decode cX6_putByDue 23 = .ok (.getfield 40, 3) := by decide +kernel
theorem dX6_putByDue_26 : decode cX6_putByDue 26 = .ok (.iload_n 2, 1) := by decide +kernel
theorem dX6_putByDue_27 : decode cX6_putByDue 27 = .ok (.aload_n 0, 1) := by decide +kernel
theorem dX6_putByDue_28 : decode cX6_putByDue 28 = .ok (.getfield 40, 3) := by decide +kernel
theorem dX6_putByDue_31 : decode cX6_putByDue 31 = .ok (.iload_n 2, 1) := by decide +kernel
theorem dX6_putByDue_32 : decode cX6_putByDue 32 = .ok (.iconst 1, 1) := by decide +kernel
theorem dX6_putByDue_33 : decode cX6_putByDue 33 = .ok (.isub, 1) := by decide +kernel
theorem dX6_putByDue_34 : decode cX6_putByDue 34 = .ok (.iaload, 1) := by decide +kernel
theorem dX6_putByDue_35 : decode cX6_putByDue 35 = .ok (.iastore, 1) := by decide +kernel
theorem dX6_putByDue_36 : decode cX6_putByDue 36 = .ok (.iinc 2 (-1), 3) := by decide +kernel
theorem dX6_putByDue_39 : decode cX6_putByDue 39 = .ok (.goto (-37), 3) := by decide +kernel
theorem dX6_putByDue_42 : decode cX6_putByDue 42 = .ok (.aload_n 0, 1) := by decide +kernel
theorem dX6_putByDue_43 : decode cX6_putByDue 43 = .ok (.getfield 40, 3) := by decide +kernel
theorem dX6_putByDue_46 : decode cX6_putByDue 46 = .ok (.iload_n 2, 1) := by decide +kernel
theorem dX6_putByDue_47 : decode cX6_putByDue 47 = .ok (.iload_n 1, 1) := by decide +kernel
theorem dX6_putByDue_48 : decode cX6_putByDue 48 = .ok (.iastore, 1) := by decide +kernel
theorem dX6_putByDue_49 : decode cX6_putByDue 49 = .ok (.return_, 1) := by decide +kernel
theorem dX6_isDueBehind_0 : decode cX6_isDueBehind 0 = .ok (.aload_n 0, 1) := by decide +kernel
theorem dX6_isDueBehind_1 : decode cX6_isDueBehind 1 = .ok (.iload_n 1, 1) := by decide +kernel
theorem dX6_isDueBehind_2 : decode cX6_isDueBehind 2 = .ok (.invokevirtual 43, 3) := by decide +kernel
theorem dX6_isDueBehind_5 : decode cX6_isDueBehind 5 = .ok (.ifCond .eq 22, 3) := by decide +kernel
theorem dX6_isDueBehind_8 : decode cX6_isDueBehind 8 = .ok (.aload_n 0, 1) := by decide +kernel
theorem dX6_isDueBehind_9 : decode cX6_isDueBehind 9 = .ok (.getfield 28, 3) := by decide +kernel
theorem dX6_isDueBehind_12 : decode cX6_isDueBehind 12 = .ok (.iload_n 1, 1) := by decide +kernel
theorem dX6_isDueBehind_13 : decode cX6_isDueBehind 13 = .ok (.iaload, 1) := by decide +kernel
theorem dX6_isDueBehind_14 : decode cX6_isDueBehind 14 = .ok (.aload_n 0, 1) := by decide +kernel
theorem dX6_isDueBehind_15 : decode cX6_isDueBehind 15 = .ok (.getfield 28, 3) := by decide +kernel
theorem dX6_isDueBehind_18 : decode cX6_isDueBehind 18 = .ok (.iload_n 2, 1) := by decide +kernel
theorem dX6_isDueBehind_19 : decode cX6_isDueBehind 19 = .ok (.iaload, 1) := by decide +kernel
theorem dX6_isDueBehind_20 : decode cX6_isDueBehind 20 = .ok (.if_icmp .le 7, 3) := by decide +kernel
theorem dX6_isDueBehind_23 : decode cX6_isDueBehind 23 = .ok (.iconst 1, 1) := by decide +kernel
theorem dX6_isDueBehind_24 : decode cX6_isDueBehind 24 = .ok (.goto 4, 3) := by decide +kernel
theorem dX6_isDueBehind_27 : decode cX6_isDueBehind 27 = .ok (.iconst 0, 1) := by decide +kernel
theorem dX6_isDueBehind_28 : decode cX6_isDueBehind 28 = .ok (.ireturn, 1) := by decide +kernel
theorem dX6_give_0 : decode cX6_give 0 = .ok (.aload_n 0, 1) := by decide +kernel
theorem dX6_give_1 : decode cX6_give 1 = .ok (.iload_n 1, 1) := by decide +kernel
theorem dX6_give_2 : decode cX6_give 2 = .ok (.invokevirtual 43, 3) := by decide +kernel
theorem dX6_give_5 : decode cX6_give 5 = .ok (.ifCond .eq 17, 3) := by decide +kernel
theorem dX6_give_8 : decode cX6_give 8 = .ok (.aload_n 0, 1) := by decide +kernel
theorem dX6_give_9 : decode cX6_give 9 = .ok (.getfield 31, 3) := by decide +kernel
theorem dX6_give_12 : decode cX6_give 12 = .ok (.iload_n 1, 1) := by decide +kernel
theorem dX6_give_13 : decode cX6_give 13 = .ok (.iconst 1, 1) := by decide +kernel
theorem dX6_give_14 : decode cX6_give 14 = .ok (.iastore, 1) := by decide +kernel
theorem dX6_give_15 : decode cX6_give 15 = .ok (.aload_n 0, 1) := by decide +kernel
theorem dX6_give_16 : decode cX6_give 16 = .ok (.getfield 34, 3) := by decide +kernel
theorem dX6_give_19 : decode cX6_give 19 = .ok (.iload_n 1, 1) := by decide +kernel
theorem dX6_give_20 : decode cX6_give 20 = .ok (.iload_n 2, 1) := by decide +kernel
theorem dX6_give_21 : decode cX6_give 21 = .ok (.iastore, 1) := by decide +kernel
theorem dX6_give_22 : decode cX6_give 22 = .ok (.return_, 1) := by decide +kernel
theorem dX6_reopen_0 : decode cX6_reopen 0 = .ok (.aload_n 0, 1) := by decide +kernel
theorem dX6_reopen_1 : decode cX6_reopen 1 = .ok (.iload_n 1, 1) := by decide +kernel
theorem dX6_reopen_2 : decode cX6_reopen 2 = .ok (.invokevirtual 43, 3) := by decide +kernel
theorem dX6_reopen_5 : decode cX6_reopen 5 = .ok (.ifCond .eq 17, 3) := by decide +kernel
theorem dX6_reopen_8 : decode cX6_reopen 8 = .ok (.aload_n 0, 1) := by decide +kernel
theorem dX6_reopen_9 : decode cX6_reopen 9 = .ok (.getfield 31, 3) := by decide +kernel
theorem dX6_reopen_12 : decode cX6_reopen 12 = .ok (.iload_n 1, 1) := by decide +kernel
theorem dX6_reopen_13 : decode cX6_reopen 13 = .ok (.iconst 0, 1) := by decide +kernel
theorem dX6_reopen_14 : decode cX6_reopen 14 = .ok (.iastore, 1) := by decide +kernel
theorem dX6_reopen_15 : decode cX6_reopen 15 = .ok (.aload_n 0, 1) := by decide +kernel
theorem dX6_reopen_16 : decode cX6_reopen 16 = .ok (.getfield 34, 3) := by decide +kernel
theorem dX6_reopen_19 : decode cX6_reopen 19 = .ok (.iload_n 1, 1) := by decide +kernel
theorem dX6_reopen_20 : decode cX6_reopen 20 = .ok (.iconst (-1), 1) := by decide +kernel
theorem dX6_reopen_21 : decode cX6_reopen 21 = .ok (.iastore, 1) := by decide +kernel
theorem dX6_reopen_22 : decode cX6_reopen 22 = .ok (.return_, 1) := by decide +kernel
theorem dX6_reopenAllOf_0 : decode cX6_reopenAllOf 0 = .ok (.iconst 0, 1) := by decide +kernel
theorem dX6_reopenAllOf_1 : decode cX6_reopenAllOf 1 = .ok (.istore_n 2, 1) := by decide +kernel
theorem dX6_reopenAllOf_2 : decode cX6_reopenAllOf 2 = .ok (.iload_n 2, 1) := by decide +kernel
theorem dX6_reopenAllOf_3 : decode cX6_reopenAllOf 3 = .ok (.aload_n 0, 1) := by decide +kernel
theorem dX6_reopenAllOf_4 : decode cX6_reopenAllOf 4 = .ok (.getfield 9, 3) := by decide +kernel
theorem dX6_reopenAllOf_7 : decode cX6_reopenAllOf 7 = .ok (.if_icmp .ge 33, 3) := by decide +kernel
theorem dX6_reopenAllOf_10 : decode cX6_reopenAllOf 10 = .ok (.aload_n 0, 1) := by decide +kernel
theorem dX6_reopenAllOf_11 : decode cX6_reopenAllOf 11 = .ok (.iload_n 2, 1) := by decide +kernel
theorem dX6_reopenAllOf_12 : decode cX6_reopenAllOf 12 = .ok (.iconst 1, 1) := by decide +kernel
theorem dX6_reopenAllOf_13 : decode cX6_reopenAllOf 13 = .ok (.invokevirtual 55, 3) := by decide +kernel
theorem dX6_reopenAllOf_16 : decode cX6_reopenAllOf 16 = .ok (.ifCond .eq 18, 3) := by decide +kernel
theorem dX6_reopenAllOf_19 : decode cX6_reopenAllOf 19 = .ok (.aload_n 0, 1) := by decide +kernel
theorem dX6_reopenAllOf_20 : decode cX6_reopenAllOf 20 = .ok (.getfield 34, 3) := by decide +kernel
theorem dX6_reopenAllOf_23 : decode cX6_reopenAllOf 23 = .ok (.iload_n 2, 1) := by decide +kernel
theorem dX6_reopenAllOf_24 : decode cX6_reopenAllOf 24 = .ok (.iaload, 1) := by decide +kernel
theorem dX6_reopenAllOf_25 : decode cX6_reopenAllOf 25 = .ok (.iload_n 1, 1) := by decide +kernel
theorem dX6_reopenAllOf_26 : decode cX6_reopenAllOf 26 = .ok (.if_icmp .ne 8, 3) := by decide +kernel
theorem dX6_reopenAllOf_29 : decode cX6_reopenAllOf 29 = .ok (.aload_n 0, 1) := by decide +kernel
theorem dX6_reopenAllOf_30 : decode cX6_reopenAllOf 30 = .ok (.iload_n 2, 1) := by decide +kernel
theorem dX6_reopenAllOf_31 : decode cX6_reopenAllOf 31 = .ok (.invokevirtual 58, 3) := by decide +kernel
theorem dX6_reopenAllOf_34 : decode cX6_reopenAllOf 34 = .ok (.iinc 2 1, 3) := by decide +kernel
theorem dX6_reopenAllOf_37 : decode cX6_reopenAllOf 37 = .ok (.goto (-35), 3) := by decide +kernel
theorem dX6_reopenAllOf_40 : decode cX6_reopenAllOf 40 = .ok (.return_, 1) := by decide +kernel
theorem dX6_finish_0 : decode cX6_finish 0 = .ok (.aload_n 0, 1) := by decide +kernel
theorem dX6_finish_1 : decode cX6_finish 1 = .ok (.iload_n 1, 1) := by decide +kernel
theorem dX6_finish_2 : decode cX6_finish 2 = .ok (.invokevirtual 43, 3) := by decide +kernel
theorem dX6_finish_5 : decode cX6_finish 5 = .ok (.ifCond .eq 17, 3) := by decide +kernel
theorem dX6_finish_8 : decode cX6_finish 8 = .ok (.aload_n 0, 1) := by decide +kernel
theorem dX6_finish_9 : decode cX6_finish 9 = .ok (.getfield 31, 3) := by decide +kernel
theorem dX6_finish_12 : decode cX6_finish 12 = .ok (.iload_n 1, 1) := by decide +kernel
theorem dX6_finish_13 : decode cX6_finish 13 = .ok (.iconst 2, 1) := by decide +kernel
theorem dX6_finish_14 : decode cX6_finish 14 = .ok (.iastore, 1) := by decide +kernel
theorem dX6_finish_15 : decode cX6_finish 15 = .ok (.aload_n 0, 1) := by decide +kernel
theorem dX6_finish_16 : decode cX6_finish 16 = .ok (.getfield 37, 3) := by decide +kernel
theorem dX6_finish_19 : decode cX6_finish 19 = .ok (.iload_n 1, 1) := by decide +kernel
theorem dX6_finish_20 : decode cX6_finish 20 = .ok (.iload_n 2, 1) := by decide +kernel
theorem dX6_finish_21 : decode cX6_finish 21 = .ok (.iastore, 1) := by decide +kernel
theorem dX6_finish_22 : decode cX6_finish 22 = .ok (.return_, 1) := by decide +kernel
theorem dX7_init_0 : decode cX7_init 0 = .ok (.aload_n 0, 1) := by decide +kernel
theorem dX7_init_1 : decode cX7_init 1 = .ok (.invokespecial 3, 3) := by decide +kernel
theorem dX7_init_4 : decode cX7_init 4 = .ok (.aload_n 0, 1) := by decide +kernel
theorem dX7_init_5 : decode cX7_init 5 = .ok (.iconst 4, 1) := by decide +kernel
theorem dX7_init_6 : decode cX7_init 6 = .ok (.newarray .int, 2) := by decide +kernel
theorem dX7_init_8 : decode cX7_init 8 = .ok (.putfield 9, 3) := by decide +kernel
theorem dX7_init_11 : decode cX7_init 11 = .ok (.aload_n 0, 1) := by decide +kernel
theorem dX7_init_12 : decode cX7_init 12 = .ok (.bipush 40, 2) := by decide +kernel
theorem dX7_init_14 : decode cX7_init 14 = .ok (.newarray .int, 2) := by decide +kernel
theorem dX7_init_16 : decode cX7_init 16 = .ok (.putfield 15, 3) := by decide +kernel
theorem dX7_init_19 : decode cX7_init 19 = .ok (.aload_n 0, 1) := by decide +kernel
theorem dX7_init_20 : decode cX7_init 20 = .ok (.bipush 40, 2) := by decide +kernel
theorem dX7_init_22 : decode cX7_init 22 = .ok (.newarray .int, 2) := by decide +kernel
theorem dX7_init_24 : decode cX7_init 24 = .ok (.putfield 18, 3) := by decide +kernel
theorem dX7_init_27 : decode cX7_init 27 = .ok (.aload_n 0, 1) := by decide +kernel
theorem dX7_init_28 : decode cX7_init 28 = .ok (.iconst 0, 1) := by decide +kernel
theorem dX7_init_29 : decode cX7_init 29 = .ok (.putfield 21, 3) := by decide +kernel
theorem dX7_init_32 : decode cX7_init 32 = .ok (.aload_n 0, 1) := by decide +kernel
theorem dX7_init_33 : decode cX7_init 33 = .ok (.iconst 0, 1) := by decide +kernel
theorem dX7_init_34 : decode cX7_init 34 = .ok (.putfield 25, 3) := by decide +kernel
theorem dX7_init_37 : decode cX7_init 37 = .ok (.aload_n 0, 1) := by decide +kernel
theorem dX7_init_38 : decode cX7_init 38 = .ok (.bipush 40, 2) := by decide +kernel
theorem dX7_init_40 : decode cX7_init 40 = .ok (.newarray .int, 2) := by decide +kernel
theorem dX7_init_42 : decode cX7_init 42 = .ok (.putfield 29, 3) := by decide +kernel
theorem dX7_init_45 : decode cX7_init 45 = .ok (.aload_n 0, 1) := by decide +kernel
theorem dX7_init_46 : decode cX7_init 46 = .ok (.iconst 0, 1) := by decide +kernel
theorem dX7_init_47 : decode cX7_init 47 = .ok (.putfield 32, 3) := by decide +kernel
theorem dX7_init_50 : decode cX7_init 50 = .ok (.return_, 1) := by decide +kernel
theorem dX7_startAnew_0 : decode cX7_startAnew 0 = .ok (.iconst 0, 1) := by decide +kernel
theorem dX7_startAnew_1 : decode cX7_startAnew 1 = .ok (.istore_n 1, 1) := by decide +kernel
theorem dX7_startAnew_2 : decode cX7_startAnew 2 = .ok (.iload_n 1, 1) := by decide +kernel
theorem dX7_startAnew_3 : decode cX7_startAnew 3 = .ok (.iconst 4, 1) := by decide +kernel
theorem dX7_startAnew_4 : decode cX7_startAnew 4 = .ok (.if_icmp .ge 16, 3) := by decide +kernel
theorem dX7_startAnew_7 : decode cX7_startAnew 7 = .ok (.aload_n 0, 1) := by decide +kernel
theorem dX7_startAnew_8 : decode cX7_startAnew 8 = .ok (.getfield 9, 3) := by decide +kernel
theorem dX7_startAnew_11 : decode cX7_startAnew 11 = .ok (.iload_n 1, 1) := by decide +kernel
theorem dX7_startAnew_12 : decode cX7_startAnew 12 = .ok (.iconst 0, 1) := by decide +kernel
theorem dX7_startAnew_13 : decode cX7_startAnew 13 = .ok (.iastore, 1) := by decide +kernel
theorem dX7_startAnew_14 : decode cX7_startAnew 14 = .ok (.iinc 1 1, 3) := by decide +kernel
theorem dX7_startAnew_17 : decode cX7_startAnew 17 = .ok (.goto (-15), 3) := by decide +kernel
theorem dX7_startAnew_20 : decode cX7_startAnew 20 = .ok (.iconst 0, 1) := by decide +kernel
theorem dX7_startAnew_21 : decode cX7_startAnew 21 = .ok (.istore_n 1, 1) := by decide +kernel
theorem dX7_startAnew_22 : decode cX7_startAnew 22 = .ok (.iload_n 1, 1) := by decide +kernel
theorem dX7_startAnew_23 : decode cX7_startAnew 23 = .ok (.bipush 40, 2) := by decide +kernel
theorem dX7_startAnew_25 : decode cX7_startAnew 25 = .ok (.if_icmp .ge 16, 3) := by decide +kernel
theorem dX7_startAnew_28 : decode cX7_startAnew 28 = .ok (.aload_n 0, 1) := by decide +kernel
theorem dX7_startAnew_29 : decode cX7_startAnew 29 = .ok (.getfield 15, 3) := by decide +kernel
theorem dX7_startAnew_32 : decode cX7_startAnew 32 = .ok (.iload_n 1, 1) := by decide +kernel
theorem dX7_startAnew_33 : decode cX7_startAnew 33 = .ok (.iconst 0, 1) := by decide +kernel
theorem dX7_startAnew_34 : decode cX7_startAnew 34 = .ok (.iastore, 1) := by decide +kernel
theorem dX7_startAnew_35 : decode cX7_startAnew 35 = .ok (.iinc 1 1, 3) := by decide +kernel
theorem dX7_startAnew_38 : decode cX7_startAnew 38 = .ok (.goto (-16), 3) := by decide +kernel
theorem dX7_startAnew_41 : decode cX7_startAnew 41 = .ok (.aload_n 0, 1) := by decide +kernel
theorem dX7_startAnew_42 : decode cX7_startAnew 42 = .ok (.invokevirtual 35, 3) := by decide +kernel
theorem dX7_startAnew_45 : decode cX7_startAnew 45 = .ok (.return_, 1) := by decide +kernel
theorem dX7_startFrom_0 : decode cX7_startFrom 0 = .ok (.aload_n 1, 1) := by decide +kernel
theorem dX7_startFrom_1 : decode cX7_startFrom 1 = .ok (.getfield 38, 3) := by decide +kernel
theorem dX7_startFrom_4 : decode cX7_startFrom 4 = .ok (.iconst 0, 1) := by decide +kernel
theorem dX7_startFrom_5 : decode cX7_startFrom 5 = .ok (.aload_n 0, 1) := by decide +kernel
theorem dX7_startFrom_6 : decode cX7_startFrom 6 = .ok (.getfield 9, 3) := by decide +kernel
theorem dX7_startFrom_9 : decode cX7_startFrom 9 = .ok (.iconst 0, 1) := by decide +kernel
theorem dX7_startFrom_10 : decode cX7_startFrom 10 = .ok (.iconst 4, 1) := by decide +kernel
theorem dX7_startFrom_11 : decode cX7_startFrom 11 = .ok (.invokestatic 41, 3) := by decide +kernel
theorem dX7_startFrom_14 : decode cX7_startFrom 14 = .ok (.aload_n 1, 1) := by decide +kernel
theorem dX7_startFrom_15 : decode cX7_startFrom 15 = .ok (.getfield 47, 3) := by decide +kernel
theorem dX7_startFrom_18 : decode cX7_startFrom 18 = .ok (.iconst 0, 1) := by decide +kernel
theorem dX7_startFrom_19 : decode cX7_startFrom 19 = .ok (.aload_n 0, 1) := by decide +kernel
theorem dX7_startFrom_20 : decode cX7_startFrom 20 = .ok (.getfield 15, 3) := by decide +kernel
theorem dX7_startFrom_23 : decode cX7_startFrom 23 = .ok (.iconst 0, 1) := by decide +kernel
theorem dX7_startFrom_24 : decode cX7_startFrom 24 = .ok (.bipush 40, 2) := by decide +kernel
theorem dX7_startFrom_26 : decode cX7_startFrom 26 = .ok (.invokestatic 41, 3) := by decide +kernel
theorem dX7_startFrom_29 : decode cX7_startFrom 29 = .ok (.aload_n 0, 1) := by decide +kernel
theorem dX7_startFrom_30 : decode cX7_startFrom 30 = .ok (.invokevirtual 35, 3) := by decide +kernel
theorem dX7_startFrom_33 : decode cX7_startFrom 33 = .ok (.return_, 1) := by decide +kernel
theorem dX7_forgetWhatCame_0 : decode cX7_forgetWhatCame 0 = .ok (.aload_n 0, 1) := by decide +kernel
theorem dX7_forgetWhatCame_1 : decode cX7_forgetWhatCame 1 = .ok (.iconst 0, 1) := by decide +kernel
theorem dX7_forgetWhatCame_2 : decode cX7_forgetWhatCame 2 = .ok (.putfield 21, 3) := by decide +kernel
theorem dX7_forgetWhatCame_5 : decode cX7_forgetWhatCame 5 = .ok (.aload_n 0, 1) := by decide +kernel
theorem dX7_forgetWhatCame_6 : decode cX7_forgetWhatCame 6 = .ok (.iconst 0, 1) := by decide +kernel
theorem dX7_forgetWhatCame_7 : decode cX7_forgetWhatCame 7 = .ok (.putfield 32, 3) := by decide +kernel
theorem dX7_forgetWhatCame_10 : decode cX7_forgetWhatCame 10 = .ok (.aload_n 0, 1) := by decide +kernel
theorem dX7_forgetWhatCame_11 : decode cX7_forgetWhatCame 11 = .ok (.iconst 0, 1) := by decide +kernel
theorem dX7_forgetWhatCame_12 : decode cX7_forgetWhatCame 12 = .ok (.putfield 25, 3) := by decide +kernel
theorem dX7_forgetWhatCame_15 : decode cX7_forgetWhatCame 15 = .ok (.return_, 1) := by decide +kernel
theorem dX7_put_0 : decode cX7_put 0 = .ok (.iload_n 1, 1) := by decide +kernel
theorem dX7_put_1 : decode cX7_put 1 = .ok (.ifCond .lt 15, 3) := by decide +kernel
theorem dX7_put_4 : decode cX7_put 4 = .ok (.iload_n 1, 1) := by decide +kernel
theorem dX7_put_5 : decode cX7_put 5 = .ok (.iconst 4, 1) := by decide +kernel
theorem dX7_put_6 : decode cX7_put 6 = .ok (.if_icmp .ge 10, 3) := by decide +kernel
theorem dX7_put_9 : decode cX7_put 9 = .ok (.aload_n 0, 1) := by decide +kernel
theorem dX7_put_10 : decode cX7_put 10 = .ok (.getfield 9, 3) := by decide +kernel
theorem dX7_put_13 : decode cX7_put 13 = .ok (.iload_n 1, 1) := by decide +kernel
theorem dX7_put_14 : decode cX7_put 14 = .ok (.iload_n 2, 1) := by decide +kernel
theorem dX7_put_15 : decode cX7_put 15 = .ok (.iastore, 1) := by decide +kernel
theorem dX7_put_16 : decode cX7_put 16 = .ok (.return_, 1) := by decide +kernel
theorem dX7_go_0 : decode cX7_go 0 = .ok (.iload_n 2, 1) := by decide +kernel
theorem dX7_go_1 : decode cX7_go 1 = .ok (.istore_n 3, 1) := by decide +kernel
theorem dX7_go_2 : decode cX7_go 2 = .ok (.iconst 0, 1) := by decide +kernel
theorem dX7_go_3 : decode cX7_go 3 = .ok (.istore 4, 2) := by decide +kernel
theorem dX7_go_5 : decode cX7_go 5 = .ok (.iload 4, 2) := by decide +kernel
theorem dX7_go_7 : decode cX7_go 7 = .ok (.sipush 1000, 3) := by decide +kernel
theorem dX7_go_10 : decode cX7_go 10 = .ok (.if_icmp .ge 31, 3) := by decide +kernel
theorem dX7_go_13 : decode cX7_go 13 = .ok (.iload_n 3, 1) := by decide +kernel
theorem dX7_go_14 : decode cX7_go 14 = .ok (.iconst (-1), 1) := by decide +kernel
theorem dX7_go_15 : decode cX7_go 15 = .ok (.if_icmp .eq 26, 3) := by decide +kernel
theorem dX7_go_18 : decode cX7_go 18 = .ok (.aload_n 0, 1) := by decide +kernel
theorem dX7_go_19 : decode cX7_go 19 = .ok (.aload_n 1, 1) := by decide +kernel
theorem dX7_go_20 : decode cX7_go 20 = .ok (.iload_n 3, 1) := by decide +kernel
theorem dX7_go_21 : decode cX7_go 21 = .ok (.invokevirtual 48, 3) := by decide +kernel
theorem dX7_go_24 : decode cX7_go 24 = .ok (.istore_n 3, 1) := by decide +kernel
theorem dX7_go_25 : decode cX7_go 25 = .ok (.iload_n 3, 1) := by decide +kernel
theorem dX7_go_26 : decode cX7_go 26 = .ok (.iconst (-1), 1) := by decide +kernel
theorem dX7_go_27 : decode cX7_go 27 = .ok (.if_icmp .ne 8, 3) := by decide +kernel
theorem dX7_go_30 : decode cX7_go 30 = .ok (.aload_n 0, 1) := by decide +kernel
theorem dX7_go_31 : decode cX7_go 31 = .ok (.invokevirtual 52, 3) := by decide +kernel
theorem dX7_go_34 : decode cX7_go 34 = .ok (.istore_n 3, 1) := by decide +kernel
theorem dX7_go_35 : decode cX7_go 35 = .ok (.iinc 4 1, 3) := by decide +kernel
theorem dX7_go_38 : decode cX7_go 38 = .ok (.goto (-33), 3) := by decide +kernel
theorem dX7_go_41 : decode cX7_go 41 = .ok (.return_, 1) := by decide +kernel
theorem dX7_follow_0 : decode cX7_follow 0 = .ok (.aload_n 1, 1) := by decide +kernel
theorem dX7_follow_1 : decode cX7_follow 1 = .ok (.iload_n 2, 1) := by decide +kernel
theorem dX7_follow_2 : decode cX7_follow 2 = .ok (.invokevirtual 56, 3) := by decide +kernel
theorem dX7_follow_5 : decode cX7_follow 5 = .ok (.ifCond .ne 5, 3) := by decide +kernel
theorem dX7_follow_8 : decode cX7_follow 8 = .ok (.iconst (-1), 1) := by decide +kernel
theorem dX7_follow_9 : decode cX7_follow 9 = .ok (.ireturn, 1) := by decide +kernel
theorem dX7_follow_10 : decode cX7_follow 10 = .ok (.aload_n 1, 1) := by decide +kernel
theorem dX7_follow_11 : decode cX7_follow 11 = .ok (.getfield 62, 3) := by decide +kernel
theorem dX7_follow_14 : decode cX7_follow 14 = .ok (.iload_n 2, 1) := by decide +kernel
theorem dX7_follow_15 : decode cX7_follow 15 = .ok (.iaload, 1) := by decide +kernel
theorem dX7_follow_16 : decode cX7_follow 16 = .ok (.istore_n 3, 1) := by decide +kernel
theorem dX7_follow_17 : decode cX7_follow 17 = .ok (.aload_n 1, 1) := by decide +kernel
theorem dX7_follow_18 : decode cX7_follow 18 = .ok (.getfield 65, 3) := by decide +kernel
theorem dX7_follow_21 : decode cX7_follow 21 = .ok (.iload_n 2, 1) := by decide +kernel
theorem dX7_follow_22 : decode cX7_follow 22 = .ok (.iaload, 1) := by decide +kernel
theorem dX7_follow_23 : decode cX7_follow 23 = .ok (.istore 4, 2) := by decide +kernel
theorem dX7_follow_25 : decode cX7_follow 25 = .ok (.aload_n 1, 1) := by decide +kernel
theorem dX7_follow_26 : decode cX7_follow 26 = .ok (.getfield 68, 3) := by decide +kernel
theorem dX7_follow_29 : decode cX7_follow 29 = .ok (.iload_n 2, 1) := by decide +kernel
theorem dX7_follow_30 : decode cX7_follow 30 = .ok (.iaload, 1) := by decide +kernel
theorem dX7_follow_31 : decode cX7_follow 31 = .ok (.istore 5, 2) := by decide +kernel
theorem dX7_follow_33 : decode cX7_follow 33 = .ok (.aload_n 1, 1) := by decide +kernel
theorem dX7_follow_34 : decode cX7_follow 34 = .ok (.getfield 71, 3) := by decide +kernel
theorem dX7_follow_37 : decode cX7_follow 37 = .ok (.iload_n 2, 1) := by decide +kernel
theorem dX7_follow_38 : decode cX7_follow 38 = .ok (.iaload, 1) := by decide +kernel
theorem dX7_follow_39 : decode cX7_follow 39 = .ok (.tableswitch 103 0 5 #[37, 44, 55, 74, 77, 88], 37) := by decide +kernel
theorem dX7_follow_76 : decode cX7_follow 76 = .ok (.aload_n 0, 1) := by decide +kernel
theorem dX7_follow_77 : decode cX7_follow 77 = .ok (.iload_n 3, 1) := by decide +kernel
theorem dX7_follow_78 : decode cX7_follow 78 = .ok (.invokevirtual 74, 3) := by decide +kernel
theorem dX7_follow_81 : decode cX7_follow 81 = .ok (.iconst (-1), 1) := by decide +kernel
theorem dX7_follow_82 : decode cX7_follow 82 = .ok (.ireturn, 1) := by decide +kernel
theorem dX7_follow_83 : decode cX7_follow 83 = .ok (.aload_n 0, 1) := by decide +kernel
theorem dX7_follow_84 : decode cX7_follow 84 = .ok (.iload_n 3, 1) := by decide +kernel
theorem dX7_follow_85 : decode cX7_follow 85 = .ok (.iload 4, 2) := by decide +kernel
theorem dX7_follow_87 : decode cX7_follow 87 = .ok (.invokevirtual 78, 3) := by decide +kernel
theorem dX7_follow_90 : decode cX7_follow 90 = .ok (.iload_n 2, 1) := by decide +kernel
theorem dX7_follow_91 : decode cX7_follow 91 = .ok (.iconst 1, 1) := by decide +kernel
theorem dX7_follow_92 : decode cX7_follow 92 = .ok (.iadd, 1) := by decide +kernel
theorem dX7_follow_93 : decode cX7_follow 93 = .ok (.ireturn, 1) := by decide +kernel
theorem dX7_follow_94 : decode cX7_follow 94 = .ok (.aload_n 0, 1) := by decide +kernel
theorem dX7_follow_95 : decode cX7_follow 95 = .ok (.iload_n 3, 1) := by decide +kernel
theorem dX7_follow_96 : decode cX7_follow 96 = .ok (.iload 4, 2) := by decide +kernel
theorem dX7_follow_98 : decode cX7_follow 98 = .ok (.invokevirtual 82, 3) := by decide +kernel
theorem dX7_follow_101 : decode cX7_follow 101 = .ok (.ifCond .eq 9, 3) := by decide +kernel
theorem dX7_follow_104 : decode cX7_follow 104 = .ok (.iload_n 2, 1) := by decide +kernel
theorem dX7_follow_105 : decode cX7_follow 105 = .ok (.iconst 1, 1) := by decide +kernel
theorem dX7_follow_106 : decode cX7_follow 106 = .ok (.iadd, 1) := by decide +kernel
theorem dX7_follow_107 : decode cX7_follow 107 = .ok (.goto 5, 3) := by decide +kernel
theorem dX7_follow_110 : decode cX7_follow 110 = .ok (.iload 5, 2) := by decide +kernel
theorem dX7_follow_112 : decode cX7_follow 112 = .ok (.ireturn, 1) := by decide +kernel
theorem dX7_follow_113 : decode cX7_follow 113 = .ok (.iload 5, 2) := by decide +kernel
theorem dX7_follow_115 : decode cX7_follow 115 = .ok (.ireturn, 1) := by decide +kernel
theorem dX7_follow_116 : decode cX7_follow 116 = .ok (.aload_n 0, 1) := by decide +kernel
theorem dX7_follow_117 : decode cX7_follow 117 = .ok (.iload_n 3, 1) := by decide +kernel
theorem dX7_follow_118 : decode cX7_follow 118 = .ok (.iload 5, 2) := by decide +kernel
theorem dX7_follow_120 : decode cX7_follow 120 = .ok (.invokevirtual 86, 3) := by decide +kernel
theorem dX7_follow_123 : decode cX7_follow 123 = .ok (.iload_n 2, 1) := by decide +kernel
theorem dX7_follow_124 : decode cX7_follow 124 = .ok (.iconst 1, 1) := by decide +kernel
theorem dX7_follow_125 : decode cX7_follow 125 = .ok (.iadd, 1) := by decide +kernel
theorem dX7_follow_126 : decode cX7_follow 126 = .ok (.ireturn, 1) := by decide +kernel
theorem dX7_follow_127 : decode cX7_follow 127 = .ok (.aload_n 0, 1) := by decide +kernel
theorem dX7_follow_128 : decode cX7_follow 128 = .ok (.iload_n 3, 1) := by decide +kernel
theorem dX7_follow_129 : decode cX7_follow 129 = .ok (.invokevirtual 89, 3) := by decide +kernel
theorem dX7_follow_132 : decode cX7_follow 132 = .ok (.ifCond .eq 8, 3) := by decide +kernel
theorem dX7_follow_135 : decode cX7_follow 135 = .ok (.iload 5, 2) := by decide +kernel
theorem dX7_follow_137 : decode cX7_follow 137 = .ok (.goto 4, 3) := by decide +kernel
theorem dX7_follow_140 : decode cX7_follow 140 = .ok (.iconst (-1), 1) := by decide +kernel
theorem dX7_follow_141 : decode cX7_follow 141 = .ok (.ireturn, 1) := by decide +kernel
theorem dX7_follow_142 : decode cX7_follow 142 = .ok (.aload_n 0, 1) := by decide +kernel
theorem dX7_follow_143 : decode cX7_follow 143 = .ok (.iconst 1, 1) := by decide +kernel
theorem dX7_follow_144 : decode cX7_follow 144 = .ok (.putfield 25, 3) := by decide +kernel
theorem dX7_follow_147 : decode cX7_follow 147 = .ok (.iconst (-1), 1) := by decide +kernel
theorem dX7_follow_148 : decode cX7_follow 148 = .ok (.ireturn, 1) := by decide +kernel
theorem dX7_nextSecondWay_0 : decode cX7_nextSecondWay 0 = .ok (.aload_n 0, 1) := by decide +kernel
theorem dX7_nextSecondWay_1 : decode cX7_nextSecondWay 1 = .ok (.getfield 32, 3) := by decide +kernel
theorem dX7_nextSecondWay_4 : decode cX7_nextSecondWay 4 = .ok (.ifCond .le 12, 3) := by decide +kernel
theorem dX7_nextSecondWay_7 : decode cX7_nextSecondWay 7 = .ok (.aload_n 0, 1) := by decide +kernel
theorem dX7_nextSecondWay_8 : decode cX7_nextSecondWay 8 = .ok (.getfield 32, 3) := by decide +kernel
theorem dX7_nextSecondWay_11 : decode cX7_nextSecondWay 11 = .ok (.bipush 40, 2) := by decide +kernel
theorem dX7_nextSecondWay_13 : decode cX7_nextSecondWay 13 = .ok (.if_icmp .le 5, 3) := by decide +kernel
theorem dX7_nextSecondWay_16 : decode cX7_nextSecondWay 16 = .ok (.iconst (-1), 1) := by decide +kernel
theorem dX7_nextSecondWay_17 : decode cX7_nextSecondWay 17 = .ok (.ireturn, 1) := by decide +kernel
theorem dX7_nextSecondWay_18 : decode cX7_nextSecondWay 18 = .ok (.aload_n 0, 1) := by decide +kernel
theorem dX7_nextSecondWay_19 : decode cX7_nextSecondWay 19 = .ok (.dup, 1) := by decide +kernel
theorem dX7_nextSecondWay_20 : decode cX7_nextSecondWay 20 = .ok (.getfield 32, 3) := by decide +kernel
theorem dX7_nextSecondWay_23 : decode cX7_nextSecondWay 23 = .ok (.iconst 1, 1) := by decide +kernel
theorem dX7_nextSecondWay_24 : decode cX7_nextSecondWay 24 = .ok (.isub, 1) := by decide +kernel
theorem dX7_nextSecondWay_25 : decode cX7_nextSecondWay 25 = .ok (.putfield 32, 3) := by decide +kernel
theorem dX7_nextSecondWay_28 : decode cX7_nextSecondWay 28 = .ok (.aload_n 0, 1) := by decide +kernel
theorem dX7_nextSecondWay_29 : decode cX7_nextSecondWay 29 = .ok (.getfield 29, 3) := by decide +kernel
theorem dX7_nextSecondWay_32 : decode cX7_nextSecondWay 32 = .ok (.aload_n 0, 1) := by decide +kernel
theorem dX7_nextSecondWay_33 : decode cX7_nextSecondWay 33 = .ok (.getfield 32, 3) := by decide +kernel
theorem dX7_nextSecondWay_36 : decode cX7_nextSecondWay 36 = .ok (.iaload, 1) := by decide +kernel
theorem dX7_nextSecondWay_37 : decode cX7_nextSecondWay 37 = .ok (.ireturn, 1) := by decide +kernel
theorem dX7_comeTo_0 : decode cX7_comeTo 0 = .ok (.aload_n 0, 1) := by decide +kernel
theorem dX7_comeTo_1 : decode cX7_comeTo 1 = .ok (.getfield 21, 3) := by decide +kernel
theorem dX7_comeTo_4 : decode cX7_comeTo 4 = .ok (.ifCond .lt 32, 3) := by decide +kernel
theorem dX7_comeTo_7 : decode cX7_comeTo 7 = .ok (.aload_n 0, 1) := by decide +kernel
theorem dX7_comeTo_8 : decode cX7_comeTo 8 = .ok (.getfield 21, 3) := by decide +kernel
theorem dX7_comeTo_11 : decode cX7_comeTo 11 = .ok (.bipush 40, 2) := by decide +kernel
theorem dX7_comeTo_13 : decode cX7_comeTo 13 = .ok (.if_icmp .ge 23, 3) := by decide +kernel
theorem dX7_comeTo_16 : decode cX7_comeTo 16 = .ok (.aload_n 0, 1) := by decide +kernel
theorem dX7_comeTo_17 : decode cX7_comeTo 17 = .ok (.getfield 18, 3) := by decide +kernel
theorem dX7_comeTo_20 : decode cX7_comeTo 20 = .ok (.aload_n 0, 1) := by decide +kernel
theorem dX7_comeTo_21 : decode cX7_comeTo 21 = .ok (.getfield 21, 3) := by decide +kernel
theorem dX7_comeTo_24 : decode cX7_comeTo 24 = .ok (.iload_n 1, 1) := by decide +kernel
theorem dX7_comeTo_25 : decode cX7_comeTo 25 = .ok (.iastore, 1) := by decide +kernel
theorem dX7_comeTo_26 : decode cX7_comeTo 26 = .ok (.aload_n 0, 1) := by decide +kernel
theorem dX7_comeTo_27 : decode cX7_comeTo 27 = .ok (.dup, 1) := by decide +kernel
theorem dX7_comeTo_28 : decode cX7_comeTo 28 = .ok (.getfield 21, 3) := by decide +kernel
theorem dX7_comeTo_31 : decode cX7_comeTo 31 = .ok (.iconst 1, 1) := by decide +kernel
theorem dX7_comeTo_32 : decode cX7_comeTo 32 = .ok (.iadd, 1) := by decide +kernel
theorem dX7_comeTo_33 : decode cX7_comeTo 33 = .ok (.putfield 21, 3) := by decide +kernel
theorem dX7_comeTo_36 : decode cX7_comeTo 36 = .ok (.return_, 1) := by decide +kernel
theorem dX7_isBelow_0 : decode cX7_isBelow 0 = .ok (.iload_n 1, 1) := by decide +kernel
theorem dX7_isBelow_1 : decode cX7_isBelow 1 = .ok (.ifCond .lt 22, 3) := by decide +kernel
theorem dX7_isBelow_4 : decode cX7_isBelow 4 = .ok (.iload_n 1, 1) := by decide +kernel
theorem dX7_isBelow_5 : decode cX7_isBelow 5 = .ok (.iconst 4, 1) := by decide +kernel
theorem dX7_isBelow_6 : decode cX7_isBelow 6 = .ok (.if_icmp .ge 17, 3) := by decide +kernel
theorem dX7_isBelow_9 : decode cX7_isBelow 9 = .ok (.aload_n 0, 1) := by decide +kernel
theorem dX7_isBelow_10 : decode cX7_isBelow 10 = .ok (.getfield 9, 3) := by decide +kernel
theorem dX7_isBelow_13 : decode cX7_isBelow 13 = .ok (.iload_n 1, 1) := by decide +kernel
theorem dX7_isBelow_14 : decode cX7_isBelow 14 = .ok (.iaload, 1) := by decide +kernel
theorem dX7_isBelow_15 : decode cX7_isBelow 15 = .ok (.iload_n 2, 1) := by decide +kernel
theorem dX7_isBelow_16 : decode cX7_isBelow 16 = .ok (.if_icmp .ge 7, 3) := by decide +kernel
theorem dX7_isBelow_19 : decode cX7_isBelow 19 = .ok (.iconst 1, 1) := by decide +kernel
theorem dX7_isBelow_20 : decode cX7_isBelow 20 = .ok (.goto 4, 3) := by decide +kernel
theorem dX7_isBelow_23 : decode cX7_isBelow 23 = .ok (.iconst 0, 1) := by decide +kernel
theorem dX7_isBelow_24 : decode cX7_isBelow 24 = .ok (.ireturn, 1) := by decide +kernel
theorem dX7_fork_0 : decode cX7_fork 0 = .ok (.iload_n 1, 1) := by decide +kernel
theorem dX7_fork_1 : decode cX7_fork 1 = .ok (.ifCond .lt 16, 3) := by decide +kernel
theorem dX7_fork_4 : decode cX7_fork 4 = .ok (.iload_n 1, 1) := by decide +kernel
theorem dX7_fork_5 : decode cX7_fork 5 = .ok (.bipush 40, 2) := by decide +kernel
theorem dX7_fork_7 : decode cX7_fork 7 = .ok (.if_icmp .ge 10, 3) := by decide +kernel
theorem dX7_fork_10 : decode cX7_fork 10 = .ok (.aload_n 0, 1) := by decide +kernel
theorem dX7_fork_11 : decode cX7_fork 11 = .ok (.getfield 15, 3) := by decide +kernel
theorem dX7_fork_14 : decode cX7_fork 14 = .ok (.iload_n 1, 1) := by decide +kernel
theorem dX7_fork_15 : decode cX7_fork 15 = .ok (.iconst 2, 1) := by decide +kernel
theorem dX7_fork_16 : decode cX7_fork 16 = .ok (.iastore, 1) := by decide +kernel
theorem dX7_fork_17 : decode cX7_fork 17 = .ok (.aload_n 0, 1) := by decide +kernel
theorem dX7_fork_18 : decode cX7_fork 18 = .ok (.getfield 32, 3) := by decide +kernel
theorem dX7_fork_21 : decode cX7_fork 21 = .ok (.ifCond .lt 32, 3) := by decide +kernel
theorem dX7_fork_24 : decode cX7_fork 24 = .ok (.aload_n 0, 1) := by decide +kernel
theorem dX7_fork_25 : decode cX7_fork 25 = .ok (.getfield 32, 3) := by decide +kernel
theorem dX7_fork_28 : decode cX7_fork 28 = .ok (.bipush 40, 2) := by decide +kernel
theorem dX7_fork_30 : decode cX7_fork 30 = .ok (.if_icmp .ge 23, 3) := by decide +kernel
theorem dX7_fork_33 : decode cX7_fork 33 = .ok (.aload_n 0, 1) := by decide +kernel
theorem dX7_fork_34 : decode cX7_fork 34 = .ok (.getfield 29, 3) := by decide +kernel
theorem dX7_fork_37 : decode cX7_fork 37 = .ok (.aload_n 0, 1) := by decide +kernel
theorem dX7_fork_38 : decode cX7_fork 38 = .ok (.getfield 32, 3) := by decide +kernel
theorem dX7_fork_41 : decode cX7_fork 41 = .ok (.iload_n 2, 1) := by decide +kernel
theorem dX7_fork_42 : decode cX7_fork 42 = .ok (.iastore, 1) := by decide +kernel
theorem dX7_fork_43 : decode cX7_fork 43 = .ok (.aload_n 0, 1) := by decide +kernel
theorem dX7_fork_44 : decode cX7_fork 44 = .ok (.dup, 1) := by decide +kernel
theorem dX7_fork_45 : decode cX7_fork 45 = .ok (.getfield 32, 3) := by decide +kernel
theorem dX7_fork_48 : decode cX7_fork 48 = .ok (.iconst 1, 1) := by decide +kernel
theorem dX7_fork_49 : decode cX7_fork 49 = .ok (.iadd, 1) := by decide +kernel
theorem dX7_fork_50 : decode cX7_fork 50 = .ok (.putfield 32, 3) := by decide +kernel
theorem dX7_fork_53 : decode cX7_fork 53 = .ok (.return_, 1) := by decide +kernel
theorem dX7_endsLastWay_0 : decode cX7_endsLastWay 0 = .ok (.iload_n 1, 1) := by decide +kernel
theorem dX7_endsLastWay_1 : decode cX7_endsLastWay 1 = .ok (.ifCond .lt 9, 3) := by decide +kernel
theorem dX7_endsLastWay_4 : decode cX7_endsLastWay 4 = .ok (.iload_n 1, 1) := by decide +kernel
theorem dX7_endsLastWay_5 : decode cX7_endsLastWay 5 = .ok (.bipush 40, 2) := by decide +kernel
theorem dX7_endsLastWay_7 : decode cX7_endsLastWay 7 = .ok (.if_icmp .lt 5, 3) := by decide +kernel
theorem dX7_endsLastWay_10 : decode cX7_endsLastWay 10 = .ok (.iconst 0, 1) := by decide +kernel
theorem dX7_endsLastWay_11 : decode cX7_endsLastWay 11 = .ok (.ireturn, 1) := by decide +kernel
theorem dX7_endsLastWay_12 : decode cX7_endsLastWay 12 = .ok (.aload_n 0, 1) := by decide +kernel
theorem dX7_endsLastWay_13 : decode cX7_endsLastWay 13 = .ok (.getfield 15, 3) := by decide +kernel
theorem dX7_endsLastWay_16 : decode cX7_endsLastWay 16 = .ok (.iload_n 1, 1) := by decide +kernel
theorem dX7_endsLastWay_17 : decode cX7_endsLastWay 17 = .ok (.dup2, 1) := by decide +kernel
theorem dX7_endsLastWay_18 : decode cX7_endsLastWay 18 = .ok (.iaload, 1) := by decide +kernel
theorem dX7_endsLastWay_19 : decode cX7_endsLastWay 19 = .ok (.iconst 1, 1) := by decide +kernel
theorem dX7_endsLastWay_20 : decode cX7_endsLastWay 20 = .ok (.isub, 1) := by decide +kernel
theorem dX7_endsLastWay_21 : decode cX7_endsLastWay 21 = .ok (.iastore, 1) := by decide +kernel
theorem dX7_endsLastWay_22 : decode cX7_endsLastWay 22 = .ok (.aload_n 0, 1) := by decide +kernel
theorem dX7_endsLastWay_23 : decode cX7_endsLastWay 23 = .ok (.getfield 15, 3) := by decide +kernel
theorem dX7_endsLastWay_26 : decode cX7_endsLastWay 26 = .ok (.iload_n 1, 1) := by decide +kernel
theorem dX7_endsLastWay_27 : decode cX7_endsLastWay 27 = .ok (.iaload, 1) := by decide +kernel
theorem dX7_endsLastWay_28 : decode cX7_endsLastWay 28 = .ok (.ifCond .ne 7, 3) := by decide +kernel
theorem dX7_endsLastWay_31 : decode cX7_endsLastWay 31 = .ok (.iconst 1, 1) := by decide +kernel
theorem dX7_endsLastWay_32 : decode cX7_endsLastWay 32 = .ok (.goto 4, 3) := by decide +kernel
theorem dX7_endsLastWay_35 : decode cX7_endsLastWay 35 = .ok (.iconst 0, 1) := by decide +kernel
theorem dX7_endsLastWay_36 : decode cX7_endsLastWay 36 = .ok (.ireturn, 1) := by decide +kernel
end
section
theorem dX3_init_0 : decode cX3_init 0 = .ok (.aload_n 0, 1) := by decide +kernel
theorem dX3_init_1 : decode cX3_init 1 = .ok (.invokespecial 3, 3) := by decide +kernel
theorem dX3_init_4 : decode cX3_init 4 = .ok (.aload_n 0, 1) := by decide +kernel
theorem dX3_init_5 : decode cX3_init 5 = .ok (.new 9, 3) := by decide +kernel
theorem dX3_init_8 : decode cX3_init 8 = .ok (.dup, 1) := by decide +kernel
theorem dX3_init_9 : decode cX3_init 9 = .ok (.invokespecial 11, 3) := by decide +kernel
theorem dX3_init_12 : decode cX3_init 12 = .ok (.putfield 12, 3) := by decide +kernel
theorem dX3_init_15 : decode cX3_init 15 = .ok (.aload_n 0, 1) := by decide +kernel
theorem dX3_init_16 : decode cX3_init 16 = .ok (.iconst 0, 1) := by decide +kernel
theorem dX3_init_17 : decode cX3_init 17 = .ok (.putfield 18, 3) := by decide +kernel
theorem dX3_init_20 : decode cX3_init 20 = .ok (.aload_n 0, 1) := by decide +kernel
theorem dX3_init_21 : decode cX3_init 21 = .ok (.iconst (-1), 1) := by decide +kernel
theorem dX3_init_22 : decode cX3_init 22 = .ok (.putfield 22, 3) := by decide +kernel
theorem dX3_init_25 : decode cX3_init 25 = .ok (.aload_n 0, 1) := by decide +kernel
theorem dX3_init_26 : decode cX3_init 26 = .ok (.new 25, 3) := by decide +kernel
theorem dX3_init_29 : decode cX3_init 29 = .ok (.dup, 1) := by decide +kernel
theorem dX3_init_30 : decode cX3_init 30 = .ok (.invokespecial 27, 3) := by decide +kernel
theorem dX3_init_33 : decode cX3_init 33 = .ok (.putfield 28, 3) := by decide +kernel
theorem dX3_init_36 : decode cX3_init 36 = .ok (.aload_n 0, 1) := by decide +kernel
theorem dX3_init_37 : decode cX3_init 37 = .ok (.iconst 0, 1) := by decide +kernel
theorem dX3_init_38 : decode cX3_init 38 = .ok (.putfield 32, 3) := by decide +kernel
theorem dX3_init_41 : decode cX3_init 41 = .ok (.aload_n 0, 1) := by decide +kernel
theorem dX3_init_42 : decode cX3_init 42 = .ok (.iconst 0, 1) := by decide +kernel
theorem dX3_init_43 : decode cX3_init 43 = .ok (.putfield 36, 3) := by decide +kernel
theorem dX3_init_46 : decode cX3_init 46 = .ok (.aload_n 0, 1) := by decide +kernel
theorem dX3_init_47 : decode cX3_init 47 = .ok (.bipush 40, 2) := by decide +kernel
theorem dX3_init_49 : decode cX3_init 49 = .ok (.newarray .int, 2) := by decide +kernel
theorem dX3_init_51 : decode cX3_init 51 = .ok (.putfield 39, 3) := by decide +kernel
theorem dX3_init_54 : decode cX3_init 54 = .ok (.aload_n 0, 1) := by decide +kernel
theorem dX3_init_55 : decode cX3_init 55 = .ok (.iconst 0, 1) := by decide +kernel
theorem dX3_init_56 : decode cX3_init 56 = .ok (.putfield 43, 3) := by decide +kernel
theorem dX3_init_59 : decode cX3_init 59 = .ok (.aload_n 0, 1) := by decide +kernel
theorem dX3_init_60 : decode cX3_init 60 = .ok (.iconst 4, 1) := by decide +kernel
theorem dX3_init_61 : decode cX3_init 61 = .ok (.newarray .int, 2) := by decide +kernel
theorem dX3_init_63 : decode cX3_init 63 = .ok (.putfield 46, 3) := by decide +kernel
theorem dX3_init_66 : decode cX3_init 66 = .ok (.aload_n 0, 1) := by decide +kernel
theorem dX3_init_67 : decode cX3_init 67 = .ok (.iconst 4, 1) := by decide +kernel
theorem dX3_init_68 : decode cX3_init 68 = .ok (.newarray .int, 2) := by decide +kernel
theorem dX3_init_70 : decode cX3_init 70 = .ok (.putfield 49, 3) := by decide +kernel
theorem dX3_init_73 : decode cX3_init 73 = .ok (.aload_n 0, 1) := by decide +kernel
theorem dX3_init_74 : decode cX3_init 74 = .ok (.iconst 4, 1) := by decide +kernel
theorem dX3_init_75 : decode cX3_init 75 = .ok (.newarray .int, 2) := by decide +kernel
theorem dX3_init_77 : decode cX3_init 77 = .ok (.putfield 52, 3) := by decide +kernel
theorem dX3_init_80 : decode cX3_init 80 = .ok (.aload_n 0, 1) := by decide +kernel
theorem dX3_init_81 : decode cX3_init 81 = .ok (.iconst 4, 1) := by decide +kernel
theorem dX3_init_82 : decode cX3_init 82 = .ok (.newarray .boolean, 2) := by decide +kernel
theorem dX3_init_84 : decode cX3_init 84 = .ok (.putfield 55, 3) := by decide +kernel
theorem dX3_init_87 : decode cX3_init 87 = .ok (.aload_n 0, 1) := by decide +kernel
theorem dX3_init_88 : decode cX3_init 88 = .ok (.iconst 4, 1) := by decide +kernel
theorem dX3_init_89 : decode cX3_init 89 = .ok (.newarray .boolean, 2) := by decide +kernel
theorem dX3_init_91 : decode cX3_init 91 = .ok (.putfield 59, 3) := by decide +kernel
theorem dX3_init_94 : decode cX3_init 94 = .ok (.aload_n 0, 1) := by decide +kernel
theorem dX3_init_95 : decode cX3_init 95 = .ok (.iconst 5, 1) := by decide +kernel
theorem dX3_init_96 : decode cX3_init 96 = .ok (.newarray .boolean, 2) := by decide +kernel
theorem dX3_init_98 : decode cX3_init 98 = .ok (.putfield 62, 3) := by decide +kernel
theorem dX3_init_101 : decode cX3_init 101 = .ok (.return_, 1) := by decide +kernel
theorem dX3_read_0 : decode cX3_read 0 = .ok (.aload_n 0, 1) := by decide +kernel
theorem dX3_read_1 : decode cX3_read 1 = .ok (.invokevirtual 65, 3) := by decide +kernel
theorem dX3_read_4 : decode cX3_read 4 = .ok (.iconst 0, 1) := by decide +kernel
theorem dX3_read_5 : decode cX3_read 5 = .ok (.istore_n 1, 1) := by decide +kernel
theorem dX3_read_6 : decode cX3_read 6 = .ok (.iload_n 1, 1) := by decide +kernel
theorem dX3_read_7 : decode cX3_read 7 = .ok (.sipush 300, 3) := by decide +kernel
theorem dX3_read_10 : decode cX3_read 10 = .ok (.if_icmp .gt 93, 3) := by decide +kernel
theorem dX3_read_13 : decode cX3_read 13 = .ok (.aload_n 0, 1) := by decide +kernel
theorem dX3_read_14 : decode cX3_read 14 = .ok (.getfield 18, 3) := by decide +kernel
theorem dX3_read_17 : decode cX3_read 17 = .ok (.ifCond .ne 86, 3) := by decide +kernel
theorem dX3_read_20 : decode cX3_read 20 = .ok (.aload_n 0, 1) := by decide +kernel
theorem dX3_read_21 : decode cX3_read 21 = .ok (.getfield 32, 3) := by decide +kernel
theorem dX3_read_24 : decode cX3_read 24 = .ok (.ifCond .ne 79, 3) := by decide +kernel
theorem dX3_read_27 : decode cX3_read 27 = .ok (.aload_n 0, 1) := by decide +kernel
theorem dX3_read_28 : decode cX3_read 28 = .ok (.getfield 12, 3) := by decide +kernel
theorem dX3_read_31 : decode cX3_read 31 = .ok (.getfield 68, 3) := by decide +kernel
theorem dX3_read_34 : decode cX3_read 34 = .ok (.bipush 12, 2) := by decide +kernel
theorem dX3_read_36 : decode cX3_read 36 = .ok (.if_icmp .ne 17, 3) := by decide +kernel
theorem dX3_read_39 : decode cX3_read 39 = .ok (.aload_n 0, 1) := by decide +kernel
theorem dX3_read_40 : decode cX3_read 40 = .ok (.getfield 43, 3) := by decide +kernel
theorem dX3_read_43 : decode cX3_read 43 = .ok (.ifCond .le 10, 3) := by decide +kernel
theorem dX3_read_46 : decode cX3_read 46 = .ok (.aload_n 0, 1) := by decide +kernel
theorem dX3_read_47 : decode cX3_read 47 = .ok (.invokevirtual 71, 3) := by decide +kernel
theorem dX3_read_50 : decode cX3_read 50 = .ok (.goto 47, 3) := by decide +kernel
theorem dX3_read_53 : decode cX3_read 53 = .ok (.aload_n 0, 1) := by decide +kernel
theorem dX3_read_54 : decode cX3_read 54 = .ok (.getfield 12, 3) := by decide +kernel
theorem dX3_read_57 : decode cX3_read 57 = .ok (.getfield 68, 3) := by decide +kernel
theorem dX3_read_60 : decode cX3_read 60 = .ok (.bipush 15, 2) := by decide +kernel
theorem dX3_read_62 : decode cX3_read 62 = .ok (.if_icmp .ne 31, 3) := by decide +kernel
theorem dX3_read_65 : decode cX3_read 65 = .ok (.aload_n 0, 1) := by decide +kernel
theorem dX3_read_66 : decode cX3_read 66 = .ok (.getfield 43, 3) := by decide +kernel
theorem dX3_read_69 : decode cX3_read 69 = .ok (.ifCond .ne 24, 3) := by decide +kernel
theorem dX3_read_72 : decode cX3_read 72 = .ok (.aload_n 0, 1) := by decide +kernel
theorem dX3_read_73 : decode cX3_read 73 = .ok (.getfield 28, 3) := by decide +kernel
theorem dX3_read_76 : decode cX3_read 76 = .ok (.bipush 6, 2) := by decide +kernel
theorem dX3_read_78 : decode cX3_read 78 = .ok (.iconst 0, 1) := by decide +kernel
theorem dX3_read_79 : decode cX3_read 79 = .ok (.iconst 0, 1) := by decide +kernel
theorem dX3_read_80 : decode cX3_read 80 = .ok (.iconst 0, 1) := by decide +kernel
theorem dX3_read_81 : decode cX3_read 81 = .ok (.invokevirtual 74, 3) := by decide +kernel
theorem dX3_read_84 : decode cX3_read 84 = .ok (.pop, 1) := by decide +kernel
theorem dX3_read_85 : decode cX3_read 85 = .ok (.aload_n 0, 1) := by decide +kernel
theorem dX3_read_86 : decode cX3_read 86 = .ok (.iconst 1, 1) := by decide +kernel
theorem dX3_read_87 : decode cX3_read 87 = .ok (.putfield 32, 3) := by decide +kernel
theorem dX3_read_90 : decode cX3_read 90 = .ok (.goto 7, 3) := by decide +kernel
theorem dX3_read_93 : decode cX3_read 93 = .ok (.aload_n 0, 1) := by decide +kernel
theorem dX3_read_94 : decode cX3_read 94 = .ok (.invokevirtual 78, 3) := by decide +kernel
theorem dX3_read_97 : decode cX3_read 97 = .ok (.iinc 1 1, 3) := by decide +kernel
theorem dX3_read_100 : decode cX3_read 100 = .ok (.goto (-94), 3) := by decide +kernel
theorem dX3_read_103 : decode cX3_read 103 = .ok (.aload_n 0, 1) := by decide +kernel
theorem dX3_read_104 : decode cX3_read 104 = .ok (.getfield 32, 3) := by decide +kernel
theorem dX3_read_107 : decode cX3_read 107 = .ok (.ifCond .ne 5, 3) := by decide +kernel
theorem dX3_read_110 : decode cX3_read 110 = .ok (.aconst_null, 1) := by decide +kernel
theorem dX3_read_111 : decode cX3_read 111 = .ok (.areturn, 1) := by decide +kernel
theorem dX3_read_112 : decode cX3_read 112 = .ok (.aload_n 0, 1) := by decide +kernel
theorem dX3_read_113 : decode cX3_read 113 = .ok (.getfield 28, 3) := by decide +kernel
theorem dX3_read_116 : decode cX3_read 116 = .ok (.astore_n 1, 1) := by decide +kernel
theorem dX3_read_117 : decode cX3_read 117 = .ok (.aload_n 0, 1) := by decide +kernel
theorem dX3_read_118 : decode cX3_read 118 = .ok (.new 25, 3) := by decide +kernel
theorem dX3_read_121 : decode cX3_read 121 = .ok (.dup, 1) := by decide +kernel
theorem dX3_read_122 : decode cX3_read 122 = .ok (.invokespecial 27, 3) := by decide +kernel
theorem dX3_read_125 : decode cX3_read 125 = .ok (.putfield 28, 3) := by decide +kernel
theorem dX3_read_128 : decode cX3_read 128 = .ok (.aload_n 1, 1) := by decide +kernel
theorem dX3_read_129 : decode cX3_read 129 = .ok (.areturn, 1) := by decide +kernel
theorem dX3_begin_0 : decode cX3_begin 0 = .ok (.aload_n 0, 1) := by decide +kernel
theorem dX3_begin_1 : decode cX3_begin 1 = .ok (.iconst 0, 1) := by decide +kernel
theorem dX3_begin_2 : decode cX3_begin 2 = .ok (.putfield 18, 3) := by decide +kernel
theorem dX3_begin_5 : decode cX3_begin 5 = .ok (.aload_n 0, 1) := by decide +kernel
theorem dX3_begin_6 : decode cX3_begin 6 = .ok (.iconst (-1), 1) := by decide +kernel
theorem dX3_begin_7 : decode cX3_begin 7 = .ok (.putfield 22, 3) := by decide +kernel
theorem dX3_begin_10 : decode cX3_begin 10 = .ok (.aload_n 0, 1) := by decide +kernel
theorem dX3_begin_11 : decode cX3_begin 11 = .ok (.iconst 0, 1) := by decide +kernel
theorem dX3_begin_12 : decode cX3_begin 12 = .ok (.putfield 32, 3) := by decide +kernel
theorem dX3_begin_15 : decode cX3_begin 15 = .ok (.aload_n 0, 1) := by decide +kernel
theorem dX3_begin_16 : decode cX3_begin 16 = .ok (.iconst 0, 1) := by decide +kernel
theorem dX3_begin_17 : decode cX3_begin 17 = .ok (.putfield 36, 3) := by decide +kernel
theorem dX3_begin_20 : decode cX3_begin 20 = .ok (.aload_n 0, 1) := by decide +kernel
theorem dX3_begin_21 : decode cX3_begin 21 = .ok (.iconst 0, 1) := by decide +kernel
theorem dX3_begin_22 : decode cX3_begin 22 = .ok (.putfield 43, 3) := by decide +kernel
theorem dX3_begin_25 : decode cX3_begin 25 = .ok (.aload_n 0, 1) := by decide +kernel
theorem dX3_begin_26 : decode cX3_begin 26 = .ok (.getfield 62, 3) := by decide +kernel
theorem dX3_begin_29 : decode cX3_begin 29 = .ok (.iconst 0, 1) := by decide +kernel
theorem dX3_begin_30 : decode cX3_begin 30 = .ok (.iconst 0, 1) := by decide +kernel
theorem dX3_begin_31 : decode cX3_begin 31 = .ok (.bastore, 1) := by decide +kernel
theorem dX3_begin_32 : decode cX3_begin 32 = .ok (.aload_n 0, 1) := by decide +kernel
theorem dX3_begin_33 : decode cX3_begin 33 = .ok (.getfield 28, 3) := by decide +kernel
theorem dX3_begin_36 : decode cX3_begin 36 = .ok (.invokevirtual 81, 3) := by decide +kernel
theorem dX3_begin_39 : decode cX3_begin 39 = .ok (.aload_n 0, 1) := by decide +kernel
theorem dX3_begin_40 : decode cX3_begin 40 = .ok (.getfield 12, 3) := by decide +kernel
theorem dX3_begin_43 : decode cX3_begin 43 = .ok (.invokevirtual 84, 3) := by decide +kernel
theorem dX3_begin_46 : decode cX3_begin 46 = .ok (.return_, 1) := by decide +kernel
theorem dX3_fail_0 : decode cX3_fail 0 = .ok (.aload_n 0, 1) := by decide +kernel
theorem dX3_fail_1 : decode cX3_fail 1 = .ok (.getfield 18, 3) := by decide +kernel
theorem dX3_fail_4 : decode cX3_fail 4 = .ok (.ifCond .ne 19, 3) := by decide +kernel
theorem dX3_fail_7 : decode cX3_fail 7 = .ok (.aload_n 0, 1) := by decide +kernel
theorem dX3_fail_8 : decode cX3_fail 8 = .ok (.iload_n 1, 1) := by decide +kernel
theorem dX3_fail_9 : decode cX3_fail 9 = .ok (.putfield 18, 3) := by decide +kernel
theorem dX3_fail_12 : decode cX3_fail 12 = .ok (.aload_n 0, 1) := by decide +kernel
theorem dX3_fail_13 : decode cX3_fail 13 = .ok (.aload_n 0, 1) := by decide +kernel
theorem dX3_fail_14 : decode cX3_fail 14 = .ok (.getfield 12, 3) := by decide +kernel
theorem dX3_fail_17 : decode cX3_fail 17 = .ok (.getfield 87, 3) := by decide +kernel
theorem dX3_fail_20 : decode cX3_fail 20 = .ok (.putfield 22, 3) := by decide +kernel
theorem dX3_fail_23 : decode cX3_fail 23 = .ok (.return_, 1) := by decide +kernel
theorem dX3_readStep_0 : decode cX3_readStep 0 = .ok (.aload_n 0, 1) := by decide +kernel
theorem dX3_readStep_1 : decode cX3_readStep 1 = .ok (.getfield 12, 3) := by decide +kernel
theorem dX3_readStep_4 : decode cX3_readStep 4 = .ok (.getfield 68, 3) := by decide +kernel
theorem dX3_readStep_7 : decode cX3_readStep 7 = .ok (.istore_n 1, 1) := by decide +kernel
theorem dX3_readStep_8 : decode cX3_readStep 8 = .ok (.iload_n 1, 1) := by decide +kernel
theorem dX3_readStep_9 : decode cX3_readStep 9 = .ok (.iconst 4, 1) := by decide +kernel
theorem dX3_readStep_10 : decode cX3_readStep 10 = .ok (.if_icmp .eq 14, 3) := by decide +kernel
theorem dX3_readStep_13 : decode cX3_readStep 13 = .ok (.iload_n 1, 1) := by decide +kernel
theorem dX3_readStep_14 : decode cX3_readStep 14 = .ok (.iconst 5, 1) := by decide +kernel
theorem dX3_readStep_15 : decode cX3_readStep 15 = .ok (.if_icmp .eq 9, 3) := by decide +kernel
theorem dX3_readStep_18 : decode cX3_readStep 18 = .ok (.iload_n 1, 1) := by decide +kernel
theorem dX3_readStep_19 : decode cX3_readStep 19 = .ok (.bipush 7, 2) := by decide +kernel
theorem dX3_readStep_21 : decode cX3_readStep 21 = .ok (.if_icmp .ne 7, 3) := by decide +kernel
theorem dX3_readStep_24 : decode cX3_readStep 24 = .ok (.iconst 1, 1) := by decide +kernel
theorem dX3_readStep_25 : decode cX3_readStep 25 = .ok (.goto 4, 3) := by decide +kernel
theorem dX3_readStep_28 : decode cX3_readStep 28 = .ok (.iconst 0, 1) := by decide +kernel
theorem dX3_readStep_29 : decode cX3_readStep 29 = .ok (.istore_n 2, 1) := by decide +kernel
theorem dX3_readStep_30 : decode cX3_readStep 30 = .ok (.iload_n 2, 1) := by decide +kernel
theorem dX3_readStep_31 : decode cX3_readStep 31 = .ok (.ifCond .ne 19, 3) := by decide +kernel
theorem dX3_readStep_34 : decode cX3_readStep 34 = .ok (.iload_n 1, 1) := by decide +kernel
theorem dX3_readStep_35 : decode cX3_readStep 35 = .ok (.ifCond .eq 15, 3) := by decide +kernel
theorem dX3_readStep_38 : decode cX3_readStep 38 = .ok (.iload_n 1, 1) := by decide +kernel
theorem dX3_readStep_39 : decode cX3_readStep 39 = .ok (.bipush 8, 2) := by decide +kernel
theorem dX3_readStep_41 : decode cX3_readStep 41 = .ok (.if_icmp .eq 9, 3) := by decide +kernel
theorem dX3_readStep_44 : decode cX3_readStep 44 = .ok (.aload_n 0, 1) := by decide +kernel
theorem dX3_readStep_45 : decode cX3_readStep 45 = .ok (.iconst 1, 1) := by decide +kernel
theorem dX3_readStep_46 : decode cX3_readStep 46 = .ok (.invokevirtual 90, 3) := by decide +kernel
theorem dX3_readStep_49 : decode cX3_readStep 49 = .ok (.return_, 1) := by decide +kernel
theorem dX3_readStep_50 : decode cX3_readStep 50 = .ok (.aload_n 0, 1) := by decide +kernel
theorem dX3_readStep_51 : decode cX3_readStep 51 = .ok (.getfield 28, 3) := by decide +kernel
theorem dX3_readStep_54 : decode cX3_readStep 54 = .ok (.getfield 94, 3) := by decide +kernel
theorem dX3_readStep_57 : decode cX3_readStep 57 = .ok (.bipush 40, 2) := by decide +kernel
theorem dX3_readStep_59 : decode cX3_readStep 59 = .ok (.if_icmp .ge 15, 3) := by decide +kernel
theorem dX3_readStep_62 : decode cX3_readStep 62 = .ok (.iload_n 2, 1) := by decide +kernel
theorem dX3_readStep_63 : decode cX3_readStep 63 = .ok (.ifCond .eq 17, 3) := by decide +kernel
theorem dX3_readStep_66 : decode cX3_readStep 66 = .ok (.aload_n 0, 1) := by decide +kernel
theorem dX3_readStep_67 : decode cX3_readStep 67 = .ok (.getfield 43, 3) := by decide +kernel
theorem dX3_readStep_70 : decode cX3_readStep 70 = .ok (.iconst 4, 1) := by decide +kernel
theorem dX3_readStep_71 : decode cX3_readStep 71 = .ok (.if_icmp .lt 9, 3) := by decide +kernel
theorem dX3_readStep_74 : decode cX3_readStep 74 = .ok (.aload_n 0, 1) := by decide +kernel
theorem dX3_readStep_75 : decode cX3_readStep 75 = .ok (.iconst 4, 1) := by decide +kernel
theorem dX3_readStep_76 : decode cX3_readStep 76 = .ok (.invokevirtual 90, 3) := by decide +kernel
theorem dX3_readStep_79 : decode cX3_readStep 79 = .ok (.return_, 1) := by decide +kernel
theorem dX3_readStep_80 : decode cX3_readStep 80 = .ok (.aload_n 0, 1) := by decide +kernel
theorem dX3_readStep_81 : decode cX3_readStep 81 = .ok (.getfield 28, 3) := by decide +kernel
theorem dX3_readStep_84 : decode cX3_readStep 84 = .ok (.dup, 1) := by decide +kernel
theorem dX3_readStep_85 : decode cX3_readStep 85 = .ok (.getfield 94, 3) := by decide +kernel
theorem dX3_readStep_88 : decode cX3_readStep 88 = .ok (.iconst 1, 1) := by decide +kernel
theorem dX3_readStep_89 : decode cX3_readStep 89 = .ok (.iadd, 1) := by decide +kernel
theorem dX3_readStep_90 : decode cX3_readStep 90 = .ok (.putfield 94, 3) := by decide +kernel
theorem dX3_readStep_93 : decode cX3_readStep 93 = .ok (.aload_n 0, 1) := by decide +kernel
theorem dX3_readStep_94 : decode cX3_readStep 94 = .ok (.getfield 12, 3) := by decide +kernel
theorem dX3_readStep_97 : decode cX3_readStep 97 = .ok (.invokevirtual 97, 3) := by decide +kernel
theorem dX3_readStep_100 : decode cX3_readStep 100 = .ok (.iload_n 1, 1) := by decide +kernel
theorem dX3_readStep_101 : decode cX3_readStep 101 = .ok (.tableswitch 92 0 8 #[51, 92, 92, 92, 65, 80, 92, 92, 58], 51) := by decide +kernel
theorem dX3_readStep_152 : decode cX3_readStep 152 = .ok (.aload_n 0, 1) := by decide +kernel
theorem dX3_readStep_153 : decode cX3_readStep 153 = .ok (.invokevirtual 100, 3) := by decide +kernel
theorem dX3_readStep_156 : decode cX3_readStep 156 = .ok (.goto 66, 3) := by decide +kernel
theorem dX3_readStep_159 : decode cX3_readStep 159 = .ok (.aload_n 0, 1) := by decide +kernel
theorem dX3_readStep_160 : decode cX3_readStep 160 = .ok (.invokevirtual 103, 3) := by decide +kernel
theorem dX3_readStep_163 : decode cX3_readStep 163 = .ok (.goto 59, 3) := by decide +kernel
theorem dX3_readStep_166 : decode cX3_readStep 166 = .ok (.aload_n 0, 1) := by decide +kernel
theorem dX3_readStep_167 : decode cX3_readStep 167 = .ok (.iload_n 1, 1) := by decide +kernel
theorem dX3_readStep_168 : decode cX3_readStep 168 = .ok (.aload_n 0, 1) := by decide +kernel
theorem dX3_readStep_169 : decode cX3_readStep 169 = .ok (.getfield 28, 3) := by decide +kernel
theorem dX3_readStep_172 : decode cX3_readStep 172 = .ok (.invokevirtual 106, 3) := by decide +kernel
theorem dX3_readStep_175 : decode cX3_readStep 175 = .ok (.invokevirtual 110, 3) := by decide +kernel
theorem dX3_readStep_178 : decode cX3_readStep 178 = .ok (.goto 44, 3) := by decide +kernel
theorem dX3_readStep_181 : decode cX3_readStep 181 = .ok (.aload_n 0, 1) := by decide +kernel
theorem dX3_readStep_182 : decode cX3_readStep 182 = .ok (.iload_n 1, 1) := by decide +kernel
theorem dX3_readStep_183 : decode cX3_readStep 183 = .ok (.aload_n 0, 1) := by decide +kernel
theorem dX3_readStep_184 : decode cX3_readStep 184 = .ok (.invokevirtual 114, 3) := by decide +kernel
theorem dX3_readStep_187 : decode cX3_readStep 187 = .ok (.invokevirtual 110, 3) := by decide +kernel
theorem dX3_readStep_190 : decode cX3_readStep 190 = .ok (.goto 32, 3) := by decide +kernel
theorem dX3_readStep_193 : decode cX3_readStep 193 = .ok (.aload_n 0, 1) := by decide +kernel
theorem dX3_readStep_194 : decode cX3_readStep 194 = .ok (.getfield 28, 3) := by decide +kernel
theorem dX3_readStep_197 : decode cX3_readStep 197 = .ok (.iconst 3, 1) := by decide +kernel
theorem dX3_readStep_198 : decode cX3_readStep 198 = .ok (.iconst 0, 1) := by decide +kernel
theorem dX3_readStep_199 : decode cX3_readStep 199 = .ok (.iconst 0, 1) := by decide +kernel
theorem dX3_readStep_200 : decode cX3_readStep 200 = .ok (.aload_n 0, 1) := by decide +kernel
theorem dX3_readStep_201 : decode cX3_readStep 201 = .ok (.getfield 28, 3) := by decide +kernel
theorem dX3_readStep_204 : decode cX3_readStep 204 = .ok (.getfield 117, 3) := by decide +kernel
theorem dX3_readStep_207 : decode cX3_readStep 207 = .ok (.iconst 2, 1) := by decide +kernel
theorem dX3_readStep_208 : decode cX3_readStep 208 = .ok (.iadd, 1) := by decide +kernel
theorem dX3_readStep_209 : decode cX3_readStep 209 = .ok (.invokevirtual 74, 3) := by decide +kernel
theorem dX3_readStep_212 : decode cX3_readStep 212 = .ok (.pop, 1) := by decide +kernel
theorem dX3_readStep_213 : decode cX3_readStep 213 = .ok (.aload_n 0, 1) := by decide +kernel
theorem dX3_readStep_214 : decode cX3_readStep 214 = .ok (.iload_n 1, 1) := by decide +kernel
theorem dX3_readStep_215 : decode cX3_readStep 215 = .ok (.aload_n 0, 1) := by decide +kernel
theorem dX3_readStep_216 : decode cX3_readStep 216 = .ok (.invokevirtual 114, 3) := by decide +kernel
theorem dX3_readStep_219 : decode cX3_readStep 219 = .ok (.invokevirtual 110, 3) := by decide +kernel
theorem dX3_readStep_222 : decode cX3_readStep 222 = .ok (.return_, 1) := by decide +kernel
theorem dX3_readDo_0 : decode cX3_readDo 0 = .ok (.aload_n 0, 1) := by decide +kernel
theorem dX3_readDo_1 : decode cX3_readDo 1 = .ok (.invokevirtual 120, 3) := by decide +kernel
theorem dX3_readDo_4 : decode cX3_readDo 4 = .ok (.aload_n 0, 1) := by decide +kernel
theorem dX3_readDo_5 : decode cX3_readDo 5 = .ok (.iconst 1, 1) := by decide +kernel
theorem dX3_readDo_6 : decode cX3_readDo 6 = .ok (.invokevirtual 123, 3) := by decide +kernel
theorem dX3_readDo_9 : decode cX3_readDo 9 = .ok (.aload_n 0, 1) := by decide +kernel
theorem dX3_readDo_10 : decode cX3_readDo 10 = .ok (.iconst 0, 1) := by decide +kernel
theorem dX3_readDo_11 : decode cX3_readDo 11 = .ok (.iconst 5, 1) := by decide +kernel
theorem dX3_readDo_12 : decode cX3_readDo 12 = .ok (.invokevirtual 126, 3) := by decide +kernel
theorem dX3_readDo_15 : decode cX3_readDo 15 = .ok (.istore_n 1, 1) := by decide +kernel
theorem dX3_readDo_16 : decode cX3_readDo 16 = .ok (.aload_n 0, 1) := by decide +kernel
theorem dX3_readDo_17 : decode cX3_readDo 17 = .ok (.iconst 2, 1) := by decide +kernel
theorem dX3_readDo_18 : decode cX3_readDo 18 = .ok (.invokevirtual 123, 3) := by decide +kernel
theorem dX3_readDo_21 : decode cX3_readDo 21 = .ok (.aload_n 0, 1) := by decide +kernel
theorem dX3_readDo_22 : decode cX3_readDo 22 = .ok (.iconst 1, 1) := by decide +kernel
theorem dX3_readDo_23 : decode cX3_readDo 23 = .ok (.bipush 99, 2) := by decide +kernel
theorem dX3_readDo_25 : decode cX3_readDo 25 = .ok (.invokevirtual 126, 3) := by decide +kernel
theorem dX3_readDo_28 : decode cX3_readDo 28 = .ok (.istore_n 2, 1) := by decide +kernel
theorem dX3_readDo_29 : decode cX3_readDo 29 = .ok (.aload_n 0, 1) := by decide +kernel
theorem dX3_readDo_30 : decode cX3_readDo 30 = .ok (.getfield 12, 3) := by decide +kernel
theorem dX3_readDo_33 : decode cX3_readDo 33 = .ok (.getfield 68, 3) := by decide +kernel
theorem dX3_readDo_36 : decode cX3_readDo 36 = .ok (.iconst 3, 1) := by decide +kernel
theorem dX3_readDo_37 : decode cX3_readDo 37 = .ok (.if_icmp .ne 10, 3) := by decide +kernel
theorem dX3_readDo_40 : decode cX3_readDo 40 = .ok (.aload_n 0, 1) := by decide +kernel
theorem dX3_readDo_41 : decode cX3_readDo 41 = .ok (.invokevirtual 130, 3) := by decide +kernel
theorem dX3_readDo_44 : decode cX3_readDo 44 = .ok (.goto 4, 3) := by decide +kernel
theorem dX3_readDo_47 : decode cX3_readDo 47 = .ok (.iconst (-1), 1) := by decide +kernel
theorem dX3_readDo_48 : decode cX3_readDo 48 = .ok (.istore_n 3, 1) := by decide +kernel
theorem dX3_readDo_49 : decode cX3_readDo 49 = .ok (.aload_n 0, 1) := by decide +kernel
theorem dX3_readDo_50 : decode cX3_readDo 50 = .ok (.bipush 13, 2) := by decide +kernel
theorem dX3_readDo_52 : decode cX3_readDo 52 = .ok (.invokevirtual 123, 3) := by decide +kernel
theorem dX3_readDo_55 : decode cX3_readDo 55 = .ok (.aload_n 0, 1) := by decide +kernel
theorem dX3_readDo_56 : decode cX3_readDo 56 = .ok (.getfield 28, 3) := by decide +kernel
theorem dX3_readDo_59 : decode cX3_readDo 59 = .ok (.iload_n 1, 1) := by decide +kernel
theorem dX3_readDo_60 : decode cX3_readDo 60 = .ok (.iload_n 2, 1) := by decide +kernel
theorem dX3_readDo_61 : decode cX3_readDo 61 = .ok (.iload_n 3, 1) := by decide +kernel
theorem dX3_readDo_62 : decode cX3_readDo 62 = .ok (.invokevirtual 133, 3) := by decide +kernel
theorem dX3_readDo_65 : decode cX3_readDo 65 = .ok (.aload_n 0, 1) := by decide +kernel
theorem dX3_readDo_66 : decode cX3_readDo 66 = .ok (.iconst 1, 1) := by decide +kernel
theorem dX3_readDo_67 : decode cX3_readDo 67 = .ok (.invokevirtual 137, 3) := by decide +kernel
theorem dX3_readDo_70 : decode cX3_readDo 70 = .ok (.return_, 1) := by decide +kernel
theorem dX3_readSet_0 : decode cX3_readSet 0 = .ok (.aload_n 0, 1) := by decide +kernel
theorem dX3_readSet_1 : decode cX3_readSet 1 = .ok (.invokevirtual 141, 3) := by decide +kernel
theorem dX3_readSet_4 : decode cX3_readSet 4 = .ok (.istore_n 1, 1) := by decide +kernel
theorem dX3_readSet_5 : decode cX3_readSet 5 = .ok (.aload_n 0, 1) := by decide +kernel
theorem dX3_readSet_6 : decode cX3_readSet 6 = .ok (.iconst 0, 1) := by decide +kernel
theorem dX3_readSet_7 : decode cX3_readSet 7 = .ok (.bipush 99, 2) := by decide +kernel
theorem dX3_readSet_9 : decode cX3_readSet 9 = .ok (.invokevirtual 126, 3) := by decide +kernel
theorem dX3_readSet_12 : decode cX3_readSet 12 = .ok (.istore_n 2, 1) := by decide +kernel
theorem dX3_readSet_13 : decode cX3_readSet 13 = .ok (.aload_n 0, 1) := by decide +kernel
theorem dX3_readSet_14 : decode cX3_readSet 14 = .ok (.bipush 13, 2) := by decide +kernel
theorem dX3_readSet_16 : decode cX3_readSet 16 = .ok (.invokevirtual 123, 3) := by decide +kernel
theorem dX3_readSet_19 : decode cX3_readSet 19 = .ok (.aload_n 0, 1) := by decide +kernel
theorem dX3_readSet_20 : decode cX3_readSet 20 = .ok (.getfield 28, 3) := by decide +kernel
theorem dX3_readSet_23 : decode cX3_readSet 23 = .ok (.iconst 1, 1) := by decide +kernel
theorem dX3_readSet_24 : decode cX3_readSet 24 = .ok (.iload_n 1, 1) := by decide +kernel
theorem dX3_readSet_25 : decode cX3_readSet 25 = .ok (.iload_n 2, 1) := by decide +kernel
theorem dX3_readSet_26 : decode cX3_readSet 26 = .ok (.iconst 0, 1) := by decide +kernel
theorem dX3_readSet_27 : decode cX3_readSet 27 = .ok (.invokevirtual 74, 3) := by decide +kernel
theorem dX3_readSet_30 : decode cX3_readSet 30 = .ok (.pop, 1) := by decide +kernel
theorem dX3_readSet_31 : decode cX3_readSet 31 = .ok (.return_, 1) := by decide +kernel
theorem dX3_readTest_0 : decode cX3_readTest 0 = .ok (.aload_n 0, 1) := by decide +kernel
theorem dX3_readTest_1 : decode cX3_readTest 1 = .ok (.invokevirtual 141, 3) := by decide +kernel
theorem dX3_readTest_4 : decode cX3_readTest 4 = .ok (.istore_n 1, 1) := by decide +kernel
theorem dX3_readTest_5 : decode cX3_readTest 5 = .ok (.aload_n 0, 1) := by decide +kernel
theorem dX3_readTest_6 : decode cX3_readTest 6 = .ok (.bipush 14, 2) := by decide +kernel
theorem dX3_readTest_8 : decode cX3_readTest 8 = .ok (.invokevirtual 123, 3) := by decide +kernel
theorem dX3_readTest_11 : decode cX3_readTest 11 = .ok (.aload_n 0, 1) := by decide +kernel
theorem dX3_readTest_12 : decode cX3_readTest 12 = .ok (.iconst 0, 1) := by decide +kernel
theorem dX3_readTest_13 : decode cX3_readTest 13 = .ok (.bipush 99, 2) := by decide +kernel
theorem dX3_readTest_15 : decode cX3_readTest 15 = .ok (.invokevirtual 126, 3) := by decide +kernel
theorem dX3_readTest_18 : decode cX3_readTest 18 = .ok (.istore_n 2, 1) := by decide +kernel
theorem dX3_readTest_19 : decode cX3_readTest 19 = .ok (.aload_n 0, 1) := by decide +kernel
theorem dX3_readTest_20 : decode cX3_readTest 20 = .ok (.getfield 28, 3) := by decide +kernel
theorem dX3_readTest_23 : decode cX3_readTest 23 = .ok (.iconst 2, 1) := by decide +kernel
theorem dX3_readTest_24 : decode cX3_readTest 24 = .ok (.iload_n 1, 1) := by decide +kernel
theorem dX3_readTest_25 : decode cX3_readTest 25 = .ok (.iload_n 2, 1) := by decide +kernel
theorem dX3_readTest_26 : decode cX3_readTest 26 = .ok (.iconst 0, 1) := by decide +kernel
theorem dX3_readTest_27 : decode cX3_readTest 27 = .ok (.invokevirtual 74, 3) := by decide +kernel
theorem dX3_readTest_30 : decode cX3_readTest 30 = .ok (.ireturn, 1) := by decide +kernel
theorem dX3_readNewName_0 : decode cX3_readNewName 0 = .ok (.aload_n 0, 1) := by decide +kernel
theorem dX3_readNewName_1 : decode cX3_readNewName 1 = .ok (.getfield 12, 3) := by decide +kernel
theorem dX3_readNewName_4 : decode cX3_readNewName 4 = .ok (.invokevirtual 144, 3) := by decide +kernel
theorem dX3_readNewName_7 : decode cX3_readNewName 7 = .ok (.ifCond .ne 11, 3) := by decide +kernel
theorem dX3_readNewName_10 : decode cX3_readNewName 10 = .ok (.aload_n 0, 1) := by decide +kernel
theorem dX3_readNewName_11 : decode cX3_readNewName 11 = .ok (.iconst 1, 1) := by decide +kernel
theorem dX3_readNewName_12 : decode cX3_readNewName 12 = .ok (.invokevirtual 90, 3) := by decide +kernel
theorem dX3_readNewName_15 : decode cX3_readNewName 15 = .ok (.goto 75, 3) := by decide +kernel
theorem dX3_readNewName_18 : decode cX3_readNewName 18 = .ok (.aload_n 0, 1) := by decide +kernel
theorem dX3_readNewName_19 : decode cX3_readNewName 19 = .ok (.aload_n 0, 1) := by decide +kernel
theorem dX3_readNewName_20 : decode cX3_readNewName 20 = .ok (.getfield 12, 3) := by decide +kernel
theorem dX3_readNewName_23 : decode cX3_readNewName 23 = .ok (.getfield 148, 3) := by decide +kernel
theorem dX3_readNewName_26 : decode cX3_readNewName 26 = .ok (.invokevirtual 151, 3) := by decide +kernel
theorem dX3_readNewName_29 : decode cX3_readNewName 29 = .ok (.iconst (-1), 1) := by decide +kernel
theorem dX3_readNewName_30 : decode cX3_readNewName 30 = .ok (.if_icmp .eq 11, 3) := by decide +kernel
theorem dX3_readNewName_33 : decode cX3_readNewName 33 = .ok (.aload_n 0, 1) := by decide +kernel
theorem dX3_readNewName_34 : decode cX3_readNewName 34 = .ok (.iconst 2, 1) := by decide +kernel
theorem dX3_readNewName_35 : decode cX3_readNewName 35 = .ok (.invokevirtual 90, 3) := by decide +kernel
theorem dX3_readNewName_38 : decode cX3_readNewName 38 = .ok (.goto 52, 3) := by decide +kernel
theorem dX3_readNewName_41 : decode cX3_readNewName 41 = .ok (.aload_n 0, 1) := by decide +kernel
theorem dX3_readNewName_42 : decode cX3_readNewName 42 = .ok (.getfield 36, 3) := by decide +kernel
theorem dX3_readNewName_45 : decode cX3_readNewName 45 = .ok (.ifCond .lt 38, 3) := by decide +kernel
theorem dX3_readNewName_48 : decode cX3_readNewName 48 = .ok (.aload_n 0, 1) := by decide +kernel
theorem dX3_readNewName_49 : decode cX3_readNewName 49 = .ok (.getfield 36, 3) := by decide +kernel
theorem dX3_readNewName_52 : decode cX3_readNewName 52 = .ok (.bipush 40, 2) := by decide +kernel
theorem dX3_readNewName_54 : decode cX3_readNewName 54 = .ok (.if_icmp .ge 29, 3) := by decide +kernel
theorem dX3_readNewName_57 : decode cX3_readNewName 57 = .ok (.aload_n 0, 1) := by decide +kernel
theorem dX3_readNewName_58 : decode cX3_readNewName 58 = .ok (.getfield 39, 3) := by decide +kernel
theorem dX3_readNewName_61 : decode cX3_readNewName 61 = .ok (.aload_n 0, 1) := by decide +kernel
theorem dX3_readNewName_62 : decode cX3_readNewName 62 = .ok (.getfield 36, 3) := by decide +kernel
theorem dX3_readNewName_65 : decode cX3_readNewName 65 = .ok (.aload_n 0, 1) := by decide +kernel
theorem dX3_readNewName_66 : decode cX3_readNewName 66 = .ok (.getfield 12, 3) := by decide +kernel
theorem dX3_readNewName_69 : decode cX3_readNewName 69 = .ok (.getfield 148, 3) := by decide +kernel
theorem dX3_readNewName_72 : decode cX3_readNewName 72 = .ok (.iastore, 1) := by decide +kernel
theorem dX3_readNewName_73 : decode cX3_readNewName 73 = .ok (.aload_n 0, 1) := by decide +kernel
theorem dX3_readNewName_74 : decode cX3_readNewName 74 = .ok (.dup, 1) := by decide +kernel
theorem dX3_readNewName_75 : decode cX3_readNewName 75 = .ok (.getfield 36, 3) := by decide +kernel
theorem dX3_readNewName_78 : decode cX3_readNewName 78 = .ok (.iconst 1, 1) := by decide +kernel
theorem dX3_readNewName_79 : decode cX3_readNewName 79 = .ok (.iadd, 1) := by decide +kernel
theorem dX3_readNewName_80 : decode cX3_readNewName 80 = .ok (.putfield 36, 3) := by decide +kernel
theorem dX3_readNewName_83 : decode cX3_readNewName 83 = .ok (.aload_n 0, 1) := by decide +kernel
theorem dX3_readNewName_84 : decode cX3_readNewName 84 = .ok (.getfield 12, 3) := by decide +kernel
theorem dX3_readNewName_87 : decode cX3_readNewName 87 = .ok (.invokevirtual 97, 3) := by decide +kernel
theorem dX3_readNewName_90 : decode cX3_readNewName 90 = .ok (.return_, 1) := by decide +kernel
theorem dX3_readEyes_0 : decode cX3_readEyes 0 = .ok (.aload_n 0, 1) := by decide +kernel
theorem dX3_readEyes_1 : decode cX3_readEyes 1 = .ok (.getfield 12, 3) := by decide +kernel
theorem dX3_readEyes_4 : decode cX3_readEyes 4 = .ok (.invokevirtual 97, 3) := by decide +kernel
theorem dX3_readEyes_7 : decode cX3_readEyes 7 = .ok (.aload_n 0, 1) := by decide +kernel
theorem dX3_readEyes_8 : decode cX3_readEyes 8 = .ok (.aload_n 0, 1) := by decide +kernel
theorem dX3_readEyes_9 : decode cX3_readEyes 9 = .ok (.getfield 12, 3) := by decide +kernel
theorem dX3_readEyes_12 : decode cX3_readEyes 12 = .ok (.getfield 148, 3) := by decide +kernel
theorem dX3_readEyes_15 : decode cX3_readEyes 15 = .ok (.invokevirtual 151, 3) := by decide +kernel
theorem dX3_readEyes_18 : decode cX3_readEyes 18 = .ok (.istore_n 1, 1) := by decide +kernel
theorem dX3_readEyes_19 : decode cX3_readEyes 19 = .ok (.aload_n 0, 1) := by decide +kernel
theorem dX3_readEyes_20 : decode cX3_readEyes 20 = .ok (.getfield 12, 3) := by decide +kernel
theorem dX3_readEyes_23 : decode cX3_readEyes 23 = .ok (.invokevirtual 144, 3) := by decide +kernel
theorem dX3_readEyes_26 : decode cX3_readEyes 26 = .ok (.ifCond .ne 11, 3) := by decide +kernel
theorem dX3_readEyes_29 : decode cX3_readEyes 29 = .ok (.aload_n 0, 1) := by decide +kernel
theorem dX3_readEyes_30 : decode cX3_readEyes 30 = .ok (.iconst 1, 1) := by decide +kernel
theorem dX3_readEyes_31 : decode cX3_readEyes 31 = .ok (.invokevirtual 90, 3) := by decide +kernel
theorem dX3_readEyes_34 : decode cX3_readEyes 34 = .ok (.goto 23, 3) := by decide +kernel
theorem dX3_readEyes_37 : decode cX3_readEyes 37 = .ok (.iload_n 1, 1) := by decide +kernel
theorem dX3_readEyes_38 : decode cX3_readEyes 38 = .ok (.iconst (-1), 1) := by decide +kernel
theorem dX3_readEyes_39 : decode cX3_readEyes 39 = .ok (.if_icmp .ne 11, 3) := by decide +kernel
theorem dX3_readEyes_42 : decode cX3_readEyes 42 = .ok (.aload_n 0, 1) := by decide +kernel
theorem dX3_readEyes_43 : decode cX3_readEyes 43 = .ok (.iconst 2, 1) := by decide +kernel
theorem dX3_readEyes_44 : decode cX3_readEyes 44 = .ok (.invokevirtual 90, 3) := by decide +kernel
theorem dX3_readEyes_47 : decode cX3_readEyes 47 = .ok (.goto 10, 3) := by decide +kernel
theorem dX3_readEyes_50 : decode cX3_readEyes 50 = .ok (.aload_n 0, 1) := by decide +kernel
theorem dX3_readEyes_51 : decode cX3_readEyes 51 = .ok (.getfield 12, 3) := by decide +kernel
theorem dX3_readEyes_54 : decode cX3_readEyes 54 = .ok (.invokevirtual 97, 3) := by decide +kernel
theorem dX3_readEyes_57 : decode cX3_readEyes 57 = .ok (.iload_n 1, 1) := by decide +kernel
theorem dX3_readEyes_58 : decode cX3_readEyes 58 = .ok (.ireturn, 1) := by decide +kernel
theorem dX3_doNamed_0 : decode cX3_doNamed 0 = .ok (.iconst 0, 1) := by decide +kernel
theorem dX3_doNamed_1 : decode cX3_doNamed 1 = .ok (.istore_n 2, 1) := by decide +kernel
theorem dX3_doNamed_2 : decode cX3_doNamed 2 = .ok (.iload_n 2, 1) := by decide +kernel
theorem dX3_doNamed_3 : decode cX3_doNamed 3 = .ok (.aload_n 0, 1) := by decide +kernel
theorem dX3_doNamed_4 : decode cX3_doNamed 4 = .ok (.getfield 36, 3) := by decide +kernel
theorem dX3_doNamed_7 : decode cX3_doNamed 7 = .ok (.if_icmp .ge 27, 3) := by decide +kernel
theorem dX3_doNamed_10 : decode cX3_doNamed 10 = .ok (.iload_n 2, 1) := by decide +kernel
theorem dX3_doNamed_11 : decode cX3_doNamed 11 = .ok (.bipush 40, 2) := by decide +kernel
theorem dX3_doNamed_13 : decode cX3_doNamed 13 = .ok (.if_icmp .ge 21, 3) := by decide +kernel
theorem dX3_doNamed_16 : decode cX3_doNamed 16 = .ok (.aload_n 0, 1) := by decide +kernel
theorem dX3_doNamed_17 : decode cX3_doNamed 17 = .ok (.getfield 39, 3) := by decide +kernel
theorem dX3_doNamed_20 : decode cX3_doNamed 20 = .ok (.iload_n 2, 1) := by decide +kernel
theorem dX3_doNamed_21 : decode cX3_doNamed 21 = .ok (.iaload, 1) := by decide +kernel
theorem dX3_doNamed_22 : decode cX3_doNamed 22 = .ok (.iload_n 1, 1) := by decide +kernel
theorem dX3_doNamed_23 : decode cX3_doNamed 23 = .ok (.if_icmp .ne 5, 3) := by decide +kernel
theorem dX3_doNamed_26 : decode cX3_doNamed 26 = .ok (.iload_n 2, 1) := by decide +kernel
theorem dX3_doNamed_27 : decode cX3_doNamed 27 = .ok (.ireturn, 1) := by decide +kernel
theorem dX3_doNamed_28 : decode cX3_doNamed 28 = .ok (.iinc 2 1, 3) := by decide +kernel
theorem dX3_doNamed_31 : decode cX3_doNamed 31 = .ok (.goto (-29), 3) := by decide +kernel
theorem dX3_doNamed_34 : decode cX3_doNamed 34 = .ok (.iconst (-1), 1) := by decide +kernel
theorem dX3_doNamed_35 : decode cX3_doNamed 35 = .ok (.ireturn, 1) := by decide +kernel
theorem dX3_readField_0 : decode cX3_readField 0 = .ok (.aload_n 0, 1) := by decide +kernel
theorem dX3_readField_1 : decode cX3_readField 1 = .ok (.getfield 12, 3) := by decide +kernel
theorem dX3_readField_4 : decode cX3_readField 4 = .ok (.getfield 148, 3) := by decide +kernel
theorem dX3_readField_7 : decode cX3_readField 7 = .ok (.iconst 1, 1) := by decide +kernel
theorem dX3_readField_8 : decode cX3_readField 8 = .ok (.isub, 1) := by decide +kernel
theorem dX3_readField_9 : decode cX3_readField 9 = .ok (.istore_n 1, 1) := by decide +kernel
theorem dX3_readField_10 : decode cX3_readField 10 = .ok (.aload_n 0, 1) := by decide +kernel
theorem dX3_readField_11 : decode cX3_readField 11 = .ok (.getfield 12, 3) := by decide +kernel
theorem dX3_readField_14 : decode cX3_readField 14 = .ok (.getfield 68, 3) := by decide +kernel
theorem dX3_readField_17 : decode cX3_readField 17 = .ok (.bipush 9, 2) := by decide +kernel
theorem dX3_readField_19 : decode cX3_readField 19 = .ok (.if_icmp .ne 12, 3) := by decide +kernel
theorem dX3_readField_22 : decode cX3_readField 22 = .ok (.iload_n 1, 1) := by decide +kernel
theorem dX3_readField_23 : decode cX3_readField 23 = .ok (.ifCond .lt 8, 3) := by decide +kernel
theorem dX3_readField_26 : decode cX3_readField 26 = .ok (.iload_n 1, 1) := by decide +kernel
theorem dX3_readField_27 : decode cX3_readField 27 = .ok (.iconst 4, 1) := by decide +kernel
theorem dX3_readField_28 : decode cX3_readField 28 = .ok (.if_icmp .lt 10, 3) := by decide +kernel
theorem dX3_readField_31 : decode cX3_readField 31 = .ok (.aload_n 0, 1) := by decide +kernel
theorem dX3_readField_32 : decode cX3_readField 32 = .ok (.iconst 1, 1) := by decide +kernel
theorem dX3_readField_33 : decode cX3_readField 33 = .ok (.invokevirtual 90, 3) := by decide +kernel
theorem dX3_readField_36 : decode cX3_readField 36 = .ok (.iconst 0, 1) := by decide +kernel
theorem dX3_readField_37 : decode cX3_readField 37 = .ok (.ireturn, 1) := by decide +kernel
theorem dX3_readField_38 : decode cX3_readField 38 = .ok (.aload_n 0, 1) := by decide +kernel
theorem dX3_readField_39 : decode cX3_readField 39 = .ok (.getfield 12, 3) := by decide +kernel
theorem dX3_readField_42 : decode cX3_readField 42 = .ok (.invokevirtual 97, 3) := by decide +kernel
theorem dX3_readField_45 : decode cX3_readField 45 = .ok (.iload_n 1, 1) := by decide +kernel
theorem dX3_readField_46 : decode cX3_readField 46 = .ok (.ireturn, 1) := by decide +kernel
theorem dX3_readNumber_0 : decode cX3_readNumber 0 = .ok (.aload_n 0, 1) := by decide +kernel
theorem dX3_readNumber_1 : decode cX3_readNumber 1 = .ok (.getfield 12, 3) := by decide +kernel
theorem dX3_readNumber_4 : decode cX3_readNumber 4 = .ok (.getfield 148, 3) := by decide +kernel
theorem dX3_readNumber_7 : decode cX3_readNumber 7 = .ok (.istore_n 3, 1) := by decide +kernel
theorem dX3_readNumber_8 : decode cX3_readNumber 8 = .ok (.aload_n 0, 1) := by decide +kernel
theorem dX3_readNumber_9 : decode cX3_readNumber 9 = .ok (.getfield 12, 3) := by decide +kernel
theorem dX3_readNumber_12 : decode cX3_readNumber 12 = .ok (.getfield 68, 3) := by decide +kernel
theorem dX3_readNumber_15 : decode cX3_readNumber 15 = .ok (.bipush 10, 2) := by decide +kernel
theorem dX3_readNumber_17 : decode cX3_readNumber 17 = .ok (.if_icmp .eq 10, 3) := by decide +kernel
theorem dX3_readNumber_20 : decode cX3_readNumber 20 = .ok (.aload_n 0, 1) := by decide +kernel
theorem dX3_readNumber_21 : decode cX3_readNumber 21 = .ok (.iconst 1, 1) := by decide +kernel
theorem dX3_readNumber_22 : decode cX3_readNumber 22 = .ok (.invokevirtual 90, 3) := by decide +kernel
theorem dX3_readNumber_25 : decode cX3_readNumber 25 = .ok (.iload_n 1, 1) := by decide +kernel
theorem dX3_readNumber_26 : decode cX3_readNumber 26 = .ok (.ireturn, 1) := by decide +kernel
theorem dX3_readNumber_27 : decode cX3_readNumber 27 = .ok (.iload_n 3, 1) := by decide +kernel
theorem dX3_readNumber_28 : decode cX3_readNumber 28 = .ok (.iload_n 1, 1) := by decide +kernel
theorem dX3_readNumber_29 : decode cX3_readNumber 29 = .ok (.if_icmp .lt 8, 3) := by decide +kernel
theorem dX3_readNumber_32 : decode cX3_readNumber 32 = .ok (.iload_n 3, 1) := by decide +kernel
theorem dX3_readNumber_33 : decode cX3_readNumber 33 = .ok (.iload_n 2, 1) := by decide +kernel
theorem dX3_readNumber_34 : decode cX3_readNumber 34 = .ok (.if_icmp .le 10, 3) := by decide +kernel
theorem dX3_readNumber_37 : decode cX3_readNumber 37 = .ok (.aload_n 0, 1) := by decide +kernel
theorem dX3_readNumber_38 : decode cX3_readNumber 38 = .ok (.iconst 3, 1) := by decide +kernel
theorem dX3_readNumber_39 : decode cX3_readNumber 39 = .ok (.invokevirtual 90, 3) := by decide +kernel
theorem dX3_readNumber_42 : decode cX3_readNumber 42 = .ok (.iload_n 1, 1) := by decide +kernel
theorem dX3_readNumber_43 : decode cX3_readNumber 43 = .ok (.ireturn, 1) := by decide +kernel
theorem dX3_readNumber_44 : decode cX3_readNumber 44 = .ok (.aload_n 0, 1) := by decide +kernel
theorem dX3_readNumber_45 : decode cX3_readNumber 45 = .ok (.getfield 12, 3) := by decide +kernel
theorem dX3_readNumber_48 : decode cX3_readNumber 48 = .ok (.invokevirtual 97, 3) := by decide +kernel
theorem dX3_readNumber_51 : decode cX3_readNumber 51 = .ok (.iload_n 3, 1) := by decide +kernel
theorem dX3_readNumber_52 : decode cX3_readNumber 52 = .ok (.ireturn, 1) := by decide +kernel
theorem dX3_need_0 : decode cX3_need 0 = .ok (.aload_n 0, 1) := by decide +kernel
theorem dX3_need_1 : decode cX3_need 1 = .ok (.getfield 12, 3) := by decide +kernel
theorem dX3_need_4 : decode cX3_need 4 = .ok (.getfield 68, 3) := by decide +kernel
theorem dX3_need_7 : decode cX3_need 7 = .ok (.iload_n 1, 1) := by decide +kernel
theorem dX3_need_8 : decode cX3_need 8 = .ok (.if_icmp .ne 13, 3) := by decide +kernel
theorem dX3_need_11 : decode cX3_need 11 = .ok (.aload_n 0, 1) := by decide +kernel
theorem dX3_need_12 : decode cX3_need 12 = .ok (.getfield 12, 3) := by decide +kernel
theorem dX3_need_15 : decode cX3_need 15 = .ok (.invokevirtual 97, 3) := by decide +kernel
theorem dX3_need_18 : decode cX3_need 18 = .ok (.goto 8, 3) := by decide +kernel
theorem dX3_need_21 : decode cX3_need 21 = .ok (.aload_n 0, 1) := by decide +kernel
theorem dX3_need_22 : decode cX3_need 22 = .ok (.iconst 1, 1) := by decide +kernel
theorem dX3_need_23 : decode cX3_need 23 = .ok (.invokevirtual 90, 3) := by decide +kernel
theorem dX3_need_26 : decode cX3_need 26 = .ok (.return_, 1) := by decide +kernel
theorem dX3_hold_0 : decode cX3_hold 0 = .ok (.iload_n 1, 1) := by decide +kernel
theorem dX3_hold_1 : decode cX3_hold 1 = .ok (.ifCond .eq 28, 3) := by decide +kernel
theorem dX3_hold_4 : decode cX3_hold 4 = .ok (.aload_n 0, 1) := by decide +kernel
theorem dX3_hold_5 : decode cX3_hold 5 = .ok (.getfield 43, 3) := by decide +kernel
theorem dX3_hold_8 : decode cX3_hold 8 = .ok (.ifCond .lt 21, 3) := by decide +kernel
theorem dX3_hold_11 : decode cX3_hold 11 = .ok (.aload_n 0, 1) := by decide +kernel
theorem dX3_hold_12 : decode cX3_hold 12 = .ok (.getfield 43, 3) := by decide +kernel
theorem dX3_hold_15 : decode cX3_hold 15 = .ok (.iconst 4, 1) := by decide +kernel
theorem dX3_hold_16 : decode cX3_hold 16 = .ok (.if_icmp .gt 13, 3) := by decide +kernel
theorem dX3_hold_19 : decode cX3_hold 19 = .ok (.aload_n 0, 1) := by decide +kernel
theorem dX3_hold_20 : decode cX3_hold 20 = .ok (.getfield 62, 3) := by decide +kernel
theorem dX3_hold_23 : decode cX3_hold 23 = .ok (.aload_n 0, 1) := by decide +kernel
theorem dX3_hold_24 : decode cX3_hold 24 = .ok (.getfield 43, 3) := by decide +kernel
theorem dX3_hold_27 : decode cX3_hold 27 = .ok (.iconst 1, 1) := by decide +kernel
theorem dX3_hold_28 : decode cX3_hold 28 = .ok (.bastore, 1) := by decide +kernel
theorem dX3_hold_29 : decode cX3_hold 29 = .ok (.return_, 1) := by decide +kernel
theorem dX3_openSteps_0 : decode cX3_openSteps 0 = .ok (.aload_n 0, 1) := by decide +kernel
theorem dX3_openSteps_1 : decode cX3_openSteps 1 = .ok (.bipush 11, 2) := by decide +kernel
theorem dX3_openSteps_3 : decode cX3_openSteps 3 = .ok (.invokevirtual 123, 3) := by decide +kernel
theorem dX3_openSteps_6 : decode cX3_openSteps 6 = .ok (.aload_n 0, 1) := by decide +kernel
theorem dX3_openSteps_7 : decode cX3_openSteps 7 = .ok (.getfield 43, 3) := by decide +kernel
theorem dX3_openSteps_10 : decode cX3_openSteps 10 = .ok (.ifCond .lt 11, 3) := by decide +kernel
theorem dX3_openSteps_13 : decode cX3_openSteps 13 = .ok (.aload_n 0, 1) := by decide +kernel
theorem dX3_openSteps_14 : decode cX3_openSteps 14 = .ok (.getfield 43, 3) := by decide +kernel
theorem dX3_openSteps_17 : decode cX3_openSteps 17 = .ok (.iconst 4, 1) := by decide +kernel
theorem dX3_openSteps_18 : decode cX3_openSteps 18 = .ok (.if_icmp .lt 4, 3) := by decide +kernel
theorem dX3_openSteps_21 : decode cX3_openSteps 21 = .ok (.return_, 1) := by decide +kernel
theorem dX3_openSteps_22 : decode cX3_openSteps 22 = .ok (.aload_n 0, 1) := by decide +kernel
theorem dX3_openSteps_23 : decode cX3_openSteps 23 = .ok (.getfield 46, 3) := by decide +kernel
theorem dX3_openSteps_26 : decode cX3_openSteps 26 = .ok (.aload_n 0, 1) := by decide +kernel
theorem dX3_openSteps_27 : decode cX3_openSteps 27 = .ok (.getfield 43, 3) := by decide +kernel
theorem dX3_openSteps_30 : decode cX3_openSteps 30 = .ok (.iload_n 1, 1) := by decide +kernel
theorem dX3_openSteps_31 : decode cX3_openSteps 31 = .ok (.iastore, 1) := by decide +kernel
theorem dX3_openSteps_32 : decode cX3_openSteps 32 = .ok (.aload_n 0, 1) := by decide +kernel
theorem dX3_openSteps_33 : decode cX3_openSteps 33 = .ok (.getfield 49, 3) := by decide +kernel
theorem dX3_openSteps_36 : decode cX3_openSteps 36 = .ok (.aload_n 0, 1) := by decide +kernel
theorem dX3_openSteps_37 : decode cX3_openSteps 37 = .ok (.getfield 43, 3) := by decide +kernel
theorem dX3_openSteps_40 : decode cX3_openSteps 40 = .ok (.iload_n 2, 1) := by decide +kernel
theorem dX3_openSteps_41 : decode cX3_openSteps 41 = .ok (.iastore, 1) := by decide +kernel
theorem dX3_openSteps_42 : decode cX3_openSteps 42 = .ok (.aload_n 0, 1) := by decide +kernel
theorem dX3_openSteps_43 : decode cX3_openSteps 43 = .ok (.getfield 55, 3) := by decide +kernel
theorem dX3_openSteps_46 : decode cX3_openSteps 46 = .ok (.aload_n 0, 1) := by decide +kernel
theorem dX3_openSteps_47 : decode cX3_openSteps 47 = .ok (.getfield 43, 3) := by decide +kernel
theorem dX3_openSteps_50 : decode cX3_openSteps 50 = .ok (.iconst 0, 1) := by decide +kernel
theorem dX3_openSteps_51 : decode cX3_openSteps 51 = .ok (.bastore, 1) := by decide +kernel
theorem dX3_openSteps_52 : decode cX3_openSteps 52 = .ok (.aload_n 0, 1) := by decide +kernel
theorem dX3_openSteps_53 : decode cX3_openSteps 53 = .ok (.dup, 1) := by decide +kernel
theorem dX3_openSteps_54 : decode cX3_openSteps 54 = .ok (.getfield 43, 3) := by decide +kernel
theorem dX3_openSteps_57 : decode cX3_openSteps 57 = .ok (.iconst 1, 1) := by decide +kernel
theorem dX3_openSteps_58 : decode cX3_openSteps 58 = .ok (.iadd, 1) := by decide +kernel
theorem dX3_openSteps_59 : decode cX3_openSteps 59 = .ok (.putfield 43, 3) := by decide +kernel
theorem dX3_openSteps_62 : decode cX3_openSteps 62 = .ok (.aload_n 0, 1) := by decide +kernel
theorem dX3_openSteps_63 : decode cX3_openSteps 63 = .ok (.getfield 62, 3) := by decide +kernel
theorem dX3_openSteps_66 : decode cX3_openSteps 66 = .ok (.aload_n 0, 1) := by decide +kernel
theorem dX3_openSteps_67 : decode cX3_openSteps 67 = .ok (.getfield 43, 3) := by decide +kernel
theorem dX3_openSteps_70 : decode cX3_openSteps 70 = .ok (.iconst 0, 1) := by decide +kernel
theorem dX3_openSteps_71 : decode cX3_openSteps 71 = .ok (.bastore, 1) := by decide +kernel
theorem dX3_openSteps_72 : decode cX3_openSteps 72 = .ok (.return_, 1) := by decide +kernel
theorem dX3_closeSteps_0 : decode cX3_closeSteps 0 = .ok (.aload_n 0, 1) := by decide +kernel
theorem dX3_closeSteps_1 : decode cX3_closeSteps 1 = .ok (.getfield 43, 3) := by decide +kernel
theorem dX3_closeSteps_4 : decode cX3_closeSteps 4 = .ok (.iconst 1, 1) := by decide +kernel
theorem dX3_closeSteps_5 : decode cX3_closeSteps 5 = .ok (.isub, 1) := by decide +kernel
theorem dX3_closeSteps_6 : decode cX3_closeSteps 6 = .ok (.istore_n 1, 1) := by decide +kernel
theorem dX3_closeSteps_7 : decode cX3_closeSteps 7 = .ok (.iload_n 1, 1) := by decide +kernel
theorem dX3_closeSteps_8 : decode cX3_closeSteps 8 = .ok (.ifCond .lt 8, 3) := by decide +kernel
theorem dX3_closeSteps_11 : decode cX3_closeSteps 11 = .ok (.iload_n 1, 1) := by decide +kernel
theorem dX3_closeSteps_12 : decode cX3_closeSteps 12 = .ok (.iconst 4, 1) := by decide +kernel
theorem dX3_closeSteps_13 : decode cX3_closeSteps 13 = .ok (.if_icmp .lt 4, 3) := by decide +kernel
theorem dX3_closeSteps_16 : decode cX3_closeSteps 16 = .ok (.return_, 1) := by decide +kernel
theorem dX3_closeSteps_17 : decode cX3_closeSteps 17 = .ok (.aload_n 0, 1) := by decide +kernel
theorem dX3_closeSteps_18 : decode cX3_closeSteps 18 = .ok (.getfield 46, 3) := by decide +kernel
theorem dX3_closeSteps_21 : decode cX3_closeSteps 21 = .ok (.iload_n 1, 1) := by decide +kernel
theorem dX3_closeSteps_22 : decode cX3_closeSteps 22 = .ok (.iaload, 1) := by decide +kernel
theorem dX3_closeSteps_23 : decode cX3_closeSteps 23 = .ok (.bipush 7, 2) := by decide +kernel
theorem dX3_closeSteps_25 : decode cX3_closeSteps 25 = .ok (.if_icmp .ne 11, 3) := by decide +kernel
theorem dX3_closeSteps_28 : decode cX3_closeSteps 28 = .ok (.aload_n 0, 1) := by decide +kernel
theorem dX3_closeSteps_29 : decode cX3_closeSteps 29 = .ok (.iload_n 1, 1) := by decide +kernel
theorem dX3_closeSteps_30 : decode cX3_closeSteps 30 = .ok (.invokevirtual 155, 3) := by decide +kernel
theorem dX3_closeSteps_33 : decode cX3_closeSteps 33 = .ok (.goto 25, 3) := by decide +kernel
theorem dX3_closeSteps_36 : decode cX3_closeSteps 36 = .ok (.aload_n 0, 1) := by decide +kernel
theorem dX3_closeSteps_37 : decode cX3_closeSteps 37 = .ok (.getfield 55, 3) := by decide +kernel
theorem dX3_closeSteps_40 : decode cX3_closeSteps 40 = .ok (.iload_n 1, 1) := by decide +kernel
theorem dX3_closeSteps_41 : decode cX3_closeSteps 41 = .ok (.baload, 1) := by decide +kernel
theorem dX3_closeSteps_42 : decode cX3_closeSteps 42 = .ok (.ifCond .eq 11, 3) := by decide +kernel
theorem dX3_closeSteps_45 : decode cX3_closeSteps 45 = .ok (.aload_n 0, 1) := by decide +kernel
theorem dX3_closeSteps_46 : decode cX3_closeSteps 46 = .ok (.iload_n 1, 1) := by decide +kernel
theorem dX3_closeSteps_47 : decode cX3_closeSteps 47 = .ok (.invokevirtual 158, 3) := by decide +kernel
theorem dX3_closeSteps_50 : decode cX3_closeSteps 50 = .ok (.goto 8, 3) := by decide +kernel
theorem dX3_closeSteps_53 : decode cX3_closeSteps 53 = .ok (.aload_n 0, 1) := by decide +kernel
theorem dX3_closeSteps_54 : decode cX3_closeSteps 54 = .ok (.iload_n 1, 1) := by decide +kernel
theorem dX3_closeSteps_55 : decode cX3_closeSteps 55 = .ok (.invokevirtual 161, 3) := by decide +kernel
theorem dX3_closeSteps_58 : decode cX3_closeSteps 58 = .ok (.return_, 1) := by decide +kernel
theorem dX3_closeAgain_0 : decode cX3_closeAgain 0 = .ok (.aload_n 0, 1) := by decide +kernel
theorem dX3_closeAgain_1 : decode cX3_closeAgain 1 = .ok (.getfield 62, 3) := by decide +kernel
theorem dX3_closeAgain_4 : decode cX3_closeAgain 4 = .ok (.aload_n 0, 1) := by decide +kernel
theorem dX3_closeAgain_5 : decode cX3_closeAgain 5 = .ok (.getfield 43, 3) := by decide +kernel
theorem dX3_closeAgain_8 : decode cX3_closeAgain 8 = .ok (.baload, 1) := by decide +kernel
theorem dX3_closeAgain_9 : decode cX3_closeAgain 9 = .ok (.ifCond .ne 9, 3) := by decide +kernel
theorem dX3_closeAgain_12 : decode cX3_closeAgain 12 = .ok (.aload_n 0, 1) := by decide +kernel
theorem dX3_closeAgain_13 : decode cX3_closeAgain 13 = .ok (.iconst 5, 1) := by decide +kernel
theorem dX3_closeAgain_14 : decode cX3_closeAgain 14 = .ok (.invokevirtual 90, 3) := by decide +kernel
theorem dX3_closeAgain_17 : decode cX3_closeAgain 17 = .ok (.return_, 1) := by decide +kernel
theorem dX3_closeAgain_18 : decode cX3_closeAgain 18 = .ok (.aload_n 0, 1) := by decide +kernel
theorem dX3_closeAgain_19 : decode cX3_closeAgain 19 = .ok (.getfield 12, 3) := by decide +kernel
theorem dX3_closeAgain_22 : decode cX3_closeAgain 22 = .ok (.invokevirtual 97, 3) := by decide +kernel
theorem dX3_closeAgain_25 : decode cX3_closeAgain 25 = .ok (.aload_n 0, 1) := by decide +kernel
theorem dX3_closeAgain_26 : decode cX3_closeAgain 26 = .ok (.getfield 28, 3) := by decide +kernel
theorem dX3_closeAgain_29 : decode cX3_closeAgain 29 = .ok (.iconst 3, 1) := by decide +kernel
theorem dX3_closeAgain_30 : decode cX3_closeAgain 30 = .ok (.iconst 0, 1) := by decide +kernel
theorem dX3_closeAgain_31 : decode cX3_closeAgain 31 = .ok (.iconst 0, 1) := by decide +kernel
theorem dX3_closeAgain_32 : decode cX3_closeAgain 32 = .ok (.aload_n 0, 1) := by decide +kernel
theorem dX3_closeAgain_33 : decode cX3_closeAgain 33 = .ok (.getfield 49, 3) := by decide +kernel
theorem dX3_closeAgain_36 : decode cX3_closeAgain 36 = .ok (.iload_n 1, 1) := by decide +kernel
theorem dX3_closeAgain_37 : decode cX3_closeAgain 37 = .ok (.iaload, 1) := by decide +kernel
theorem dX3_closeAgain_38 : decode cX3_closeAgain 38 = .ok (.invokevirtual 74, 3) := by decide +kernel
theorem dX3_closeAgain_41 : decode cX3_closeAgain 41 = .ok (.pop, 1) := by decide +kernel
theorem dX3_closeAgain_42 : decode cX3_closeAgain 42 = .ok (.aload_n 0, 1) := by decide +kernel
theorem dX3_closeAgain_43 : decode cX3_closeAgain 43 = .ok (.getfield 28, 3) := by decide +kernel
theorem dX3_closeAgain_46 : decode cX3_closeAgain 46 = .ok (.aload_n 0, 1) := by decide +kernel
theorem dX3_closeAgain_47 : decode cX3_closeAgain 47 = .ok (.getfield 49, 3) := by decide +kernel
theorem dX3_closeAgain_50 : decode cX3_closeAgain 50 = .ok (.iload_n 1, 1) := by decide +kernel
theorem dX3_closeAgain_51 : decode cX3_closeAgain 51 = .ok (.iaload, 1) := by decide +kernel
theorem dX3_closeAgain_52 : decode cX3_closeAgain 52 = .ok (.aload_n 0, 1) := by decide +kernel
theorem dX3_closeAgain_53 : decode cX3_closeAgain 53 = .ok (.getfield 28, 3) := by decide +kernel
theorem dX3_closeAgain_56 : decode cX3_closeAgain 56 = .ok (.getfield 117, 3) := by decide +kernel
theorem dX3_closeAgain_59 : decode cX3_closeAgain 59 = .ok (.invokevirtual 164, 3) := by decide +kernel
theorem dX3_closeAgain_62 : decode cX3_closeAgain 62 = .ok (.aload_n 0, 1) := by decide +kernel
theorem dX3_closeAgain_63 : decode cX3_closeAgain 63 = .ok (.iload_n 1, 1) := by decide +kernel
theorem dX3_closeAgain_64 : decode cX3_closeAgain 64 = .ok (.putfield 43, 3) := by decide +kernel
theorem dX3_closeAgain_67 : decode cX3_closeAgain 67 = .ok (.aload_n 0, 1) := by decide +kernel
theorem dX3_closeAgain_68 : decode cX3_closeAgain 68 = .ok (.iconst 1, 1) := by decide +kernel
theorem dX3_closeAgain_69 : decode cX3_closeAgain 69 = .ok (.invokevirtual 137, 3) := by decide +kernel
theorem dX3_closeAgain_72 : decode cX3_closeAgain 72 = .ok (.return_, 1) := by decide +kernel
theorem dX3_turnToSecond_0 : decode cX3_turnToSecond 0 = .ok (.aload_n 0, 1) := by decide +kernel
theorem dX3_turnToSecond_1 : decode cX3_turnToSecond 1 = .ok (.getfield 12, 3) := by decide +kernel
theorem dX3_turnToSecond_4 : decode cX3_turnToSecond 4 = .ok (.invokevirtual 97, 3) := by decide +kernel
theorem dX3_turnToSecond_7 : decode cX3_turnToSecond 7 = .ok (.aload_n 0, 1) := by decide +kernel
theorem dX3_turnToSecond_8 : decode cX3_turnToSecond 8 = .ok (.getfield 46, 3) := by decide +kernel
theorem dX3_turnToSecond_11 : decode cX3_turnToSecond 11 = .ok (.iload_n 1, 1) := by decide +kernel
theorem dX3_turnToSecond_12 : decode cX3_turnToSecond 12 = .ok (.iaload, 1) := by decide +kernel
theorem dX3_turnToSecond_13 : decode cX3_turnToSecond 13 = .ok (.iconst 5, 1) := by decide +kernel
theorem dX3_turnToSecond_14 : decode cX3_turnToSecond 14 = .ok (.if_icmp .ne 29, 3) := by decide +kernel
theorem dX3_turnToSecond_17 : decode cX3_turnToSecond 17 = .ok (.aload_n 0, 1) := by decide +kernel
theorem dX3_turnToSecond_18 : decode cX3_turnToSecond 18 = .ok (.bipush 6, 2) := by decide +kernel
theorem dX3_turnToSecond_20 : decode cX3_turnToSecond 20 = .ok (.invokevirtual 123, 3) := by decide +kernel
theorem dX3_turnToSecond_23 : decode cX3_turnToSecond 23 = .ok (.aload_n 0, 1) := by decide +kernel
theorem dX3_turnToSecond_24 : decode cX3_turnToSecond 24 = .ok (.getfield 52, 3) := by decide +kernel
theorem dX3_turnToSecond_27 : decode cX3_turnToSecond 27 = .ok (.iload_n 1, 1) := by decide +kernel
theorem dX3_turnToSecond_28 : decode cX3_turnToSecond 28 = .ok (.aload_n 0, 1) := by decide +kernel
theorem dX3_turnToSecond_29 : decode cX3_turnToSecond 29 = .ok (.getfield 28, 3) := by decide +kernel
theorem dX3_turnToSecond_32 : decode cX3_turnToSecond 32 = .ok (.iconst 3, 1) := by decide +kernel
theorem dX3_turnToSecond_33 : decode cX3_turnToSecond 33 = .ok (.iconst 0, 1) := by decide +kernel
theorem dX3_turnToSecond_34 : decode cX3_turnToSecond 34 = .ok (.iconst 0, 1) := by decide +kernel
theorem dX3_turnToSecond_35 : decode cX3_turnToSecond 35 = .ok (.iconst 0, 1) := by decide +kernel
theorem dX3_turnToSecond_36 : decode cX3_turnToSecond 36 = .ok (.invokevirtual 74, 3) := by decide +kernel
theorem dX3_turnToSecond_39 : decode cX3_turnToSecond 39 = .ok (.iastore, 1) := by decide +kernel
theorem dX3_turnToSecond_40 : decode cX3_turnToSecond 40 = .ok (.goto 32, 3) := by decide +kernel
theorem dX3_turnToSecond_43 : decode cX3_turnToSecond 43 = .ok (.aload_n 0, 1) := by decide +kernel
theorem dX3_turnToSecond_44 : decode cX3_turnToSecond 44 = .ok (.getfield 52, 3) := by decide +kernel
theorem dX3_turnToSecond_47 : decode cX3_turnToSecond 47 = .ok (.iload_n 1, 1) := by decide +kernel
theorem dX3_turnToSecond_48 : decode cX3_turnToSecond 48 = .ok (.aload_n 0, 1) := by decide +kernel
theorem dX3_turnToSecond_49 : decode cX3_turnToSecond 49 = .ok (.getfield 28, 3) := by decide +kernel
theorem dX3_turnToSecond_52 : decode cX3_turnToSecond 52 = .ok (.iconst 5, 1) := by decide +kernel
theorem dX3_turnToSecond_53 : decode cX3_turnToSecond 53 = .ok (.aload_n 0, 1) := by decide +kernel
theorem dX3_turnToSecond_54 : decode cX3_turnToSecond 54 = .ok (.getfield 28, 3) := by decide +kernel
theorem dX3_turnToSecond_57 : decode cX3_turnToSecond 57 = .ok (.aload_n 0, 1) := by decide +kernel
theorem dX3_turnToSecond_58 : decode cX3_turnToSecond 58 = .ok (.getfield 49, 3) := by decide +kernel
theorem dX3_turnToSecond_61 : decode cX3_turnToSecond 61 = .ok (.iload_n 1, 1) := by decide +kernel
theorem dX3_turnToSecond_62 : decode cX3_turnToSecond 62 = .ok (.iaload, 1) := by decide +kernel
theorem dX3_turnToSecond_63 : decode cX3_turnToSecond 63 = .ok (.invokevirtual 167, 3) := by decide +kernel
theorem dX3_turnToSecond_66 : decode cX3_turnToSecond 66 = .ok (.iconst 0, 1) := by decide +kernel
theorem dX3_turnToSecond_67 : decode cX3_turnToSecond 67 = .ok (.iconst 0, 1) := by decide +kernel
theorem dX3_turnToSecond_68 : decode cX3_turnToSecond 68 = .ok (.invokevirtual 74, 3) := by decide +kernel
theorem dX3_turnToSecond_71 : decode cX3_turnToSecond 71 = .ok (.iastore, 1) := by decide +kernel
theorem dX3_turnToSecond_72 : decode cX3_turnToSecond 72 = .ok (.aload_n 0, 1) := by decide +kernel
theorem dX3_turnToSecond_73 : decode cX3_turnToSecond 73 = .ok (.bipush 11, 2) := by decide +kernel
theorem dX3_turnToSecond_75 : decode cX3_turnToSecond 75 = .ok (.invokevirtual 123, 3) := by decide +kernel
theorem dX3_turnToSecond_78 : decode cX3_turnToSecond 78 = .ok (.aload_n 0, 1) := by decide +kernel
theorem dX3_turnToSecond_79 : decode cX3_turnToSecond 79 = .ok (.getfield 28, 3) := by decide +kernel
theorem dX3_turnToSecond_82 : decode cX3_turnToSecond 82 = .ok (.aload_n 0, 1) := by decide +kernel
theorem dX3_turnToSecond_83 : decode cX3_turnToSecond 83 = .ok (.getfield 49, 3) := by decide +kernel
theorem dX3_turnToSecond_86 : decode cX3_turnToSecond 86 = .ok (.iload_n 1, 1) := by decide +kernel
theorem dX3_turnToSecond_87 : decode cX3_turnToSecond 87 = .ok (.iaload, 1) := by decide +kernel
theorem dX3_turnToSecond_88 : decode cX3_turnToSecond 88 = .ok (.aload_n 0, 1) := by decide +kernel
theorem dX3_turnToSecond_89 : decode cX3_turnToSecond 89 = .ok (.getfield 28, 3) := by decide +kernel
theorem dX3_turnToSecond_92 : decode cX3_turnToSecond 92 = .ok (.getfield 117, 3) := by decide +kernel
theorem dX3_turnToSecond_95 : decode cX3_turnToSecond 95 = .ok (.invokevirtual 164, 3) := by decide +kernel
theorem dX3_turnToSecond_98 : decode cX3_turnToSecond 98 = .ok (.aload_n 0, 1) := by decide +kernel
theorem dX3_turnToSecond_99 : decode cX3_turnToSecond 99 = .ok (.getfield 59, 3) := by decide +kernel
theorem dX3_turnToSecond_102 : decode cX3_turnToSecond 102 = .ok (.iload_n 1, 1) := by decide +kernel
theorem dX3_turnToSecond_103 : decode cX3_turnToSecond 103 = .ok (.aload_n 0, 1) := by decide +kernel
theorem dX3_turnToSecond_104 : decode cX3_turnToSecond 104 = .ok (.getfield 62, 3) := by decide +kernel
theorem dX3_turnToSecond_107 : decode cX3_turnToSecond 107 = .ok (.aload_n 0, 1) := by decide +kernel
theorem dX3_turnToSecond_108 : decode cX3_turnToSecond 108 = .ok (.getfield 43, 3) := by decide +kernel
theorem dX3_turnToSecond_111 : decode cX3_turnToSecond 111 = .ok (.baload, 1) := by decide +kernel
theorem dX3_turnToSecond_112 : decode cX3_turnToSecond 112 = .ok (.bastore, 1) := by decide +kernel
theorem dX3_turnToSecond_113 : decode cX3_turnToSecond 113 = .ok (.aload_n 0, 1) := by decide +kernel
theorem dX3_turnToSecond_114 : decode cX3_turnToSecond 114 = .ok (.getfield 55, 3) := by decide +kernel
theorem dX3_turnToSecond_117 : decode cX3_turnToSecond 117 = .ok (.iload_n 1, 1) := by decide +kernel
theorem dX3_turnToSecond_118 : decode cX3_turnToSecond 118 = .ok (.iconst 1, 1) := by decide +kernel
theorem dX3_turnToSecond_119 : decode cX3_turnToSecond 119 = .ok (.bastore, 1) := by decide +kernel
theorem dX3_turnToSecond_120 : decode cX3_turnToSecond 120 = .ok (.aload_n 0, 1) := by decide +kernel
theorem dX3_turnToSecond_121 : decode cX3_turnToSecond 121 = .ok (.getfield 62, 3) := by decide +kernel
theorem dX3_turnToSecond_124 : decode cX3_turnToSecond 124 = .ok (.aload_n 0, 1) := by decide +kernel
theorem dX3_turnToSecond_125 : decode cX3_turnToSecond 125 = .ok (.getfield 43, 3) := by decide +kernel
theorem dX3_turnToSecond_128 : decode cX3_turnToSecond 128 = .ok (.iconst 0, 1) := by decide +kernel
theorem dX3_turnToSecond_129 : decode cX3_turnToSecond 129 = .ok (.bastore, 1) := by decide +kernel
theorem dX3_turnToSecond_130 : decode cX3_turnToSecond 130 = .ok (.return_, 1) := by decide +kernel
theorem dX3_closeSecond_0 : decode cX3_closeSecond 0 = .ok (.aload_n 0, 1) := by decide +kernel
theorem dX3_closeSecond_1 : decode cX3_closeSecond 1 = .ok (.getfield 62, 3) := by decide +kernel
theorem dX3_closeSecond_4 : decode cX3_closeSecond 4 = .ok (.aload_n 0, 1) := by decide +kernel
theorem dX3_closeSecond_5 : decode cX3_closeSecond 5 = .ok (.getfield 43, 3) := by decide +kernel
theorem dX3_closeSecond_8 : decode cX3_closeSecond 8 = .ok (.baload, 1) := by decide +kernel
theorem dX3_closeSecond_9 : decode cX3_closeSecond 9 = .ok (.istore_n 2, 1) := by decide +kernel
theorem dX3_closeSecond_10 : decode cX3_closeSecond 10 = .ok (.aload_n 0, 1) := by decide +kernel
theorem dX3_closeSecond_11 : decode cX3_closeSecond 11 = .ok (.getfield 12, 3) := by decide +kernel
theorem dX3_closeSecond_14 : decode cX3_closeSecond 14 = .ok (.invokevirtual 97, 3) := by decide +kernel
theorem dX3_closeSecond_17 : decode cX3_closeSecond 17 = .ok (.aload_n 0, 1) := by decide +kernel
theorem dX3_closeSecond_18 : decode cX3_closeSecond 18 = .ok (.iload_n 1, 1) := by decide +kernel
theorem dX3_closeSecond_19 : decode cX3_closeSecond 19 = .ok (.putfield 43, 3) := by decide +kernel
theorem dX3_closeSecond_22 : decode cX3_closeSecond 22 = .ok (.aload_n 0, 1) := by decide +kernel
theorem dX3_closeSecond_23 : decode cX3_closeSecond 23 = .ok (.getfield 46, 3) := by decide +kernel
theorem dX3_closeSecond_26 : decode cX3_closeSecond 26 = .ok (.iload_n 1, 1) := by decide +kernel
theorem dX3_closeSecond_27 : decode cX3_closeSecond 27 = .ok (.iaload, 1) := by decide +kernel
theorem dX3_closeSecond_28 : decode cX3_closeSecond 28 = .ok (.iconst 5, 1) := by decide +kernel
theorem dX3_closeSecond_29 : decode cX3_closeSecond 29 = .ok (.if_icmp .ne 28, 3) := by decide +kernel
theorem dX3_closeSecond_32 : decode cX3_closeSecond 32 = .ok (.aload_n 0, 1) := by decide +kernel
theorem dX3_closeSecond_33 : decode cX3_closeSecond 33 = .ok (.aload_n 0, 1) := by decide +kernel
theorem dX3_closeSecond_34 : decode cX3_closeSecond 34 = .ok (.getfield 59, 3) := by decide +kernel
theorem dX3_closeSecond_37 : decode cX3_closeSecond 37 = .ok (.iload_n 1, 1) := by decide +kernel
theorem dX3_closeSecond_38 : decode cX3_closeSecond 38 = .ok (.baload, 1) := by decide +kernel
theorem dX3_closeSecond_39 : decode cX3_closeSecond 39 = .ok (.ifCond .eq 11, 3) := by decide +kernel
theorem dX3_closeSecond_42 : decode cX3_closeSecond 42 = .ok (.iload_n 2, 1) := by decide +kernel
theorem dX3_closeSecond_43 : decode cX3_closeSecond 43 = .ok (.ifCond .eq 7, 3) := by decide +kernel
theorem dX3_closeSecond_46 : decode cX3_closeSecond 46 = .ok (.iconst 1, 1) := by decide +kernel
theorem dX3_closeSecond_47 : decode cX3_closeSecond 47 = .ok (.goto 4, 3) := by decide +kernel
theorem dX3_closeSecond_50 : decode cX3_closeSecond 50 = .ok (.iconst 0, 1) := by decide +kernel
theorem dX3_closeSecond_51 : decode cX3_closeSecond 51 = .ok (.invokevirtual 137, 3) := by decide +kernel
theorem dX3_closeSecond_54 : decode cX3_closeSecond 54 = .ok (.goto 57, 3) := by decide +kernel
theorem dX3_closeSecond_57 : decode cX3_closeSecond 57 = .ok (.aload_n 0, 1) := by decide +kernel
theorem dX3_closeSecond_58 : decode cX3_closeSecond 58 = .ok (.getfield 28, 3) := by decide +kernel
theorem dX3_closeSecond_61 : decode cX3_closeSecond 61 = .ok (.iconst 5, 1) := by decide +kernel
theorem dX3_closeSecond_62 : decode cX3_closeSecond 62 = .ok (.aload_n 0, 1) := by decide +kernel
theorem dX3_closeSecond_63 : decode cX3_closeSecond 63 = .ok (.getfield 28, 3) := by decide +kernel
theorem dX3_closeSecond_66 : decode cX3_closeSecond 66 = .ok (.aload_n 0, 1) := by decide +kernel
theorem dX3_closeSecond_67 : decode cX3_closeSecond 67 = .ok (.getfield 49, 3) := by decide +kernel
theorem dX3_closeSecond_70 : decode cX3_closeSecond 70 = .ok (.iload_n 1, 1) := by decide +kernel
theorem dX3_closeSecond_71 : decode cX3_closeSecond 71 = .ok (.iaload, 1) := by decide +kernel
theorem dX3_closeSecond_72 : decode cX3_closeSecond 72 = .ok (.invokevirtual 167, 3) := by decide +kernel
theorem dX3_closeSecond_75 : decode cX3_closeSecond 75 = .ok (.iconst 0, 1) := by decide +kernel
theorem dX3_closeSecond_76 : decode cX3_closeSecond 76 = .ok (.aload_n 0, 1) := by decide +kernel
theorem dX3_closeSecond_77 : decode cX3_closeSecond 77 = .ok (.getfield 28, 3) := by decide +kernel
theorem dX3_closeSecond_80 : decode cX3_closeSecond 80 = .ok (.getfield 117, 3) := by decide +kernel
theorem dX3_closeSecond_83 : decode cX3_closeSecond 83 = .ok (.iconst 1, 1) := by decide +kernel
theorem dX3_closeSecond_84 : decode cX3_closeSecond 84 = .ok (.iadd, 1) := by decide +kernel
theorem dX3_closeSecond_85 : decode cX3_closeSecond 85 = .ok (.invokevirtual 74, 3) := by decide +kernel
theorem dX3_closeSecond_88 : decode cX3_closeSecond 88 = .ok (.pop, 1) := by decide +kernel
theorem dX3_closeSecond_89 : decode cX3_closeSecond 89 = .ok (.aload_n 0, 1) := by decide +kernel
theorem dX3_closeSecond_90 : decode cX3_closeSecond 90 = .ok (.aload_n 0, 1) := by decide +kernel
theorem dX3_closeSecond_91 : decode cX3_closeSecond 91 = .ok (.getfield 59, 3) := by decide +kernel
theorem dX3_closeSecond_94 : decode cX3_closeSecond 94 = .ok (.iload_n 1, 1) := by decide +kernel
theorem dX3_closeSecond_95 : decode cX3_closeSecond 95 = .ok (.baload, 1) := by decide +kernel
theorem dX3_closeSecond_96 : decode cX3_closeSecond 96 = .ok (.ifCond .ne 7, 3) := by decide +kernel
theorem dX3_closeSecond_99 : decode cX3_closeSecond 99 = .ok (.iload_n 2, 1) := by decide +kernel
theorem dX3_closeSecond_100 : decode cX3_closeSecond 100 = .ok (.ifCond .eq 7, 3) := by decide +kernel
theorem dX3_closeSecond_103 : decode cX3_closeSecond 103 = .ok (.iconst 1, 1) := by decide +kernel
theorem dX3_closeSecond_104 : decode cX3_closeSecond 104 = .ok (.goto 4, 3) := by decide +kernel
theorem dX3_closeSecond_107 : decode cX3_closeSecond 107 = .ok (.iconst 0, 1) := by decide +kernel
theorem dX3_closeSecond_108 : decode cX3_closeSecond 108 = .ok (.invokevirtual 137, 3) := by decide +kernel
theorem dX3_closeSecond_111 : decode cX3_closeSecond 111 = .ok (.aload_n 0, 1) := by decide +kernel
theorem dX3_closeSecond_112 : decode cX3_closeSecond 112 = .ok (.getfield 28, 3) := by decide +kernel
theorem dX3_closeSecond_115 : decode cX3_closeSecond 115 = .ok (.aload_n 0, 1) := by decide +kernel
theorem dX3_closeSecond_116 : decode cX3_closeSecond 116 = .ok (.getfield 52, 3) := by decide +kernel
theorem dX3_closeSecond_119 : decode cX3_closeSecond 119 = .ok (.iload_n 1, 1) := by decide +kernel
theorem dX3_closeSecond_120 : decode cX3_closeSecond 120 = .ok (.iaload, 1) := by decide +kernel
theorem dX3_closeSecond_121 : decode cX3_closeSecond 121 = .ok (.aload_n 0, 1) := by decide +kernel
theorem dX3_closeSecond_122 : decode cX3_closeSecond 122 = .ok (.getfield 28, 3) := by decide +kernel
theorem dX3_closeSecond_125 : decode cX3_closeSecond 125 = .ok (.getfield 117, 3) := by decide +kernel
theorem dX3_closeSecond_128 : decode cX3_closeSecond 128 = .ok (.invokevirtual 164, 3) := by decide +kernel
theorem dX3_closeSecond_131 : decode cX3_closeSecond 131 = .ok (.return_, 1) := by decide +kernel
theorem dX5_init_0 : decode cX5_init 0 = .ok (.aload_n 0, 1) := by decide +kernel
theorem dX5_init_1 : decode cX5_init 1 = .ok (.invokespecial 3, 3) := by decide +kernel
theorem dX5_init_4 : decode cX5_init 4 = .ok (.aload_n 0, 1) := by decide +kernel
theorem dX5_init_5 : decode cX5_init 5 = .ok (.sipush 300, 3) := by decide +kernel
theorem dX5_init_8 : decode cX5_init 8 = .ok (.newarray .byte, 2) := by decide +kernel
theorem dX5_init_10 : decode cX5_init 10 = .ok (.putfield 9, 3) := by decide +kernel
theorem dX5_init_13 : decode cX5_init 13 = .ok (.aload_n 0, 1) := by decide +kernel
theorem dX5_init_14 : decode cX5_init 14 = .ok (.iconst 0, 1) := by decide +kernel
theorem dX5_init_15 : decode cX5_init 15 = .ok (.putfield 15, 3) := by decide +kernel
theorem dX5_init_18 : decode cX5_init 18 = .ok (.aload_n 0, 1) := by decide +kernel
theorem dX5_init_19 : decode cX5_init 19 = .ok (.bipush 15, 2) := by decide +kernel
theorem dX5_init_21 : decode cX5_init 21 = .ok (.putfield 19, 3) := by decide +kernel
theorem dX5_init_24 : decode cX5_init 24 = .ok (.aload_n 0, 1) := by decide +kernel
theorem dX5_init_25 : decode cX5_init 25 = .ok (.iconst 0, 1) := by decide +kernel
theorem dX5_init_26 : decode cX5_init 26 = .ok (.putfield 22, 3) := by decide +kernel
theorem dX5_init_29 : decode cX5_init 29 = .ok (.aload_n 0, 1) := by decide +kernel
theorem dX5_init_30 : decode cX5_init 30 = .ok (.iconst 0, 1) := by decide +kernel
theorem dX5_init_31 : decode cX5_init 31 = .ok (.putfield 25, 3) := by decide +kernel
theorem dX5_init_34 : decode cX5_init 34 = .ok (.aload_n 0, 1) := by decide +kernel
theorem dX5_init_35 : decode cX5_init 35 = .ok (.iconst 0, 1) := by decide +kernel
theorem dX5_init_36 : decode cX5_init 36 = .ok (.putfield 28, 3) := by decide +kernel
theorem dX5_init_39 : decode cX5_init 39 = .ok (.aload_n 0, 1) := by decide +kernel
theorem dX5_init_40 : decode cX5_init 40 = .ok (.bipush 9, 2) := by decide +kernel
theorem dX5_init_42 : decode cX5_init 42 = .ok (.newarray .int, 2) := by decide +kernel
theorem dX5_init_44 : decode cX5_init 44 = .ok (.putfield 31, 3) := by decide +kernel
theorem dX5_init_47 : decode cX5_init 47 = .ok (.aload_n 0, 1) := by decide +kernel
theorem dX5_init_48 : decode cX5_init 48 = .ok (.getfield 31, 3) := by decide +kernel
theorem dX5_init_51 : decode cX5_init 51 = .ok (.iconst 0, 1) := by decide +kernel
theorem dX5_init_52 : decode cX5_init 52 = .ok (.ldc 35, 2) := by decide +kernel
theorem dX5_init_54 : decode cX5_init 54 = .ok (.invokestatic 37, 3) := by decide +kernel
theorem dX5_init_57 : decode cX5_init 57 = .ok (.iastore, 1) := by decide +kernel
theorem dX5_init_58 : decode cX5_init 58 = .ok (.aload_n 0, 1) := by decide +kernel
theorem dX5_init_59 : decode cX5_init 59 = .ok (.getfield 31, 3) := by decide +kernel
theorem dX5_init_62 : decode cX5_init 62 = .ok (.iconst 1, 1) := by decide +kernel
theorem dX5_init_63 : decode cX5_init 63 = .ok (.ldc 41, 2) := by decide +kernel
theorem dX5_init_65 : decode cX5_init 65 = .ok (.invokestatic 37, 3) := by decide +kernel
theorem dX5_init_68 : decode cX5_init 68 = .ok (.iastore, 1) := by decide +kernel
theorem dX5_init_69 : decode cX5_init 69 = .ok (.aload_n 0, 1) := by decide +kernel
theorem dX5_init_70 : decode cX5_init 70 = .ok (.getfield 31, 3) := by decide +kernel
theorem dX5_init_73 : decode cX5_init 73 = .ok (.iconst 2, 1) := by decide +kernel
theorem dX5_init_74 : decode cX5_init 74 = .ok (.ldc 43, 2) := by decide +kernel
theorem dX5_init_76 : decode cX5_init 76 = .ok (.invokestatic 37, 3) := by decide +kernel
theorem dX5_init_79 : decode cX5_init 79 = .ok (.iastore, 1) := by decide +kernel
theorem dX5_init_80 : decode cX5_init 80 = .ok (.aload_n 0, 1) := by decide +kernel
theorem dX5_init_81 : decode cX5_init 81 = .ok (.getfield 31, 3) := by decide +kernel
theorem dX5_init_84 : decode cX5_init 84 = .ok (.iconst 3, 1) := by decide +kernel
theorem dX5_init_85 : decode cX5_init 85 = .ok (.ldc 45, 2) := by decide +kernel
theorem dX5_init_87 : decode cX5_init 87 = .ok (.invokestatic 37, 3) := by decide +kernel
theorem dX5_init_90 : decode cX5_init 90 = .ok (.iastore, 1) := by decide +kernel
theorem dX5_init_91 : decode cX5_init 91 = .ok (.aload_n 0, 1) := by decide +kernel
theorem dX5_init_92 : decode cX5_init 92 = .ok (.getfield 31, 3) := by decide +kernel
theorem dX5_init_95 : decode cX5_init 95 = .ok (.iconst 4, 1) := by decide +kernel
theorem dX5_init_96 : decode cX5_init 96 = .ok (.ldc 47, 2) := by decide +kernel
theorem dX5_init_98 : decode cX5_init 98 = .ok (.invokestatic 37, 3) := by decide +kernel
theorem dX5_init_101 : decode cX5_init 101 = .ok (.iastore, 1) := by decide +kernel
theorem dX5_init_102 : decode cX5_init 102 = .ok (.aload_n 0, 1) := by decide +kernel
theorem dX5_init_103 : decode cX5_init 103 = .ok (.getfield 31, 3) := by decide +kernel
theorem dX5_init_106 : decode cX5_init 106 = .ok (.iconst 5, 1) := by decide +kernel
theorem dX5_init_107 : decode cX5_init 107 = .ok (.ldc 49, 2) := by decide +kernel
theorem dX5_init_109 : decode cX5_init 109 = .ok (.invokestatic 37, 3) := by decide +kernel
theorem dX5_init_112 : decode cX5_init 112 = .ok (.iastore, 1) := by decide +kernel
theorem dX5_init_113 : decode cX5_init 113 = .ok (.aload_n 0, 1) := by decide +kernel
theorem dX5_init_114 : decode cX5_init 114 = .ok (.getfield 31, 3) := by decide +kernel
theorem dX5_init_117 : decode cX5_init 117 = .ok (.bipush 6, 2) := by decide +kernel
theorem dX5_init_119 : decode cX5_init 119 = .ok (.ldc 51, 2) := by decide +kernel
theorem dX5_init_121 : decode cX5_init 121 = .ok (.invokestatic 37, 3) := by decide +kernel
theorem dX5_init_124 : decode cX5_init 124 = .ok (.iastore, 1) := by decide +kernel
theorem dX5_init_125 : decode cX5_init 125 = .ok (.aload_n 0, 1) := by decide +kernel
theorem dX5_init_126 : decode cX5_init 126 = .ok (.getfield 31, 3) := by decide +kernel
theorem dX5_init_129 : decode cX5_init 129 = .ok (.bipush 7, 2) := by decide +kernel
theorem dX5_init_131 : decode cX5_init 131 = .ok (.ldc 53, 2) := by decide +kernel
theorem dX5_init_133 : decode cX5_init 133 = .ok (.invokestatic 37, 3) := by decide +kernel
theorem dX5_init_136 : decode cX5_init 136 = .ok (.iastore, 1) := by decide +kernel
theorem dX5_init_137 : decode cX5_init 137 = .ok (.aload_n 0, 1) := by decide +kernel
theorem dX5_init_138 : decode cX5_init 138 = .ok (.getfield 31, 3) := by decide +kernel
theorem dX5_init_141 : decode cX5_init 141 = .ok (.bipush 8, 2) := by decide +kernel
theorem dX5_init_143 : decode cX5_init 143 = .ok (.ldc 55, 2) := by decide +kernel
theorem dX5_init_145 : decode cX5_init 145 = .ok (.invokestatic 37, 3) := by decide +kernel
theorem dX5_init_148 : decode cX5_init 148 = .ok (.iastore, 1) := by decide +kernel
theorem dX5_init_149 : decode cX5_init 149 = .ok (.return_, 1) := by decide +kernel
theorem dX5_addFour_0 : decode cX5_addFour 0 = .ok (.bipush 24, 2) := by decide +kernel
theorem dX5_addFour_2 : decode cX5_addFour 2 = .ok (.istore_n 2, 1) := by decide +kernel
theorem dX5_addFour_3 : decode cX5_addFour 3 = .ok (.iload_n 2, 1) := by decide +kernel
theorem dX5_addFour_4 : decode cX5_addFour 4 = .ok (.ifCond .lt 51, 3) := by decide +kernel
theorem dX5_addFour_7 : decode cX5_addFour 7 = .ok (.aload_n 0, 1) := by decide +kernel
theorem dX5_addFour_8 : decode cX5_addFour 8 = .ok (.getfield 15, 3) := by decide +kernel
theorem dX5_addFour_11 : decode cX5_addFour 11 = .ok (.ifCond .lt 38, 3) := by decide +kernel
theorem dX5_addFour_14 : decode cX5_addFour 14 = .ok (.aload_n 0, 1) := by decide +kernel
theorem dX5_addFour_15 : decode cX5_addFour 15 = .ok (.getfield 15, 3) := by decide +kernel
theorem dX5_addFour_18 : decode cX5_addFour 18 = .ok (.aload_n 0, 1) := by decide +kernel
theorem dX5_addFour_19 : decode cX5_addFour 19 = .ok (.getfield 9, 3) := by decide +kernel
theorem dX5_addFour_22 : decode cX5_addFour 22 = .ok (.arraylength, 1) := by decide +kernel
theorem dX5_addFour_23 : decode cX5_addFour 23 = .ok (.if_icmp .ge 26, 3) := by decide +kernel
theorem dX5_addFour_26 : decode cX5_addFour 26 = .ok (.aload_n 0, 1) := by decide +kernel
theorem dX5_addFour_27 : decode cX5_addFour 27 = .ok (.getfield 9, 3) := by decide +kernel
theorem dX5_addFour_30 : decode cX5_addFour 30 = .ok (.aload_n 0, 1) := by decide +kernel
theorem dX5_addFour_31 : decode cX5_addFour 31 = .ok (.getfield 15, 3) := by decide +kernel
theorem dX5_addFour_34 : decode cX5_addFour 34 = .ok (.iload_n 1, 1) := by decide +kernel
theorem dX5_addFour_35 : decode cX5_addFour 35 = .ok (.iload_n 2, 1) := by decide +kernel
theorem dX5_addFour_36 : decode cX5_addFour 36 = .ok (.iushr, 1) := by decide +kernel
theorem dX5_addFour_37 : decode cX5_addFour 37 = .ok (.i2b, 1) := by decide +kernel
theorem dX5_addFour_38 : decode cX5_addFour 38 = .ok (.bastore, 1) := by decide +kernel
theorem dX5_addFour_39 : decode cX5_addFour 39 = .ok (.aload_n 0, 1) := by decide +kernel
theorem dX5_addFour_40 : decode cX5_addFour 40 = .ok (.dup, 1) := by decide +kernel
theorem dX5_addFour_41 : decode cX5_addFour 41 = .ok (.getfield 15, 3) := by decide +kernel
theorem dX5_addFour_44 : decode cX5_addFour 44 = .ok (.iconst 1, 1) := by decide +kernel
theorem dX5_addFour_45 : decode cX5_addFour 45 = .ok (.iadd, 1) := by decide +kernel
theorem dX5_addFour_46 : decode cX5_addFour 46 = .ok (.putfield 15, 3) := by decide +kernel
theorem dX5_addFour_49 : decode cX5_addFour 49 = .ok (.iinc 2 (-8), 3) := by decide +kernel
theorem dX5_addFour_52 : decode cX5_addFour 52 = .ok (.goto (-49), 3) := by decide +kernel
theorem dX5_addFour_55 : decode cX5_addFour 55 = .ok (.return_, 1) := by decide +kernel
theorem dX5_rewind_0 : decode cX5_rewind 0 = .ok (.aload_n 0, 1) := by decide +kernel
theorem dX5_rewind_1 : decode cX5_rewind 1 = .ok (.iconst 0, 1) := by decide +kernel
theorem dX5_rewind_2 : decode cX5_rewind 2 = .ok (.putfield 28, 3) := by decide +kernel
theorem dX5_rewind_5 : decode cX5_rewind 5 = .ok (.aload_n 0, 1) := by decide +kernel
theorem dX5_rewind_6 : decode cX5_rewind 6 = .ok (.invokevirtual 57, 3) := by decide +kernel
theorem dX5_rewind_9 : decode cX5_rewind 9 = .ok (.return_, 1) := by decide +kernel
theorem dX5_take_0 : decode cX5_take 0 = .ok (.aload_n 0, 1) := by decide +kernel
theorem dX5_take_1 : decode cX5_take 1 = .ok (.getfield 28, 3) := by decide +kernel
theorem dX5_take_4 : decode cX5_take 4 = .ok (.aload_n 0, 1) := by decide +kernel
theorem dX5_take_5 : decode cX5_take 5 = .ok (.getfield 15, 3) := by decide +kernel
theorem dX5_take_8 : decode cX5_take 8 = .ok (.if_icmp .ge 30, 3) := by decide +kernel
theorem dX5_take_11 : decode cX5_take 11 = .ok (.aload_n 0, 1) := by decide +kernel
theorem dX5_take_12 : decode cX5_take 12 = .ok (.aload_n 0, 1) := by decide +kernel
theorem dX5_take_13 : decode cX5_take 13 = .ok (.getfield 28, 3) := by decide +kernel
theorem dX5_take_16 : decode cX5_take 16 = .ok (.invokevirtual 60, 3) := by decide +kernel
theorem dX5_take_19 : decode cX5_take 19 = .ok (.invokestatic 64, 3) := by decide +kernel
theorem dX5_take_22 : decode cX5_take 22 = .ok (.ifCond .eq 16, 3) := by decide +kernel
theorem dX5_take_25 : decode cX5_take 25 = .ok (.aload_n 0, 1) := by decide +kernel
theorem dX5_take_26 : decode cX5_take 26 = .ok (.dup, 1) := by decide +kernel
theorem dX5_take_27 : decode cX5_take 27 = .ok (.getfield 28, 3) := by decide +kernel
theorem dX5_take_30 : decode cX5_take 30 = .ok (.iconst 1, 1) := by decide +kernel
theorem dX5_take_31 : decode cX5_take 31 = .ok (.iadd, 1) := by decide +kernel
theorem dX5_take_32 : decode cX5_take 32 = .ok (.putfield 28, 3) := by decide +kernel
theorem dX5_take_35 : decode cX5_take 35 = .ok (.goto (-35), 3) := by decide +kernel
theorem dX5_take_38 : decode cX5_take 38 = .ok (.aload_n 0, 1) := by decide +kernel
theorem dX5_take_39 : decode cX5_take 39 = .ok (.aload_n 0, 1) := by decide +kernel
theorem dX5_take_40 : decode cX5_take 40 = .ok (.getfield 28, 3) := by decide +kernel
theorem dX5_take_43 : decode cX5_take 43 = .ok (.putfield 22, 3) := by decide +kernel
theorem dX5_take_46 : decode cX5_take 46 = .ok (.aload_n 0, 1) := by decide +kernel
theorem dX5_take_47 : decode cX5_take 47 = .ok (.iconst 0, 1) := by decide +kernel
theorem dX5_take_48 : decode cX5_take 48 = .ok (.putfield 25, 3) := by decide +kernel
theorem dX5_take_51 : decode cX5_take 51 = .ok (.aload_n 0, 1) := by decide +kernel
theorem dX5_take_52 : decode cX5_take 52 = .ok (.getfield 28, 3) := by decide +kernel
theorem dX5_take_55 : decode cX5_take 55 = .ok (.aload_n 0, 1) := by decide +kernel
theorem dX5_take_56 : decode cX5_take 56 = .ok (.getfield 15, 3) := by decide +kernel
theorem dX5_take_59 : decode cX5_take 59 = .ok (.if_icmp .ge 49, 3) := by decide +kernel
theorem dX5_take_62 : decode cX5_take 62 = .ok (.aload_n 0, 1) := by decide +kernel
theorem dX5_take_63 : decode cX5_take 63 = .ok (.aload_n 0, 1) := by decide +kernel
theorem dX5_take_64 : decode cX5_take 64 = .ok (.getfield 28, 3) := by decide +kernel
theorem dX5_take_67 : decode cX5_take 67 = .ok (.invokevirtual 60, 3) := by decide +kernel
theorem dX5_take_70 : decode cX5_take 70 = .ok (.invokestatic 68, 3) := by decide +kernel
theorem dX5_take_73 : decode cX5_take 73 = .ok (.ifCond .eq 35, 3) := by decide +kernel
theorem dX5_take_76 : decode cX5_take 76 = .ok (.aload_n 0, 1) := by decide +kernel
theorem dX5_take_77 : decode cX5_take 77 = .ok (.aload_n 0, 1) := by decide +kernel
theorem dX5_take_78 : decode cX5_take 78 = .ok (.getfield 25, 3) := by decide +kernel
theorem dX5_take_81 : decode cX5_take 81 = .ok (.aload_n 0, 1) := by decide +kernel
theorem dX5_take_82 : decode cX5_take 82 = .ok (.aload_n 0, 1) := by decide +kernel
theorem dX5_take_83 : decode cX5_take 83 = .ok (.getfield 28, 3) := by decide +kernel
theorem dX5_take_86 : decode cX5_take 86 = .ok (.invokevirtual 60, 3) := by decide +kernel
theorem dX5_take_89 : decode cX5_take 89 = .ok (.invokestatic 71, 3) := by decide +kernel
theorem dX5_take_92 : decode cX5_take 92 = .ok (.putfield 25, 3) := by decide +kernel
theorem dX5_take_95 : decode cX5_take 95 = .ok (.aload_n 0, 1) := by decide +kernel
theorem dX5_take_96 : decode cX5_take 96 = .ok (.dup, 1) := by decide +kernel
theorem dX5_take_97 : decode cX5_take 97 = .ok (.getfield 28, 3) := by decide +kernel
theorem dX5_take_100 : decode cX5_take 100 = .ok (.iconst 1, 1) := by decide +kernel
theorem dX5_take_101 : decode cX5_take 101 = .ok (.iadd, 1) := by decide +kernel
theorem dX5_take_102 : decode cX5_take 102 = .ok (.putfield 28, 3) := by decide +kernel
theorem dX5_take_105 : decode cX5_take 105 = .ok (.goto (-54), 3) := by decide +kernel
theorem dX5_take_108 : decode cX5_take 108 = .ok (.aload_n 0, 1) := by decide +kernel
theorem dX5_take_109 : decode cX5_take 109 = .ok (.getfield 28, 3) := by decide +kernel
theorem dX5_take_112 : decode cX5_take 112 = .ok (.aload_n 0, 1) := by decide +kernel
theorem dX5_take_113 : decode cX5_take 113 = .ok (.getfield 22, 3) := by decide +kernel
theorem dX5_take_116 : decode cX5_take 116 = .ok (.if_icmp .le 30, 3) := by decide +kernel
theorem dX5_take_119 : decode cX5_take 119 = .ok (.aload_n 0, 1) := by decide +kernel
theorem dX5_take_120 : decode cX5_take 120 = .ok (.aload_n 0, 1) := by decide +kernel
theorem dX5_take_121 : decode cX5_take 121 = .ok (.invokevirtual 75, 3) := by decide +kernel
theorem dX5_take_124 : decode cX5_take 124 = .ok (.bipush 6, 2) := by decide +kernel
theorem dX5_take_126 : decode cX5_take 126 = .ok (.if_icmp .le 8, 3) := by decide +kernel
theorem dX5_take_129 : decode cX5_take 129 = .ok (.bipush 16, 2) := by decide +kernel
theorem dX5_take_131 : decode cX5_take 131 = .ok (.goto 11, 3) := by decide +kernel
theorem dX5_take_134 : decode cX5_take 134 = .ok (.aload_n 0, 1) := by decide +kernel
theorem dX5_take_135 : decode cX5_take 135 = .ok (.aload_n 0, 1) := by decide +kernel
theorem dX5_take_136 : decode cX5_take 136 = .ok (.getfield 25, 3) := by decide +kernel
theorem dX5_take_139 : decode cX5_take 139 = .ok (.invokevirtual 79, 3) := by decide +kernel
theorem dX5_take_142 : decode cX5_take 142 = .ok (.putfield 19, 3) := by decide +kernel
theorem dX5_take_145 : decode cX5_take 145 = .ok (.return_, 1) := by decide +kernel
theorem dX5_take_146 : decode cX5_take 146 = .ok (.aload_n 0, 1) := by decide +kernel
theorem dX5_take_147 : decode cX5_take 147 = .ok (.getfield 28, 3) := by decide +kernel
theorem dX5_take_150 : decode cX5_take 150 = .ok (.aload_n 0, 1) := by decide +kernel
theorem dX5_take_151 : decode cX5_take 151 = .ok (.getfield 15, 3) := by decide +kernel
theorem dX5_take_154 : decode cX5_take 154 = .ok (.if_icmp .ge 59, 3) := by decide +kernel
theorem dX5_take_157 : decode cX5_take 157 = .ok (.aload_n 0, 1) := by decide +kernel
theorem dX5_take_158 : decode cX5_take 158 = .ok (.aload_n 0, 1) := by decide +kernel
theorem dX5_take_159 : decode cX5_take 159 = .ok (.getfield 28, 3) := by decide +kernel
theorem dX5_take_162 : decode cX5_take 162 = .ok (.invokevirtual 60, 3) := by decide +kernel
theorem dX5_take_165 : decode cX5_take 165 = .ok (.invokestatic 82, 3) := by decide +kernel
theorem dX5_take_168 : decode cX5_take 168 = .ok (.ifCond .eq 45, 3) := by decide +kernel
theorem dX5_take_171 : decode cX5_take 171 = .ok (.aload_n 0, 1) := by decide +kernel
theorem dX5_take_172 : decode cX5_take 172 = .ok (.aload_n 0, 1) := by decide +kernel
theorem dX5_take_173 : decode cX5_take 173 = .ok (.getfield 25, 3) := by decide +kernel
theorem dX5_take_176 : decode cX5_take 176 = .ok (.bipush 10, 2) := by decide +kernel
theorem dX5_take_178 : decode cX5_take 178 = .ok (.imul, 1) := by decide +kernel
theorem dX5_take_179 : decode cX5_take 179 = .ok (.aload_n 0, 1) := by decide +kernel
theorem dX5_take_180 : decode cX5_take 180 = .ok (.aload_n 0, 1) := by decide +kernel
theorem dX5_take_181 : decode cX5_take 181 = .ok (.getfield 28, 3) := by decide +kernel
theorem dX5_take_184 : decode cX5_take 184 = .ok (.invokevirtual 60, 3) := by decide +kernel
theorem dX5_take_187 : decode cX5_take 187 = .ok (.iadd, 1) := by decide +kernel
theorem dX5_take_188 : decode cX5_take 188 = .ok (.bipush 48, 2) := by decide +kernel
theorem dX5_take_190 : decode cX5_take 190 = .ok (.isub, 1) := by decide +kernel
theorem dX5_take_191 : decode cX5_take 191 = .ok (.sipush 1000, 3) := by decide +kernel
theorem dX5_take_194 : decode cX5_take 194 = .ok (.invokestatic 85, 3) := by decide +kernel
theorem dX5_take_197 : decode cX5_take 197 = .ok (.putfield 25, 3) := by decide +kernel
theorem dX5_take_200 : decode cX5_take 200 = .ok (.aload_n 0, 1) := by decide +kernel
theorem dX5_take_201 : decode cX5_take 201 = .ok (.dup, 1) := by decide +kernel
theorem dX5_take_202 : decode cX5_take 202 = .ok (.getfield 28, 3) := by decide +kernel
theorem dX5_take_205 : decode cX5_take 205 = .ok (.iconst 1, 1) := by decide +kernel
theorem dX5_take_206 : decode cX5_take 206 = .ok (.iadd, 1) := by decide +kernel
theorem dX5_take_207 : decode cX5_take 207 = .ok (.putfield 28, 3) := by decide +kernel
theorem dX5_take_210 : decode cX5_take 210 = .ok (.goto (-64), 3) := by decide +kernel
theorem dX5_take_213 : decode cX5_take 213 = .ok (.aload_n 0, 1) := by decide +kernel
theorem dX5_take_214 : decode cX5_take 214 = .ok (.getfield 28, 3) := by decide +kernel
theorem dX5_take_217 : decode cX5_take 217 = .ok (.aload_n 0, 1) := by decide +kernel
theorem dX5_take_218 : decode cX5_take 218 = .ok (.getfield 22, 3) := by decide +kernel
theorem dX5_take_221 : decode cX5_take 221 = .ok (.if_icmp .le 12, 3) := by decide +kernel
theorem dX5_take_224 : decode cX5_take 224 = .ok (.aload_n 0, 1) := by decide +kernel
theorem dX5_take_225 : decode cX5_take 225 = .ok (.bipush 10, 2) := by decide +kernel
theorem dX5_take_227 : decode cX5_take 227 = .ok (.putfield 19, 3) := by decide +kernel
theorem dX5_take_230 : decode cX5_take 230 = .ok (.goto 48, 3) := by decide +kernel
theorem dX5_take_233 : decode cX5_take 233 = .ok (.aload_n 0, 1) := by decide +kernel
theorem dX5_take_234 : decode cX5_take 234 = .ok (.getfield 28, 3) := by decide +kernel
theorem dX5_take_237 : decode cX5_take 237 = .ok (.aload_n 0, 1) := by decide +kernel
theorem dX5_take_238 : decode cX5_take 238 = .ok (.getfield 15, 3) := by decide +kernel
theorem dX5_take_241 : decode cX5_take 241 = .ok (.if_icmp .lt 12, 3) := by decide +kernel
theorem dX5_take_244 : decode cX5_take 244 = .ok (.aload_n 0, 1) := by decide +kernel
theorem dX5_take_245 : decode cX5_take 245 = .ok (.bipush 15, 2) := by decide +kernel
theorem dX5_take_247 : decode cX5_take 247 = .ok (.putfield 19, 3) := by decide +kernel
theorem dX5_take_250 : decode cX5_take 250 = .ok (.goto 28, 3) := by decide +kernel
theorem dX5_take_253 : decode cX5_take 253 = .ok (.aload_n 0, 1) := by decide +kernel
theorem dX5_take_254 : decode cX5_take 254 = .ok (.aload_n 0, 1) := by decide +kernel
theorem dX5_take_255 : decode cX5_take 255 = .ok (.aload_n 0, 1) := by decide +kernel
theorem dX5_take_256 : decode cX5_take 256 = .ok (.getfield 28, 3) := by decide +kernel
theorem dX5_take_259 : decode cX5_take 259 = .ok (.invokevirtual 60, 3) := by decide +kernel
theorem dX5_take_262 : decode cX5_take 262 = .ok (.invokestatic 90, 3) := by decide +kernel
theorem dX5_take_265 : decode cX5_take 265 = .ok (.putfield 19, 3) := by decide +kernel
theorem dX5_take_268 : decode cX5_take 268 = .ok (.aload_n 0, 1) := by decide +kernel
theorem dX5_take_269 : decode cX5_take 269 = .ok (.dup, 1) := by decide +kernel
theorem dX5_take_270 : decode cX5_take 270 = .ok (.getfield 28, 3) := by decide +kernel
theorem dX5_take_273 : decode cX5_take 273 = .ok (.iconst 1, 1) := by decide +kernel
theorem dX5_take_274 : decode cX5_take 274 = .ok (.iadd, 1) := by decide +kernel
theorem dX5_take_275 : decode cX5_take 275 = .ok (.putfield 28, 3) := by decide +kernel
theorem dX5_take_278 : decode cX5_take 278 = .ok (.return_, 1) := by decide +kernel
theorem dX5_isTaskName_0 : decode cX5_isTaskName 0 = .ok (.aload_n 0, 1) := by decide +kernel
theorem dX5_isTaskName_1 : decode cX5_isTaskName 1 = .ok (.getfield 19, 3) := by decide +kernel
theorem dX5_isTaskName_4 : decode cX5_isTaskName 4 = .ok (.bipush 9, 2) := by decide +kernel
theorem dX5_isTaskName_6 : decode cX5_isTaskName 6 = .ok (.if_icmp .ne 15, 3) := by decide +kernel
theorem dX5_isTaskName_9 : decode cX5_isTaskName 9 = .ok (.aload_n 0, 1) := by decide +kernel
theorem dX5_isTaskName_10 : decode cX5_isTaskName 10 = .ok (.invokevirtual 75, 3) := by decide +kernel
theorem dX5_isTaskName_13 : decode cX5_isTaskName 13 = .ok (.iconst 2, 1) := by decide +kernel
theorem dX5_isTaskName_14 : decode cX5_isTaskName 14 = .ok (.if_icmp .lt 7, 3) := by decide +kernel
theorem dX5_isTaskName_17 : decode cX5_isTaskName 17 = .ok (.iconst 1, 1) := by decide +kernel
theorem dX5_isTaskName_18 : decode cX5_isTaskName 18 = .ok (.goto 4, 3) := by decide +kernel
theorem dX5_isTaskName_21 : decode cX5_isTaskName 21 = .ok (.iconst 0, 1) := by decide +kernel
theorem dX5_isTaskName_22 : decode cX5_isTaskName 22 = .ok (.ireturn, 1) := by decide +kernel
theorem dX5_letters_0 : decode cX5_letters 0 = .ok (.aload_n 0, 1) := by decide +kernel
theorem dX5_letters_1 : decode cX5_letters 1 = .ok (.getfield 28, 3) := by decide +kernel
theorem dX5_letters_4 : decode cX5_letters 4 = .ok (.aload_n 0, 1) := by decide +kernel
theorem dX5_letters_5 : decode cX5_letters 5 = .ok (.getfield 22, 3) := by decide +kernel
theorem dX5_letters_8 : decode cX5_letters 8 = .ok (.isub, 1) := by decide +kernel
theorem dX5_letters_9 : decode cX5_letters 9 = .ok (.ireturn, 1) := by decide +kernel
theorem dX5_kindOfKey_0 : decode cX5_kindOfKey 0 = .ok (.iconst 0, 1) := by decide +kernel
theorem dX5_kindOfKey_1 : decode cX5_kindOfKey 1 = .ok (.istore_n 2, 1) := by decide +kernel
theorem dX5_kindOfKey_2 : decode cX5_kindOfKey 2 = .ok (.iload_n 2, 1) := by decide +kernel
theorem dX5_kindOfKey_3 : decode cX5_kindOfKey 3 = .ok (.aload_n 0, 1) := by decide +kernel
theorem dX5_kindOfKey_4 : decode cX5_kindOfKey 4 = .ok (.getfield 31, 3) := by decide +kernel
theorem dX5_kindOfKey_7 : decode cX5_kindOfKey 7 = .ok (.arraylength, 1) := by decide +kernel
theorem dX5_kindOfKey_8 : decode cX5_kindOfKey 8 = .ok (.if_icmp .ge 21, 3) := by decide +kernel
theorem dX5_kindOfKey_11 : decode cX5_kindOfKey 11 = .ok (.aload_n 0, 1) := by decide +kernel
theorem dX5_kindOfKey_12 : decode cX5_kindOfKey 12 = .ok (.getfield 31, 3) := by decide +kernel
theorem dX5_kindOfKey_15 : decode cX5_kindOfKey 15 = .ok (.iload_n 2, 1) := by decide +kernel
theorem dX5_kindOfKey_16 : decode cX5_kindOfKey 16 = .ok (.iaload, 1) := by decide +kernel
theorem dX5_kindOfKey_17 : decode cX5_kindOfKey 17 = .ok (.iload_n 1, 1) := by decide +kernel
theorem dX5_kindOfKey_18 : decode cX5_kindOfKey 18 = .ok (.if_icmp .ne 5, 3) := by decide +kernel
theorem dX5_kindOfKey_21 : decode cX5_kindOfKey 21 = .ok (.iload_n 2, 1) := by decide +kernel
theorem dX5_kindOfKey_22 : decode cX5_kindOfKey 22 = .ok (.ireturn, 1) := by decide +kernel
theorem dX5_kindOfKey_23 : decode cX5_kindOfKey 23 = .ok (.iinc 2 1, 3) := by decide +kernel
theorem dX5_kindOfKey_26 : decode cX5_kindOfKey 26 = .ok (.goto (-24), 3) := by decide +kernel
theorem dX5_kindOfKey_29 : decode cX5_kindOfKey 29 = .ok (.bipush 9, 2) := by decide +kernel
theorem dX5_kindOfKey_31 : decode cX5_kindOfKey 31 = .ok (.ireturn, 1) := by decide +kernel
theorem dX5_byteAt_0 : decode cX5_byteAt 0 = .ok (.iload_n 1, 1) := by decide +kernel
theorem dX5_byteAt_1 : decode cX5_byteAt 1 = .ok (.ifCond .lt 21, 3) := by decide +kernel
theorem dX5_byteAt_4 : decode cX5_byteAt 4 = .ok (.iload_n 1, 1) := by decide +kernel
theorem dX5_byteAt_5 : decode cX5_byteAt 5 = .ok (.aload_n 0, 1) := by decide +kernel
theorem dX5_byteAt_6 : decode cX5_byteAt 6 = .ok (.getfield 9, 3) := by decide +kernel
theorem dX5_byteAt_9 : decode cX5_byteAt 9 = .ok (.arraylength, 1) := by decide +kernel
theorem dX5_byteAt_10 : decode cX5_byteAt 10 = .ok (.if_icmp .ge 12, 3) := by decide +kernel
theorem dX5_byteAt_13 : decode cX5_byteAt 13 = .ok (.aload_n 0, 1) := by decide +kernel
theorem dX5_byteAt_14 : decode cX5_byteAt 14 = .ok (.getfield 9, 3) := by decide +kernel
theorem dX5_byteAt_17 : decode cX5_byteAt 17 = .ok (.iload_n 1, 1) := by decide +kernel
theorem dX5_byteAt_18 : decode cX5_byteAt 18 = .ok (.baload, 1) := by decide +kernel
theorem dX5_byteAt_19 : decode cX5_byteAt 19 = .ok (.goto 4, 3) := by decide +kernel
theorem dX5_byteAt_22 : decode cX5_byteAt 22 = .ok (.iconst 0, 1) := by decide +kernel
theorem dX5_byteAt_23 : decode cX5_byteAt 23 = .ok (.ireturn, 1) := by decide +kernel
theorem dX5_keyOf_0 : decode cX5_keyOf 0 = .ok (.iconst 0, 1) := by decide +kernel
theorem dX5_keyOf_1 : decode cX5_keyOf 1 = .ok (.istore_n 1, 1) := by decide +kernel
theorem dX5_keyOf_2 : decode cX5_keyOf 2 = .ok (.iconst 0, 1) := by decide +kernel
theorem dX5_keyOf_3 : decode cX5_keyOf 3 = .ok (.istore_n 2, 1) := by decide +kernel
theorem dX5_keyOf_4 : decode cX5_keyOf 4 = .ok (.iload_n 2, 1) := by decide +kernel
theorem dX5_keyOf_5 : decode cX5_keyOf 5 = .ok (.aload_n 0, 1) := by decide +kernel
theorem dX5_keyOf_6 : decode cX5_keyOf 6 = .ok (.invokevirtual 93, 3) := by decide +kernel
theorem dX5_keyOf_9 : decode cX5_keyOf 9 = .ok (.if_icmp .ge 19, 3) := by decide +kernel
theorem dX5_keyOf_12 : decode cX5_keyOf 12 = .ok (.iload_n 1, 1) := by decide +kernel
theorem dX5_keyOf_13 : decode cX5_keyOf 13 = .ok (.aload_n 0, 1) := by decide +kernel
theorem dX5_keyOf_14 : decode cX5_keyOf 14 = .ok (.iload_n 2, 1) := by decide +kernel
theorem dX5_keyOf_15 : decode cX5_keyOf 15 = .ok (.invokevirtual 97, 3) := by decide +kernel
theorem dX5_keyOf_18 : decode cX5_keyOf 18 = .ok (.invokestatic 71, 3) := by decide +kernel
theorem dX5_keyOf_21 : decode cX5_keyOf 21 = .ok (.istore_n 1, 1) := by decide +kernel
theorem dX5_keyOf_22 : decode cX5_keyOf 22 = .ok (.iinc 2 1, 3) := by decide +kernel
theorem dX5_keyOf_25 : decode cX5_keyOf 25 = .ok (.goto (-21), 3) := by decide +kernel
theorem dX5_keyOf_28 : decode cX5_keyOf 28 = .ok (.iload_n 1, 1) := by decide +kernel
theorem dX5_keyOf_29 : decode cX5_keyOf 29 = .ok (.ireturn, 1) := by decide +kernel
theorem dX5_withLetter_0 : decode cX5_withLetter 0 = .ok (.iload_n 0, 1) := by decide +kernel
theorem dX5_withLetter_1 : decode cX5_withLetter 1 = .ok (.iconst 5, 1) := by decide +kernel
theorem dX5_withLetter_2 : decode cX5_withLetter 2 = .ok (.ishl, 1) := by decide +kernel
theorem dX5_withLetter_3 : decode cX5_withLetter 3 = .ok (.iload_n 1, 1) := by decide +kernel
theorem dX5_withLetter_4 : decode cX5_withLetter 4 = .ok (.iadd, 1) := by decide +kernel
theorem dX5_withLetter_5 : decode cX5_withLetter 5 = .ok (.bipush 97, 2) := by decide +kernel
theorem dX5_withLetter_7 : decode cX5_withLetter 7 = .ok (.isub, 1) := by decide +kernel
theorem dX5_withLetter_8 : decode cX5_withLetter 8 = .ok (.iconst 1, 1) := by decide +kernel
theorem dX5_withLetter_9 : decode cX5_withLetter 9 = .ok (.iadd, 1) := by decide +kernel
theorem dX5_withLetter_10 : decode cX5_withLetter 10 = .ok (.ireturn, 1) := by decide +kernel
theorem dX5_signKind_0 : decode cX5_signKind 0 = .ok (.iload_n 0, 1) := by decide +kernel
theorem dX5_signKind_1 : decode cX5_signKind 1 = .ok (.lookupswitch 55 #[(59, 49), (60, 52), (123, 43), (125, 46)], 43) := by decide +kernel
theorem dX5_signKind_44 : decode cX5_signKind 44 = .ok (.bipush 11, 2) := by decide +kernel
theorem dX5_signKind_46 : decode cX5_signKind 46 = .ok (.ireturn, 1) := by decide +kernel
theorem dX5_signKind_47 : decode cX5_signKind 47 = .ok (.bipush 12, 2) := by decide +kernel
theorem dX5_signKind_49 : decode cX5_signKind 49 = .ok (.ireturn, 1) := by decide +kernel
theorem dX5_signKind_50 : decode cX5_signKind 50 = .ok (.bipush 13, 2) := by decide +kernel
theorem dX5_signKind_52 : decode cX5_signKind 52 = .ok (.ireturn, 1) := by decide +kernel
theorem dX5_signKind_53 : decode cX5_signKind 53 = .ok (.bipush 14, 2) := by decide +kernel
theorem dX5_signKind_55 : decode cX5_signKind 55 = .ok (.ireturn, 1) := by decide +kernel
theorem dX5_signKind_56 : decode cX5_signKind 56 = .ok (.bipush 16, 2) := by decide +kernel
theorem dX5_signKind_58 : decode cX5_signKind 58 = .ok (.ireturn, 1) := by decide +kernel
theorem dX5_isBlank_0 : decode cX5_isBlank 0 = .ok (.iload_n 0, 1) := by decide +kernel
theorem dX5_isBlank_1 : decode cX5_isBlank 1 = .ok (.bipush 32, 2) := by decide +kernel
theorem dX5_isBlank_3 : decode cX5_isBlank 3 = .ok (.if_icmp .eq 9, 3) := by decide +kernel
theorem dX5_isBlank_6 : decode cX5_isBlank 6 = .ok (.iload_n 0, 1) := by decide +kernel
theorem dX5_isBlank_7 : decode cX5_isBlank 7 = .ok (.bipush 10, 2) := by decide +kernel
theorem dX5_isBlank_9 : decode cX5_isBlank 9 = .ok (.if_icmp .ne 7, 3) := by decide +kernel
theorem dX5_isBlank_12 : decode cX5_isBlank 12 = .ok (.iconst 1, 1) := by decide +kernel
theorem dX5_isBlank_13 : decode cX5_isBlank 13 = .ok (.goto 4, 3) := by decide +kernel
theorem dX5_isBlank_16 : decode cX5_isBlank 16 = .ok (.iconst 0, 1) := by decide +kernel
theorem dX5_isBlank_17 : decode cX5_isBlank 17 = .ok (.ireturn, 1) := by decide +kernel
theorem dX5_isLetter_0 : decode cX5_isLetter 0 = .ok (.iload_n 0, 1) := by decide +kernel
theorem dX5_isLetter_1 : decode cX5_isLetter 1 = .ok (.bipush 97, 2) := by decide +kernel
theorem dX5_isLetter_3 : decode cX5_isLetter 3 = .ok (.if_icmp .lt 13, 3) := by decide +kernel
theorem dX5_isLetter_6 : decode cX5_isLetter 6 = .ok (.iload_n 0, 1) := by decide +kernel
theorem dX5_isLetter_7 : decode cX5_isLetter 7 = .ok (.bipush 122, 2) := by decide +kernel
theorem dX5_isLetter_9 : decode cX5_isLetter 9 = .ok (.if_icmp .gt 7, 3) := by decide +kernel
theorem dX5_isLetter_12 : decode cX5_isLetter 12 = .ok (.iconst 1, 1) := by decide +kernel
theorem dX5_isLetter_13 : decode cX5_isLetter 13 = .ok (.goto 4, 3) := by decide +kernel
theorem dX5_isLetter_16 : decode cX5_isLetter 16 = .ok (.iconst 0, 1) := by decide +kernel
theorem dX5_isLetter_17 : decode cX5_isLetter 17 = .ok (.ireturn, 1) := by decide +kernel
theorem dX5_isDigit_0 : decode cX5_isDigit 0 = .ok (.iload_n 0, 1) := by decide +kernel
theorem dX5_isDigit_1 : decode cX5_isDigit 1 = .ok (.bipush 48, 2) := by decide +kernel
theorem dX5_isDigit_3 : decode cX5_isDigit 3 = .ok (.if_icmp .lt 13, 3) := by decide +kernel
theorem dX5_isDigit_6 : decode cX5_isDigit 6 = .ok (.iload_n 0, 1) := by decide +kernel
theorem dX5_isDigit_7 : decode cX5_isDigit 7 = .ok (.bipush 57, 2) := by decide +kernel
theorem dX5_isDigit_9 : decode cX5_isDigit 9 = .ok (.if_icmp .gt 7, 3) := by decide +kernel
theorem dX5_isDigit_12 : decode cX5_isDigit 12 = .ok (.iconst 1, 1) := by decide +kernel
theorem dX5_isDigit_13 : decode cX5_isDigit 13 = .ok (.goto 4, 3) := by decide +kernel
theorem dX5_isDigit_16 : decode cX5_isDigit 16 = .ok (.iconst 0, 1) := by decide +kernel
theorem dX5_isDigit_17 : decode cX5_isDigit 17 = .ok (.ireturn, 1) := by decide +kernel
theorem dX8_init_0 : decode cX8_init 0 = .ok (.aload_n 0, 1) := by decide +kernel
theorem dX8_init_1 : decode cX8_init 1 = .ok (.invokespecial 1, 3) := by decide +kernel
theorem dX8_init_4 : decode cX8_init 4 = .ok (.aload_n 0, 1) := by decide +kernel
theorem dX8_init_5 : decode cX8_init 5 = .ok (.new 7, 3) := by decide +kernel
theorem dX8_init_8 : decode cX8_init 8 = .ok (.dup, 1) := by decide +kernel
theorem dX8_init_9 : decode cX8_init 9 = .ok (.invokespecial 9, 3) := by decide +kernel
theorem dX8_init_12 : decode cX8_init 12 = .ok (.putfield 10, 3) := by decide +kernel
theorem dX8_init_15 : decode cX8_init 15 = .ok (.aload_n 0, 1) := by decide +kernel
theorem dX8_init_16 : decode cX8_init 16 = .ok (.new 16, 3) := by decide +kernel
theorem dX8_init_19 : decode cX8_init 19 = .ok (.dup, 1) := by decide +kernel
theorem dX8_init_20 : decode cX8_init 20 = .ok (.invokespecial 18, 3) := by decide +kernel
theorem dX8_init_23 : decode cX8_init 23 = .ok (.putfield 19, 3) := by decide +kernel
theorem dX8_init_26 : decode cX8_init 26 = .ok (.aload_n 0, 1) := by decide +kernel
theorem dX8_init_27 : decode cX8_init 27 = .ok (.new 23, 3) := by decide +kernel
theorem dX8_init_30 : decode cX8_init 30 = .ok (.dup, 1) := by decide +kernel
theorem dX8_init_31 : decode cX8_init 31 = .ok (.invokespecial 25, 3) := by decide +kernel
theorem dX8_init_34 : decode cX8_init 34 = .ok (.putfield 26, 3) := by decide +kernel
theorem dX8_init_37 : decode cX8_init 37 = .ok (.aload_n 0, 1) := by decide +kernel
theorem dX8_init_38 : decode cX8_init 38 = .ok (.new 30, 3) := by decide +kernel
theorem dX8_init_41 : decode cX8_init 41 = .ok (.dup, 1) := by decide +kernel
theorem dX8_init_42 : decode cX8_init 42 = .ok (.invokespecial 32, 3) := by decide +kernel
theorem dX8_init_45 : decode cX8_init 45 = .ok (.putfield 33, 3) := by decide +kernel
theorem dX8_init_48 : decode cX8_init 48 = .ok (.aload_n 0, 1) := by decide +kernel
theorem dX8_init_49 : decode cX8_init 49 = .ok (.bipush 8, 2) := by decide +kernel
theorem dX8_init_51 : decode cX8_init 51 = .ok (.anewarray 37, 3) := by decide +kernel
theorem dX8_init_54 : decode cX8_init 54 = .ok (.putfield 39, 3) := by decide +kernel
theorem dX8_init_57 : decode cX8_init 57 = .ok (.aload_n 0, 1) := by decide +kernel
theorem dX8_init_58 : decode cX8_init 58 = .ok (.iconst 0, 1) := by decide +kernel
theorem dX8_init_59 : decode cX8_init 59 = .ok (.putfield 43, 3) := by decide +kernel
theorem dX8_init_62 : decode cX8_init 62 = .ok (.aload_n 0, 1) := by decide +kernel
theorem dX8_init_63 : decode cX8_init 63 = .ok (.aconst_null, 1) := by decide +kernel
theorem dX8_init_64 : decode cX8_init 64 = .ok (.putfield 47, 3) := by decide +kernel
theorem dX8_init_67 : decode cX8_init 67 = .ok (.aload_n 0, 1) := by decide +kernel
theorem dX8_init_68 : decode cX8_init 68 = .ok (.iconst 0, 1) := by decide +kernel
theorem dX8_init_69 : decode cX8_init 69 = .ok (.putfield 51, 3) := by decide +kernel
theorem dX8_init_72 : decode cX8_init 72 = .ok (.aload_n 0, 1) := by decide +kernel
theorem dX8_init_73 : decode cX8_init 73 = .ok (.iconst (-1), 1) := by decide +kernel
theorem dX8_init_74 : decode cX8_init 74 = .ok (.putfield 54, 3) := by decide +kernel
theorem dX8_init_77 : decode cX8_init 77 = .ok (.aload_n 0, 1) := by decide +kernel
theorem dX8_init_78 : decode cX8_init 78 = .ok (.iconst (-1), 1) := by decide +kernel
theorem dX8_init_79 : decode cX8_init 79 = .ok (.putfield 57, 3) := by decide +kernel
theorem dX8_init_82 : decode cX8_init 82 = .ok (.return_, 1) := by decide +kernel
theorem dX8_feed_0 : decode cX8_feed 0 = .ok (.aload_n 0, 1) := by decide +kernel
theorem dX8_feed_1 : decode cX8_feed 1 = .ok (.getfield 10, 3) := by decide +kernel
theorem dX8_feed_4 : decode cX8_feed 4 = .ok (.getfield 60, 3) := by decide +kernel
theorem dX8_feed_7 : decode cX8_feed 7 = .ok (.astore 6, 2) := by decide +kernel
theorem dX8_feed_9 : decode cX8_feed 9 = .ok (.aload 6, 2) := by decide +kernel
theorem dX8_feed_11 : decode cX8_feed 11 = .ok (.getfield 64, 3) := by decide +kernel
theorem dX8_feed_14 : decode cX8_feed 14 = .ok (.bipush 20, 2) := by decide +kernel
theorem dX8_feed_16 : decode cX8_feed 16 = .ok (.iadd, 1) := by decide +kernel
theorem dX8_feed_17 : decode cX8_feed 17 = .ok (.sipush 300, 3) := by decide +kernel
theorem dX8_feed_20 : decode cX8_feed 20 = .ok (.if_icmp .le 5, 3) := by decide +kernel
theorem dX8_feed_23 : decode cX8_feed 23 = .ok (.iconst (-1), 1) := by decide +kernel
theorem dX8_feed_24 : decode cX8_feed 24 = .ok (.ireturn, 1) := by decide +kernel
theorem dX8_feed_25 : decode cX8_feed 25 = .ok (.aload 6, 2) := by decide +kernel
theorem dX8_feed_27 : decode cX8_feed 27 = .ok (.iload_n 1, 1) := by decide +kernel
theorem dX8_feed_28 : decode cX8_feed 28 = .ok (.invokevirtual 69, 3) := by decide +kernel
theorem dX8_feed_31 : decode cX8_feed 31 = .ok (.aload 6, 2) := by decide +kernel
theorem dX8_feed_33 : decode cX8_feed 33 = .ok (.iload_n 2, 1) := by decide +kernel
theorem dX8_feed_34 : decode cX8_feed 34 = .ok (.invokevirtual 69, 3) := by decide +kernel
theorem dX8_feed_37 : decode cX8_feed 37 = .ok (.aload 6, 2) := by decide +kernel
theorem dX8_feed_39 : decode cX8_feed 39 = .ok (.iload_n 3, 1) := by decide +kernel
theorem dX8_feed_40 : decode cX8_feed 40 = .ok (.invokevirtual 69, 3) := by decide +kernel
theorem dX8_feed_43 : decode cX8_feed 43 = .ok (.aload 6, 2) := by decide +kernel
theorem dX8_feed_45 : decode cX8_feed 45 = .ok (.iload 4, 2) := by decide +kernel
theorem dX8_feed_47 : decode cX8_feed 47 = .ok (.invokevirtual 69, 3) := by decide +kernel
theorem dX8_feed_50 : decode cX8_feed 50 = .ok (.aload 6, 2) := by decide +kernel
theorem dX8_feed_52 : decode cX8_feed 52 = .ok (.iload 5, 2) := by decide +kernel
theorem dX8_feed_54 : decode cX8_feed 54 = .ok (.invokevirtual 69, 3) := by decide +kernel
theorem dX8_feed_57 : decode cX8_feed 57 = .ok (.aload 6, 2) := by decide +kernel
theorem dX8_feed_59 : decode cX8_feed 59 = .ok (.getfield 64, 3) := by decide +kernel
theorem dX8_feed_62 : decode cX8_feed 62 = .ok (.ireturn, 1) := by decide +kernel
theorem dX8_end_0 : decode cX8_end 0 = .ok (.aload_n 0, 1) := by decide +kernel
theorem dX8_end_1 : decode cX8_end 1 = .ok (.getfield 10, 3) := by decide +kernel
theorem dX8_end_4 : decode cX8_end 4 = .ok (.getfield 60, 3) := by decide +kernel
theorem dX8_end_7 : decode cX8_end 7 = .ok (.astore_n 2, 1) := by decide +kernel
theorem dX8_end_8 : decode cX8_end 8 = .ok (.iload_n 1, 1) := by decide +kernel
theorem dX8_end_9 : decode cX8_end 9 = .ok (.ifCond .lt 11, 3) := by decide +kernel
theorem dX8_end_12 : decode cX8_end 12 = .ok (.iload_n 1, 1) := by decide +kernel
theorem dX8_end_13 : decode cX8_end 13 = .ok (.aload_n 2, 1) := by decide +kernel
theorem dX8_end_14 : decode cX8_end 14 = .ok (.getfield 64, 3) := by decide +kernel
theorem dX8_end_17 : decode cX8_end 17 = .ok (.if_icmp .le 5, 3) := by decide +kernel
theorem dX8_end_20 : decode cX8_end 20 = .ok (.iconst (-1), 1) := by decide +kernel
theorem dX8_end_21 : decode cX8_end 21 = .ok (.ireturn, 1) := by decide +kernel
theorem dX8_end_22 : decode cX8_end 22 = .ok (.aload_n 2, 1) := by decide +kernel
theorem dX8_end_23 : decode cX8_end 23 = .ok (.iload_n 1, 1) := by decide +kernel
theorem dX8_end_24 : decode cX8_end 24 = .ok (.putfield 64, 3) := by decide +kernel
theorem dX8_end_27 : decode cX8_end 27 = .ok (.iload_n 1, 1) := by decide +kernel
theorem dX8_end_28 : decode cX8_end 28 = .ok (.ireturn, 1) := by decide +kernel
theorem dX8_business_0 : decode cX8_business 0 = .ok (.aload_n 0, 1) := by decide +kernel
theorem dX8_business_1 : decode cX8_business 1 = .ok (.getfield 10, 3) := by decide +kernel
theorem dX8_business_4 : decode cX8_business 4 = .ok (.invokevirtual 73, 3) := by decide +kernel
theorem dX8_business_7 : decode cX8_business 7 = .ok (.astore_n 1, 1) := by decide +kernel
theorem dX8_business_8 : decode cX8_business 8 = .ok (.aload_n 0, 1) := by decide +kernel
theorem dX8_business_9 : decode cX8_business 9 = .ok (.getfield 10, 3) := by decide +kernel
theorem dX8_business_12 : decode cX8_business 12 = .ok (.getfield 60, 3) := by decide +kernel
theorem dX8_business_15 : decode cX8_business 15 = .ok (.iconst 0, 1) := by decide +kernel
theorem dX8_business_16 : decode cX8_business 16 = .ok (.putfield 64, 3) := by decide +kernel
theorem dX8_business_19 : decode cX8_business 19 = .ok (.aload_n 0, 1) := by decide +kernel
theorem dX8_business_20 : decode cX8_business 20 = .ok (.aload_n 0, 1) := by decide +kernel
theorem dX8_business_21 : decode cX8_business 21 = .ok (.getfield 10, 3) := by decide +kernel
theorem dX8_business_24 : decode cX8_business 24 = .ok (.getfield 77, 3) := by decide +kernel
theorem dX8_business_27 : decode cX8_business 27 = .ok (.putfield 54, 3) := by decide +kernel
theorem dX8_business_30 : decode cX8_business 30 = .ok (.aload_n 0, 1) := by decide +kernel
theorem dX8_business_31 : decode cX8_business 31 = .ok (.aload_n 0, 1) := by decide +kernel
theorem dX8_business_32 : decode cX8_business 32 = .ok (.getfield 10, 3) := by decide +kernel
theorem dX8_business_35 : decode cX8_business 35 = .ok (.getfield 80, 3) := by decide +kernel
theorem dX8_business_38 : decode cX8_business 38 = .ok (.putfield 57, 3) := by decide +kernel
theorem dX8_business_41 : decode cX8_business 41 = .ok (.aload_n 1, 1) := by decide +kernel
theorem dX8_business_42 : decode cX8_business 42 = .ok (.ifnonnull 5, 3) := by decide +kernel
theorem dX8_business_45 : decode cX8_business 45 = .ok (.iconst (-1), 1) := by decide +kernel
theorem dX8_business_46 : decode cX8_business 46 = .ok (.ireturn, 1) := by decide +kernel
theorem dX8_business_47 : decode cX8_business 47 = .ok (.aload_n 0, 1) := by decide +kernel
theorem dX8_business_48 : decode cX8_business 48 = .ok (.aload_n 1, 1) := by decide +kernel
theorem dX8_business_49 : decode cX8_business 49 = .ok (.putfield 47, 3) := by decide +kernel
theorem dX8_business_52 : decode cX8_business 52 = .ok (.aload_n 1, 1) := by decide +kernel
theorem dX8_business_53 : decode cX8_business 53 = .ok (.getfield 83, 3) := by decide +kernel
theorem dX8_business_56 : decode cX8_business 56 = .ok (.ireturn, 1) := by decide +kernel
theorem dX8_fault_0 : decode cX8_fault 0 = .ok (.iload_n 1, 1) := by decide +kernel
theorem dX8_fault_1 : decode cX8_fault 1 = .ok (.lookupswitch 37 #[(0, 27), (1, 32)], 27) := by decide +kernel
theorem dX8_fault_28 : decode cX8_fault 28 = .ok (.aload_n 0, 1) := by decide +kernel
theorem dX8_fault_29 : decode cX8_fault 29 = .ok (.getfield 54, 3) := by decide +kernel
theorem dX8_fault_32 : decode cX8_fault 32 = .ok (.ireturn, 1) := by decide +kernel
theorem dX8_fault_33 : decode cX8_fault 33 = .ok (.aload_n 0, 1) := by decide +kernel
theorem dX8_fault_34 : decode cX8_fault 34 = .ok (.getfield 57, 3) := by decide +kernel
theorem dX8_fault_37 : decode cX8_fault 37 = .ok (.ireturn, 1) := by decide +kernel
theorem dX8_fault_38 : decode cX8_fault 38 = .ok (.iconst (-1), 1) := by decide +kernel
theorem dX8_fault_39 : decode cX8_fault 39 = .ok (.ireturn, 1) := by decide +kernel
theorem dX8_person_0 : decode cX8_person 0 = .ok (.iload_n 1, 1) := by decide +kernel
theorem dX8_person_1 : decode cX8_person 1 = .ok (.ifCond .lt 20, 3) := by decide +kernel
theorem dX8_person_4 : decode cX8_person 4 = .ok (.iload_n 1, 1) := by decide +kernel
theorem dX8_person_5 : decode cX8_person 5 = .ok (.bipush 63, 2) := by decide +kernel
theorem dX8_person_7 : decode cX8_person 7 = .ok (.if_icmp .gt 14, 3) := by decide +kernel
theorem dX8_person_10 : decode cX8_person 10 = .ok (.iload_n 2, 1) := by decide +kernel
theorem dX8_person_11 : decode cX8_person 11 = .ok (.iconst 1, 1) := by decide +kernel
theorem dX8_person_12 : decode cX8_person 12 = .ok (.if_icmp .lt 9, 3) := by decide +kernel
theorem dX8_person_15 : decode cX8_person 15 = .ok (.iload_n 2, 1) := by decide +kernel
theorem dX8_person_16 : decode cX8_person 16 = .ok (.bipush 9, 2) := by decide +kernel
theorem dX8_person_18 : decode cX8_person 18 = .ok (.if_icmp .le 5, 3) := by decide +kernel
theorem dX8_person_21 : decode cX8_person 21 = .ok (.iconst (-1), 1) := by decide +kernel
theorem dX8_person_22 : decode cX8_person 22 = .ok (.ireturn, 1) := by decide +kernel
theorem dX8_person_23 : decode cX8_person 23 = .ok (.aload_n 0, 1) := by decide +kernel
theorem dX8_person_24 : decode cX8_person 24 = .ok (.getfield 19, 3) := by decide +kernel
theorem dX8_person_27 : decode cX8_person 27 = .ok (.iload_n 1, 1) := by decide +kernel
theorem dX8_person_28 : decode cX8_person 28 = .ok (.iload_n 2, 1) := by decide +kernel
theorem dX8_person_29 : decode cX8_person 29 = .ok (.invokevirtual 88, 3) := by decide +kernel
theorem dX8_person_32 : decode cX8_person 32 = .ok (.ireturn, 1) := by decide +kernel
theorem dX8_deputy_0 : decode cX8_deputy 0 = .ok (.aload_n 0, 1) := by decide +kernel
theorem dX8_deputy_1 : decode cX8_deputy 1 = .ok (.getfield 19, 3) := by decide +kernel
theorem dX8_deputy_4 : decode cX8_deputy 4 = .ok (.iload_n 1, 1) := by decide +kernel
theorem dX8_deputy_5 : decode cX8_deputy 5 = .ok (.invokevirtual 92, 3) := by decide +kernel
theorem dX8_deputy_8 : decode cX8_deputy 8 = .ok (.ifCond .eq 8, 3) := by decide +kernel
theorem dX8_deputy_11 : decode cX8_deputy 11 = .ok (.iload_n 2, 1) := by decide +kernel
theorem dX8_deputy_12 : decode cX8_deputy 12 = .ok (.iload_n 1, 1) := by decide +kernel
theorem dX8_deputy_13 : decode cX8_deputy 13 = .ok (.if_icmp .ne 5, 3) := by decide +kernel
theorem dX8_deputy_16 : decode cX8_deputy 16 = .ok (.iconst 0, 1) := by decide +kernel
theorem dX8_deputy_17 : decode cX8_deputy 17 = .ok (.ireturn, 1) := by decide +kernel
theorem dX8_deputy_18 : decode cX8_deputy 18 = .ok (.iload_n 2, 1) := by decide +kernel
theorem dX8_deputy_19 : decode cX8_deputy 19 = .ok (.iconst (-1), 1) := by decide +kernel
theorem dX8_deputy_20 : decode cX8_deputy 20 = .ok (.if_icmp .eq 16, 3) := by decide +kernel
theorem dX8_deputy_23 : decode cX8_deputy 23 = .ok (.aload_n 0, 1) := by decide +kernel
theorem dX8_deputy_24 : decode cX8_deputy 24 = .ok (.getfield 19, 3) := by decide +kernel
theorem dX8_deputy_27 : decode cX8_deputy 27 = .ok (.iload_n 2, 1) := by decide +kernel
theorem dX8_deputy_28 : decode cX8_deputy 28 = .ok (.invokevirtual 92, 3) := by decide +kernel
theorem dX8_deputy_31 : decode cX8_deputy 31 = .ok (.ifCond .ne 5, 3) := by decide +kernel
theorem dX8_deputy_34 : decode cX8_deputy 34 = .ok (.iconst 0, 1) := by decide +kernel
theorem dX8_deputy_35 : decode cX8_deputy 35 = .ok (.ireturn, 1) := by decide +kernel
theorem dX8_deputy_36 : decode cX8_deputy 36 = .ok (.aload_n 0, 1) := by decide +kernel
theorem dX8_deputy_37 : decode cX8_deputy 37 = .ok (.getfield 19, 3) := by decide +kernel
theorem dX8_deputy_40 : decode cX8_deputy 40 = .ok (.getfield 96, 3) := by decide +kernel
theorem dX8_deputy_43 : decode cX8_deputy 43 = .ok (.iload_n 1, 1) := by decide +kernel
theorem dX8_deputy_44 : decode cX8_deputy 44 = .ok (.iload_n 2, 1) := by decide +kernel
theorem dX8_deputy_45 : decode cX8_deputy 45 = .ok (.iastore, 1) := by decide +kernel
theorem dX8_deputy_46 : decode cX8_deputy 46 = .ok (.iconst 1, 1) := by decide +kernel
theorem dX8_deputy_47 : decode cX8_deputy 47 = .ok (.ireturn, 1) := by decide +kernel
theorem dX8_away_0 : decode cX8_away 0 = .ok (.aload_n 0, 1) := by decide +kernel
theorem dX8_away_1 : decode cX8_away 1 = .ok (.getfield 19, 3) := by decide +kernel
theorem dX8_away_4 : decode cX8_away 4 = .ok (.iload_n 1, 1) := by decide +kernel
theorem dX8_away_5 : decode cX8_away 5 = .ok (.invokevirtual 92, 3) := by decide +kernel
theorem dX8_away_8 : decode cX8_away 8 = .ok (.ifCond .ne 5, 3) := by decide +kernel
theorem dX8_away_11 : decode cX8_away 11 = .ok (.iconst 0, 1) := by decide +kernel
theorem dX8_away_12 : decode cX8_away 12 = .ok (.ireturn, 1) := by decide +kernel
theorem dX8_away_13 : decode cX8_away 13 = .ok (.aload_n 0, 1) := by decide +kernel
theorem dX8_away_14 : decode cX8_away 14 = .ok (.getfield 19, 3) := by decide +kernel
theorem dX8_away_17 : decode cX8_away 17 = .ok (.getfield 100, 3) := by decide +kernel
theorem dX8_away_20 : decode cX8_away 20 = .ok (.iload_n 1, 1) := by decide +kernel
theorem dX8_away_21 : decode cX8_away 21 = .ok (.iload_n 2, 1) := by decide +kernel
theorem dX8_away_22 : decode cX8_away 22 = .ok (.bastore, 1) := by decide +kernel
theorem dX8_away_23 : decode cX8_away 23 = .ok (.iload_n 2, 1) := by decide +kernel
theorem dX8_away_24 : decode cX8_away 24 = .ok (.ifCond .eq 21, 3) := by decide +kernel
theorem dX8_away_27 : decode cX8_away 27 = .ok (.aload_n 0, 1) := by decide +kernel
theorem dX8_away_28 : decode cX8_away 28 = .ok (.getfield 26, 3) := by decide +kernel
theorem dX8_away_31 : decode cX8_away 31 = .ok (.iload_n 1, 1) := by decide +kernel
theorem dX8_away_32 : decode cX8_away 32 = .ok (.invokevirtual 104, 3) := by decide +kernel
theorem dX8_away_35 : decode cX8_away 35 = .ok (.aload_n 0, 1) := by decide +kernel
theorem dX8_away_36 : decode cX8_away 36 = .ok (.getfield 19, 3) := by decide +kernel
theorem dX8_away_39 : decode cX8_away 39 = .ok (.getfield 107, 3) := by decide +kernel
theorem dX8_away_42 : decode cX8_away 42 = .ok (.iload_n 1, 1) := by decide +kernel
theorem dX8_away_43 : decode cX8_away 43 = .ok (.iconst 0, 1) := by decide +kernel
theorem dX8_away_44 : decode cX8_away 44 = .ok (.iastore, 1) := by decide +kernel
theorem dX8_away_45 : decode cX8_away 45 = .ok (.iconst 1, 1) := by decide +kernel
theorem dX8_away_46 : decode cX8_away 46 = .ok (.ireturn, 1) := by decide +kernel
theorem dX8_stands_0 : decode cX8_stands 0 = .ok (.aload_n 0, 1) := by decide +kernel
theorem dX8_stands_1 : decode cX8_stands 1 = .ok (.getfield 19, 3) := by decide +kernel
theorem dX8_stands_4 : decode cX8_stands 4 = .ok (.iload_n 1, 1) := by decide +kernel
theorem dX8_stands_5 : decode cX8_stands 5 = .ok (.invokevirtual 110, 3) := by decide +kernel
theorem dX8_stands_8 : decode cX8_stands 8 = .ok (.ireturn, 1) := by decide +kernel
theorem dX8_hour_0 : decode cX8_hour 0 = .ok (.iload_n 1, 1) := by decide +kernel
theorem dX8_hour_1 : decode cX8_hour 1 = .ok (.aload_n 0, 1) := by decide +kernel
theorem dX8_hour_2 : decode cX8_hour 2 = .ok (.getfield 51, 3) := by decide +kernel
theorem dX8_hour_5 : decode cX8_hour 5 = .ok (.if_icmp .lt 10, 3) := by decide +kernel
theorem dX8_hour_8 : decode cX8_hour 8 = .ok (.iload_n 1, 1) := by decide +kernel
theorem dX8_hour_9 : decode cX8_hour 9 = .ok (.sipush 20000, 3) := by decide +kernel
theorem dX8_hour_12 : decode cX8_hour 12 = .ok (.if_icmp .le 5, 3) := by decide +kernel
theorem dX8_hour_15 : decode cX8_hour 15 = .ok (.iconst 0, 1) := by decide +kernel
theorem dX8_hour_16 : decode cX8_hour 16 = .ok (.ireturn, 1) := by decide +kernel
theorem dX8_hour_17 : decode cX8_hour 17 = .ok (.aload_n 0, 1) := by decide +kernel
theorem dX8_hour_18 : decode cX8_hour 18 = .ok (.iload_n 1, 1) := by decide +kernel
theorem dX8_hour_19 : decode cX8_hour 19 = .ok (.putfield 51, 3) := by decide +kernel
theorem dX8_hour_22 : decode cX8_hour 22 = .ok (.iconst 1, 1) := by decide +kernel
theorem dX8_hour_23 : decode cX8_hour 23 = .ok (.ireturn, 1) := by decide +kernel
theorem dX8_run_0 : decode cX8_run 0 = .ok (.aload_n 0, 1) := by decide +kernel
theorem dX8_run_1 : decode cX8_run 1 = .ok (.getfield 47, 3) := by decide +kernel
theorem dX8_run_4 : decode cX8_run 4 = .ok (.ifnull 12, 3) := by decide +kernel
theorem dX8_run_7 : decode cX8_run 7 = .ok (.aload_n 0, 1) := by decide +kernel
theorem dX8_run_8 : decode cX8_run 8 = .ok (.getfield 43, 3) := by decide +kernel
theorem dX8_run_11 : decode cX8_run 11 = .ok (.bipush 8, 2) := by decide +kernel
theorem dX8_run_13 : decode cX8_run 13 = .ok (.if_icmp .lt 5, 3) := by decide +kernel
theorem dX8_run_16 : decode cX8_run 16 = .ok (.iconst (-1), 1) := by decide +kernel
theorem dX8_run_17 : decode cX8_run 17 = .ok (.ireturn, 1) := by decide +kernel
theorem dX8_run_18 : decode cX8_run 18 = .ok (.aload_n 0, 1) := by decide +kernel
theorem dX8_run_19 : decode cX8_run 19 = .ok (.getfield 33, 3) := by decide +kernel
theorem dX8_run_22 : decode cX8_run 22 = .ok (.invokevirtual 114, 3) := by decide +kernel
theorem dX8_run_25 : decode cX8_run 25 = .ok (.aload_n 0, 1) := by decide +kernel
theorem dX8_run_26 : decode cX8_run 26 = .ok (.getfield 33, 3) := by decide +kernel
theorem dX8_run_29 : decode cX8_run 29 = .ok (.aload_n 0, 1) := by decide +kernel
theorem dX8_run_30 : decode cX8_run 30 = .ok (.getfield 47, 3) := by decide +kernel
theorem dX8_run_33 : decode cX8_run 33 = .ok (.iconst 0, 1) := by decide +kernel
theorem dX8_run_34 : decode cX8_run 34 = .ok (.invokevirtual 117, 3) := by decide +kernel
theorem dX8_run_37 : decode cX8_run 37 = .ok (.aload_n 0, 1) := by decide +kernel
theorem dX8_run_38 : decode cX8_run 38 = .ok (.getfield 26, 3) := by decide +kernel
theorem dX8_run_41 : decode cX8_run 41 = .ok (.aload_n 0, 1) := by decide +kernel
theorem dX8_run_42 : decode cX8_run 42 = .ok (.getfield 33, 3) := by decide +kernel
theorem dX8_run_45 : decode cX8_run 45 = .ok (.getfield 121, 3) := by decide +kernel
theorem dX8_run_48 : decode cX8_run 48 = .ok (.invokevirtual 124, 3) := by decide +kernel
theorem dX8_run_51 : decode cX8_run 51 = .ok (.ifCond .ne 5, 3) := by decide +kernel
theorem dX8_run_54 : decode cX8_run 54 = .ok (.iconst (-1), 1) := by decide +kernel
theorem dX8_run_55 : decode cX8_run 55 = .ok (.ireturn, 1) := by decide +kernel
theorem dX8_run_56 : decode cX8_run 56 = .ok (.aload_n 0, 1) := by decide +kernel
theorem dX8_run_57 : decode cX8_run 57 = .ok (.getfield 43, 3) := by decide +kernel
theorem dX8_run_60 : decode cX8_run 60 = .ok (.istore_n 1, 1) := by decide +kernel
theorem dX8_run_61 : decode cX8_run 61 = .ok (.new 37, 3) := by decide +kernel
theorem dX8_run_64 : decode cX8_run 64 = .ok (.dup, 1) := by decide +kernel
theorem dX8_run_65 : decode cX8_run 65 = .ok (.iload_n 1, 1) := by decide +kernel
theorem dX8_run_66 : decode cX8_run 66 = .ok (.aload_n 0, 1) := by decide +kernel
theorem dX8_run_67 : decode cX8_run 67 = .ok (.getfield 47, 3) := by decide +kernel
theorem dX8_run_70 : decode cX8_run 70 = .ok (.invokespecial 127, 3) := by decide +kernel
theorem dX8_run_73 : decode cX8_run 73 = .ok (.astore_n 2, 1) := by decide +kernel
theorem dX8_run_74 : decode cX8_run 74 = .ok (.aload_n 0, 1) := by decide +kernel
theorem dX8_run_75 : decode cX8_run 75 = .ok (.getfield 39, 3) := by decide +kernel
theorem dX8_run_78 : decode cX8_run 78 = .ok (.iload_n 1, 1) := by decide +kernel
theorem dX8_run_79 : decode cX8_run 79 = .ok (.aload_n 2, 1) := by decide +kernel
theorem dX8_run_80 : decode cX8_run 80 = .ok (.aastore, 1) := by decide +kernel
theorem dX8_run_81 : decode cX8_run 81 = .ok (.aload_n 0, 1) := by decide +kernel
theorem dX8_run_82 : decode cX8_run 82 = .ok (.dup, 1) := by decide +kernel
theorem dX8_run_83 : decode cX8_run 83 = .ok (.getfield 43, 3) := by decide +kernel
theorem dX8_run_86 : decode cX8_run 86 = .ok (.iconst 1, 1) := by decide +kernel
theorem dX8_run_87 : decode cX8_run 87 = .ok (.iadd, 1) := by decide +kernel
theorem dX8_run_88 : decode cX8_run 88 = .ok (.putfield 43, 3) := by decide +kernel
theorem dX8_run_91 : decode cX8_run 91 = .ok (.aload_n 0, 1) := by decide +kernel
theorem dX8_run_92 : decode cX8_run 92 = .ok (.aload_n 2, 1) := by decide +kernel
theorem dX8_run_93 : decode cX8_run 93 = .ok (.invokevirtual 130, 3) := by decide +kernel
theorem dX8_run_96 : decode cX8_run 96 = .ok (.iload_n 1, 1) := by decide +kernel
theorem dX8_run_97 : decode cX8_run 97 = .ok (.ireturn, 1) := by decide +kernel
theorem dX8_runOf_0 : decode cX8_runOf 0 = .ok (.aload_n 0, 1) := by decide +kernel
theorem dX8_runOf_1 : decode cX8_runOf 1 = .ok (.iload_n 1, 1) := by decide +kernel
theorem dX8_runOf_2 : decode cX8_runOf 2 = .ok (.invokevirtual 134, 3) := by decide +kernel
theorem dX8_runOf_5 : decode cX8_runOf 5 = .ok (.astore_n 3, 1) := by decide +kernel
theorem dX8_runOf_6 : decode cX8_runOf 6 = .ok (.aload_n 3, 1) := by decide +kernel
theorem dX8_runOf_7 : decode cX8_runOf 7 = .ok (.ifnonnull 5, 3) := by decide +kernel
theorem dX8_runOf_10 : decode cX8_runOf 10 = .ok (.iconst (-1), 1) := by decide +kernel
theorem dX8_runOf_11 : decode cX8_runOf 11 = .ok (.ireturn, 1) := by decide +kernel
theorem dX8_runOf_12 : decode cX8_runOf 12 = .ok (.iload_n 2, 1) := by decide +kernel
theorem dX8_runOf_13 : decode cX8_runOf 13 = .ok (.ifCond .lt 15, 3) := by decide +kernel
theorem dX8_runOf_16 : decode cX8_runOf 16 = .ok (.iload_n 2, 1) := by decide +kernel
theorem dX8_runOf_17 : decode cX8_runOf 17 = .ok (.iconst 4, 1) := by decide +kernel
theorem dX8_runOf_18 : decode cX8_runOf 18 = .ok (.if_icmp .ge 10, 3) := by decide +kernel
theorem dX8_runOf_21 : decode cX8_runOf 21 = .ok (.aload_n 3, 1) := by decide +kernel
theorem dX8_runOf_22 : decode cX8_runOf 22 = .ok (.getfield 138, 3) := by decide +kernel
theorem dX8_runOf_25 : decode cX8_runOf 25 = .ok (.iload_n 2, 1) := by decide +kernel
theorem dX8_runOf_26 : decode cX8_runOf 26 = .ok (.iaload, 1) := by decide +kernel
theorem dX8_runOf_27 : decode cX8_runOf 27 = .ok (.ireturn, 1) := by decide +kernel
theorem dX8_runOf_28 : decode cX8_runOf 28 = .ok (.iload_n 2, 1) := by decide +kernel
theorem dX8_runOf_29 : decode cX8_runOf 29 = .ok (.lookupswitch 45 #[(4, 27), (5, 40)], 27) := by decide +kernel
theorem dX8_runOf_56 : decode cX8_runOf 56 = .ok (.aload_n 3, 1) := by decide +kernel
theorem dX8_runOf_57 : decode cX8_runOf 57 = .ok (.getfield 141, 3) := by decide +kernel
theorem dX8_runOf_60 : decode cX8_runOf 60 = .ok (.ifCond .eq 7, 3) := by decide +kernel
theorem dX8_runOf_63 : decode cX8_runOf 63 = .ok (.iconst 1, 1) := by decide +kernel
theorem dX8_runOf_64 : decode cX8_runOf 64 = .ok (.goto 4, 3) := by decide +kernel
theorem dX8_runOf_67 : decode cX8_runOf 67 = .ok (.iconst 0, 1) := by decide +kernel
theorem dX8_runOf_68 : decode cX8_runOf 68 = .ok (.ireturn, 1) := by decide +kernel
theorem dX8_runOf_69 : decode cX8_runOf 69 = .ok (.aload_n 3, 1) := by decide +kernel
theorem dX8_runOf_70 : decode cX8_runOf 70 = .ok (.getfield 145, 3) := by decide +kernel
theorem dX8_runOf_73 : decode cX8_runOf 73 = .ok (.ireturn, 1) := by decide +kernel
theorem dX8_runOf_74 : decode cX8_runOf 74 = .ok (.iconst (-1), 1) := by decide +kernel
theorem dX8_runOf_75 : decode cX8_runOf 75 = .ok (.ireturn, 1) := by decide +kernel
theorem dX8_task_0 : decode cX8_task 0 = .ok (.aload_n 0, 1) := by decide +kernel
theorem dX8_task_1 : decode cX8_task 1 = .ok (.getfield 26, 3) := by decide +kernel
theorem dX8_task_4 : decode cX8_task 4 = .ok (.iload_n 1, 1) := by decide +kernel
theorem dX8_task_5 : decode cX8_task 5 = .ok (.invokevirtual 148, 3) := by decide +kernel
theorem dX8_task_8 : decode cX8_task 8 = .ok (.ifCond .ne 5, 3) := by decide +kernel
theorem dX8_task_11 : decode cX8_task 11 = .ok (.iconst (-1), 1) := by decide +kernel
theorem dX8_task_12 : decode cX8_task 12 = .ok (.ireturn, 1) := by decide +kernel
theorem dX8_task_13 : decode cX8_task 13 = .ok (.iload_n 2, 1) := by decide +kernel
theorem dX8_task_14 : decode cX8_task 14 = .ok (.tableswitch 126 0 7 #[46, 56, 66, 76, 86, 96, 106, 116], 46) := by decide +kernel
theorem dX8_task_60 : decode cX8_task 60 = .ok (.aload_n 0, 1) := by decide +kernel
theorem dX8_task_61 : decode cX8_task 61 = .ok (.getfield 26, 3) := by decide +kernel
theorem dX8_task_64 : decode cX8_task 64 = .ok (.getfield 149, 3) := by decide +kernel
theorem dX8_task_67 : decode cX8_task 67 = .ok (.iload_n 1, 1) := by decide +kernel
theorem dX8_task_68 : decode cX8_task 68 = .ok (.iaload, 1) := by decide +kernel
theorem dX8_task_69 : decode cX8_task 69 = .ok (.ireturn, 1) := by decide +kernel
theorem dX8_task_70 : decode cX8_task 70 = .ok (.aload_n 0, 1) := by decide +kernel
theorem dX8_task_71 : decode cX8_task 71 = .ok (.getfield 26, 3) := by decide +kernel
theorem dX8_task_74 : decode cX8_task 74 = .ok (.getfield 151, 3) := by decide +kernel
theorem dX8_task_77 : decode cX8_task 77 = .ok (.iload_n 1, 1) := by decide +kernel
theorem dX8_task_78 : decode cX8_task 78 = .ok (.iaload, 1) := by decide +kernel
theorem dX8_task_79 : decode cX8_task 79 = .ok (.ireturn, 1) := by decide +kernel
theorem dX8_task_80 : decode cX8_task 80 = .ok (.aload_n 0, 1) := by decide +kernel
theorem dX8_task_81 : decode cX8_task 81 = .ok (.getfield 26, 3) := by decide +kernel
theorem dX8_task_84 : decode cX8_task 84 = .ok (.getfield 154, 3) := by decide +kernel
theorem dX8_task_87 : decode cX8_task 87 = .ok (.iload_n 1, 1) := by decide +kernel
theorem dX8_task_88 : decode cX8_task 88 = .ok (.iaload, 1) := by decide +kernel
theorem dX8_task_89 : decode cX8_task 89 = .ok (.ireturn, 1) := by decide +kernel
theorem dX8_task_90 : decode cX8_task 90 = .ok (.aload_n 0, 1) := by decide +kernel
theorem dX8_task_91 : decode cX8_task 91 = .ok (.getfield 26, 3) := by decide +kernel
theorem dX8_task_94 : decode cX8_task 94 = .ok (.getfield 157, 3) := by decide +kernel
theorem dX8_task_97 : decode cX8_task 97 = .ok (.iload_n 1, 1) := by decide +kernel
theorem dX8_task_98 : decode cX8_task 98 = .ok (.iaload, 1) := by decide +kernel
theorem dX8_task_99 : decode cX8_task 99 = .ok (.ireturn, 1) := by decide +kernel
theorem dX8_task_100 : decode cX8_task 100 = .ok (.aload_n 0, 1) := by decide +kernel
theorem dX8_task_101 : decode cX8_task 101 = .ok (.getfield 26, 3) := by decide +kernel
theorem dX8_task_104 : decode cX8_task 104 = .ok (.getfield 160, 3) := by decide +kernel
theorem dX8_task_107 : decode cX8_task 107 = .ok (.iload_n 1, 1) := by decide +kernel
theorem dX8_task_108 : decode cX8_task 108 = .ok (.iaload, 1) := by decide +kernel
theorem dX8_task_109 : decode cX8_task 109 = .ok (.ireturn, 1) := by decide +kernel
theorem dX8_task_110 : decode cX8_task 110 = .ok (.aload_n 0, 1) := by decide +kernel
theorem dX8_task_111 : decode cX8_task 111 = .ok (.getfield 26, 3) := by decide +kernel
theorem dX8_task_114 : decode cX8_task 114 = .ok (.getfield 163, 3) := by decide +kernel
theorem dX8_task_117 : decode cX8_task 117 = .ok (.iload_n 1, 1) := by decide +kernel
theorem dX8_task_118 : decode cX8_task 118 = .ok (.iaload, 1) := by decide +kernel
theorem dX8_task_119 : decode cX8_task 119 = .ok (.ireturn, 1) := by decide +kernel
theorem dX8_task_120 : decode cX8_task 120 = .ok (.aload_n 0, 1) := by decide +kernel
theorem dX8_task_121 : decode cX8_task 121 = .ok (.getfield 26, 3) := by decide +kernel
theorem dX8_task_124 : decode cX8_task 124 = .ok (.getfield 166, 3) := by decide +kernel
theorem dX8_task_127 : decode cX8_task 127 = .ok (.iload_n 1, 1) := by decide +kernel
theorem dX8_task_128 : decode cX8_task 128 = .ok (.iaload, 1) := by decide +kernel
theorem dX8_task_129 : decode cX8_task 129 = .ok (.ireturn, 1) := by decide +kernel
theorem dX8_task_130 : decode cX8_task 130 = .ok (.aload_n 0, 1) := by decide +kernel
theorem dX8_task_131 : decode cX8_task 131 = .ok (.getfield 26, 3) := by decide +kernel
theorem dX8_task_134 : decode cX8_task 134 = .ok (.getfield 169, 3) := by decide +kernel
theorem dX8_task_137 : decode cX8_task 137 = .ok (.iload_n 1, 1) := by decide +kernel
theorem dX8_task_138 : decode cX8_task 138 = .ok (.iaload, 1) := by decide +kernel
theorem dX8_task_139 : decode cX8_task 139 = .ok (.ireturn, 1) := by decide +kernel
theorem dX8_task_140 : decode cX8_task 140 = .ok (.iconst (-1), 1) := by decide +kernel
theorem dX8_task_141 : decode cX8_task 141 = .ok (.ireturn, 1) := by decide +kernel
theorem dX8_may_0 : decode cX8_may 0 = .ok (.aload_n 0, 1) := by decide +kernel
theorem dX8_may_1 : decode cX8_may 1 = .ok (.getfield 19, 3) := by decide +kernel
theorem dX8_may_4 : decode cX8_may 4 = .ok (.iload_n 1, 1) := by decide +kernel
theorem dX8_may_5 : decode cX8_may 5 = .ok (.invokevirtual 92, 3) := by decide +kernel
theorem dX8_may_8 : decode cX8_may 8 = .ok (.ifCond .eq 14, 3) := by decide +kernel
theorem dX8_may_11 : decode cX8_may 11 = .ok (.aload_n 0, 1) := by decide +kernel
theorem dX8_may_12 : decode cX8_may 12 = .ok (.getfield 26, 3) := by decide +kernel
theorem dX8_may_15 : decode cX8_may 15 = .ok (.iload_n 2, 1) := by decide +kernel
theorem dX8_may_16 : decode cX8_may 16 = .ok (.invokevirtual 148, 3) := by decide +kernel
theorem dX8_may_19 : decode cX8_may 19 = .ok (.ifCond .ne 5, 3) := by decide +kernel
theorem dX8_may_22 : decode cX8_may 22 = .ok (.iconst (-1), 1) := by decide +kernel
theorem dX8_may_23 : decode cX8_may 23 = .ok (.ireturn, 1) := by decide +kernel
theorem dX8_may_24 : decode cX8_may 24 = .ok (.aload_n 0, 1) := by decide +kernel
theorem dX8_may_25 : decode cX8_may 25 = .ok (.iload_n 1, 1) := by decide +kernel
theorem dX8_may_26 : decode cX8_may 26 = .ok (.aload_n 0, 1) := by decide +kernel
theorem dX8_may_27 : decode cX8_may 27 = .ok (.getfield 19, 3) := by decide +kernel
theorem dX8_may_30 : decode cX8_may 30 = .ok (.iload_n 1, 1) := by decide +kernel
theorem dX8_may_31 : decode cX8_may 31 = .ok (.invokevirtual 172, 3) := by decide +kernel
theorem dX8_may_34 : decode cX8_may 34 = .ok (.iload_n 2, 1) := by decide +kernel
theorem dX8_may_35 : decode cX8_may 35 = .ok (.invokevirtual 175, 3) := by decide +kernel
theorem dX8_may_38 : decode cX8_may 38 = .ok (.ifCond .eq 7, 3) := by decide +kernel
theorem dX8_may_41 : decode cX8_may 41 = .ok (.iconst 1, 1) := by decide +kernel
theorem dX8_may_42 : decode cX8_may 42 = .ok (.goto 4, 3) := by decide +kernel
theorem dX8_may_45 : decode cX8_may 45 = .ok (.iconst 0, 1) := by decide +kernel
theorem dX8_may_46 : decode cX8_may 46 = .ok (.ireturn, 1) := by decide +kernel
theorem dX8_claim_0 : decode cX8_claim 0 = .ok (.aload_n 0, 1) := by decide +kernel
theorem dX8_claim_1 : decode cX8_claim 1 = .ok (.getfield 19, 3) := by decide +kernel
theorem dX8_claim_4 : decode cX8_claim 4 = .ok (.iload_n 1, 1) := by decide +kernel
theorem dX8_claim_5 : decode cX8_claim 5 = .ok (.invokevirtual 92, 3) := by decide +kernel
theorem dX8_claim_8 : decode cX8_claim 8 = .ok (.ifCond .eq 15, 3) := by decide +kernel
theorem dX8_claim_11 : decode cX8_claim 11 = .ok (.aload_n 0, 1) := by decide +kernel
theorem dX8_claim_12 : decode cX8_claim 12 = .ok (.getfield 26, 3) := by decide +kernel
theorem dX8_claim_15 : decode cX8_claim 15 = .ok (.iload_n 2, 1) := by decide +kernel
theorem dX8_claim_16 : decode cX8_claim 16 = .ok (.iconst 0, 1) := by decide +kernel
theorem dX8_claim_17 : decode cX8_claim 17 = .ok (.invokevirtual 179, 3) := by decide +kernel
theorem dX8_claim_20 : decode cX8_claim 20 = .ok (.ifCond .ne 5, 3) := by decide +kernel
theorem dX8_claim_23 : decode cX8_claim 23 = .ok (.iconst (-1), 1) := by decide +kernel
theorem dX8_claim_24 : decode cX8_claim 24 = .ok (.ireturn, 1) := by decide +kernel
theorem dX8_claim_25 : decode cX8_claim 25 = .ok (.aload_n 0, 1) := by decide +kernel
theorem dX8_claim_26 : decode cX8_claim 26 = .ok (.getfield 19, 3) := by decide +kernel
theorem dX8_claim_29 : decode cX8_claim 29 = .ok (.iload_n 1, 1) := by decide +kernel
theorem dX8_claim_30 : decode cX8_claim 30 = .ok (.invokevirtual 183, 3) := by decide +kernel
theorem dX8_claim_33 : decode cX8_claim 33 = .ok (.ifCond .eq 20, 3) := by decide +kernel
theorem dX8_claim_36 : decode cX8_claim 36 = .ok (.aload_n 0, 1) := by decide +kernel
theorem dX8_claim_37 : decode cX8_claim 37 = .ok (.iload_n 1, 1) := by decide +kernel
theorem dX8_claim_38 : decode cX8_claim 38 = .ok (.aload_n 0, 1) := by decide +kernel
theorem dX8_claim_39 : decode cX8_claim 39 = .ok (.getfield 19, 3) := by decide +kernel
theorem dX8_claim_42 : decode cX8_claim 42 = .ok (.iload_n 1, 1) := by decide +kernel
theorem dX8_claim_43 : decode cX8_claim 43 = .ok (.invokevirtual 172, 3) := by decide +kernel
theorem dX8_claim_46 : decode cX8_claim 46 = .ok (.iload_n 2, 1) := by decide +kernel
theorem dX8_claim_47 : decode cX8_claim 47 = .ok (.invokevirtual 175, 3) := by decide +kernel
theorem dX8_claim_50 : decode cX8_claim 50 = .ok (.ifCond .ne 5, 3) := by decide +kernel
theorem dX8_claim_53 : decode cX8_claim 53 = .ok (.iconst (-1), 1) := by decide +kernel
theorem dX8_claim_54 : decode cX8_claim 54 = .ok (.ireturn, 1) := by decide +kernel
theorem dX8_claim_55 : decode cX8_claim 55 = .ok (.aload_n 0, 1) := by decide +kernel
theorem dX8_claim_56 : decode cX8_claim 56 = .ok (.getfield 26, 3) := by decide +kernel
theorem dX8_claim_59 : decode cX8_claim 59 = .ok (.iload_n 2, 1) := by decide +kernel
theorem dX8_claim_60 : decode cX8_claim 60 = .ok (.iload_n 1, 1) := by decide +kernel
theorem dX8_claim_61 : decode cX8_claim 61 = .ok (.invokevirtual 186, 3) := by decide +kernel
theorem dX8_claim_64 : decode cX8_claim 64 = .ok (.aload_n 0, 1) := by decide +kernel
theorem dX8_claim_65 : decode cX8_claim 65 = .ok (.getfield 19, 3) := by decide +kernel
theorem dX8_claim_68 : decode cX8_claim 68 = .ok (.getfield 107, 3) := by decide +kernel
theorem dX8_claim_71 : decode cX8_claim 71 = .ok (.iload_n 1, 1) := by decide +kernel
theorem dX8_claim_72 : decode cX8_claim 72 = .ok (.dup2, 1) := by decide +kernel
theorem dX8_claim_73 : decode cX8_claim 73 = .ok (.iaload, 1) := by decide +kernel
theorem dX8_claim_74 : decode cX8_claim 74 = .ok (.iconst 1, 1) := by decide +kernel
theorem dX8_claim_75 : decode cX8_claim 75 = .ok (.iadd, 1) := by decide +kernel
theorem dX8_claim_76 : decode cX8_claim 76 = .ok (.iastore, 1) := by decide +kernel
theorem dX8_claim_77 : decode cX8_claim 77 = .ok (.aload_n 0, 1) := by decide +kernel
theorem dX8_claim_78 : decode cX8_claim 78 = .ok (.getfield 19, 3) := by decide +kernel
theorem dX8_claim_81 : decode cX8_claim 81 = .ok (.getfield 107, 3) := by decide +kernel
theorem dX8_claim_84 : decode cX8_claim 84 = .ok (.iload_n 1, 1) := by decide +kernel
theorem dX8_claim_85 : decode cX8_claim 85 = .ok (.iaload, 1) := by decide +kernel
theorem dX8_claim_86 : decode cX8_claim 86 = .ok (.ireturn, 1) := by decide +kernel
theorem dX8_giveBack_0 : decode cX8_giveBack 0 = .ok (.aload_n 0, 1) := by decide +kernel
theorem dX8_giveBack_1 : decode cX8_giveBack 1 = .ok (.getfield 26, 3) := by decide +kernel
theorem dX8_giveBack_4 : decode cX8_giveBack 4 = .ok (.iload_n 1, 1) := by decide +kernel
theorem dX8_giveBack_5 : decode cX8_giveBack 5 = .ok (.iconst 1, 1) := by decide +kernel
theorem dX8_giveBack_6 : decode cX8_giveBack 6 = .ok (.invokevirtual 179, 3) := by decide +kernel
theorem dX8_giveBack_9 : decode cX8_giveBack 9 = .ok (.ifCond .ne 5, 3) := by decide +kernel
theorem dX8_giveBack_12 : decode cX8_giveBack 12 = .ok (.iconst 0, 1) := by decide +kernel
theorem dX8_giveBack_13 : decode cX8_giveBack 13 = .ok (.ireturn, 1) := by decide +kernel
theorem dX8_giveBack_14 : decode cX8_giveBack 14 = .ok (.aload_n 0, 1) := by decide +kernel
theorem dX8_giveBack_15 : decode cX8_giveBack 15 = .ok (.getfield 19, 3) := by decide +kernel
theorem dX8_giveBack_18 : decode cX8_giveBack 18 = .ok (.aload_n 0, 1) := by decide +kernel
theorem dX8_giveBack_19 : decode cX8_giveBack 19 = .ok (.getfield 26, 3) := by decide +kernel
theorem dX8_giveBack_22 : decode cX8_giveBack 22 = .ok (.getfield 166, 3) := by decide +kernel
theorem dX8_giveBack_25 : decode cX8_giveBack 25 = .ok (.iload_n 1, 1) := by decide +kernel
theorem dX8_giveBack_26 : decode cX8_giveBack 26 = .ok (.iaload, 1) := by decide +kernel
theorem dX8_giveBack_27 : decode cX8_giveBack 27 = .ok (.invokevirtual 190, 3) := by decide +kernel
theorem dX8_giveBack_30 : decode cX8_giveBack 30 = .ok (.aload_n 0, 1) := by decide +kernel
theorem dX8_giveBack_31 : decode cX8_giveBack 31 = .ok (.getfield 26, 3) := by decide +kernel
theorem dX8_giveBack_34 : decode cX8_giveBack 34 = .ok (.iload_n 1, 1) := by decide +kernel
theorem dX8_giveBack_35 : decode cX8_giveBack 35 = .ok (.invokevirtual 193, 3) := by decide +kernel
theorem dX8_giveBack_38 : decode cX8_giveBack 38 = .ok (.iconst 1, 1) := by decide +kernel
theorem dX8_giveBack_39 : decode cX8_giveBack 39 = .ok (.ireturn, 1) := by decide +kernel
theorem dX8_done_0 : decode cX8_done 0 = .ok (.aload_n 0, 1) := by decide +kernel
theorem dX8_done_1 : decode cX8_done 1 = .ok (.getfield 26, 3) := by decide +kernel
theorem dX8_done_4 : decode cX8_done 4 = .ok (.iload_n 1, 1) := by decide +kernel
theorem dX8_done_5 : decode cX8_done 5 = .ok (.iconst 1, 1) := by decide +kernel
theorem dX8_done_6 : decode cX8_done 6 = .ok (.invokevirtual 179, 3) := by decide +kernel
theorem dX8_done_9 : decode cX8_done 9 = .ok (.ifCond .eq 13, 3) := by decide +kernel
theorem dX8_done_12 : decode cX8_done 12 = .ok (.iload_n 2, 1) := by decide +kernel
theorem dX8_done_13 : decode cX8_done 13 = .ok (.iconst (-1), 1) := by decide +kernel
theorem dX8_done_14 : decode cX8_done 14 = .ok (.if_icmp .lt 8, 3) := by decide +kernel
theorem dX8_done_17 : decode cX8_done 17 = .ok (.iload_n 2, 1) := by decide +kernel
theorem dX8_done_18 : decode cX8_done 18 = .ok (.iconst 4, 1) := by decide +kernel
theorem dX8_done_19 : decode cX8_done 19 = .ok (.if_icmp .lt 5, 3) := by decide +kernel
theorem dX8_done_22 : decode cX8_done 22 = .ok (.iconst (-1), 1) := by decide +kernel
theorem dX8_done_23 : decode cX8_done 23 = .ok (.ireturn, 1) := by decide +kernel
theorem dX8_done_24 : decode cX8_done 24 = .ok (.iload_n 2, 1) := by decide +kernel
theorem dX8_done_25 : decode cX8_done 25 = .ok (.iconst (-1), 1) := by decide +kernel
theorem dX8_done_26 : decode cX8_done 26 = .ok (.if_icmp .eq 15, 3) := by decide +kernel
theorem dX8_done_29 : decode cX8_done 29 = .ok (.iload_n 3, 1) := by decide +kernel
theorem dX8_done_30 : decode cX8_done 30 = .ok (.ifCond .lt 9, 3) := by decide +kernel
theorem dX8_done_33 : decode cX8_done 33 = .ok (.iload_n 3, 1) := by decide +kernel
theorem dX8_done_34 : decode cX8_done 34 = .ok (.bipush 99, 2) := by decide +kernel
theorem dX8_done_36 : decode cX8_done 36 = .ok (.if_icmp .le 5, 3) := by decide +kernel
theorem dX8_done_39 : decode cX8_done 39 = .ok (.iconst (-1), 1) := by decide +kernel
theorem dX8_done_40 : decode cX8_done 40 = .ok (.ireturn, 1) := by decide +kernel
theorem dX8_done_41 : decode cX8_done 41 = .ok (.aload_n 0, 1) := by decide +kernel
theorem dX8_done_42 : decode cX8_done 42 = .ok (.aload_n 0, 1) := by decide +kernel
theorem dX8_done_43 : decode cX8_done 43 = .ok (.getfield 26, 3) := by decide +kernel
theorem dX8_done_46 : decode cX8_done 46 = .ok (.getfield 149, 3) := by decide +kernel
theorem dX8_done_49 : decode cX8_done 49 = .ok (.iload_n 1, 1) := by decide +kernel
theorem dX8_done_50 : decode cX8_done 50 = .ok (.iaload, 1) := by decide +kernel
theorem dX8_done_51 : decode cX8_done 51 = .ok (.invokevirtual 134, 3) := by decide +kernel
theorem dX8_done_54 : decode cX8_done 54 = .ok (.astore 4, 2) := by decide +kernel
theorem dX8_done_56 : decode cX8_done 56 = .ok (.aload 4, 2) := by decide +kernel
theorem dX8_done_58 : decode cX8_done 58 = .ok (.ifnonnull 5, 3) := by decide +kernel
theorem dX8_done_61 : decode cX8_done 61 = .ok (.iconst (-1), 1) := by decide +kernel
theorem dX8_done_62 : decode cX8_done 62 = .ok (.ireturn, 1) := by decide +kernel
theorem dX8_done_63 : decode cX8_done 63 = .ok (.aload_n 0, 1) := by decide +kernel
theorem dX8_done_64 : decode cX8_done 64 = .ok (.getfield 33, 3) := by decide +kernel
theorem dX8_done_67 : decode cX8_done 67 = .ok (.aload 4, 2) := by decide +kernel
theorem dX8_done_69 : decode cX8_done 69 = .ok (.invokevirtual 196, 3) := by decide +kernel
theorem dX8_done_72 : decode cX8_done 72 = .ok (.aload_n 0, 1) := by decide +kernel
theorem dX8_done_73 : decode cX8_done 73 = .ok (.getfield 33, 3) := by decide +kernel
theorem dX8_done_76 : decode cX8_done 76 = .ok (.iload_n 2, 1) := by decide +kernel
theorem dX8_done_77 : decode cX8_done 77 = .ok (.iload_n 3, 1) := by decide +kernel
theorem dX8_done_78 : decode cX8_done 78 = .ok (.invokevirtual 199, 3) := by decide +kernel
theorem dX8_done_81 : decode cX8_done 81 = .ok (.aload_n 0, 1) := by decide +kernel
theorem dX8_done_82 : decode cX8_done 82 = .ok (.getfield 33, 3) := by decide +kernel
theorem dX8_done_85 : decode cX8_done 85 = .ok (.aload 4, 2) := by decide +kernel
theorem dX8_done_87 : decode cX8_done 87 = .ok (.getfield 202, 3) := by decide +kernel
theorem dX8_done_90 : decode cX8_done 90 = .ok (.aload 4, 2) := by decide +kernel
theorem dX8_done_92 : decode cX8_done 92 = .ok (.getfield 202, 3) := by decide +kernel
theorem dX8_done_95 : decode cX8_done 95 = .ok (.aload_n 0, 1) := by decide +kernel
theorem dX8_done_96 : decode cX8_done 96 = .ok (.getfield 26, 3) := by decide +kernel
theorem dX8_done_99 : decode cX8_done 99 = .ok (.getfield 151, 3) := by decide +kernel
theorem dX8_done_102 : decode cX8_done 102 = .ok (.iload_n 1, 1) := by decide +kernel
theorem dX8_done_103 : decode cX8_done 103 = .ok (.iaload, 1) := by decide +kernel
theorem dX8_done_104 : decode cX8_done 104 = .ok (.invokevirtual 205, 3) := by decide +kernel
theorem dX8_done_107 : decode cX8_done 107 = .ok (.invokevirtual 117, 3) := by decide +kernel
theorem dX8_done_110 : decode cX8_done 110 = .ok (.aload_n 0, 1) := by decide +kernel
theorem dX8_done_111 : decode cX8_done 111 = .ok (.getfield 26, 3) := by decide +kernel
theorem dX8_done_114 : decode cX8_done 114 = .ok (.aload_n 0, 1) := by decide +kernel
theorem dX8_done_115 : decode cX8_done 115 = .ok (.getfield 33, 3) := by decide +kernel
theorem dX8_done_118 : decode cX8_done 118 = .ok (.getfield 121, 3) := by decide +kernel
theorem dX8_done_121 : decode cX8_done 121 = .ok (.invokevirtual 124, 3) := by decide +kernel
theorem dX8_done_124 : decode cX8_done 124 = .ok (.ifCond .ne 5, 3) := by decide +kernel
theorem dX8_done_127 : decode cX8_done 127 = .ok (.iconst (-1), 1) := by decide +kernel
theorem dX8_done_128 : decode cX8_done 128 = .ok (.ireturn, 1) := by decide +kernel
theorem dX8_done_129 : decode cX8_done 129 = .ok (.aload_n 0, 1) := by decide +kernel
theorem dX8_done_130 : decode cX8_done 130 = .ok (.aload 4, 2) := by decide +kernel
theorem dX8_done_132 : decode cX8_done 132 = .ok (.iload_n 1, 1) := by decide +kernel
theorem dX8_done_133 : decode cX8_done 133 = .ok (.invokevirtual 208, 3) := by decide +kernel
theorem dX8_done_136 : decode cX8_done 136 = .ok (.aload_n 0, 1) := by decide +kernel
theorem dX8_done_137 : decode cX8_done 137 = .ok (.aload 4, 2) := by decide +kernel
theorem dX8_done_139 : decode cX8_done 139 = .ok (.invokevirtual 130, 3) := by decide +kernel
theorem dX8_done_142 : decode cX8_done 142 = .ok (.aload_n 0, 1) := by decide +kernel
theorem dX8_done_143 : decode cX8_done 143 = .ok (.getfield 33, 3) := by decide +kernel
theorem dX8_done_146 : decode cX8_done 146 = .ok (.getfield 121, 3) := by decide +kernel
theorem dX8_done_149 : decode cX8_done 149 = .ok (.ireturn, 1) := by decide +kernel
theorem dX8_list_0 : decode cX8_list 0 = .ok (.aload_n 0, 1) := by decide +kernel
theorem dX8_list_1 : decode cX8_list 1 = .ok (.getfield 19, 3) := by decide +kernel
theorem dX8_list_4 : decode cX8_list 4 = .ok (.iload_n 1, 1) := by decide +kernel
theorem dX8_list_5 : decode cX8_list 5 = .ok (.invokevirtual 92, 3) := by decide +kernel
theorem dX8_list_8 : decode cX8_list 8 = .ok (.ifCond .ne 5, 3) := by decide +kernel
theorem dX8_list_11 : decode cX8_list 11 = .ok (.iconst (-1), 1) := by decide +kernel
theorem dX8_list_12 : decode cX8_list 12 = .ok (.ireturn, 1) := by decide +kernel
theorem dX8_list_13 : decode cX8_list 13 = .ok (.aload_n 0, 1) := by decide +kernel
theorem dX8_list_14 : decode cX8_list 14 = .ok (.getfield 19, 3) := by decide +kernel
theorem dX8_list_17 : decode cX8_list 17 = .ok (.iload_n 1, 1) := by decide +kernel
theorem dX8_list_18 : decode cX8_list 18 = .ok (.invokevirtual 172, 3) := by decide +kernel
theorem dX8_list_21 : decode cX8_list 21 = .ok (.istore_n 2, 1) := by decide +kernel
theorem dX8_list_22 : decode cX8_list 22 = .ok (.iconst 0, 1) := by decide +kernel
theorem dX8_list_23 : decode cX8_list 23 = .ok (.istore_n 3, 1) := by decide +kernel
theorem dX8_list_24 : decode cX8_list 24 = .ok (.iconst 0, 1) := by decide +kernel
theorem dX8_list_25 : decode cX8_list 25 = .ok (.istore 4, 2) := by decide +kernel
theorem dX8_list_27 : decode cX8_list 27 = .ok (.iload 4, 2) := by decide +kernel
theorem dX8_list_29 : decode cX8_list 29 = .ok (.aload_n 0, 1) := by decide +kernel
theorem dX8_list_30 : decode cX8_list 30 = .ok (.getfield 26, 3) := by decide +kernel
theorem dX8_list_33 : decode cX8_list 33 = .ok (.getfield 212, 3) := by decide +kernel
theorem dX8_list_36 : decode cX8_list 36 = .ok (.if_icmp .ge 23, 3) := by decide +kernel
theorem dX8_list_39 : decode cX8_list 39 = .ok (.aload_n 0, 1) := by decide +kernel
theorem dX8_list_40 : decode cX8_list 40 = .ok (.iload_n 1, 1) := by decide +kernel
theorem dX8_list_41 : decode cX8_list 41 = .ok (.iload_n 2, 1) := by decide +kernel
theorem dX8_list_42 : decode cX8_list 42 = .ok (.iload 4, 2) := by decide +kernel
theorem dX8_list_44 : decode cX8_list 44 = .ok (.invokevirtual 215, 3) := by decide +kernel
theorem dX8_list_47 : decode cX8_list 47 = .ok (.ifCond .eq 6, 3) := by decide +kernel
theorem dX8_list_50 : decode cX8_list 50 = .ok (.iinc 3 1, 3) := by decide +kernel
theorem dX8_list_53 : decode cX8_list 53 = .ok (.iinc 4 1, 3) := by decide +kernel
theorem dX8_list_56 : decode cX8_list 56 = .ok (.goto (-29), 3) := by decide +kernel
theorem dX8_list_59 : decode cX8_list 59 = .ok (.iload_n 3, 1) := by decide +kernel
theorem dX8_list_60 : decode cX8_list 60 = .ok (.ireturn, 1) := by decide +kernel
theorem dX8_listed_0 : decode cX8_listed 0 = .ok (.aload_n 0, 1) := by decide +kernel
theorem dX8_listed_1 : decode cX8_listed 1 = .ok (.getfield 19, 3) := by decide +kernel
theorem dX8_listed_4 : decode cX8_listed 4 = .ok (.iload_n 1, 1) := by decide +kernel
theorem dX8_listed_5 : decode cX8_listed 5 = .ok (.invokevirtual 92, 3) := by decide +kernel
theorem dX8_listed_8 : decode cX8_listed 8 = .ok (.ifCond .eq 7, 3) := by decide +kernel
theorem dX8_listed_11 : decode cX8_listed 11 = .ok (.iload_n 2, 1) := by decide +kernel
theorem dX8_listed_12 : decode cX8_listed 12 = .ok (.ifCond .ge 5, 3) := by decide +kernel
theorem dX8_listed_15 : decode cX8_listed 15 = .ok (.iconst (-1), 1) := by decide +kernel
theorem dX8_listed_16 : decode cX8_listed 16 = .ok (.ireturn, 1) := by decide +kernel
theorem dX8_listed_17 : decode cX8_listed 17 = .ok (.aload_n 0, 1) := by decide +kernel
theorem dX8_listed_18 : decode cX8_listed 18 = .ok (.getfield 19, 3) := by decide +kernel
theorem dX8_listed_21 : decode cX8_listed 21 = .ok (.iload_n 1, 1) := by decide +kernel
theorem dX8_listed_22 : decode cX8_listed 22 = .ok (.invokevirtual 172, 3) := by decide +kernel
theorem dX8_listed_25 : decode cX8_listed 25 = .ok (.istore_n 3, 1) := by decide +kernel
theorem dX8_listed_26 : decode cX8_listed 26 = .ok (.iconst 0, 1) := by decide +kernel
theorem dX8_listed_27 : decode cX8_listed 27 = .ok (.istore 4, 2) := by decide +kernel
theorem dX8_listed_29 : decode cX8_listed 29 = .ok (.iconst 0, 1) := by decide +kernel
theorem dX8_listed_30 : decode cX8_listed 30 = .ok (.istore 5, 2) := by decide +kernel
theorem dX8_listed_32 : decode cX8_listed 32 = .ok (.iload 5, 2) := by decide +kernel
theorem dX8_listed_34 : decode cX8_listed 34 = .ok (.aload_n 0, 1) := by decide +kernel
theorem dX8_listed_35 : decode cX8_listed 35 = .ok (.getfield 26, 3) := by decide +kernel
theorem dX8_listed_38 : decode cX8_listed 38 = .ok (.getfield 212, 3) := by decide +kernel
theorem dX8_listed_41 : decode cX8_listed 41 = .ok (.if_icmp .ge 44, 3) := by decide +kernel
theorem dX8_listed_44 : decode cX8_listed 44 = .ok (.aload_n 0, 1) := by decide +kernel
theorem dX8_listed_45 : decode cX8_listed 45 = .ok (.getfield 26, 3) := by decide +kernel
theorem dX8_listed_48 : decode cX8_listed 48 = .ok (.getfield 218, 3) := by decide +kernel
theorem dX8_listed_51 : decode cX8_listed 51 = .ok (.iload 5, 2) := by decide +kernel
theorem dX8_listed_53 : decode cX8_listed 53 = .ok (.iaload, 1) := by decide +kernel
theorem dX8_listed_54 : decode cX8_listed 54 = .ok (.istore 6, 2) := by decide +kernel
theorem dX8_listed_56 : decode cX8_listed 56 = .ok (.aload_n 0, 1) := by decide +kernel
theorem dX8_listed_57 : decode cX8_listed 57 = .ok (.iload_n 1, 1) := by decide +kernel
theorem dX8_listed_58 : decode cX8_listed 58 = .ok (.iload_n 3, 1) := by decide +kernel
theorem dX8_listed_59 : decode cX8_listed 59 = .ok (.iload 6, 2) := by decide +kernel
theorem dX8_listed_61 : decode cX8_listed 61 = .ok (.invokevirtual 215, 3) := by decide +kernel
theorem dX8_listed_64 : decode cX8_listed 64 = .ok (.ifCond .eq 15, 3) := by decide +kernel
theorem dX8_listed_67 : decode cX8_listed 67 = .ok (.iload 4, 2) := by decide +kernel
theorem dX8_listed_69 : decode cX8_listed 69 = .ok (.iload_n 2, 1) := by decide +kernel
theorem dX8_listed_70 : decode cX8_listed 70 = .ok (.if_icmp .ne 6, 3) := by decide +kernel
theorem dX8_listed_73 : decode cX8_listed 73 = .ok (.iload 6, 2) := by decide +kernel
theorem dX8_listed_75 : decode cX8_listed 75 = .ok (.ireturn, 1) := by decide +kernel
theorem dX8_listed_76 : decode cX8_listed 76 = .ok (.iinc 4 1, 3) := by decide +kernel
theorem dX8_listed_79 : decode cX8_listed 79 = .ok (.iinc 5 1, 3) := by decide +kernel
theorem dX8_listed_82 : decode cX8_listed 82 = .ok (.goto (-50), 3) := by decide +kernel
theorem dX8_listed_85 : decode cX8_listed 85 = .ok (.iconst (-1), 1) := by decide +kernel
theorem dX8_listed_86 : decode cX8_listed 86 = .ok (.ireturn, 1) := by decide +kernel
theorem dX8_offer_0 : decode cX8_offer 0 = .ok (.aload_n 0, 1) := by decide +kernel
theorem dX8_offer_1 : decode cX8_offer 1 = .ok (.getfield 26, 3) := by decide +kernel
theorem dX8_offer_4 : decode cX8_offer 4 = .ok (.iload_n 1, 1) := by decide +kernel
theorem dX8_offer_5 : decode cX8_offer 5 = .ok (.iconst 0, 1) := by decide +kernel
theorem dX8_offer_6 : decode cX8_offer 6 = .ok (.invokevirtual 179, 3) := by decide +kernel
theorem dX8_offer_9 : decode cX8_offer 9 = .ok (.ifCond .ne 5, 3) := by decide +kernel
theorem dX8_offer_12 : decode cX8_offer 12 = .ok (.iconst (-1), 1) := by decide +kernel
theorem dX8_offer_13 : decode cX8_offer 13 = .ok (.ireturn, 1) := by decide +kernel
theorem dX8_offer_14 : decode cX8_offer 14 = .ok (.iconst (-1), 1) := by decide +kernel
theorem dX8_offer_15 : decode cX8_offer 15 = .ok (.istore_n 2, 1) := by decide +kernel
theorem dX8_offer_16 : decode cX8_offer 16 = .ok (.iconst 0, 1) := by decide +kernel
theorem dX8_offer_17 : decode cX8_offer 17 = .ok (.istore_n 3, 1) := by decide +kernel
theorem dX8_offer_18 : decode cX8_offer 18 = .ok (.iload_n 3, 1) := by decide +kernel
theorem dX8_offer_19 : decode cX8_offer 19 = .ok (.aload_n 0, 1) := by decide +kernel
theorem dX8_offer_20 : decode cX8_offer 20 = .ok (.getfield 19, 3) := by decide +kernel
theorem dX8_offer_23 : decode cX8_offer 23 = .ok (.getfield 221, 3) := by decide +kernel
theorem dX8_offer_26 : decode cX8_offer 26 = .ok (.if_icmp .ge 77, 3) := by decide +kernel
theorem dX8_offer_29 : decode cX8_offer 29 = .ok (.iload_n 2, 1) := by decide +kernel
theorem dX8_offer_30 : decode cX8_offer 30 = .ok (.iconst (-1), 1) := by decide +kernel
theorem dX8_offer_31 : decode cX8_offer 31 = .ok (.if_icmp .eq 24, 3) := by decide +kernel
theorem dX8_offer_34 : decode cX8_offer 34 = .ok (.aload_n 0, 1) := by decide +kernel
theorem dX8_offer_35 : decode cX8_offer 35 = .ok (.getfield 19, 3) := by decide +kernel
theorem dX8_offer_38 : decode cX8_offer 38 = .ok (.getfield 107, 3) := by decide +kernel
theorem dX8_offer_41 : decode cX8_offer 41 = .ok (.iload_n 3, 1) := by decide +kernel
theorem dX8_offer_42 : decode cX8_offer 42 = .ok (.iaload, 1) := by decide +kernel
theorem dX8_offer_43 : decode cX8_offer 43 = .ok (.aload_n 0, 1) := by decide +kernel
theorem dX8_offer_44 : decode cX8_offer 44 = .ok (.getfield 19, 3) := by decide +kernel
theorem dX8_offer_47 : decode cX8_offer 47 = .ok (.getfield 107, 3) := by decide +kernel
theorem dX8_offer_50 : decode cX8_offer 50 = .ok (.iload_n 2, 1) := by decide +kernel
theorem dX8_offer_51 : decode cX8_offer 51 = .ok (.iaload, 1) := by decide +kernel
theorem dX8_offer_52 : decode cX8_offer 52 = .ok (.if_icmp .ge 7, 3) := by decide +kernel
theorem dX8_offer_55 : decode cX8_offer 55 = .ok (.iconst 1, 1) := by decide +kernel
theorem dX8_offer_56 : decode cX8_offer 56 = .ok (.goto 4, 3) := by decide +kernel
theorem dX8_offer_59 : decode cX8_offer 59 = .ok (.iconst 0, 1) := by decide +kernel
theorem dX8_offer_60 : decode cX8_offer 60 = .ok (.istore 4, 2) := by decide +kernel
theorem dX8_offer_62 : decode cX8_offer 62 = .ok (.iload 4, 2) := by decide +kernel
theorem dX8_offer_64 : decode cX8_offer 64 = .ok (.ifCond .eq 33, 3) := by decide +kernel
theorem dX8_offer_67 : decode cX8_offer 67 = .ok (.aload_n 0, 1) := by decide +kernel
theorem dX8_offer_68 : decode cX8_offer 68 = .ok (.getfield 19, 3) := by decide +kernel
theorem dX8_offer_71 : decode cX8_offer 71 = .ok (.iload_n 3, 1) := by decide +kernel
theorem dX8_offer_72 : decode cX8_offer 72 = .ok (.invokevirtual 183, 3) := by decide +kernel
theorem dX8_offer_75 : decode cX8_offer 75 = .ok (.ifCond .eq 22, 3) := by decide +kernel
theorem dX8_offer_78 : decode cX8_offer 78 = .ok (.aload_n 0, 1) := by decide +kernel
theorem dX8_offer_79 : decode cX8_offer 79 = .ok (.iload_n 3, 1) := by decide +kernel
theorem dX8_offer_80 : decode cX8_offer 80 = .ok (.aload_n 0, 1) := by decide +kernel
theorem dX8_offer_81 : decode cX8_offer 81 = .ok (.getfield 19, 3) := by decide +kernel
theorem dX8_offer_84 : decode cX8_offer 84 = .ok (.iload_n 3, 1) := by decide +kernel
theorem dX8_offer_85 : decode cX8_offer 85 = .ok (.invokevirtual 172, 3) := by decide +kernel
theorem dX8_offer_88 : decode cX8_offer 88 = .ok (.iload_n 1, 1) := by decide +kernel
theorem dX8_offer_89 : decode cX8_offer 89 = .ok (.invokevirtual 175, 3) := by decide +kernel
theorem dX8_offer_92 : decode cX8_offer 92 = .ok (.ifCond .eq 5, 3) := by decide +kernel
theorem dX8_offer_95 : decode cX8_offer 95 = .ok (.iload_n 3, 1) := by decide +kernel
theorem dX8_offer_96 : decode cX8_offer 96 = .ok (.istore_n 2, 1) := by decide +kernel
theorem dX8_offer_97 : decode cX8_offer 97 = .ok (.iinc 3 1, 3) := by decide +kernel
theorem dX8_offer_100 : decode cX8_offer 100 = .ok (.goto (-82), 3) := by decide +kernel
theorem dX8_offer_103 : decode cX8_offer 103 = .ok (.iload_n 2, 1) := by decide +kernel
theorem dX8_offer_104 : decode cX8_offer 104 = .ok (.ireturn, 1) := by decide +kernel
theorem dX8_late_0 : decode cX8_late 0 = .ok (.iconst 0, 1) := by decide +kernel
theorem dX8_late_1 : decode cX8_late 1 = .ok (.istore_n 1, 1) := by decide +kernel
theorem dX8_late_2 : decode cX8_late 2 = .ok (.iconst 0, 1) := by decide +kernel
theorem dX8_late_3 : decode cX8_late 3 = .ok (.istore_n 2, 1) := by decide +kernel
theorem dX8_late_4 : decode cX8_late 4 = .ok (.iload_n 2, 1) := by decide +kernel
theorem dX8_late_5 : decode cX8_late 5 = .ok (.aload_n 0, 1) := by decide +kernel
theorem dX8_late_6 : decode cX8_late 6 = .ok (.getfield 26, 3) := by decide +kernel
theorem dX8_late_9 : decode cX8_late 9 = .ok (.getfield 212, 3) := by decide +kernel
theorem dX8_late_12 : decode cX8_late 12 = .ok (.if_icmp .ge 41, 3) := by decide +kernel
theorem dX8_late_15 : decode cX8_late 15 = .ok (.aload_n 0, 1) := by decide +kernel
theorem dX8_late_16 : decode cX8_late 16 = .ok (.getfield 26, 3) := by decide +kernel
theorem dX8_late_19 : decode cX8_late 19 = .ok (.getfield 163, 3) := by decide +kernel
theorem dX8_late_22 : decode cX8_late 22 = .ok (.iload_n 2, 1) := by decide +kernel
theorem dX8_late_23 : decode cX8_late 23 = .ok (.iaload, 1) := by decide +kernel
theorem dX8_late_24 : decode cX8_late 24 = .ok (.iconst 2, 1) := by decide +kernel
theorem dX8_late_25 : decode cX8_late 25 = .ok (.if_icmp .eq 22, 3) := by decide +kernel
theorem dX8_late_28 : decode cX8_late 28 = .ok (.aload_n 0, 1) := by decide +kernel
theorem dX8_late_29 : decode cX8_late 29 = .ok (.getfield 26, 3) := by decide +kernel
theorem dX8_late_32 : decode cX8_late 32 = .ok (.getfield 160, 3) := by decide +kernel
theorem dX8_late_35 : decode cX8_late 35 = .ok (.iload_n 2, 1) := by decide +kernel
theorem dX8_late_36 : decode cX8_late 36 = .ok (.iaload, 1) := by decide +kernel
theorem dX8_late_37 : decode cX8_late 37 = .ok (.aload_n 0, 1) := by decide +kernel
theorem dX8_late_38 : decode cX8_late 38 = .ok (.getfield 51, 3) := by decide +kernel
theorem dX8_late_41 : decode cX8_late 41 = .ok (.if_icmp .ge 6, 3) := by decide +kernel
theorem dX8_late_44 : decode cX8_late 44 = .ok (.iinc 1 1, 3) := by decide +kernel
theorem dX8_late_47 : decode cX8_late 47 = .ok (.iinc 2 1, 3) := by decide +kernel
theorem dX8_late_50 : decode cX8_late 50 = .ok (.goto (-46), 3) := by decide +kernel
theorem dX8_late_53 : decode cX8_late 53 = .ok (.iload_n 1, 1) := by decide +kernel
theorem dX8_late_54 : decode cX8_late 54 = .ok (.ireturn, 1) := by decide +kernel
theorem dX8_personOf_0 : decode cX8_personOf 0 = .ok (.aload_n 0, 1) := by decide +kernel
theorem dX8_personOf_1 : decode cX8_personOf 1 = .ok (.getfield 19, 3) := by decide +kernel
theorem dX8_personOf_4 : decode cX8_personOf 4 = .ok (.iload_n 1, 1) := by decide +kernel
theorem dX8_personOf_5 : decode cX8_personOf 5 = .ok (.invokevirtual 92, 3) := by decide +kernel
theorem dX8_personOf_8 : decode cX8_personOf 8 = .ok (.ifCond .ne 5, 3) := by decide +kernel
theorem dX8_personOf_11 : decode cX8_personOf 11 = .ok (.iconst (-1), 1) := by decide +kernel
theorem dX8_personOf_12 : decode cX8_personOf 12 = .ok (.ireturn, 1) := by decide +kernel
theorem dX8_personOf_13 : decode cX8_personOf 13 = .ok (.iload_n 2, 1) := by decide +kernel
theorem dX8_personOf_14 : decode cX8_personOf 14 = .ok (.tableswitch 106 0 5 #[38, 48, 58, 68, 86, 96], 38) := by decide +kernel
theorem dX8_personOf_52 : decode cX8_personOf 52 = .ok (.aload_n 0, 1) := by decide +kernel
theorem dX8_personOf_53 : decode cX8_personOf 53 = .ok (.getfield 19, 3) := by decide +kernel
theorem dX8_personOf_56 : decode cX8_personOf 56 = .ok (.getfield 222, 3) := by decide +kernel
theorem dX8_personOf_59 : decode cX8_personOf 59 = .ok (.iload_n 1, 1) := by decide +kernel
theorem dX8_personOf_60 : decode cX8_personOf 60 = .ok (.iaload, 1) := by decide +kernel
theorem dX8_personOf_61 : decode cX8_personOf 61 = .ok (.ireturn, 1) := by decide +kernel
theorem dX8_personOf_62 : decode cX8_personOf 62 = .ok (.aload_n 0, 1) := by decide +kernel
theorem dX8_personOf_63 : decode cX8_personOf 63 = .ok (.getfield 19, 3) := by decide +kernel
theorem dX8_personOf_66 : decode cX8_personOf 66 = .ok (.getfield 223, 3) := by decide +kernel
theorem dX8_personOf_69 : decode cX8_personOf 69 = .ok (.iload_n 1, 1) := by decide +kernel
theorem dX8_personOf_70 : decode cX8_personOf 70 = .ok (.iaload, 1) := by decide +kernel
theorem dX8_personOf_71 : decode cX8_personOf 71 = .ok (.ireturn, 1) := by decide +kernel
theorem dX8_personOf_72 : decode cX8_personOf 72 = .ok (.aload_n 0, 1) := by decide +kernel
theorem dX8_personOf_73 : decode cX8_personOf 73 = .ok (.getfield 19, 3) := by decide +kernel
theorem dX8_personOf_76 : decode cX8_personOf 76 = .ok (.getfield 107, 3) := by decide +kernel
theorem dX8_personOf_79 : decode cX8_personOf 79 = .ok (.iload_n 1, 1) := by decide +kernel
theorem dX8_personOf_80 : decode cX8_personOf 80 = .ok (.iaload, 1) := by decide +kernel
theorem dX8_personOf_81 : decode cX8_personOf 81 = .ok (.ireturn, 1) := by decide +kernel
theorem dX8_personOf_82 : decode cX8_personOf 82 = .ok (.aload_n 0, 1) := by decide +kernel
theorem dX8_personOf_83 : decode cX8_personOf 83 = .ok (.getfield 19, 3) := by decide +kernel
theorem dX8_personOf_86 : decode cX8_personOf 86 = .ok (.getfield 100, 3) := by decide +kernel
theorem dX8_personOf_89 : decode cX8_personOf 89 = .ok (.iload_n 1, 1) := by decide +kernel
theorem dX8_personOf_90 : decode cX8_personOf 90 = .ok (.baload, 1) := by decide +kernel
theorem dX8_personOf_91 : decode cX8_personOf 91 = .ok (.ifCond .eq 7, 3) := by decide +kernel
theorem dX8_personOf_94 : decode cX8_personOf 94 = .ok (.iconst 1, 1) := by decide +kernel
theorem dX8_personOf_95 : decode cX8_personOf 95 = .ok (.goto 4, 3) := by decide +kernel
theorem dX8_personOf_98 : decode cX8_personOf 98 = .ok (.iconst 0, 1) := by decide +kernel
theorem dX8_personOf_99 : decode cX8_personOf 99 = .ok (.ireturn, 1) := by decide +kernel
theorem dX8_personOf_100 : decode cX8_personOf 100 = .ok (.aload_n 0, 1) := by decide +kernel
theorem dX8_personOf_101 : decode cX8_personOf 101 = .ok (.getfield 19, 3) := by decide +kernel
theorem dX8_personOf_104 : decode cX8_personOf 104 = .ok (.getfield 96, 3) := by decide +kernel
theorem dX8_personOf_107 : decode cX8_personOf 107 = .ok (.iload_n 1, 1) := by decide +kernel
theorem dX8_personOf_108 : decode cX8_personOf 108 = .ok (.iaload, 1) := by decide +kernel
theorem dX8_personOf_109 : decode cX8_personOf 109 = .ok (.ireturn, 1) := by decide +kernel
theorem dX8_personOf_110 : decode cX8_personOf 110 = .ok (.aload_n 0, 1) := by decide +kernel
theorem dX8_personOf_111 : decode cX8_personOf 111 = .ok (.getfield 19, 3) := by decide +kernel
theorem dX8_personOf_114 : decode cX8_personOf 114 = .ok (.getfield 226, 3) := by decide +kernel
theorem dX8_personOf_117 : decode cX8_personOf 117 = .ok (.iload_n 1, 1) := by decide +kernel
theorem dX8_personOf_118 : decode cX8_personOf 118 = .ok (.iaload, 1) := by decide +kernel
theorem dX8_personOf_119 : decode cX8_personOf 119 = .ok (.ireturn, 1) := by decide +kernel
theorem dX8_personOf_120 : decode cX8_personOf 120 = .ok (.iconst (-1), 1) := by decide +kernel
theorem dX8_personOf_121 : decode cX8_personOf 121 = .ok (.ireturn, 1) := by decide +kernel
theorem dX8_due_0 : decode cX8_due 0 = .ok (.iload_n 1, 1) := by decide +kernel
theorem dX8_due_1 : decode cX8_due 1 = .ok (.ifCond .lt 21, 3) := by decide +kernel
theorem dX8_due_4 : decode cX8_due 4 = .ok (.iload_n 1, 1) := by decide +kernel
theorem dX8_due_5 : decode cX8_due 5 = .ok (.sipush 20000, 3) := by decide +kernel
theorem dX8_due_8 : decode cX8_due 8 = .ok (.if_icmp .gt 14, 3) := by decide +kernel
theorem dX8_due_11 : decode cX8_due 11 = .ok (.iload_n 2, 1) := by decide +kernel
theorem dX8_due_12 : decode cX8_due 12 = .ok (.iconst 1, 1) := by decide +kernel
theorem dX8_due_13 : decode cX8_due 13 = .ok (.if_icmp .lt 9, 3) := by decide +kernel
theorem dX8_due_16 : decode cX8_due 16 = .ok (.iload_n 2, 1) := by decide +kernel
theorem dX8_due_17 : decode cX8_due 17 = .ok (.bipush 99, 2) := by decide +kernel
theorem dX8_due_19 : decode cX8_due 19 = .ok (.if_icmp .le 5, 3) := by decide +kernel
theorem dX8_due_22 : decode cX8_due 22 = .ok (.iconst (-1), 1) := by decide +kernel
theorem dX8_due_23 : decode cX8_due 23 = .ok (.ireturn, 1) := by decide +kernel
theorem dX8_due_24 : decode cX8_due 24 = .ok (.iload_n 1, 1) := by decide +kernel
theorem dX8_due_25 : decode cX8_due 25 = .ok (.iload_n 2, 1) := by decide +kernel
theorem dX8_due_26 : decode cX8_due 26 = .ok (.invokestatic 229, 3) := by decide +kernel
theorem dX8_due_29 : decode cX8_due 29 = .ok (.ireturn, 1) := by decide +kernel
theorem dX8_about_0 : decode cX8_about 0 = .ok (.iload_n 1, 1) := by decide +kernel
theorem dX8_about_1 : decode cX8_about 1 = .ok (.tableswitch 118 0 6 #[43, 62, 81, 89, 94, 99, 107], 43) := by decide +kernel
theorem dX8_about_44 : decode cX8_about 44 = .ok (.aload_n 0, 1) := by decide +kernel
theorem dX8_about_45 : decode cX8_about 45 = .ok (.getfield 47, 3) := by decide +kernel
theorem dX8_about_48 : decode cX8_about 48 = .ok (.ifnonnull 7, 3) := by decide +kernel
theorem dX8_about_51 : decode cX8_about 51 = .ok (.iconst (-1), 1) := by decide +kernel
theorem dX8_about_52 : decode cX8_about 52 = .ok (.goto 10, 3) := by decide +kernel
theorem dX8_about_55 : decode cX8_about 55 = .ok (.aload_n 0, 1) := by decide +kernel
theorem dX8_about_56 : decode cX8_about 56 = .ok (.getfield 47, 3) := by decide +kernel
theorem dX8_about_59 : decode cX8_about 59 = .ok (.getfield 83, 3) := by decide +kernel
theorem dX8_about_62 : decode cX8_about 62 = .ok (.ireturn, 1) := by decide +kernel
theorem dX8_about_63 : decode cX8_about 63 = .ok (.aload_n 0, 1) := by decide +kernel
theorem dX8_about_64 : decode cX8_about 64 = .ok (.getfield 47, 3) := by decide +kernel
theorem dX8_about_67 : decode cX8_about 67 = .ok (.ifnonnull 7, 3) := by decide +kernel
theorem dX8_about_70 : decode cX8_about 70 = .ok (.iconst (-1), 1) := by decide +kernel
theorem dX8_about_71 : decode cX8_about 71 = .ok (.goto 10, 3) := by decide +kernel
theorem dX8_about_74 : decode cX8_about 74 = .ok (.aload_n 0, 1) := by decide +kernel
theorem dX8_about_75 : decode cX8_about 75 = .ok (.getfield 47, 3) := by decide +kernel
theorem dX8_about_78 : decode cX8_about 78 = .ok (.getfield 234, 3) := by decide +kernel
theorem dX8_about_81 : decode cX8_about 81 = .ok (.ireturn, 1) := by decide +kernel
theorem dX8_about_82 : decode cX8_about 82 = .ok (.aload_n 0, 1) := by decide +kernel
theorem dX8_about_83 : decode cX8_about 83 = .ok (.getfield 19, 3) := by decide +kernel
theorem dX8_about_86 : decode cX8_about 86 = .ok (.getfield 221, 3) := by decide +kernel
theorem dX8_about_89 : decode cX8_about 89 = .ok (.ireturn, 1) := by decide +kernel
theorem dX8_about_90 : decode cX8_about 90 = .ok (.aload_n 0, 1) := by decide +kernel
theorem dX8_about_91 : decode cX8_about 91 = .ok (.getfield 51, 3) := by decide +kernel
theorem dX8_about_94 : decode cX8_about 94 = .ok (.ireturn, 1) := by decide +kernel
theorem dX8_about_95 : decode cX8_about 95 = .ok (.aload_n 0, 1) := by decide +kernel
theorem dX8_about_96 : decode cX8_about 96 = .ok (.getfield 43, 3) := by decide +kernel
theorem dX8_about_99 : decode cX8_about 99 = .ok (.ireturn, 1) := by decide +kernel
theorem dX8_about_100 : decode cX8_about 100 = .ok (.aload_n 0, 1) := by decide +kernel
theorem dX8_about_101 : decode cX8_about 101 = .ok (.getfield 26, 3) := by decide +kernel
theorem dX8_about_104 : decode cX8_about 104 = .ok (.getfield 212, 3) := by decide +kernel
theorem dX8_about_107 : decode cX8_about 107 = .ok (.ireturn, 1) := by decide +kernel
theorem dX8_about_108 : decode cX8_about 108 = .ok (.aload_n 0, 1) := by decide +kernel
theorem dX8_about_109 : decode cX8_about 109 = .ok (.getfield 10, 3) := by decide +kernel
theorem dX8_about_112 : decode cX8_about 112 = .ok (.getfield 60, 3) := by decide +kernel
theorem dX8_about_115 : decode cX8_about 115 = .ok (.getfield 64, 3) := by decide +kernel
theorem dX8_about_118 : decode cX8_about 118 = .ok (.ireturn, 1) := by decide +kernel
theorem dX8_about_119 : decode cX8_about 119 = .ok (.iconst (-1), 1) := by decide +kernel
theorem dX8_about_120 : decode cX8_about 120 = .ok (.ireturn, 1) := by decide +kernel
theorem dX8_runAt_0 : decode cX8_runAt 0 = .ok (.iload_n 1, 1) := by decide +kernel
theorem dX8_runAt_1 : decode cX8_runAt 1 = .ok (.ifCond .lt 26, 3) := by decide +kernel
theorem dX8_runAt_4 : decode cX8_runAt 4 = .ok (.iload_n 1, 1) := by decide +kernel
theorem dX8_runAt_5 : decode cX8_runAt 5 = .ok (.aload_n 0, 1) := by decide +kernel
theorem dX8_runAt_6 : decode cX8_runAt 6 = .ok (.getfield 43, 3) := by decide +kernel
theorem dX8_runAt_9 : decode cX8_runAt 9 = .ok (.if_icmp .ge 18, 3) := by decide +kernel
theorem dX8_runAt_12 : decode cX8_runAt 12 = .ok (.iload_n 1, 1) := by decide +kernel
theorem dX8_runAt_13 : decode cX8_runAt 13 = .ok (.bipush 8, 2) := by decide +kernel
theorem dX8_runAt_15 : decode cX8_runAt 15 = .ok (.if_icmp .ge 12, 3) := by decide +kernel
theorem dX8_runAt_18 : decode cX8_runAt 18 = .ok (.aload_n 0, 1) := by decide +kernel
theorem dX8_runAt_19 : decode cX8_runAt 19 = .ok (.getfield 39, 3) := by decide +kernel
theorem dX8_runAt_22 : decode cX8_runAt 22 = .ok (.iload_n 1, 1) := by decide +kernel
theorem dX8_runAt_23 : decode cX8_runAt 23 = .ok (.aaload, 1) := by decide +kernel
theorem dX8_runAt_24 : decode cX8_runAt 24 = .ok (.goto 4, 3) := by decide +kernel
theorem dX8_runAt_27 : decode cX8_runAt 27 = .ok (.aconst_null, 1) := by decide +kernel
theorem dX8_runAt_28 : decode cX8_runAt 28 = .ok (.areturn, 1) := by decide +kernel
theorem dX8_isListed_0 : decode cX8_isListed 0 = .ok (.aload_n 0, 1) := by decide +kernel
theorem dX8_isListed_1 : decode cX8_isListed 1 = .ok (.getfield 26, 3) := by decide +kernel
theorem dX8_isListed_4 : decode cX8_isListed 4 = .ok (.iload_n 3, 1) := by decide +kernel
theorem dX8_isListed_5 : decode cX8_isListed 5 = .ok (.iconst 0, 1) := by decide +kernel
theorem dX8_isListed_6 : decode cX8_isListed 6 = .ok (.invokevirtual 179, 3) := by decide +kernel
theorem dX8_isListed_9 : decode cX8_isListed 9 = .ok (.ifCond .eq 17, 3) := by decide +kernel
theorem dX8_isListed_12 : decode cX8_isListed 12 = .ok (.aload_n 0, 1) := by decide +kernel
theorem dX8_isListed_13 : decode cX8_isListed 13 = .ok (.iload_n 1, 1) := by decide +kernel
theorem dX8_isListed_14 : decode cX8_isListed 14 = .ok (.iload_n 2, 1) := by decide +kernel
theorem dX8_isListed_15 : decode cX8_isListed 15 = .ok (.iload_n 3, 1) := by decide +kernel
theorem dX8_isListed_16 : decode cX8_isListed 16 = .ok (.invokevirtual 175, 3) := by decide +kernel
theorem dX8_isListed_19 : decode cX8_isListed 19 = .ok (.ifCond .eq 7, 3) := by decide +kernel
theorem dX8_isListed_22 : decode cX8_isListed 22 = .ok (.iconst 1, 1) := by decide +kernel
theorem dX8_isListed_23 : decode cX8_isListed 23 = .ok (.goto 4, 3) := by decide +kernel
theorem dX8_isListed_26 : decode cX8_isListed 26 = .ok (.iconst 0, 1) := by decide +kernel
theorem dX8_isListed_27 : decode cX8_isListed 27 = .ok (.ireturn, 1) := by decide +kernel
theorem dX8_isAllowed_0 : decode cX8_isAllowed 0 = .ok (.aload_n 0, 1) := by decide +kernel
theorem dX8_isAllowed_1 : decode cX8_isAllowed 1 = .ok (.getfield 26, 3) := by decide +kernel
theorem dX8_isAllowed_4 : decode cX8_isAllowed 4 = .ok (.iload_n 3, 1) := by decide +kernel
theorem dX8_isAllowed_5 : decode cX8_isAllowed 5 = .ok (.invokevirtual 148, 3) := by decide +kernel
theorem dX8_isAllowed_8 : decode cX8_isAllowed 8 = .ok (.ifCond .eq 19, 3) := by decide +kernel
theorem dX8_isAllowed_11 : decode cX8_isAllowed 11 = .ok (.iload_n 2, 1) := by decide +kernel
theorem dX8_isAllowed_12 : decode cX8_isAllowed 12 = .ok (.aload_n 0, 1) := by decide +kernel
theorem dX8_isAllowed_13 : decode cX8_isAllowed 13 = .ok (.getfield 26, 3) := by decide +kernel
theorem dX8_isAllowed_16 : decode cX8_isAllowed 16 = .ok (.getfield 154, 3) := by decide +kernel
theorem dX8_isAllowed_19 : decode cX8_isAllowed 19 = .ok (.iload_n 3, 1) := by decide +kernel
theorem dX8_isAllowed_20 : decode cX8_isAllowed 20 = .ok (.iaload, 1) := by decide +kernel
theorem dX8_isAllowed_21 : decode cX8_isAllowed 21 = .ok (.ishr, 1) := by decide +kernel
theorem dX8_isAllowed_22 : decode cX8_isAllowed 22 = .ok (.iconst 1, 1) := by decide +kernel
theorem dX8_isAllowed_23 : decode cX8_isAllowed 23 = .ok (.iand, 1) := by decide +kernel
theorem dX8_isAllowed_24 : decode cX8_isAllowed 24 = .ok (.ifCond .ne 5, 3) := by decide +kernel
theorem dX8_isAllowed_27 : decode cX8_isAllowed 27 = .ok (.iconst 0, 1) := by decide +kernel
theorem dX8_isAllowed_28 : decode cX8_isAllowed 28 = .ok (.ireturn, 1) := by decide +kernel
theorem dX8_isAllowed_29 : decode cX8_isAllowed 29 = .ok (.aload_n 0, 1) := by decide +kernel
theorem dX8_isAllowed_30 : decode cX8_isAllowed 30 = .ok (.aload_n 0, 1) := by decide +kernel
theorem dX8_isAllowed_31 : decode cX8_isAllowed 31 = .ok (.getfield 26, 3) := by decide +kernel
theorem dX8_isAllowed_34 : decode cX8_isAllowed 34 = .ok (.getfield 149, 3) := by decide +kernel
theorem dX8_isAllowed_37 : decode cX8_isAllowed 37 = .ok (.iload_n 3, 1) := by decide +kernel
theorem dX8_isAllowed_38 : decode cX8_isAllowed 38 = .ok (.iaload, 1) := by decide +kernel
theorem dX8_isAllowed_39 : decode cX8_isAllowed 39 = .ok (.invokevirtual 134, 3) := by decide +kernel
theorem dX8_isAllowed_42 : decode cX8_isAllowed 42 = .ok (.astore 4, 2) := by decide +kernel
theorem dX8_isAllowed_44 : decode cX8_isAllowed 44 = .ok (.aload 4, 2) := by decide +kernel
theorem dX8_isAllowed_46 : decode cX8_isAllowed 46 = .ok (.ifnonnull 5, 3) := by decide +kernel
theorem dX8_isAllowed_49 : decode cX8_isAllowed 49 = .ok (.iconst 0, 1) := by decide +kernel
theorem dX8_isAllowed_50 : decode cX8_isAllowed 50 = .ok (.ireturn, 1) := by decide +kernel
theorem dX8_isAllowed_51 : decode cX8_isAllowed 51 = .ok (.aload 4, 2) := by decide +kernel
theorem dX8_isAllowed_53 : decode cX8_isAllowed 53 = .ok (.aload 4, 2) := by decide +kernel
theorem dX8_isAllowed_55 : decode cX8_isAllowed 55 = .ok (.getfield 202, 3) := by decide +kernel
theorem dX8_isAllowed_58 : decode cX8_isAllowed 58 = .ok (.aload_n 0, 1) := by decide +kernel
theorem dX8_isAllowed_59 : decode cX8_isAllowed 59 = .ok (.getfield 26, 3) := by decide +kernel
theorem dX8_isAllowed_62 : decode cX8_isAllowed 62 = .ok (.getfield 151, 3) := by decide +kernel
theorem dX8_isAllowed_65 : decode cX8_isAllowed 65 = .ok (.iload_n 3, 1) := by decide +kernel
theorem dX8_isAllowed_66 : decode cX8_isAllowed 66 = .ok (.iaload, 1) := by decide +kernel
theorem dX8_isAllowed_67 : decode cX8_isAllowed 67 = .ok (.invokevirtual 236, 3) := by decide +kernel
theorem dX8_isAllowed_70 : decode cX8_isAllowed 70 = .ok (.invokevirtual 239, 3) := by decide +kernel
theorem dX8_isAllowed_73 : decode cX8_isAllowed 73 = .ok (.iload_n 1, 1) := by decide +kernel
theorem dX8_isAllowed_74 : decode cX8_isAllowed 74 = .ok (.if_icmp .eq 7, 3) := by decide +kernel
theorem dX8_isAllowed_77 : decode cX8_isAllowed 77 = .ok (.iconst 1, 1) := by decide +kernel
theorem dX8_isAllowed_78 : decode cX8_isAllowed 78 = .ok (.goto 4, 3) := by decide +kernel
theorem dX8_isAllowed_81 : decode cX8_isAllowed 81 = .ok (.iconst 0, 1) := by decide +kernel
theorem dX8_isAllowed_82 : decode cX8_isAllowed 82 = .ok (.ireturn, 1) := by decide +kernel
theorem dX8_finishTask_0 : decode cX8_finishTask 0 = .ok (.aload_n 0, 1) := by decide +kernel
theorem dX8_finishTask_1 : decode cX8_finishTask 1 = .ok (.getfield 26, 3) := by decide +kernel
theorem dX8_finishTask_4 : decode cX8_finishTask 4 = .ok (.getfield 166, 3) := by decide +kernel
theorem dX8_finishTask_7 : decode cX8_finishTask 7 = .ok (.iload_n 2, 1) := by decide +kernel
theorem dX8_finishTask_8 : decode cX8_finishTask 8 = .ok (.iaload, 1) := by decide +kernel
theorem dX8_finishTask_9 : decode cX8_finishTask 9 = .ok (.istore_n 3, 1) := by decide +kernel
theorem dX8_finishTask_10 : decode cX8_finishTask 10 = .ok (.aload_n 0, 1) := by decide +kernel
theorem dX8_finishTask_11 : decode cX8_finishTask 11 = .ok (.getfield 26, 3) := by decide +kernel
theorem dX8_finishTask_14 : decode cX8_finishTask 14 = .ok (.iload_n 2, 1) := by decide +kernel
theorem dX8_finishTask_15 : decode cX8_finishTask 15 = .ok (.aload_n 0, 1) := by decide +kernel
theorem dX8_finishTask_16 : decode cX8_finishTask 16 = .ok (.getfield 51, 3) := by decide +kernel
theorem dX8_finishTask_19 : decode cX8_finishTask 19 = .ok (.invokevirtual 242, 3) := by decide +kernel
theorem dX8_finishTask_22 : decode cX8_finishTask 22 = .ok (.aload_n 0, 1) := by decide +kernel
theorem dX8_finishTask_23 : decode cX8_finishTask 23 = .ok (.getfield 19, 3) := by decide +kernel
theorem dX8_finishTask_26 : decode cX8_finishTask 26 = .ok (.iload_n 3, 1) := by decide +kernel
theorem dX8_finishTask_27 : decode cX8_finishTask 27 = .ok (.invokevirtual 190, 3) := by decide +kernel
theorem dX8_finishTask_30 : decode cX8_finishTask 30 = .ok (.aload_n 0, 1) := by decide +kernel
theorem dX8_finishTask_31 : decode cX8_finishTask 31 = .ok (.getfield 19, 3) := by decide +kernel
theorem dX8_finishTask_34 : decode cX8_finishTask 34 = .ok (.iload_n 3, 1) := by decide +kernel
theorem dX8_finishTask_35 : decode cX8_finishTask 35 = .ok (.invokevirtual 245, 3) := by decide +kernel
theorem dX8_finishTask_38 : decode cX8_finishTask 38 = .ok (.aload_n 1, 1) := by decide +kernel
theorem dX8_finishTask_39 : decode cX8_finishTask 39 = .ok (.aload_n 0, 1) := by decide +kernel
theorem dX8_finishTask_40 : decode cX8_finishTask 40 = .ok (.getfield 26, 3) := by decide +kernel
theorem dX8_finishTask_43 : decode cX8_finishTask 43 = .ok (.getfield 151, 3) := by decide +kernel
theorem dX8_finishTask_46 : decode cX8_finishTask 46 = .ok (.iload_n 2, 1) := by decide +kernel
theorem dX8_finishTask_47 : decode cX8_finishTask 47 = .ok (.iaload, 1) := by decide +kernel
theorem dX8_finishTask_48 : decode cX8_finishTask 48 = .ok (.iload_n 3, 1) := by decide +kernel
theorem dX8_finishTask_49 : decode cX8_finishTask 49 = .ok (.invokevirtual 248, 3) := by decide +kernel
theorem dX8_finishTask_52 : decode cX8_finishTask 52 = .ok (.aload_n 1, 1) := by decide +kernel
theorem dX8_finishTask_53 : decode cX8_finishTask 53 = .ok (.dup, 1) := by decide +kernel
theorem dX8_finishTask_54 : decode cX8_finishTask 54 = .ok (.getfield 145, 3) := by decide +kernel
theorem dX8_finishTask_57 : decode cX8_finishTask 57 = .ok (.iconst 1, 1) := by decide +kernel
theorem dX8_finishTask_58 : decode cX8_finishTask 58 = .ok (.isub, 1) := by decide +kernel
theorem dX8_finishTask_59 : decode cX8_finishTask 59 = .ok (.putfield 145, 3) := by decide +kernel
theorem dX8_finishTask_62 : decode cX8_finishTask 62 = .ok (.return_, 1) := by decide +kernel
theorem dX8_keepWalk_0 : decode cX8_keepWalk 0 = .ok (.aload_n 1, 1) := by decide +kernel
theorem dX8_keepWalk_1 : decode cX8_keepWalk 1 = .ok (.aload_n 0, 1) := by decide +kernel
theorem dX8_keepWalk_2 : decode cX8_keepWalk 2 = .ok (.getfield 33, 3) := by decide +kernel
theorem dX8_keepWalk_5 : decode cX8_keepWalk 5 = .ok (.invokevirtual 251, 3) := by decide +kernel
theorem dX8_keepWalk_8 : decode cX8_keepWalk 8 = .ok (.iconst 0, 1) := by decide +kernel
theorem dX8_keepWalk_9 : decode cX8_keepWalk 9 = .ok (.istore_n 2, 1) := by decide +kernel
theorem dX8_keepWalk_10 : decode cX8_keepWalk 10 = .ok (.iload_n 2, 1) := by decide +kernel
theorem dX8_keepWalk_11 : decode cX8_keepWalk 11 = .ok (.aload_n 0, 1) := by decide +kernel
theorem dX8_keepWalk_12 : decode cX8_keepWalk 12 = .ok (.getfield 33, 3) := by decide +kernel
theorem dX8_keepWalk_15 : decode cX8_keepWalk 15 = .ok (.getfield 121, 3) := by decide +kernel
theorem dX8_keepWalk_18 : decode cX8_keepWalk 18 = .ok (.if_icmp .ge 62, 3) := by decide +kernel
theorem dX8_keepWalk_21 : decode cX8_keepWalk 21 = .ok (.aload_n 0, 1) := by decide +kernel
theorem dX8_keepWalk_22 : decode cX8_keepWalk 22 = .ok (.getfield 33, 3) := by decide +kernel
theorem dX8_keepWalk_25 : decode cX8_keepWalk 25 = .ok (.getfield 255, 3) := by decide +kernel
theorem dX8_keepWalk_28 : decode cX8_keepWalk 28 = .ok (.iload_n 2, 1) := by decide +kernel
theorem dX8_keepWalk_29 : decode cX8_keepWalk 29 = .ok (.iaload, 1) := by decide +kernel
theorem dX8_keepWalk_30 : decode cX8_keepWalk 30 = .ok (.istore_n 3, 1) := by decide +kernel
theorem dX8_keepWalk_31 : decode cX8_keepWalk 31 = .ok (.aload_n 0, 1) := by decide +kernel
theorem dX8_keepWalk_32 : decode cX8_keepWalk 32 = .ok (.getfield 51, 3) := by decide +kernel
theorem dX8_keepWalk_35 : decode cX8_keepWalk 35 = .ok (.aload_n 1, 1) := by decide +kernel
theorem dX8_keepWalk_36 : decode cX8_keepWalk 36 = .ok (.getfield 202, 3) := by decide +kernel
theorem dX8_keepWalk_39 : decode cX8_keepWalk 39 = .ok (.iload_n 3, 1) := by decide +kernel
theorem dX8_keepWalk_40 : decode cX8_keepWalk 40 = .ok (.invokevirtual 258, 3) := by decide +kernel
theorem dX8_keepWalk_43 : decode cX8_keepWalk 43 = .ok (.invokestatic 229, 3) := by decide +kernel
theorem dX8_keepWalk_46 : decode cX8_keepWalk 46 = .ok (.istore 4, 2) := by decide +kernel
theorem dX8_keepWalk_48 : decode cX8_keepWalk 48 = .ok (.aload_n 0, 1) := by decide +kernel
theorem dX8_keepWalk_49 : decode cX8_keepWalk 49 = .ok (.getfield 26, 3) := by decide +kernel
theorem dX8_keepWalk_52 : decode cX8_keepWalk 52 = .ok (.aload_n 1, 1) := by decide +kernel
theorem dX8_keepWalk_53 : decode cX8_keepWalk 53 = .ok (.getfield 261, 3) := by decide +kernel
theorem dX8_keepWalk_56 : decode cX8_keepWalk 56 = .ok (.iload_n 3, 1) := by decide +kernel
theorem dX8_keepWalk_57 : decode cX8_keepWalk 57 = .ok (.aload_n 1, 1) := by decide +kernel
theorem dX8_keepWalk_58 : decode cX8_keepWalk 58 = .ok (.getfield 202, 3) := by decide +kernel
theorem dX8_keepWalk_61 : decode cX8_keepWalk 61 = .ok (.iload_n 3, 1) := by decide +kernel
theorem dX8_keepWalk_62 : decode cX8_keepWalk 62 = .ok (.invokevirtual 264, 3) := by decide +kernel
theorem dX8_keepWalk_65 : decode cX8_keepWalk 65 = .ok (.aload_n 0, 1) := by decide +kernel
theorem dX8_keepWalk_66 : decode cX8_keepWalk 66 = .ok (.getfield 51, 3) := by decide +kernel
theorem dX8_keepWalk_69 : decode cX8_keepWalk 69 = .ok (.iload 4, 2) := by decide +kernel
theorem dX8_keepWalk_71 : decode cX8_keepWalk 71 = .ok (.invokevirtual 267, 3) := by decide +kernel
theorem dX8_keepWalk_74 : decode cX8_keepWalk 74 = .ok (.iinc 2 1, 3) := by decide +kernel
theorem dX8_keepWalk_77 : decode cX8_keepWalk 77 = .ok (.goto (-67), 3) := by decide +kernel
theorem dX8_keepWalk_80 : decode cX8_keepWalk 80 = .ok (.aload_n 1, 1) := by decide +kernel
theorem dX8_keepWalk_81 : decode cX8_keepWalk 81 = .ok (.dup, 1) := by decide +kernel
theorem dX8_keepWalk_82 : decode cX8_keepWalk 82 = .ok (.getfield 145, 3) := by decide +kernel
theorem dX8_keepWalk_85 : decode cX8_keepWalk 85 = .ok (.aload_n 0, 1) := by decide +kernel
theorem dX8_keepWalk_86 : decode cX8_keepWalk 86 = .ok (.getfield 33, 3) := by decide +kernel
theorem dX8_keepWalk_89 : decode cX8_keepWalk 89 = .ok (.getfield 121, 3) := by decide +kernel
theorem dX8_keepWalk_92 : decode cX8_keepWalk 92 = .ok (.iadd, 1) := by decide +kernel
theorem dX8_keepWalk_93 : decode cX8_keepWalk 93 = .ok (.putfield 145, 3) := by decide +kernel
theorem dX8_keepWalk_96 : decode cX8_keepWalk 96 = .ok (.return_, 1) := by decide +kernel
end
section
theorem dX9_end_0 : decode cX9_end 0 = .ok (.iload_n 1, 1) := by decide +kernel
theorem dX9_end_1 : decode cX9_end 1 = .ok (.i2l, 1) := by decide +kernel
theorem dX9_end_2 : decode cX9_end 2 = .ok (.lconst 0, 1) := by decide +kernel
theorem dX9_end_3 : decode cX9_end 3 = .ok (.aload_n 0, 1) := by decide +kernel
theorem dX9_end_4 : decode cX9_end 4 = .ok (.getfield 170, 3) := by decide +kernel
theorem dX9_end_7 : decode cX9_end 7 = .ok (.i2l, 1) := by decide +kernel
theorem dX9_end_8 : decode cX9_end 8 = .ok (.invokestatic 177, 3) := by decide +kernel
theorem dX9_end_11 : decode cX9_end 11 = .ok (.ifCond .ne 5, 3) := by decide +kernel
theorem dX9_end_14 : decode cX9_end 14 = .ok (.iconst (-1), 1) := by decide +kernel
theorem dX9_end_15 : decode cX9_end 15 = .ok (.ireturn, 1) := by decide +kernel
theorem dX9_end_16 : decode cX9_end 16 = .ok (.aload_n 0, 1) := by decide +kernel
theorem dX9_end_17 : decode cX9_end 17 = .ok (.iload_n 1, 1) := by decide +kernel
theorem dX9_end_18 : decode cX9_end 18 = .ok (.putfield 170, 3) := by decide +kernel
theorem dX9_end_21 : decode cX9_end 21 = .ok (.iload_n 1, 1) := by decide +kernel
theorem dX9_end_22 : decode cX9_end 22 = .ok (.ireturn, 1) := by decide +kernel
theorem dX9_emits_0 : decode cX9_emits 0 = .ok (.aload_n 0, 1) := by decide +kernel
theorem dX9_emits_1 : decode cX9_emits 1 = .ok (.getfield 244, 3) := by decide +kernel
theorem dX9_emits_4 : decode cX9_emits 4 = .ok (.istore 4, 2) := by decide +kernel
theorem dX9_emits_6 : decode cX9_emits 6 = .ok (.aload_n 0, 1) := by decide +kernel
theorem dX9_emits_7 : decode cX9_emits 7 = .ok (.getfield 20, 3) := by decide +kernel
theorem dX9_emits_10 : decode cX9_emits 10 = .ok (.iload 4, 2) := by decide +kernel
theorem dX9_emits_12 : decode cX9_emits 12 = .ok (.iload_n 1, 1) := by decide +kernel
theorem dX9_emits_13 : decode cX9_emits 13 = .ok (.iastore, 1) := by decide +kernel
theorem dX9_emits_14 : decode cX9_emits 14 = .ok (.aload_n 0, 1) := by decide +kernel
theorem dX9_emits_15 : decode cX9_emits 15 = .ok (.getfield 24, 3) := by decide +kernel
theorem dX9_emits_18 : decode cX9_emits 18 = .ok (.iload 4, 2) := by decide +kernel
theorem dX9_emits_20 : decode cX9_emits 20 = .ok (.iload_n 2, 1) := by decide +kernel
theorem dX9_emits_21 : decode cX9_emits 21 = .ok (.iastore, 1) := by decide +kernel
theorem dX9_emits_22 : decode cX9_emits 22 = .ok (.aload_n 0, 1) := by decide +kernel
theorem dX9_emits_23 : decode cX9_emits 23 = .ok (.getfield 27, 3) := by decide +kernel
theorem dX9_emits_26 : decode cX9_emits 26 = .ok (.iload 4, 2) := by decide +kernel
theorem dX9_emits_28 : decode cX9_emits 28 = .ok (.iload_n 3, 1) := by decide +kernel
theorem dX9_emits_29 : decode cX9_emits 29 = .ok (.iastore, 1) := by decide +kernel
theorem dX9_emits_30 : decode cX9_emits 30 = .ok (.aload_n 0, 1) := by decide +kernel
theorem dX9_emits_31 : decode cX9_emits 31 = .ok (.getfield 30, 3) := by decide +kernel
theorem dX9_emits_34 : decode cX9_emits 34 = .ok (.iload 4, 2) := by decide +kernel
theorem dX9_emits_36 : decode cX9_emits 36 = .ok (.iconst (-1), 1) := by decide +kernel
theorem dX9_emits_37 : decode cX9_emits 37 = .ok (.iastore, 1) := by decide +kernel
theorem dX9_emits_38 : decode cX9_emits 38 = .ok (.aload_n 0, 1) := by decide +kernel
theorem dX9_emits_39 : decode cX9_emits 39 = .ok (.dup, 1) := by decide +kernel
theorem dX9_emits_40 : decode cX9_emits 40 = .ok (.getfield 244, 3) := by decide +kernel
theorem dX9_emits_43 : decode cX9_emits 43 = .ok (.iconst 1, 1) := by decide +kernel
theorem dX9_emits_44 : decode cX9_emits 44 = .ok (.iadd, 1) := by decide +kernel
theorem dX9_emits_45 : decode cX9_emits 45 = .ok (.putfield 244, 3) := by decide +kernel
theorem dX9_emits_48 : decode cX9_emits 48 = .ok (.iload 4, 2) := by decide +kernel
theorem dX9_emits_50 : decode cX9_emits 50 = .ok (.ireturn, 1) := by decide +kernel
theorem dX9_doNamed_0 : decode cX9_doNamed 0 = .ok (.iconst (-1), 1) := by decide +kernel
theorem dX9_doNamed_1 : decode cX9_doNamed 1 = .ok (.istore_n 3, 1) := by decide +kernel
theorem dX9_doNamed_2 : decode cX9_doNamed 2 = .ok (.iconst 0, 1) := by decide +kernel
theorem dX9_doNamed_3 : decode cX9_doNamed 3 = .ok (.istore 4, 2) := by decide +kernel
theorem dX9_doNamed_5 : decode cX9_doNamed 5 = .ok (.iload 4, 2) := by decide +kernel
theorem dX9_doNamed_7 : decode cX9_doNamed 7 = .ok (.aload_n 0, 1) := by decide +kernel
theorem dX9_doNamed_8 : decode cX9_doNamed 8 = .ok (.getfield 254, 3) := by decide +kernel
theorem dX9_doNamed_11 : decode cX9_doNamed 11 = .ok (.if_icmp .ge 28, 3) := by decide +kernel
theorem dX9_doNamed_14 : decode cX9_doNamed 14 = .ok (.aload_n 0, 1) := by decide +kernel
theorem dX9_doNamed_15 : decode cX9_doNamed 15 = .ok (.getfield 33, 3) := by decide +kernel
theorem dX9_doNamed_18 : decode cX9_doNamed 18 = .ok (.iload 4, 2) := by decide +kernel
theorem dX9_doNamed_20 : decode cX9_doNamed 20 = .ok (.laload, 1) := by decide +kernel
theorem dX9_doNamed_21 : decode cX9_doNamed 21 = .ok (.lload_n 1, 1) := by decide +kernel
theorem dX9_doNamed_22 : decode cX9_doNamed 22 = .ok (.lcmp, 1) := by decide +kernel
theorem dX9_doNamed_23 : decode cX9_doNamed 23 = .ok (.ifCond .ne 8, 3) := by decide +kernel
theorem dX9_doNamed_26 : decode cX9_doNamed 26 = .ok (.iload 4, 2) := by decide +kernel
theorem dX9_doNamed_28 : decode cX9_doNamed 28 = .ok (.goto 4, 3) := by decide +kernel
theorem dX9_doNamed_31 : decode cX9_doNamed 31 = .ok (.iload_n 3, 1) := by decide +kernel
theorem dX9_doNamed_32 : decode cX9_doNamed 32 = .ok (.istore_n 3, 1) := by decide +kernel
theorem dX9_doNamed_33 : decode cX9_doNamed 33 = .ok (.iinc 4 1, 3) := by decide +kernel
theorem dX9_doNamed_36 : decode cX9_doNamed 36 = .ok (.goto (-31), 3) := by decide +kernel
theorem dX9_doNamed_39 : decode cX9_doNamed 39 = .ok (.iload_n 3, 1) := by decide +kernel
theorem dX9_doNamed_40 : decode cX9_doNamed 40 = .ok (.ireturn, 1) := by decide +kernel
theorem dX9_aDo_0 : decode cX9_aDo 0 = .ok (.aload_n 0, 1) := by decide +kernel
theorem dX9_aDo_1 : decode cX9_aDo 1 = .ok (.invokevirtual 225, 3) := by decide +kernel
theorem dX9_aDo_4 : decode cX9_aDo 4 = .ok (.ifCond .eq 19, 3) := by decide +kernel
theorem dX9_aDo_7 : decode cX9_aDo 7 = .ok (.aload_n 0, 1) := by decide +kernel
theorem dX9_aDo_8 : decode cX9_aDo 8 = .ok (.getfield 197, 3) := by decide +kernel
theorem dX9_aDo_11 : decode cX9_aDo 11 = .ok (.iconst 1, 1) := by decide +kernel
theorem dX9_aDo_12 : decode cX9_aDo 12 = .ok (.if_icmp .ne 11, 3) := by decide +kernel
theorem dX9_aDo_15 : decode cX9_aDo 15 = .ok (.aload_n 0, 1) := by decide +kernel
theorem dX9_aDo_16 : decode cX9_aDo 16 = .ok (.getfield 204, 3) := by decide +kernel
theorem dX9_aDo_19 : decode cX9_aDo 19 = .ok (.iconst 2, 1) := by decide +kernel
theorem dX9_aDo_20 : decode cX9_aDo 20 = .ok (.if_icmp .ge 9, 3) := by decide +kernel
theorem dX9_aDo_23 : decode cX9_aDo 23 = .ok (.aload_n 0, 1) := by decide +kernel
theorem dX9_aDo_24 : decode cX9_aDo 24 = .ok (.iconst 1, 1) := by decide +kernel
theorem dX9_aDo_25 : decode cX9_aDo 25 = .ok (.invokevirtual 236, 3) := by decide +kernel
theorem dX9_aDo_28 : decode cX9_aDo 28 = .ok (.return_, 1) := by decide +kernel
theorem dX9_aDo_29 : decode cX9_aDo 29 = .ok (.aload_n 0, 1) := by decide +kernel
theorem dX9_aDo_30 : decode cX9_aDo 30 = .ok (.aload_n 0, 1) := by decide +kernel
theorem dX9_aDo_31 : decode cX9_aDo 31 = .ok (.getfield 193, 3) := by decide +kernel
theorem dX9_aDo_34 : decode cX9_aDo 34 = .ok (.invokevirtual 257, 3) := by decide +kernel
theorem dX9_aDo_37 : decode cX9_aDo 37 = .ok (.ifCond .lt 9, 3) := by decide +kernel
theorem dX9_aDo_40 : decode cX9_aDo 40 = .ok (.aload_n 0, 1) := by decide +kernel
theorem dX9_aDo_41 : decode cX9_aDo 41 = .ok (.iconst 2, 1) := by decide +kernel
theorem dX9_aDo_42 : decode cX9_aDo 42 = .ok (.invokevirtual 236, 3) := by decide +kernel
theorem dX9_aDo_45 : decode cX9_aDo 45 = .ok (.return_, 1) := by decide +kernel
theorem dX9_aDo_46 : decode cX9_aDo 46 = .ok (.aload_n 0, 1) := by decide +kernel
theorem dX9_aDo_47 : decode cX9_aDo 47 = .ok (.getfield 254, 3) := by decide +kernel
theorem dX9_aDo_50 : decode cX9_aDo 50 = .ok (.istore_n 2, 1) := by decide +kernel
theorem dX9_aDo_51 : decode cX9_aDo 51 = .ok (.aload_n 0, 1) := by decide +kernel
theorem dX9_aDo_52 : decode cX9_aDo 52 = .ok (.getfield 33, 3) := by decide +kernel
theorem dX9_aDo_55 : decode cX9_aDo 55 = .ok (.iload_n 2, 1) := by decide +kernel
theorem dX9_aDo_56 : decode cX9_aDo 56 = .ok (.aload_n 0, 1) := by decide +kernel
theorem dX9_aDo_57 : decode cX9_aDo 57 = .ok (.getfield 193, 3) := by decide +kernel
theorem dX9_aDo_60 : decode cX9_aDo 60 = .ok (.lastore, 1) := by decide +kernel
theorem dX9_aDo_61 : decode cX9_aDo 61 = .ok (.aload_n 0, 1) := by decide +kernel
theorem dX9_aDo_62 : decode cX9_aDo 62 = .ok (.dup, 1) := by decide +kernel
theorem dX9_aDo_63 : decode cX9_aDo 63 = .ok (.getfield 254, 3) := by decide +kernel
theorem dX9_aDo_66 : decode cX9_aDo 66 = .ok (.iconst 1, 1) := by decide +kernel
theorem dX9_aDo_67 : decode cX9_aDo 67 = .ok (.iadd, 1) := by decide +kernel
theorem dX9_aDo_68 : decode cX9_aDo 68 = .ok (.putfield 254, 3) := by decide +kernel
theorem dX9_aDo_71 : decode cX9_aDo 71 = .ok (.aload_n 0, 1) := by decide +kernel
theorem dX9_aDo_72 : decode cX9_aDo 72 = .ok (.iload_n 1, 1) := by decide +kernel
theorem dX9_aDo_73 : decode cX9_aDo 73 = .ok (.invokevirtual 233, 3) := by decide +kernel
theorem dX9_aDo_76 : decode cX9_aDo 76 = .ok (.aload_n 0, 1) := by decide +kernel
theorem dX9_aDo_77 : decode cX9_aDo 77 = .ok (.iconst 1, 1) := by decide +kernel
theorem dX9_aDo_78 : decode cX9_aDo 78 = .ok (.iload_n 1, 1) := by decide +kernel
theorem dX9_aDo_79 : decode cX9_aDo 79 = .ok (.invokevirtual 261, 3) := by decide +kernel
theorem dX9_aDo_82 : decode cX9_aDo 82 = .ok (.aload_n 0, 1) := by decide +kernel
theorem dX9_aDo_83 : decode cX9_aDo 83 = .ok (.getfield 37, 3) := by decide +kernel
theorem dX9_aDo_86 : decode cX9_aDo 86 = .ok (.iload_n 2, 1) := by decide +kernel
theorem dX9_aDo_87 : decode cX9_aDo 87 = .ok (.aload_n 0, 1) := by decide +kernel
theorem dX9_aDo_88 : decode cX9_aDo 88 = .ok (.iconst 0, 1) := by decide +kernel
theorem dX9_aDo_89 : decode cX9_aDo 89 = .ok (.iconst 5, 1) := by decide +kernel
theorem dX9_aDo_90 : decode cX9_aDo 90 = .ok (.iload_n 1, 1) := by decide +kernel
theorem dX9_aDo_91 : decode cX9_aDo 91 = .ok (.invokevirtual 264, 3) := by decide +kernel
theorem dX9_aDo_94 : decode cX9_aDo 94 = .ok (.iastore, 1) := by decide +kernel
theorem dX9_aDo_95 : decode cX9_aDo 95 = .ok (.aload_n 0, 1) := by decide +kernel
theorem dX9_aDo_96 : decode cX9_aDo 96 = .ok (.iconst 2, 1) := by decide +kernel
theorem dX9_aDo_97 : decode cX9_aDo 97 = .ok (.iload_n 1, 1) := by decide +kernel
theorem dX9_aDo_98 : decode cX9_aDo 98 = .ok (.invokevirtual 261, 3) := by decide +kernel
theorem dX9_aDo_101 : decode cX9_aDo 101 = .ok (.aload_n 0, 1) := by decide +kernel
theorem dX9_aDo_102 : decode cX9_aDo 102 = .ok (.getfield 40, 3) := by decide +kernel
theorem dX9_aDo_105 : decode cX9_aDo 105 = .ok (.iload_n 2, 1) := by decide +kernel
theorem dX9_aDo_106 : decode cX9_aDo 106 = .ok (.aload_n 0, 1) := by decide +kernel
theorem dX9_aDo_107 : decode cX9_aDo 107 = .ok (.iconst 1, 1) := by decide +kernel
theorem dX9_aDo_108 : decode cX9_aDo 108 = .ok (.bipush 99, 2) := by decide +kernel
theorem dX9_aDo_110 : decode cX9_aDo 110 = .ok (.iload_n 1, 1) := by decide +kernel
theorem dX9_aDo_111 : decode cX9_aDo 111 = .ok (.invokevirtual 264, 3) := by decide +kernel
theorem dX9_aDo_114 : decode cX9_aDo 114 = .ok (.iastore, 1) := by decide +kernel
theorem dX9_aDo_115 : decode cX9_aDo 115 = .ok (.aload_n 0, 1) := by decide +kernel
theorem dX9_aDo_116 : decode cX9_aDo 116 = .ok (.getfield 43, 3) := by decide +kernel
theorem dX9_aDo_119 : decode cX9_aDo 119 = .ok (.iload_n 2, 1) := by decide +kernel
theorem dX9_aDo_120 : decode cX9_aDo 120 = .ok (.iconst (-1), 1) := by decide +kernel
theorem dX9_aDo_121 : decode cX9_aDo 121 = .ok (.iastore, 1) := by decide +kernel
theorem dX9_aDo_122 : decode cX9_aDo 122 = .ok (.aload_n 0, 1) := by decide +kernel
theorem dX9_aDo_123 : decode cX9_aDo 123 = .ok (.iconst 3, 1) := by decide +kernel
theorem dX9_aDo_124 : decode cX9_aDo 124 = .ok (.invokevirtual 239, 3) := by decide +kernel
theorem dX9_aDo_127 : decode cX9_aDo 127 = .ok (.ifCond .eq 74, 3) := by decide +kernel
theorem dX9_aDo_130 : decode cX9_aDo 130 = .ok (.aload_n 0, 1) := by decide +kernel
theorem dX9_aDo_131 : decode cX9_aDo 131 = .ok (.iload_n 1, 1) := by decide +kernel
theorem dX9_aDo_132 : decode cX9_aDo 132 = .ok (.invokevirtual 233, 3) := by decide +kernel
theorem dX9_aDo_135 : decode cX9_aDo 135 = .ok (.aload_n 0, 1) := by decide +kernel
theorem dX9_aDo_136 : decode cX9_aDo 136 = .ok (.getfield 197, 3) := by decide +kernel
theorem dX9_aDo_139 : decode cX9_aDo 139 = .ok (.iconst 1, 1) := by decide +kernel
theorem dX9_aDo_140 : decode cX9_aDo 140 = .ok (.if_icmp .ne 11, 3) := by decide +kernel
theorem dX9_aDo_143 : decode cX9_aDo 143 = .ok (.aload_n 0, 1) := by decide +kernel
theorem dX9_aDo_144 : decode cX9_aDo 144 = .ok (.getfield 204, 3) := by decide +kernel
theorem dX9_aDo_147 : decode cX9_aDo 147 = .ok (.iconst 2, 1) := by decide +kernel
theorem dX9_aDo_148 : decode cX9_aDo 148 = .ok (.if_icmp .ge 11, 3) := by decide +kernel
theorem dX9_aDo_151 : decode cX9_aDo 151 = .ok (.aload_n 0, 1) := by decide +kernel
theorem dX9_aDo_152 : decode cX9_aDo 152 = .ok (.iconst 1, 1) := by decide +kernel
theorem dX9_aDo_153 : decode cX9_aDo 153 = .ok (.invokevirtual 236, 3) := by decide +kernel
theorem dX9_aDo_156 : decode cX9_aDo 156 = .ok (.goto 19, 3) := by decide +kernel
theorem dX9_aDo_159 : decode cX9_aDo 159 = .ok (.aload_n 0, 1) := by decide +kernel
theorem dX9_aDo_160 : decode cX9_aDo 160 = .ok (.aload_n 0, 1) := by decide +kernel
theorem dX9_aDo_161 : decode cX9_aDo 161 = .ok (.getfield 193, 3) := by decide +kernel
theorem dX9_aDo_164 : decode cX9_aDo 164 = .ok (.invokevirtual 257, 3) := by decide +kernel
theorem dX9_aDo_167 : decode cX9_aDo 167 = .ok (.ifCond .ge 8, 3) := by decide +kernel
theorem dX9_aDo_170 : decode cX9_aDo 170 = .ok (.aload_n 0, 1) := by decide +kernel
theorem dX9_aDo_171 : decode cX9_aDo 171 = .ok (.iconst 2, 1) := by decide +kernel
theorem dX9_aDo_172 : decode cX9_aDo 172 = .ok (.invokevirtual 236, 3) := by decide +kernel
theorem dX9_aDo_175 : decode cX9_aDo 175 = .ok (.aload_n 0, 1) := by decide +kernel
theorem dX9_aDo_176 : decode cX9_aDo 176 = .ok (.invokevirtual 225, 3) := by decide +kernel
theorem dX9_aDo_179 : decode cX9_aDo 179 = .ok (.ifCond .eq 22, 3) := by decide +kernel
theorem dX9_aDo_182 : decode cX9_aDo 182 = .ok (.aload_n 0, 1) := by decide +kernel
theorem dX9_aDo_183 : decode cX9_aDo 183 = .ok (.getfield 43, 3) := by decide +kernel
theorem dX9_aDo_186 : decode cX9_aDo 186 = .ok (.iload_n 2, 1) := by decide +kernel
theorem dX9_aDo_187 : decode cX9_aDo 187 = .ok (.aload_n 0, 1) := by decide +kernel
theorem dX9_aDo_188 : decode cX9_aDo 188 = .ok (.aload_n 0, 1) := by decide +kernel
theorem dX9_aDo_189 : decode cX9_aDo 189 = .ok (.getfield 193, 3) := by decide +kernel
theorem dX9_aDo_192 : decode cX9_aDo 192 = .ok (.invokevirtual 257, 3) := by decide +kernel
theorem dX9_aDo_195 : decode cX9_aDo 195 = .ok (.iastore, 1) := by decide +kernel
theorem dX9_aDo_196 : decode cX9_aDo 196 = .ok (.aload_n 0, 1) := by decide +kernel
theorem dX9_aDo_197 : decode cX9_aDo 197 = .ok (.iload_n 1, 1) := by decide +kernel
theorem dX9_aDo_198 : decode cX9_aDo 198 = .ok (.invokevirtual 233, 3) := by decide +kernel
theorem dX9_aDo_201 : decode cX9_aDo 201 = .ok (.aload_n 0, 1) := by decide +kernel
theorem dX9_aDo_202 : decode cX9_aDo 202 = .ok (.bipush 59, 2) := by decide +kernel
theorem dX9_aDo_204 : decode cX9_aDo 204 = .ok (.iload_n 1, 1) := by decide +kernel
theorem dX9_aDo_205 : decode cX9_aDo 205 = .ok (.invokevirtual 247, 3) := by decide +kernel
theorem dX9_aDo_208 : decode cX9_aDo 208 = .ok (.aload_n 0, 1) := by decide +kernel
theorem dX9_aDo_209 : decode cX9_aDo 209 = .ok (.iconst 0, 1) := by decide +kernel
theorem dX9_aDo_210 : decode cX9_aDo 210 = .ok (.iload_n 2, 1) := by decide +kernel
theorem dX9_aDo_211 : decode cX9_aDo 211 = .ok (.iconst 0, 1) := by decide +kernel
theorem dX9_aDo_212 : decode cX9_aDo 212 = .ok (.invokevirtual 268, 3) := by decide +kernel
theorem dX9_aDo_215 : decode cX9_aDo 215 = .ok (.istore_n 3, 1) := by decide +kernel
theorem dX9_aDo_216 : decode cX9_aDo 216 = .ok (.aload_n 0, 1) := by decide +kernel
theorem dX9_aDo_217 : decode cX9_aDo 217 = .ok (.getfield 82, 3) := by decide +kernel
theorem dX9_aDo_220 : decode cX9_aDo 220 = .ok (.aload_n 0, 1) := by decide +kernel
theorem dX9_aDo_221 : decode cX9_aDo 221 = .ok (.getfield 251, 3) := by decide +kernel
theorem dX9_aDo_224 : decode cX9_aDo 224 = .ok (.iconst 1, 1) := by decide +kernel
theorem dX9_aDo_225 : decode cX9_aDo 225 = .ok (.bastore, 1) := by decide +kernel
theorem dX9_aDo_226 : decode cX9_aDo 226 = .ok (.return_, 1) := by decide +kernel
theorem dX9_closes_0 : decode cX9_closes 0 = .ok (.aload_n 0, 1) := by decide +kernel
theorem dX9_closes_1 : decode cX9_closes 1 = .ok (.getfield 251, 3) := by decide +kernel
theorem dX9_closes_4 : decode cX9_closes 4 = .ok (.istore_n 2, 1) := by decide +kernel
theorem dX9_closes_5 : decode cX9_closes 5 = .ok (.aload_n 0, 1) := by decide +kernel
theorem dX9_closes_6 : decode cX9_closes 6 = .ok (.getfield 82, 3) := by decide +kernel
theorem dX9_closes_9 : decode cX9_closes 9 = .ok (.iload_n 2, 1) := by decide +kernel
theorem dX9_closes_10 : decode cX9_closes 10 = .ok (.baload, 1) := by decide +kernel
theorem dX9_closes_11 : decode cX9_closes 11 = .ok (.istore_n 3, 1) := by decide +kernel
theorem dX9_closes_12 : decode cX9_closes 12 = .ok (.aload_n 0, 1) := by decide +kernel
theorem dX9_closes_13 : decode cX9_closes 13 = .ok (.getfield 73, 3) := by decide +kernel
theorem dX9_closes_16 : decode cX9_closes 16 = .ok (.iload_n 2, 1) := by decide +kernel
theorem dX9_closes_17 : decode cX9_closes 17 = .ok (.iaload, 1) := by decide +kernel
theorem dX9_closes_18 : decode cX9_closes 18 = .ok (.istore 4, 2) := by decide +kernel
theorem dX9_closes_20 : decode cX9_closes 20 = .ok (.aload_n 0, 1) := by decide +kernel
theorem dX9_closes_21 : decode cX9_closes 21 = .ok (.getfield 70, 3) := by decide +kernel
theorem dX9_closes_24 : decode cX9_closes 24 = .ok (.iload_n 2, 1) := by decide +kernel
theorem dX9_closes_25 : decode cX9_closes 25 = .ok (.iaload, 1) := by decide +kernel
theorem dX9_closes_26 : decode cX9_closes 26 = .ok (.iconst 5, 1) := by decide +kernel
theorem dX9_closes_27 : decode cX9_closes 27 = .ok (.if_icmp .ne 13, 3) := by decide +kernel
theorem dX9_closes_30 : decode cX9_closes 30 = .ok (.iload_n 3, 1) := by decide +kernel
theorem dX9_closes_31 : decode cX9_closes 31 = .ok (.ifCond .ne 9, 3) := by decide +kernel
theorem dX9_closes_34 : decode cX9_closes 34 = .ok (.aload_n 0, 1) := by decide +kernel
theorem dX9_closes_35 : decode cX9_closes 35 = .ok (.iconst 5, 1) := by decide +kernel
theorem dX9_closes_36 : decode cX9_closes 36 = .ok (.invokevirtual 236, 3) := by decide +kernel
theorem dX9_closes_39 : decode cX9_closes 39 = .ok (.return_, 1) := by decide +kernel
theorem dX9_closes_40 : decode cX9_closes 40 = .ok (.aload_n 0, 1) := by decide +kernel
theorem dX9_closes_41 : decode cX9_closes 41 = .ok (.iload_n 1, 1) := by decide +kernel
theorem dX9_closes_42 : decode cX9_closes 42 = .ok (.invokevirtual 233, 3) := by decide +kernel
theorem dX9_closes_45 : decode cX9_closes 45 = .ok (.aload_n 0, 1) := by decide +kernel
theorem dX9_closes_46 : decode cX9_closes 46 = .ok (.dup, 1) := by decide +kernel
theorem dX9_closes_47 : decode cX9_closes 47 = .ok (.getfield 251, 3) := by decide +kernel
theorem dX9_closes_50 : decode cX9_closes 50 = .ok (.iconst 1, 1) := by decide +kernel
theorem dX9_closes_51 : decode cX9_closes 51 = .ok (.isub, 1) := by decide +kernel
theorem dX9_closes_52 : decode cX9_closes 52 = .ok (.putfield 251, 3) := by decide +kernel
theorem dX9_closes_55 : decode cX9_closes 55 = .ok (.aload_n 0, 1) := by decide +kernel
theorem dX9_closes_56 : decode cX9_closes 56 = .ok (.getfield 70, 3) := by decide +kernel
theorem dX9_closes_59 : decode cX9_closes 59 = .ok (.iload_n 2, 1) := by decide +kernel
theorem dX9_closes_60 : decode cX9_closes 60 = .ok (.iaload, 1) := by decide +kernel
theorem dX9_closes_61 : decode cX9_closes 61 = .ok (.tableswitch 272 1 4 #[31, 87, 172, 219], 31) := by decide +kernel
theorem dX9_closes_92 : decode cX9_closes 92 = .ok (.aload_n 0, 1) := by decide +kernel
theorem dX9_closes_93 : decode cX9_closes 93 = .ok (.bipush 6, 2) := by decide +kernel
theorem dX9_closes_95 : decode cX9_closes 95 = .ok (.aload_n 0, 1) := by decide +kernel
theorem dX9_closes_96 : decode cX9_closes 96 = .ok (.getfield 24, 3) := by decide +kernel
theorem dX9_closes_99 : decode cX9_closes 99 = .ok (.iload 4, 2) := by decide +kernel
theorem dX9_closes_101 : decode cX9_closes 101 = .ok (.iaload, 1) := by decide +kernel
theorem dX9_closes_102 : decode cX9_closes 102 = .ok (.iconst 0, 1) := by decide +kernel
theorem dX9_closes_103 : decode cX9_closes 103 = .ok (.invokevirtual 268, 3) := by decide +kernel
theorem dX9_closes_106 : decode cX9_closes 106 = .ok (.istore 5, 2) := by decide +kernel
theorem dX9_closes_108 : decode cX9_closes 108 = .ok (.aload_n 0, 1) := by decide +kernel
theorem dX9_closes_109 : decode cX9_closes 109 = .ok (.getfield 30, 3) := by decide +kernel
theorem dX9_closes_112 : decode cX9_closes 112 = .ok (.iload 4, 2) := by decide +kernel
theorem dX9_closes_114 : decode cX9_closes 114 = .ok (.aload_n 0, 1) := by decide +kernel
theorem dX9_closes_115 : decode cX9_closes 115 = .ok (.getfield 244, 3) := by decide +kernel
theorem dX9_closes_118 : decode cX9_closes 118 = .ok (.iastore, 1) := by decide +kernel
theorem dX9_closes_119 : decode cX9_closes 119 = .ok (.aload_n 0, 1) := by decide +kernel
theorem dX9_closes_120 : decode cX9_closes 120 = .ok (.getfield 86, 3) := by decide +kernel
theorem dX9_closes_123 : decode cX9_closes 123 = .ok (.iload_n 2, 1) := by decide +kernel
theorem dX9_closes_124 : decode cX9_closes 124 = .ok (.iload_n 3, 1) := by decide +kernel
theorem dX9_closes_125 : decode cX9_closes 125 = .ok (.bastore, 1) := by decide +kernel
theorem dX9_closes_126 : decode cX9_closes 126 = .ok (.aload_n 0, 1) := by decide +kernel
theorem dX9_closes_127 : decode cX9_closes 127 = .ok (.getfield 27, 3) := by decide +kernel
theorem dX9_closes_130 : decode cX9_closes 130 = .ok (.iload 4, 2) := by decide +kernel
theorem dX9_closes_132 : decode cX9_closes 132 = .ok (.iload 5, 2) := by decide +kernel
theorem dX9_closes_134 : decode cX9_closes 134 = .ok (.iastore, 1) := by decide +kernel
theorem dX9_closes_135 : decode cX9_closes 135 = .ok (.aload_n 0, 1) := by decide +kernel
theorem dX9_closes_136 : decode cX9_closes 136 = .ok (.iconst 2, 1) := by decide +kernel
theorem dX9_closes_137 : decode cX9_closes 137 = .ok (.iload 4, 2) := by decide +kernel
theorem dX9_closes_139 : decode cX9_closes 139 = .ok (.iconst 0, 1) := by decide +kernel
theorem dX9_closes_140 : decode cX9_closes 140 = .ok (.iconst 0, 1) := by decide +kernel
theorem dX9_closes_141 : decode cX9_closes 141 = .ok (.iload_n 1, 1) := by decide +kernel
theorem dX9_closes_142 : decode cX9_closes 142 = .ok (.invokevirtual 289, 3) := by decide +kernel
theorem dX9_closes_145 : decode cX9_closes 145 = .ok (.goto 229, 3) := by decide +kernel
theorem dX9_closes_148 : decode cX9_closes 148 = .ok (.aload_n 0, 1) := by decide +kernel
theorem dX9_closes_149 : decode cX9_closes 149 = .ok (.bipush 6, 2) := by decide +kernel
theorem dX9_closes_151 : decode cX9_closes 151 = .ok (.aload_n 0, 1) := by decide +kernel
theorem dX9_closes_152 : decode cX9_closes 152 = .ok (.getfield 24, 3) := by decide +kernel
theorem dX9_closes_155 : decode cX9_closes 155 = .ok (.iload 4, 2) := by decide +kernel
theorem dX9_closes_157 : decode cX9_closes 157 = .ok (.iaload, 1) := by decide +kernel
theorem dX9_closes_158 : decode cX9_closes 158 = .ok (.iconst 0, 1) := by decide +kernel
theorem dX9_closes_159 : decode cX9_closes 159 = .ok (.invokevirtual 268, 3) := by decide +kernel
theorem dX9_closes_162 : decode cX9_closes 162 = .ok (.istore 5, 2) := by decide +kernel
theorem dX9_closes_164 : decode cX9_closes 164 = .ok (.aload_n 0, 1) := by decide +kernel
theorem dX9_closes_165 : decode cX9_closes 165 = .ok (.getfield 30, 3) := by decide +kernel
theorem dX9_closes_168 : decode cX9_closes 168 = .ok (.iload 5, 2) := by decide +kernel
theorem dX9_closes_170 : decode cX9_closes 170 = .ok (.aload_n 0, 1) := by decide +kernel
theorem dX9_closes_171 : decode cX9_closes 171 = .ok (.getfield 244, 3) := by decide +kernel
theorem dX9_closes_174 : decode cX9_closes 174 = .ok (.iastore, 1) := by decide +kernel
theorem dX9_closes_175 : decode cX9_closes 175 = .ok (.aload_n 0, 1) := by decide +kernel
theorem dX9_closes_176 : decode cX9_closes 176 = .ok (.getfield 30, 3) := by decide +kernel
theorem dX9_closes_179 : decode cX9_closes 179 = .ok (.aload_n 0, 1) := by decide +kernel
theorem dX9_closes_180 : decode cX9_closes 180 = .ok (.getfield 27, 3) := by decide +kernel
theorem dX9_closes_183 : decode cX9_closes 183 = .ok (.iload 4, 2) := by decide +kernel
theorem dX9_closes_185 : decode cX9_closes 185 = .ok (.iaload, 1) := by decide +kernel
theorem dX9_closes_186 : decode cX9_closes 186 = .ok (.aload_n 0, 1) := by decide +kernel
theorem dX9_closes_187 : decode cX9_closes 187 = .ok (.getfield 244, 3) := by decide +kernel
theorem dX9_closes_190 : decode cX9_closes 190 = .ok (.iastore, 1) := by decide +kernel
theorem dX9_closes_191 : decode cX9_closes 191 = .ok (.aload_n 0, 1) := by decide +kernel
theorem dX9_closes_192 : decode cX9_closes 192 = .ok (.getfield 82, 3) := by decide +kernel
theorem dX9_closes_195 : decode cX9_closes 195 = .ok (.aload_n 0, 1) := by decide +kernel
theorem dX9_closes_196 : decode cX9_closes 196 = .ok (.getfield 251, 3) := by decide +kernel
theorem dX9_closes_199 : decode cX9_closes 199 = .ok (.aload_n 0, 1) := by decide +kernel
theorem dX9_closes_200 : decode cX9_closes 200 = .ok (.getfield 82, 3) := by decide +kernel
theorem dX9_closes_203 : decode cX9_closes 203 = .ok (.aload_n 0, 1) := by decide +kernel
theorem dX9_closes_204 : decode cX9_closes 204 = .ok (.getfield 251, 3) := by decide +kernel
theorem dX9_closes_207 : decode cX9_closes 207 = .ok (.baload, 1) := by decide +kernel
theorem dX9_closes_208 : decode cX9_closes 208 = .ok (.ifCond .ne 16, 3) := by decide +kernel
theorem dX9_closes_211 : decode cX9_closes 211 = .ok (.iload_n 3, 1) := by decide +kernel
theorem dX9_closes_212 : decode cX9_closes 212 = .ok (.ifCond .ne 12, 3) := by decide +kernel
theorem dX9_closes_215 : decode cX9_closes 215 = .ok (.aload_n 0, 1) := by decide +kernel
theorem dX9_closes_216 : decode cX9_closes 216 = .ok (.getfield 86, 3) := by decide +kernel
theorem dX9_closes_219 : decode cX9_closes 219 = .ok (.iload_n 2, 1) := by decide +kernel
theorem dX9_closes_220 : decode cX9_closes 220 = .ok (.baload, 1) := by decide +kernel
theorem dX9_closes_221 : decode cX9_closes 221 = .ok (.ifCond .eq 7, 3) := by decide +kernel
theorem dX9_closes_224 : decode cX9_closes 224 = .ok (.iconst 1, 1) := by decide +kernel
theorem dX9_closes_225 : decode cX9_closes 225 = .ok (.goto 4, 3) := by decide +kernel
theorem dX9_closes_228 : decode cX9_closes 228 = .ok (.iconst 0, 1) := by decide +kernel
theorem dX9_closes_229 : decode cX9_closes 229 = .ok (.bastore, 1) := by decide +kernel
theorem dX9_closes_230 : decode cX9_closes 230 = .ok (.goto 144, 3) := by decide +kernel
theorem dX9_closes_233 : decode cX9_closes 233 = .ok (.aload_n 0, 1) := by decide +kernel
theorem dX9_closes_234 : decode cX9_closes 234 = .ok (.iconst 3, 1) := by decide +kernel
theorem dX9_closes_235 : decode cX9_closes 235 = .ok (.iconst 0, 1) := by decide +kernel
theorem dX9_closes_236 : decode cX9_closes 236 = .ok (.iconst 0, 1) := by decide +kernel
theorem dX9_closes_237 : decode cX9_closes 237 = .ok (.invokevirtual 268, 3) := by decide +kernel
theorem dX9_closes_240 : decode cX9_closes 240 = .ok (.istore 5, 2) := by decide +kernel
theorem dX9_closes_242 : decode cX9_closes 242 = .ok (.aload_n 0, 1) := by decide +kernel
theorem dX9_closes_243 : decode cX9_closes 243 = .ok (.getfield 30, 3) := by decide +kernel
theorem dX9_closes_246 : decode cX9_closes 246 = .ok (.iload 4, 2) := by decide +kernel
theorem dX9_closes_248 : decode cX9_closes 248 = .ok (.aload_n 0, 1) := by decide +kernel
theorem dX9_closes_249 : decode cX9_closes 249 = .ok (.getfield 244, 3) := by decide +kernel
theorem dX9_closes_252 : decode cX9_closes 252 = .ok (.iastore, 1) := by decide +kernel
theorem dX9_closes_253 : decode cX9_closes 253 = .ok (.aload_n 0, 1) := by decide +kernel
theorem dX9_closes_254 : decode cX9_closes 254 = .ok (.getfield 86, 3) := by decide +kernel
theorem dX9_closes_257 : decode cX9_closes 257 = .ok (.iload_n 2, 1) := by decide +kernel
theorem dX9_closes_258 : decode cX9_closes 258 = .ok (.iload_n 3, 1) := by decide +kernel
theorem dX9_closes_259 : decode cX9_closes 259 = .ok (.bastore, 1) := by decide +kernel
theorem dX9_closes_260 : decode cX9_closes 260 = .ok (.aload_n 0, 1) := by decide +kernel
theorem dX9_closes_261 : decode cX9_closes 261 = .ok (.bipush 6, 2) := by decide +kernel
theorem dX9_closes_263 : decode cX9_closes 263 = .ok (.iload_n 1, 1) := by decide +kernel
theorem dX9_closes_264 : decode cX9_closes 264 = .ok (.invokevirtual 261, 3) := by decide +kernel
theorem dX9_closes_267 : decode cX9_closes 267 = .ok (.aload_n 0, 1) := by decide +kernel
theorem dX9_closes_268 : decode cX9_closes 268 = .ok (.iconst 4, 1) := by decide +kernel
theorem dX9_closes_269 : decode cX9_closes 269 = .ok (.iload 5, 2) := by decide +kernel
theorem dX9_closes_271 : decode cX9_closes 271 = .ok (.iconst 0, 1) := by decide +kernel
theorem dX9_closes_272 : decode cX9_closes 272 = .ok (.iconst 0, 1) := by decide +kernel
theorem dX9_closes_273 : decode cX9_closes 273 = .ok (.iload_n 1, 1) := by decide +kernel
theorem dX9_closes_274 : decode cX9_closes 274 = .ok (.invokevirtual 289, 3) := by decide +kernel
theorem dX9_closes_277 : decode cX9_closes 277 = .ok (.goto 97, 3) := by decide +kernel
theorem dX9_closes_280 : decode cX9_closes 280 = .ok (.aload_n 0, 1) := by decide +kernel
theorem dX9_closes_281 : decode cX9_closes 281 = .ok (.getfield 30, 3) := by decide +kernel
theorem dX9_closes_284 : decode cX9_closes 284 = .ok (.iload 4, 2) := by decide +kernel
theorem dX9_closes_286 : decode cX9_closes 286 = .ok (.aload_n 0, 1) := by decide +kernel
theorem dX9_closes_287 : decode cX9_closes 287 = .ok (.getfield 244, 3) := by decide +kernel
theorem dX9_closes_290 : decode cX9_closes 290 = .ok (.iastore, 1) := by decide +kernel
theorem dX9_closes_291 : decode cX9_closes 291 = .ok (.aload_n 0, 1) := by decide +kernel
theorem dX9_closes_292 : decode cX9_closes 292 = .ok (.getfield 82, 3) := by decide +kernel
theorem dX9_closes_295 : decode cX9_closes 295 = .ok (.aload_n 0, 1) := by decide +kernel
theorem dX9_closes_296 : decode cX9_closes 296 = .ok (.getfield 251, 3) := by decide +kernel
theorem dX9_closes_299 : decode cX9_closes 299 = .ok (.aload_n 0, 1) := by decide +kernel
theorem dX9_closes_300 : decode cX9_closes 300 = .ok (.getfield 82, 3) := by decide +kernel
theorem dX9_closes_303 : decode cX9_closes 303 = .ok (.aload_n 0, 1) := by decide +kernel
theorem dX9_closes_304 : decode cX9_closes 304 = .ok (.getfield 251, 3) := by decide +kernel
theorem dX9_closes_307 : decode cX9_closes 307 = .ok (.baload, 1) := by decide +kernel
theorem dX9_closes_308 : decode cX9_closes 308 = .ok (.ifCond .ne 16, 3) := by decide +kernel
theorem dX9_closes_311 : decode cX9_closes 311 = .ok (.iload_n 3, 1) := by decide +kernel
theorem dX9_closes_312 : decode cX9_closes 312 = .ok (.ifCond .eq 16, 3) := by decide +kernel
theorem dX9_closes_315 : decode cX9_closes 315 = .ok (.aload_n 0, 1) := by decide +kernel
theorem dX9_closes_316 : decode cX9_closes 316 = .ok (.getfield 86, 3) := by decide +kernel
theorem dX9_closes_319 : decode cX9_closes 319 = .ok (.iload_n 2, 1) := by decide +kernel
theorem dX9_closes_320 : decode cX9_closes 320 = .ok (.baload, 1) := by decide +kernel
theorem dX9_closes_321 : decode cX9_closes 321 = .ok (.ifCond .eq 7, 3) := by decide +kernel
theorem dX9_closes_324 : decode cX9_closes 324 = .ok (.iconst 1, 1) := by decide +kernel
theorem dX9_closes_325 : decode cX9_closes 325 = .ok (.goto 4, 3) := by decide +kernel
theorem dX9_closes_328 : decode cX9_closes 328 = .ok (.iconst 0, 1) := by decide +kernel
theorem dX9_closes_329 : decode cX9_closes 329 = .ok (.bastore, 1) := by decide +kernel
theorem dX9_closes_330 : decode cX9_closes 330 = .ok (.goto 44, 3) := by decide +kernel
theorem dX9_closes_333 : decode cX9_closes 333 = .ok (.aload_n 0, 1) := by decide +kernel
theorem dX9_closes_334 : decode cX9_closes 334 = .ok (.iconst 4, 1) := by decide +kernel
theorem dX9_closes_335 : decode cX9_closes 335 = .ok (.aload_n 0, 1) := by decide +kernel
theorem dX9_closes_336 : decode cX9_closes 336 = .ok (.getfield 76, 3) := by decide +kernel
theorem dX9_closes_339 : decode cX9_closes 339 = .ok (.iload_n 2, 1) := by decide +kernel
theorem dX9_closes_340 : decode cX9_closes 340 = .ok (.iaload, 1) := by decide +kernel
theorem dX9_closes_341 : decode cX9_closes 341 = .ok (.aload_n 0, 1) := by decide +kernel
theorem dX9_closes_342 : decode cX9_closes 342 = .ok (.getfield 79, 3) := by decide +kernel
theorem dX9_closes_345 : decode cX9_closes 345 = .ok (.iload_n 2, 1) := by decide +kernel
theorem dX9_closes_346 : decode cX9_closes 346 = .ok (.iaload, 1) := by decide +kernel
theorem dX9_closes_347 : decode cX9_closes 347 = .ok (.invokevirtual 268, 3) := by decide +kernel
theorem dX9_closes_350 : decode cX9_closes 350 = .ok (.istore 5, 2) := by decide +kernel
theorem dX9_closes_352 : decode cX9_closes 352 = .ok (.aload_n 0, 1) := by decide +kernel
theorem dX9_closes_353 : decode cX9_closes 353 = .ok (.getfield 30, 3) := by decide +kernel
theorem dX9_closes_356 : decode cX9_closes 356 = .ok (.iload 5, 2) := by decide +kernel
theorem dX9_closes_358 : decode cX9_closes 358 = .ok (.iload 4, 2) := by decide +kernel
theorem dX9_closes_360 : decode cX9_closes 360 = .ok (.iastore, 1) := by decide +kernel
theorem dX9_closes_361 : decode cX9_closes 361 = .ok (.aload_n 0, 1) := by decide +kernel
theorem dX9_closes_362 : decode cX9_closes 362 = .ok (.getfield 82, 3) := by decide +kernel
theorem dX9_closes_365 : decode cX9_closes 365 = .ok (.aload_n 0, 1) := by decide +kernel
theorem dX9_closes_366 : decode cX9_closes 366 = .ok (.getfield 251, 3) := by decide +kernel
theorem dX9_closes_369 : decode cX9_closes 369 = .ok (.iconst 1, 1) := by decide +kernel
theorem dX9_closes_370 : decode cX9_closes 370 = .ok (.bastore, 1) := by decide +kernel
theorem dX9_closes_371 : decode cX9_closes 371 = .ok (.goto 3, 3) := by decide +kernel
theorem dX9_closes_374 : decode cX9_closes 374 = .ok (.return_, 1) := by decide +kernel
theorem dX9_business_0 : decode cX9_business 0 = .ok (.aload_n 0, 1) := by decide +kernel
theorem dX9_business_1 : decode cX9_business 1 = .ok (.getfield 170, 3) := by decide +kernel
theorem dX9_business_4 : decode cX9_business 4 = .ok (.istore_n 1, 1) := by decide +kernel
theorem dX9_business_5 : decode cX9_business 5 = .ok (.aload_n 0, 1) := by decide +kernel
theorem dX9_business_6 : decode cX9_business 6 = .ok (.iconst 0, 1) := by decide +kernel
theorem dX9_business_7 : decode cX9_business 7 = .ok (.putfield 170, 3) := by decide +kernel
theorem dX9_business_10 : decode cX9_business 10 = .ok (.aload_n 0, 1) := by decide +kernel
theorem dX9_business_11 : decode cX9_business 11 = .ok (.iconst 0, 1) := by decide +kernel
theorem dX9_business_12 : decode cX9_business 12 = .ok (.putfield 190, 3) := by decide +kernel
theorem dX9_business_15 : decode cX9_business 15 = .ok (.aload_n 0, 1) := by decide +kernel
theorem dX9_business_16 : decode cX9_business 16 = .ok (.iconst 0, 1) := by decide +kernel
theorem dX9_business_17 : decode cX9_business 17 = .ok (.putfield 181, 3) := by decide +kernel
theorem dX9_business_20 : decode cX9_business 20 = .ok (.aload_n 0, 1) := by decide +kernel
theorem dX9_business_21 : decode cX9_business 21 = .ok (.iconst (-1), 1) := by decide +kernel
theorem dX9_business_22 : decode cX9_business 22 = .ok (.putfield 187, 3) := by decide +kernel
theorem dX9_business_25 : decode cX9_business 25 = .ok (.aload_n 0, 1) := by decide +kernel
theorem dX9_business_26 : decode cX9_business 26 = .ok (.iconst 0, 1) := by decide +kernel
theorem dX9_business_27 : decode cX9_business 27 = .ok (.putfield 277, 3) := by decide +kernel
theorem dX9_business_30 : decode cX9_business 30 = .ok (.aload_n 0, 1) := by decide +kernel
theorem dX9_business_31 : decode cX9_business 31 = .ok (.iconst 0, 1) := by decide +kernel
theorem dX9_business_32 : decode cX9_business 32 = .ok (.putfield 254, 3) := by decide +kernel
theorem dX9_business_35 : decode cX9_business 35 = .ok (.aload_n 0, 1) := by decide +kernel
theorem dX9_business_36 : decode cX9_business 36 = .ok (.iconst 0, 1) := by decide +kernel
theorem dX9_business_37 : decode cX9_business 37 = .ok (.putfield 286, 3) := by decide +kernel
theorem dX9_business_40 : decode cX9_business 40 = .ok (.aload_n 0, 1) := by decide +kernel
theorem dX9_business_41 : decode cX9_business 41 = .ok (.iconst 0, 1) := by decide +kernel
theorem dX9_business_42 : decode cX9_business 42 = .ok (.putfield 244, 3) := by decide +kernel
theorem dX9_business_45 : decode cX9_business 45 = .ok (.aload_n 0, 1) := by decide +kernel
theorem dX9_business_46 : decode cX9_business 46 = .ok (.iconst 0, 1) := by decide +kernel
theorem dX9_business_47 : decode cX9_business 47 = .ok (.putfield 251, 3) := by decide +kernel
theorem dX9_business_50 : decode cX9_business 50 = .ok (.aload_n 0, 1) := by decide +kernel
theorem dX9_business_51 : decode cX9_business 51 = .ok (.getfield 82, 3) := by decide +kernel
theorem dX9_business_54 : decode cX9_business 54 = .ok (.iconst 0, 1) := by decide +kernel
theorem dX9_business_55 : decode cX9_business 55 = .ok (.iconst 0, 1) := by decide +kernel
theorem dX9_business_56 : decode cX9_business 56 = .ok (.bastore, 1) := by decide +kernel
theorem dX9_business_57 : decode cX9_business 57 = .ok (.aload_n 0, 1) := by decide +kernel
theorem dX9_business_58 : decode cX9_business 58 = .ok (.iload_n 1, 1) := by decide +kernel
theorem dX9_business_59 : decode cX9_business 59 = .ok (.invokevirtual 233, 3) := by decide +kernel
theorem dX9_business_62 : decode cX9_business 62 = .ok (.aload_n 0, 1) := by decide +kernel
theorem dX9_business_63 : decode cX9_business 63 = .ok (.invokevirtual 225, 3) := by decide +kernel
theorem dX9_business_66 : decode cX9_business 66 = .ok (.ifCond .eq 49, 3) := by decide +kernel
theorem dX9_business_69 : decode cX9_business 69 = .ok (.aload_n 0, 1) := by decide +kernel
theorem dX9_business_70 : decode cX9_business 70 = .ok (.getfield 197, 3) := by decide +kernel
theorem dX9_business_73 : decode cX9_business 73 = .ok (.ifCond .ne 10, 3) := by decide +kernel
theorem dX9_business_76 : decode cX9_business 76 = .ok (.aload_n 0, 1) := by decide +kernel
theorem dX9_business_77 : decode cX9_business 77 = .ok (.getfield 251, 3) := by decide +kernel
theorem dX9_business_80 : decode cX9_business 80 = .ok (.ifCond .le 35, 3) := by decide +kernel
theorem dX9_business_83 : decode cX9_business 83 = .ok (.aload_n 0, 1) := by decide +kernel
theorem dX9_business_84 : decode cX9_business 84 = .ok (.bipush 125, 2) := by decide +kernel
theorem dX9_business_86 : decode cX9_business 86 = .ok (.invokevirtual 229, 3) := by decide +kernel
theorem dX9_business_89 : decode cX9_business 89 = .ok (.ifCond .eq 18, 3) := by decide +kernel
theorem dX9_business_92 : decode cX9_business 92 = .ok (.aload_n 0, 1) := by decide +kernel
theorem dX9_business_93 : decode cX9_business 93 = .ok (.getfield 251, 3) := by decide +kernel
theorem dX9_business_96 : decode cX9_business 96 = .ok (.ifCond .le 11, 3) := by decide +kernel
theorem dX9_business_99 : decode cX9_business 99 = .ok (.aload_n 0, 1) := by decide +kernel
theorem dX9_business_100 : decode cX9_business 100 = .ok (.iload_n 1, 1) := by decide +kernel
theorem dX9_business_101 : decode cX9_business 101 = .ok (.invokevirtual 293, 3) := by decide +kernel
theorem dX9_business_104 : decode cX9_business 104 = .ok (.goto (-42), 3) := by decide +kernel
theorem dX9_business_107 : decode cX9_business 107 = .ok (.aload_n 0, 1) := by decide +kernel
theorem dX9_business_108 : decode cX9_business 108 = .ok (.iload_n 1, 1) := by decide +kernel
theorem dX9_business_109 : decode cX9_business 109 = .ok (.invokevirtual 296, 3) := by decide +kernel
theorem dX9_business_112 : decode cX9_business 112 = .ok (.goto (-50), 3) := by decide +kernel
theorem dX9_business_115 : decode cX9_business 115 = .ok (.aload_n 0, 1) := by decide +kernel
theorem dX9_business_116 : decode cX9_business 116 = .ok (.aload_n 0, 1) := by decide +kernel
theorem dX9_business_117 : decode cX9_business 117 = .ok (.getfield 181, 3) := by decide +kernel
theorem dX9_business_120 : decode cX9_business 120 = .ok (.putfield 13, 3) := by decide +kernel
theorem dX9_business_123 : decode cX9_business 123 = .ok (.aload_n 0, 1) := by decide +kernel
theorem dX9_business_124 : decode cX9_business 124 = .ok (.aload_n 0, 1) := by decide +kernel
theorem dX9_business_125 : decode cX9_business 125 = .ok (.getfield 187, 3) := by decide +kernel
theorem dX9_business_128 : decode cX9_business 128 = .ok (.putfield 17, 3) := by decide +kernel
theorem dX9_business_131 : decode cX9_business 131 = .ok (.aload_n 0, 1) := by decide +kernel
theorem dX9_business_132 : decode cX9_business 132 = .ok (.invokevirtual 225, 3) := by decide +kernel
theorem dX9_business_135 : decode cX9_business 135 = .ok (.ifCond .ne 5, 3) := by decide +kernel
theorem dX9_business_138 : decode cX9_business 138 = .ok (.iconst (-1), 1) := by decide +kernel
theorem dX9_business_139 : decode cX9_business 139 = .ok (.ireturn, 1) := by decide +kernel
theorem dX9_business_140 : decode cX9_business 140 = .ok (.aload_n 0, 1) := by decide +kernel
theorem dX9_business_141 : decode cX9_business 141 = .ok (.invokevirtual 299, 3) := by decide +kernel
theorem dX9_business_144 : decode cX9_business 144 = .ok (.aload_n 0, 1) := by decide +kernel
theorem dX9_business_145 : decode cX9_business 145 = .ok (.getfield 46, 3) := by decide +kernel
theorem dX9_business_148 : decode cX9_business 148 = .ok (.ireturn, 1) := by decide +kernel
theorem dX9_deputy_0 : decode cX9_deputy 0 = .ok (.aload_n 0, 1) := by decide +kernel
theorem dX9_deputy_1 : decode cX9_deputy 1 = .ok (.iload_n 1, 1) := by decide +kernel
theorem dX9_deputy_2 : decode cX9_deputy 2 = .ok (.invokevirtual 318, 3) := by decide +kernel
theorem dX9_deputy_5 : decode cX9_deputy 5 = .ok (.ifCond .eq 21, 3) := by decide +kernel
theorem dX9_deputy_8 : decode cX9_deputy 8 = .ok (.iload_n 2, 1) := by decide +kernel
theorem dX9_deputy_9 : decode cX9_deputy 9 = .ok (.iload_n 1, 1) := by decide +kernel
theorem dX9_deputy_10 : decode cX9_deputy 10 = .ok (.if_icmp .eq 16, 3) := by decide +kernel
theorem dX9_deputy_13 : decode cX9_deputy 13 = .ok (.iload_n 2, 1) := by decide +kernel
theorem dX9_deputy_14 : decode cX9_deputy 14 = .ok (.iconst (-1), 1) := by decide +kernel
theorem dX9_deputy_15 : decode cX9_deputy 15 = .ok (.if_icmp .eq 13, 3) := by decide +kernel
theorem dX9_deputy_18 : decode cX9_deputy 18 = .ok (.aload_n 0, 1) := by decide +kernel
theorem dX9_deputy_19 : decode cX9_deputy 19 = .ok (.iload_n 2, 1) := by decide +kernel
theorem dX9_deputy_20 : decode cX9_deputy 20 = .ok (.invokevirtual 318, 3) := by decide +kernel
theorem dX9_deputy_23 : decode cX9_deputy 23 = .ok (.ifCond .ne 5, 3) := by decide +kernel
theorem dX9_deputy_26 : decode cX9_deputy 26 = .ok (.iconst 0, 1) := by decide +kernel
theorem dX9_deputy_27 : decode cX9_deputy 27 = .ok (.ireturn, 1) := by decide +kernel
theorem dX9_deputy_28 : decode cX9_deputy 28 = .ok (.aload_n 0, 1) := by decide +kernel
theorem dX9_deputy_29 : decode cX9_deputy 29 = .ok (.getfield 158, 3) := by decide +kernel
theorem dX9_deputy_32 : decode cX9_deputy 32 = .ok (.iload_n 1, 1) := by decide +kernel
theorem dX9_deputy_33 : decode cX9_deputy 33 = .ok (.iload_n 2, 1) := by decide +kernel
theorem dX9_deputy_34 : decode cX9_deputy 34 = .ok (.iastore, 1) := by decide +kernel
theorem dX9_deputy_35 : decode cX9_deputy 35 = .ok (.iconst 1, 1) := by decide +kernel
theorem dX9_deputy_36 : decode cX9_deputy 36 = .ok (.ireturn, 1) := by decide +kernel
theorem dX9_away_0 : decode cX9_away 0 = .ok (.aload_n 0, 1) := by decide +kernel
theorem dX9_away_1 : decode cX9_away 1 = .ok (.iload_n 1, 1) := by decide +kernel
theorem dX9_away_2 : decode cX9_away 2 = .ok (.invokevirtual 318, 3) := by decide +kernel
theorem dX9_away_5 : decode cX9_away 5 = .ok (.ifCond .ne 5, 3) := by decide +kernel
theorem dX9_away_8 : decode cX9_away 8 = .ok (.iconst 0, 1) := by decide +kernel
theorem dX9_away_9 : decode cX9_away 9 = .ok (.ireturn, 1) := by decide +kernel
theorem dX9_away_10 : decode cX9_away 10 = .ok (.aload_n 0, 1) := by decide +kernel
theorem dX9_away_11 : decode cX9_away 11 = .ok (.getfield 161, 3) := by decide +kernel
theorem dX9_away_14 : decode cX9_away 14 = .ok (.iload_n 1, 1) := by decide +kernel
theorem dX9_away_15 : decode cX9_away 15 = .ok (.iload_n 2, 1) := by decide +kernel
theorem dX9_away_16 : decode cX9_away 16 = .ok (.bastore, 1) := by decide +kernel
theorem dX9_away_17 : decode cX9_away 17 = .ok (.iconst 0, 1) := by decide +kernel
theorem dX9_away_18 : decode cX9_away 18 = .ok (.istore_n 3, 1) := by decide +kernel
theorem dX9_away_19 : decode cX9_away 19 = .ok (.iload_n 3, 1) := by decide +kernel
theorem dX9_away_20 : decode cX9_away 20 = .ok (.aload_n 0, 1) := by decide +kernel
theorem dX9_away_21 : decode cX9_away 21 = .ok (.getfield 311, 3) := by decide +kernel
theorem dX9_away_24 : decode cX9_away 24 = .ok (.if_icmp .ge 47, 3) := by decide +kernel
theorem dX9_away_27 : decode cX9_away 27 = .ok (.iload_n 2, 1) := by decide +kernel
theorem dX9_away_28 : decode cX9_away 28 = .ok (.ifCond .eq 43, 3) := by decide +kernel
theorem dX9_away_31 : decode cX9_away 31 = .ok (.aload_n 0, 1) := by decide +kernel
theorem dX9_away_32 : decode cX9_away 32 = .ok (.getfield 143, 3) := by decide +kernel
theorem dX9_away_35 : decode cX9_away 35 = .ok (.iload_n 3, 1) := by decide +kernel
theorem dX9_away_36 : decode cX9_away 36 = .ok (.iaload, 1) := by decide +kernel
theorem dX9_away_37 : decode cX9_away 37 = .ok (.iconst 1, 1) := by decide +kernel
theorem dX9_away_38 : decode cX9_away 38 = .ok (.if_icmp .ne 27, 3) := by decide +kernel
theorem dX9_away_41 : decode cX9_away 41 = .ok (.aload_n 0, 1) := by decide +kernel
theorem dX9_away_42 : decode cX9_away 42 = .ok (.getfield 146, 3) := by decide +kernel
theorem dX9_away_45 : decode cX9_away 45 = .ok (.iload_n 3, 1) := by decide +kernel
theorem dX9_away_46 : decode cX9_away 46 = .ok (.iaload, 1) := by decide +kernel
theorem dX9_away_47 : decode cX9_away 47 = .ok (.iload_n 1, 1) := by decide +kernel
theorem dX9_away_48 : decode cX9_away 48 = .ok (.if_icmp .ne 17, 3) := by decide +kernel
theorem dX9_away_51 : decode cX9_away 51 = .ok (.aload_n 0, 1) := by decide +kernel
theorem dX9_away_52 : decode cX9_away 52 = .ok (.getfield 143, 3) := by decide +kernel
theorem dX9_away_55 : decode cX9_away 55 = .ok (.iload_n 3, 1) := by decide +kernel
theorem dX9_away_56 : decode cX9_away 56 = .ok (.iconst 0, 1) := by decide +kernel
theorem dX9_away_57 : decode cX9_away 57 = .ok (.iastore, 1) := by decide +kernel
theorem dX9_away_58 : decode cX9_away 58 = .ok (.aload_n 0, 1) := by decide +kernel
theorem dX9_away_59 : decode cX9_away 59 = .ok (.getfield 146, 3) := by decide +kernel
theorem dX9_away_62 : decode cX9_away 62 = .ok (.iload_n 3, 1) := by decide +kernel
theorem dX9_away_63 : decode cX9_away 63 = .ok (.iconst (-1), 1) := by decide +kernel
theorem dX9_away_64 : decode cX9_away 64 = .ok (.iastore, 1) := by decide +kernel
theorem dX9_away_65 : decode cX9_away 65 = .ok (.iinc 3 1, 3) := by decide +kernel
theorem dX9_away_68 : decode cX9_away 68 = .ok (.goto (-49), 3) := by decide +kernel
theorem dX9_away_71 : decode cX9_away 71 = .ok (.iconst 1, 1) := by decide +kernel
theorem dX9_away_72 : decode cX9_away 72 = .ok (.ireturn, 1) := by decide +kernel
theorem dX9_behind_0 : decode cX9_behind 0 = .ok (.iload_n 0, 1) := by decide +kernel
theorem dX9_behind_1 : decode cX9_behind 1 = .ok (.istore_n 2, 1) := by decide +kernel
theorem dX9_behind_2 : decode cX9_behind 2 = .ok (.iload_n 1, 1) := by decide +kernel
theorem dX9_behind_3 : decode cX9_behind 3 = .ok (.istore_n 3, 1) := by decide +kernel
theorem dX9_behind_4 : decode cX9_behind 4 = .ok (.iload_n 3, 1) := by decide +kernel
theorem dX9_behind_5 : decode cX9_behind 5 = .ok (.ifCond .le 24, 3) := by decide +kernel
theorem dX9_behind_8 : decode cX9_behind 8 = .ok (.iload_n 3, 1) := by decide +kernel
theorem dX9_behind_9 : decode cX9_behind 9 = .ok (.iload_n 2, 1) := by decide +kernel
theorem dX9_behind_10 : decode cX9_behind 10 = .ok (.invokestatic 326, 3) := by decide +kernel
theorem dX9_behind_13 : decode cX9_behind 13 = .ok (.ifCond .eq 7, 3) := by decide +kernel
theorem dX9_behind_16 : decode cX9_behind 16 = .ok (.iconst 1, 1) := by decide +kernel
theorem dX9_behind_17 : decode cX9_behind 17 = .ok (.goto 4, 3) := by decide +kernel
theorem dX9_behind_20 : decode cX9_behind 20 = .ok (.iconst 0, 1) := by decide +kernel
theorem dX9_behind_21 : decode cX9_behind 21 = .ok (.isub, 1) := by decide +kernel
theorem dX9_behind_22 : decode cX9_behind 22 = .ok (.istore_n 3, 1) := by decide +kernel
theorem dX9_behind_23 : decode cX9_behind 23 = .ok (.iinc 2 1, 3) := by decide +kernel
theorem dX9_behind_26 : decode cX9_behind 26 = .ok (.goto (-22), 3) := by decide +kernel
theorem dX9_behind_29 : decode cX9_behind 29 = .ok (.iload_n 2, 1) := by decide +kernel
theorem dX9_behind_30 : decode cX9_behind 30 = .ok (.ireturn, 1) := by decide +kernel
theorem dX9_due_0 : decode cX9_due 0 = .ok (.iload_n 1, 1) := by decide +kernel
theorem dX9_due_1 : decode cX9_due 1 = .ok (.i2l, 1) := by decide +kernel
theorem dX9_due_2 : decode cX9_due 2 = .ok (.lconst 0, 1) := by decide +kernel
theorem dX9_due_3 : decode cX9_due 3 = .ok (.ldc2_w 324, 3) := by decide +kernel
theorem dX9_due_6 : decode cX9_due 6 = .ok (.invokestatic 177, 3) := by decide +kernel
theorem dX9_due_9 : decode cX9_due 9 = .ok (.ifCond .eq 23, 3) := by decide +kernel
theorem dX9_due_12 : decode cX9_due 12 = .ok (.iload_n 2, 1) := by decide +kernel
theorem dX9_due_13 : decode cX9_due 13 = .ok (.i2l, 1) := by decide +kernel
theorem dX9_due_14 : decode cX9_due 14 = .ok (.lconst 1, 1) := by decide +kernel
theorem dX9_due_15 : decode cX9_due 15 = .ok (.ldc2_w 329, 3) := by decide +kernel
theorem dX9_due_18 : decode cX9_due 18 = .ok (.invokestatic 177, 3) := by decide +kernel
theorem dX9_due_21 : decode cX9_due 21 = .ok (.ifCond .eq 11, 3) := by decide +kernel
theorem dX9_due_24 : decode cX9_due 24 = .ok (.iload_n 1, 1) := by decide +kernel
theorem dX9_due_25 : decode cX9_due 25 = .ok (.iload_n 2, 1) := by decide +kernel
theorem dX9_due_26 : decode cX9_due 26 = .ok (.invokestatic 331, 3) := by decide +kernel
theorem dX9_due_29 : decode cX9_due 29 = .ok (.goto 4, 3) := by decide +kernel
theorem dX9_due_32 : decode cX9_due 32 = .ok (.iconst (-1), 1) := by decide +kernel
theorem dX9_due_33 : decode cX9_due 33 = .ok (.ireturn, 1) := by decide +kernel
theorem dX9_comes_0 : decode cX9_comes 0 = .ok (.aload_n 0, 1) := by decide +kernel
theorem dX9_comes_1 : decode cX9_comes 1 = .ok (.getfield 128, 3) := by decide +kernel
theorem dX9_comes_4 : decode cX9_comes 4 = .ok (.aload_n 0, 1) := by decide +kernel
theorem dX9_comes_5 : decode cX9_comes 5 = .ok (.getfield 311, 3) := by decide +kernel
theorem dX9_comes_8 : decode cX9_comes 8 = .ok (.iload_n 1, 1) := by decide +kernel
theorem dX9_comes_9 : decode cX9_comes 9 = .ok (.iastore, 1) := by decide +kernel
theorem dX9_comes_10 : decode cX9_comes 10 = .ok (.aload_n 0, 1) := by decide +kernel
theorem dX9_comes_11 : decode cX9_comes 11 = .ok (.getfield 131, 3) := by decide +kernel
theorem dX9_comes_14 : decode cX9_comes 14 = .ok (.aload_n 0, 1) := by decide +kernel
theorem dX9_comes_15 : decode cX9_comes 15 = .ok (.getfield 311, 3) := by decide +kernel
theorem dX9_comes_18 : decode cX9_comes 18 = .ok (.iload_n 2, 1) := by decide +kernel
theorem dX9_comes_19 : decode cX9_comes 19 = .ok (.iastore, 1) := by decide +kernel
theorem dX9_comes_20 : decode cX9_comes 20 = .ok (.aload_n 0, 1) := by decide +kernel
theorem dX9_comes_21 : decode cX9_comes 21 = .ok (.getfield 134, 3) := by decide +kernel
theorem dX9_comes_24 : decode cX9_comes 24 = .ok (.aload_n 0, 1) := by decide +kernel
theorem dX9_comes_25 : decode cX9_comes 25 = .ok (.getfield 311, 3) := by decide +kernel
theorem dX9_comes_28 : decode cX9_comes 28 = .ok (.iload_n 3, 1) := by decide +kernel
theorem dX9_comes_29 : decode cX9_comes 29 = .ok (.iastore, 1) := by decide +kernel
theorem dX9_comes_30 : decode cX9_comes 30 = .ok (.aload_n 0, 1) := by decide +kernel
theorem dX9_comes_31 : decode cX9_comes 31 = .ok (.getfield 137, 3) := by decide +kernel
theorem dX9_comes_34 : decode cX9_comes 34 = .ok (.aload_n 0, 1) := by decide +kernel
theorem dX9_comes_35 : decode cX9_comes 35 = .ok (.getfield 311, 3) := by decide +kernel
theorem dX9_comes_38 : decode cX9_comes 38 = .ok (.aload_n 0, 1) := by decide +kernel
theorem dX9_comes_39 : decode cX9_comes 39 = .ok (.getfield 321, 3) := by decide +kernel
theorem dX9_comes_42 : decode cX9_comes 42 = .ok (.iastore, 1) := by decide +kernel
theorem dX9_comes_43 : decode cX9_comes 43 = .ok (.aload_n 0, 1) := by decide +kernel
theorem dX9_comes_44 : decode cX9_comes 44 = .ok (.getfield 140, 3) := by decide +kernel
theorem dX9_comes_47 : decode cX9_comes 47 = .ok (.aload_n 0, 1) := by decide +kernel
theorem dX9_comes_48 : decode cX9_comes 48 = .ok (.getfield 311, 3) := by decide +kernel
theorem dX9_comes_51 : decode cX9_comes 51 = .ok (.aload_n 0, 1) := by decide +kernel
theorem dX9_comes_52 : decode cX9_comes 52 = .ok (.getfield 321, 3) := by decide +kernel
theorem dX9_comes_55 : decode cX9_comes 55 = .ok (.aload_n 0, 1) := by decide +kernel
theorem dX9_comes_56 : decode cX9_comes 56 = .ok (.getfield 107, 3) := by decide +kernel
theorem dX9_comes_59 : decode cX9_comes 59 = .ok (.bipush 40, 2) := by decide +kernel
theorem dX9_comes_61 : decode cX9_comes 61 = .ok (.iload_n 1, 1) := by decide +kernel
theorem dX9_comes_62 : decode cX9_comes 62 = .ok (.imul, 1) := by decide +kernel
theorem dX9_comes_63 : decode cX9_comes 63 = .ok (.iload_n 2, 1) := by decide +kernel
theorem dX9_comes_64 : decode cX9_comes 64 = .ok (.iadd, 1) := by decide +kernel
theorem dX9_comes_65 : decode cX9_comes 65 = .ok (.iaload, 1) := by decide +kernel
theorem dX9_comes_66 : decode cX9_comes 66 = .ok (.invokestatic 331, 3) := by decide +kernel
theorem dX9_comes_69 : decode cX9_comes 69 = .ok (.iastore, 1) := by decide +kernel
theorem dX9_comes_70 : decode cX9_comes 70 = .ok (.aload_n 0, 1) := by decide +kernel
theorem dX9_comes_71 : decode cX9_comes 71 = .ok (.getfield 143, 3) := by decide +kernel
theorem dX9_comes_74 : decode cX9_comes 74 = .ok (.aload_n 0, 1) := by decide +kernel
theorem dX9_comes_75 : decode cX9_comes 75 = .ok (.getfield 311, 3) := by decide +kernel
theorem dX9_comes_78 : decode cX9_comes 78 = .ok (.iconst 0, 1) := by decide +kernel
theorem dX9_comes_79 : decode cX9_comes 79 = .ok (.iastore, 1) := by decide +kernel
theorem dX9_comes_80 : decode cX9_comes 80 = .ok (.aload_n 0, 1) := by decide +kernel
theorem dX9_comes_81 : decode cX9_comes 81 = .ok (.getfield 146, 3) := by decide +kernel
theorem dX9_comes_84 : decode cX9_comes 84 = .ok (.aload_n 0, 1) := by decide +kernel
theorem dX9_comes_85 : decode cX9_comes 85 = .ok (.getfield 311, 3) := by decide +kernel
theorem dX9_comes_88 : decode cX9_comes 88 = .ok (.iconst (-1), 1) := by decide +kernel
theorem dX9_comes_89 : decode cX9_comes 89 = .ok (.iastore, 1) := by decide +kernel
theorem dX9_comes_90 : decode cX9_comes 90 = .ok (.aload_n 0, 1) := by decide +kernel
theorem dX9_comes_91 : decode cX9_comes 91 = .ok (.getfield 149, 3) := by decide +kernel
theorem dX9_comes_94 : decode cX9_comes 94 = .ok (.aload_n 0, 1) := by decide +kernel
theorem dX9_comes_95 : decode cX9_comes 95 = .ok (.getfield 311, 3) := by decide +kernel
theorem dX9_comes_98 : decode cX9_comes 98 = .ok (.iconst (-1), 1) := by decide +kernel
theorem dX9_comes_99 : decode cX9_comes 99 = .ok (.iastore, 1) := by decide +kernel
theorem dX9_comes_100 : decode cX9_comes 100 = .ok (.aload_n 0, 1) := by decide +kernel
theorem dX9_comes_101 : decode cX9_comes 101 = .ok (.dup, 1) := by decide +kernel
theorem dX9_comes_102 : decode cX9_comes 102 = .ok (.getfield 311, 3) := by decide +kernel
theorem dX9_comes_105 : decode cX9_comes 105 = .ok (.iconst 1, 1) := by decide +kernel
theorem dX9_comes_106 : decode cX9_comes 106 = .ok (.iadd, 1) := by decide +kernel
theorem dX9_comes_107 : decode cX9_comes 107 = .ok (.putfield 311, 3) := by decide +kernel
theorem dX9_comes_110 : decode cX9_comes 110 = .ok (.return_, 1) := by decide +kernel
theorem dX9_didLast_0 : decode cX9_didLast 0 = .ok (.iconst (-1), 1) := by decide +kernel
theorem dX9_didLast_1 : decode cX9_didLast 1 = .ok (.istore_n 3, 1) := by decide +kernel
theorem dX9_didLast_2 : decode cX9_didLast 2 = .ok (.iconst (-1), 1) := by decide +kernel
theorem dX9_didLast_3 : decode cX9_didLast 3 = .ok (.istore 4, 2) := by decide +kernel
theorem dX9_didLast_5 : decode cX9_didLast 5 = .ok (.iconst 0, 1) := by decide +kernel
theorem dX9_didLast_6 : decode cX9_didLast 6 = .ok (.istore 5, 2) := by decide +kernel
theorem dX9_didLast_8 : decode cX9_didLast 8 = .ok (.iload 5, 2) := by decide +kernel
theorem dX9_didLast_10 : decode cX9_didLast 10 = .ok (.aload_n 0, 1) := by decide +kernel
theorem dX9_didLast_11 : decode cX9_didLast 11 = .ok (.getfield 311, 3) := by decide +kernel
theorem dX9_didLast_14 : decode cX9_didLast 14 = .ok (.if_icmp .ge 71, 3) := by decide +kernel
theorem dX9_didLast_17 : decode cX9_didLast 17 = .ok (.aload_n 0, 1) := by decide +kernel
theorem dX9_didLast_18 : decode cX9_didLast 18 = .ok (.getfield 128, 3) := by decide +kernel
theorem dX9_didLast_21 : decode cX9_didLast 21 = .ok (.iload 5, 2) := by decide +kernel
theorem dX9_didLast_23 : decode cX9_didLast 23 = .ok (.iaload, 1) := by decide +kernel
theorem dX9_didLast_24 : decode cX9_didLast 24 = .ok (.iload_n 1, 1) := by decide +kernel
theorem dX9_didLast_25 : decode cX9_didLast 25 = .ok (.if_icmp .ne 54, 3) := by decide +kernel
theorem dX9_didLast_28 : decode cX9_didLast 28 = .ok (.aload_n 0, 1) := by decide +kernel
theorem dX9_didLast_29 : decode cX9_didLast 29 = .ok (.getfield 131, 3) := by decide +kernel
theorem dX9_didLast_32 : decode cX9_didLast 32 = .ok (.iload 5, 2) := by decide +kernel
theorem dX9_didLast_34 : decode cX9_didLast 34 = .ok (.iaload, 1) := by decide +kernel
theorem dX9_didLast_35 : decode cX9_didLast 35 = .ok (.iload_n 2, 1) := by decide +kernel
theorem dX9_didLast_36 : decode cX9_didLast 36 = .ok (.if_icmp .ne 43, 3) := by decide +kernel
theorem dX9_didLast_39 : decode cX9_didLast 39 = .ok (.aload_n 0, 1) := by decide +kernel
theorem dX9_didLast_40 : decode cX9_didLast 40 = .ok (.getfield 143, 3) := by decide +kernel
theorem dX9_didLast_43 : decode cX9_didLast 43 = .ok (.iload 5, 2) := by decide +kernel
theorem dX9_didLast_45 : decode cX9_didLast 45 = .ok (.iaload, 1) := by decide +kernel
theorem dX9_didLast_46 : decode cX9_didLast 46 = .ok (.iconst 2, 1) := by decide +kernel
theorem dX9_didLast_47 : decode cX9_didLast 47 = .ok (.if_icmp .ne 32, 3) := by decide +kernel
theorem dX9_didLast_50 : decode cX9_didLast 50 = .ok (.aload_n 0, 1) := by decide +kernel
theorem dX9_didLast_51 : decode cX9_didLast 51 = .ok (.getfield 167, 3) := by decide +kernel
theorem dX9_didLast_54 : decode cX9_didLast 54 = .ok (.iload 5, 2) := by decide +kernel
theorem dX9_didLast_56 : decode cX9_didLast 56 = .ok (.iaload, 1) := by decide +kernel
theorem dX9_didLast_57 : decode cX9_didLast 57 = .ok (.iload 4, 2) := by decide +kernel
theorem dX9_didLast_59 : decode cX9_didLast 59 = .ok (.if_icmp .le 20, 3) := by decide +kernel
theorem dX9_didLast_62 : decode cX9_didLast 62 = .ok (.aload_n 0, 1) := by decide +kernel
theorem dX9_didLast_63 : decode cX9_didLast 63 = .ok (.getfield 167, 3) := by decide +kernel
theorem dX9_didLast_66 : decode cX9_didLast 66 = .ok (.iload 5, 2) := by decide +kernel
theorem dX9_didLast_68 : decode cX9_didLast 68 = .ok (.iaload, 1) := by decide +kernel
theorem dX9_didLast_69 : decode cX9_didLast 69 = .ok (.istore 4, 2) := by decide +kernel
theorem dX9_didLast_71 : decode cX9_didLast 71 = .ok (.aload_n 0, 1) := by decide +kernel
theorem dX9_didLast_72 : decode cX9_didLast 72 = .ok (.getfield 146, 3) := by decide +kernel
theorem dX9_didLast_75 : decode cX9_didLast 75 = .ok (.iload 5, 2) := by decide +kernel
theorem dX9_didLast_77 : decode cX9_didLast 77 = .ok (.iaload, 1) := by decide +kernel
theorem dX9_didLast_78 : decode cX9_didLast 78 = .ok (.istore_n 3, 1) := by decide +kernel
theorem dX9_didLast_79 : decode cX9_didLast 79 = .ok (.iinc 5 1, 3) := by decide +kernel
theorem dX9_didLast_82 : decode cX9_didLast 82 = .ok (.goto (-74), 3) := by decide +kernel
theorem dX9_didLast_85 : decode cX9_didLast 85 = .ok (.iload_n 3, 1) := by decide +kernel
theorem dX9_didLast_86 : decode cX9_didLast 86 = .ok (.ireturn, 1) := by decide +kernel
theorem dX9_claims_0 : decode cX9_claims 0 = .ok (.iconst 0, 1) := by decide +kernel
theorem dX9_claims_1 : decode cX9_claims 1 = .ok (.istore_n 2, 1) := by decide +kernel
theorem dX9_claims_2 : decode cX9_claims 2 = .ok (.iconst 0, 1) := by decide +kernel
theorem dX9_claims_3 : decode cX9_claims 3 = .ok (.istore_n 3, 1) := by decide +kernel
theorem dX9_claims_4 : decode cX9_claims 4 = .ok (.iload_n 3, 1) := by decide +kernel
theorem dX9_claims_5 : decode cX9_claims 5 = .ok (.aload_n 0, 1) := by decide +kernel
theorem dX9_claims_6 : decode cX9_claims 6 = .ok (.getfield 311, 3) := by decide +kernel
theorem dX9_claims_9 : decode cX9_claims 9 = .ok (.if_icmp .ge 37, 3) := by decide +kernel
theorem dX9_claims_12 : decode cX9_claims 12 = .ok (.iload_n 2, 1) := by decide +kernel
theorem dX9_claims_13 : decode cX9_claims 13 = .ok (.aload_n 0, 1) := by decide +kernel
theorem dX9_claims_14 : decode cX9_claims 14 = .ok (.getfield 143, 3) := by decide +kernel
theorem dX9_claims_17 : decode cX9_claims 17 = .ok (.iload_n 3, 1) := by decide +kernel
theorem dX9_claims_18 : decode cX9_claims 18 = .ok (.iaload, 1) := by decide +kernel
theorem dX9_claims_19 : decode cX9_claims 19 = .ok (.iconst 1, 1) := by decide +kernel
theorem dX9_claims_20 : decode cX9_claims 20 = .ok (.if_icmp .ne 17, 3) := by decide +kernel
theorem dX9_claims_23 : decode cX9_claims 23 = .ok (.aload_n 0, 1) := by decide +kernel
theorem dX9_claims_24 : decode cX9_claims 24 = .ok (.getfield 146, 3) := by decide +kernel
theorem dX9_claims_27 : decode cX9_claims 27 = .ok (.iload_n 3, 1) := by decide +kernel
theorem dX9_claims_28 : decode cX9_claims 28 = .ok (.iaload, 1) := by decide +kernel
theorem dX9_claims_29 : decode cX9_claims 29 = .ok (.iload_n 1, 1) := by decide +kernel
theorem dX9_claims_30 : decode cX9_claims 30 = .ok (.if_icmp .ne 7, 3) := by decide +kernel
theorem dX9_claims_33 : decode cX9_claims 33 = .ok (.iconst 1, 1) := by decide +kernel
theorem dX9_claims_34 : decode cX9_claims 34 = .ok (.goto 4, 3) := by decide +kernel
theorem dX9_claims_37 : decode cX9_claims 37 = .ok (.iconst 0, 1) := by decide +kernel
theorem dX9_claims_38 : decode cX9_claims 38 = .ok (.iadd, 1) := by decide +kernel
theorem dX9_claims_39 : decode cX9_claims 39 = .ok (.istore_n 2, 1) := by decide +kernel
theorem dX9_claims_40 : decode cX9_claims 40 = .ok (.iinc 3 1, 3) := by decide +kernel
theorem dX9_claims_43 : decode cX9_claims 43 = .ok (.goto (-39), 3) := by decide +kernel
theorem dX9_claims_46 : decode cX9_claims 46 = .ok (.iload_n 2, 1) := by decide +kernel
theorem dX9_claims_47 : decode cX9_claims 47 = .ok (.ireturn, 1) := by decide +kernel
theorem dX9_claim_0 : decode cX9_claim 0 = .ok (.aload_n 0, 1) := by decide +kernel
theorem dX9_claim_1 : decode cX9_claim 1 = .ok (.iload_n 1, 1) := by decide +kernel
theorem dX9_claim_2 : decode cX9_claim 2 = .ok (.invokevirtual 318, 3) := by decide +kernel
theorem dX9_claim_5 : decode cX9_claim 5 = .ok (.ifCond .eq 43, 3) := by decide +kernel
theorem dX9_claim_8 : decode cX9_claim 8 = .ok (.aload_n 0, 1) := by decide +kernel
theorem dX9_claim_9 : decode cX9_claim 9 = .ok (.iload_n 2, 1) := by decide +kernel
theorem dX9_claim_10 : decode cX9_claim 10 = .ok (.invokevirtual 348, 3) := by decide +kernel
theorem dX9_claim_13 : decode cX9_claim 13 = .ok (.ifCond .eq 35, 3) := by decide +kernel
theorem dX9_claim_16 : decode cX9_claim 16 = .ok (.aload_n 0, 1) := by decide +kernel
theorem dX9_claim_17 : decode cX9_claim 17 = .ok (.getfield 143, 3) := by decide +kernel
theorem dX9_claim_20 : decode cX9_claim 20 = .ok (.iload_n 2, 1) := by decide +kernel
theorem dX9_claim_21 : decode cX9_claim 21 = .ok (.iaload, 1) := by decide +kernel
theorem dX9_claim_22 : decode cX9_claim 22 = .ok (.ifCond .ne 26, 3) := by decide +kernel
theorem dX9_claim_25 : decode cX9_claim 25 = .ok (.aload_n 0, 1) := by decide +kernel
theorem dX9_claim_26 : decode cX9_claim 26 = .ok (.iload_n 1, 1) := by decide +kernel
theorem dX9_claim_27 : decode cX9_claim 27 = .ok (.iload_n 2, 1) := by decide +kernel
theorem dX9_claim_28 : decode cX9_claim 28 = .ok (.invokevirtual 357, 3) := by decide +kernel
theorem dX9_claim_31 : decode cX9_claim 31 = .ok (.ifCond .eq 17, 3) := by decide +kernel
theorem dX9_claim_34 : decode cX9_claim 34 = .ok (.aload_n 0, 1) := by decide +kernel
theorem dX9_claim_35 : decode cX9_claim 35 = .ok (.iload_n 1, 1) := by decide +kernel
theorem dX9_claim_36 : decode cX9_claim 36 = .ok (.invokevirtual 360, 3) := by decide +kernel
theorem dX9_claim_39 : decode cX9_claim 39 = .ok (.aload_n 0, 1) := by decide +kernel
theorem dX9_claim_40 : decode cX9_claim 40 = .ok (.getfield 155, 3) := by decide +kernel
theorem dX9_claim_43 : decode cX9_claim 43 = .ok (.iload_n 1, 1) := by decide +kernel
theorem dX9_claim_44 : decode cX9_claim 44 = .ok (.iaload, 1) := by decide +kernel
theorem dX9_claim_45 : decode cX9_claim 45 = .ok (.if_icmp .lt 5, 3) := by decide +kernel
theorem dX9_claim_48 : decode cX9_claim 48 = .ok (.iconst (-1), 1) := by decide +kernel
theorem dX9_claim_49 : decode cX9_claim 49 = .ok (.ireturn, 1) := by decide +kernel
theorem dX9_claim_50 : decode cX9_claim 50 = .ok (.aload_n 0, 1) := by decide +kernel
theorem dX9_claim_51 : decode cX9_claim 51 = .ok (.getfield 143, 3) := by decide +kernel
theorem dX9_claim_54 : decode cX9_claim 54 = .ok (.iload_n 2, 1) := by decide +kernel
theorem dX9_claim_55 : decode cX9_claim 55 = .ok (.iconst 1, 1) := by decide +kernel
theorem dX9_claim_56 : decode cX9_claim 56 = .ok (.iastore, 1) := by decide +kernel
theorem dX9_claim_57 : decode cX9_claim 57 = .ok (.aload_n 0, 1) := by decide +kernel
theorem dX9_claim_58 : decode cX9_claim 58 = .ok (.getfield 146, 3) := by decide +kernel
theorem dX9_claim_61 : decode cX9_claim 61 = .ok (.iload_n 2, 1) := by decide +kernel
theorem dX9_claim_62 : decode cX9_claim 62 = .ok (.iload_n 1, 1) := by decide +kernel
theorem dX9_claim_63 : decode cX9_claim 63 = .ok (.iastore, 1) := by decide +kernel
theorem dX9_claim_64 : decode cX9_claim 64 = .ok (.aload_n 0, 1) := by decide +kernel
theorem dX9_claim_65 : decode cX9_claim 65 = .ok (.iload_n 1, 1) := by decide +kernel
theorem dX9_claim_66 : decode cX9_claim 66 = .ok (.invokevirtual 360, 3) := by decide +kernel
theorem dX9_claim_69 : decode cX9_claim 69 = .ok (.ireturn, 1) := by decide +kernel
theorem dX9_done_0 : decode cX9_done 0 = .ok (.aload_n 0, 1) := by decide +kernel
theorem dX9_done_1 : decode cX9_done 1 = .ok (.iload_n 1, 1) := by decide +kernel
theorem dX9_done_2 : decode cX9_done 2 = .ok (.invokevirtual 348, 3) := by decide +kernel
theorem dX9_done_5 : decode cX9_done 5 = .ok (.ifCond .eq 44, 3) := by decide +kernel
theorem dX9_done_8 : decode cX9_done 8 = .ok (.aload_n 0, 1) := by decide +kernel
theorem dX9_done_9 : decode cX9_done 9 = .ok (.getfield 143, 3) := by decide +kernel
theorem dX9_done_12 : decode cX9_done 12 = .ok (.iload_n 1, 1) := by decide +kernel
theorem dX9_done_13 : decode cX9_done 13 = .ok (.iaload, 1) := by decide +kernel
theorem dX9_done_14 : decode cX9_done 14 = .ok (.iconst 1, 1) := by decide +kernel
theorem dX9_done_15 : decode cX9_done 15 = .ok (.if_icmp .ne 34, 3) := by decide +kernel
theorem dX9_done_18 : decode cX9_done 18 = .ok (.iload_n 2, 1) := by decide +kernel
theorem dX9_done_19 : decode cX9_done 19 = .ok (.i2l, 1) := by decide +kernel
theorem dX9_done_20 : decode cX9_done 20 = .ok (.ldc2_w 363, 3) := by decide +kernel
theorem dX9_done_23 : decode cX9_done 23 = .ok (.ldc2_w 346, 3) := by decide +kernel
theorem dX9_done_26 : decode cX9_done 26 = .ok (.invokestatic 177, 3) := by decide +kernel
theorem dX9_done_29 : decode cX9_done 29 = .ok (.ifCond .eq 20, 3) := by decide +kernel
theorem dX9_done_32 : decode cX9_done 32 = .ok (.iload_n 2, 1) := by decide +kernel
theorem dX9_done_33 : decode cX9_done 33 = .ok (.iconst (-1), 1) := by decide +kernel
theorem dX9_done_34 : decode cX9_done 34 = .ok (.if_icmp .eq 17, 3) := by decide +kernel
theorem dX9_done_37 : decode cX9_done 37 = .ok (.iload_n 3, 1) := by decide +kernel
theorem dX9_done_38 : decode cX9_done 38 = .ok (.i2l, 1) := by decide +kernel
theorem dX9_done_39 : decode cX9_done 39 = .ok (.lconst 0, 1) := by decide +kernel
theorem dX9_done_40 : decode cX9_done 40 = .ok (.ldc2_w 329, 3) := by decide +kernel
theorem dX9_done_43 : decode cX9_done 43 = .ok (.invokestatic 177, 3) := by decide +kernel
theorem dX9_done_46 : decode cX9_done 46 = .ok (.ifCond .ne 5, 3) := by decide +kernel
theorem dX9_done_49 : decode cX9_done 49 = .ok (.iconst (-1), 1) := by decide +kernel
theorem dX9_done_50 : decode cX9_done 50 = .ok (.ireturn, 1) := by decide +kernel
theorem dX9_done_51 : decode cX9_done 51 = .ok (.aload_n 0, 1) := by decide +kernel
theorem dX9_done_52 : decode cX9_done 52 = .ok (.getfield 128, 3) := by decide +kernel
theorem dX9_done_55 : decode cX9_done 55 = .ok (.iload_n 1, 1) := by decide +kernel
theorem dX9_done_56 : decode cX9_done 56 = .ok (.iaload, 1) := by decide +kernel
theorem dX9_done_57 : decode cX9_done 57 = .ok (.istore 4, 2) := by decide +kernel
theorem dX9_done_59 : decode cX9_done 59 = .ok (.aload_n 0, 1) := by decide +kernel
theorem dX9_done_60 : decode cX9_done 60 = .ok (.getfield 311, 3) := by decide +kernel
theorem dX9_done_63 : decode cX9_done 63 = .ok (.istore 5, 2) := by decide +kernel
theorem dX9_done_65 : decode cX9_done 65 = .ok (.iconst 0, 1) := by decide +kernel
theorem dX9_done_66 : decode cX9_done 66 = .ok (.istore 6, 2) := by decide +kernel
theorem dX9_done_68 : decode cX9_done 68 = .ok (.iload 6, 2) := by decide +kernel
theorem dX9_done_70 : decode cX9_done 70 = .ok (.iconst 4, 1) := by decide +kernel
theorem dX9_done_71 : decode cX9_done 71 = .ok (.if_icmp .ge 28, 3) := by decide +kernel
theorem dX9_done_74 : decode cX9_done 74 = .ok (.aload_n 0, 1) := by decide +kernel
theorem dX9_done_75 : decode cX9_done 75 = .ok (.getfield 122, 3) := by decide +kernel
theorem dX9_done_78 : decode cX9_done 78 = .ok (.iload 6, 2) := by decide +kernel
theorem dX9_done_80 : decode cX9_done 80 = .ok (.aload_n 0, 1) := by decide +kernel
theorem dX9_done_81 : decode cX9_done 81 = .ok (.getfield 113, 3) := by decide +kernel
theorem dX9_done_84 : decode cX9_done 84 = .ok (.iconst 4, 1) := by decide +kernel
theorem dX9_done_85 : decode cX9_done 85 = .ok (.iload 4, 2) := by decide +kernel
theorem dX9_done_87 : decode cX9_done 87 = .ok (.imul, 1) := by decide +kernel
theorem dX9_done_88 : decode cX9_done 88 = .ok (.iload 6, 2) := by decide +kernel
theorem dX9_done_90 : decode cX9_done 90 = .ok (.iadd, 1) := by decide +kernel
theorem dX9_done_91 : decode cX9_done 91 = .ok (.iaload, 1) := by decide +kernel
theorem dX9_done_92 : decode cX9_done 92 = .ok (.iastore, 1) := by decide +kernel
theorem dX9_done_93 : decode cX9_done 93 = .ok (.iinc 6 1, 3) := by decide +kernel
theorem dX9_done_96 : decode cX9_done 96 = .ok (.goto (-28), 3) := by decide +kernel
theorem dX9_done_99 : decode cX9_done 99 = .ok (.iconst 0, 1) := by decide +kernel
theorem dX9_done_100 : decode cX9_done 100 = .ok (.istore 6, 2) := by decide +kernel
theorem dX9_done_102 : decode cX9_done 102 = .ok (.iload 6, 2) := by decide +kernel
theorem dX9_done_104 : decode cX9_done 104 = .ok (.bipush 40, 2) := by decide +kernel
theorem dX9_done_106 : decode cX9_done 106 = .ok (.if_icmp .ge 29, 3) := by decide +kernel
theorem dX9_done_109 : decode cX9_done 109 = .ok (.aload_n 0, 1) := by decide +kernel
theorem dX9_done_110 : decode cX9_done 110 = .ok (.getfield 125, 3) := by decide +kernel
theorem dX9_done_113 : decode cX9_done 113 = .ok (.iload 6, 2) := by decide +kernel
theorem dX9_done_115 : decode cX9_done 115 = .ok (.aload_n 0, 1) := by decide +kernel
theorem dX9_done_116 : decode cX9_done 116 = .ok (.getfield 116, 3) := by decide +kernel
theorem dX9_done_119 : decode cX9_done 119 = .ok (.bipush 40, 2) := by decide +kernel
theorem dX9_done_121 : decode cX9_done 121 = .ok (.iload 4, 2) := by decide +kernel
theorem dX9_done_123 : decode cX9_done 123 = .ok (.imul, 1) := by decide +kernel
theorem dX9_done_124 : decode cX9_done 124 = .ok (.iload 6, 2) := by decide +kernel
theorem dX9_done_126 : decode cX9_done 126 = .ok (.iadd, 1) := by decide +kernel
theorem dX9_done_127 : decode cX9_done 127 = .ok (.iaload, 1) := by decide +kernel
theorem dX9_done_128 : decode cX9_done 128 = .ok (.iastore, 1) := by decide +kernel
theorem dX9_done_129 : decode cX9_done 129 = .ok (.iinc 6 1, 3) := by decide +kernel
theorem dX9_done_132 : decode cX9_done 132 = .ok (.goto (-30), 3) := by decide +kernel
theorem dX9_done_135 : decode cX9_done 135 = .ok (.iload_n 2, 1) := by decide +kernel
theorem dX9_done_136 : decode cX9_done 136 = .ok (.iconst (-1), 1) := by decide +kernel
theorem dX9_done_137 : decode cX9_done 137 = .ok (.if_icmp .eq 15, 3) := by decide +kernel
theorem dX9_done_140 : decode cX9_done 140 = .ok (.aload_n 0, 1) := by decide +kernel
theorem dX9_done_141 : decode cX9_done 141 = .ok (.getfield 113, 3) := by decide +kernel
theorem dX9_done_144 : decode cX9_done 144 = .ok (.iconst 4, 1) := by decide +kernel
theorem dX9_done_145 : decode cX9_done 145 = .ok (.iload 4, 2) := by decide +kernel
theorem dX9_done_147 : decode cX9_done 147 = .ok (.imul, 1) := by decide +kernel
theorem dX9_done_148 : decode cX9_done 148 = .ok (.iload_n 2, 1) := by decide +kernel
theorem dX9_done_149 : decode cX9_done 149 = .ok (.iadd, 1) := by decide +kernel
theorem dX9_done_150 : decode cX9_done 150 = .ok (.iload_n 3, 1) := by decide +kernel
theorem dX9_done_151 : decode cX9_done 151 = .ok (.iastore, 1) := by decide +kernel
theorem dX9_done_152 : decode cX9_done 152 = .ok (.aload_n 0, 1) := by decide +kernel
theorem dX9_done_153 : decode cX9_done 153 = .ok (.getfield 143, 3) := by decide +kernel
theorem dX9_done_156 : decode cX9_done 156 = .ok (.iload_n 1, 1) := by decide +kernel
theorem dX9_done_157 : decode cX9_done 157 = .ok (.iconst 2, 1) := by decide +kernel
theorem dX9_done_158 : decode cX9_done 158 = .ok (.iastore, 1) := by decide +kernel
theorem dX9_done_159 : decode cX9_done 159 = .ok (.aload_n 0, 1) := by decide +kernel
theorem dX9_done_160 : decode cX9_done 160 = .ok (.getfield 149, 3) := by decide +kernel
theorem dX9_done_163 : decode cX9_done 163 = .ok (.iload_n 1, 1) := by decide +kernel
theorem dX9_done_164 : decode cX9_done 164 = .ok (.aload_n 0, 1) := by decide +kernel
theorem dX9_done_165 : decode cX9_done 165 = .ok (.getfield 321, 3) := by decide +kernel
theorem dX9_done_168 : decode cX9_done 168 = .ok (.iastore, 1) := by decide +kernel
theorem dX9_done_169 : decode cX9_done 169 = .ok (.aload_n 0, 1) := by decide +kernel
theorem dX9_done_170 : decode cX9_done 170 = .ok (.iload 4, 2) := by decide +kernel
theorem dX9_done_172 : decode cX9_done 172 = .ok (.aload_n 0, 1) := by decide +kernel
theorem dX9_done_173 : decode cX9_done 173 = .ok (.getfield 134, 3) := by decide +kernel
theorem dX9_done_176 : decode cX9_done 176 = .ok (.iload_n 1, 1) := by decide +kernel
theorem dX9_done_177 : decode cX9_done 177 = .ok (.iaload, 1) := by decide +kernel
theorem dX9_done_178 : decode cX9_done 178 = .ok (.invokevirtual 342, 3) := by decide +kernel
theorem dX9_done_181 : decode cX9_done 181 = .ok (.ifCond .eq 31, 3) := by decide +kernel
theorem dX9_done_184 : decode cX9_done 184 = .ok (.aload_n 0, 1) := by decide +kernel
theorem dX9_done_185 : decode cX9_done 185 = .ok (.getfield 167, 3) := by decide +kernel
theorem dX9_done_188 : decode cX9_done 188 = .ok (.iload_n 1, 1) := by decide +kernel
theorem dX9_done_189 : decode cX9_done 189 = .ok (.aload_n 0, 1) := by decide +kernel
theorem dX9_done_190 : decode cX9_done 190 = .ok (.getfield 365, 3) := by decide +kernel
theorem dX9_done_193 : decode cX9_done 193 = .ok (.iastore, 1) := by decide +kernel
theorem dX9_done_194 : decode cX9_done 194 = .ok (.aload_n 0, 1) := by decide +kernel
theorem dX9_done_195 : decode cX9_done 195 = .ok (.dup, 1) := by decide +kernel
theorem dX9_done_196 : decode cX9_done 196 = .ok (.getfield 365, 3) := by decide +kernel
theorem dX9_done_199 : decode cX9_done 199 = .ok (.iconst 1, 1) := by decide +kernel
theorem dX9_done_200 : decode cX9_done 200 = .ok (.iadd, 1) := by decide +kernel
theorem dX9_done_201 : decode cX9_done 201 = .ok (.putfield 365, 3) := by decide +kernel
theorem dX9_done_204 : decode cX9_done 204 = .ok (.aload_n 0, 1) := by decide +kernel
theorem dX9_done_205 : decode cX9_done 205 = .ok (.getfield 311, 3) := by decide +kernel
theorem dX9_done_208 : decode cX9_done 208 = .ok (.iload 5, 2) := by decide +kernel
theorem dX9_done_210 : decode cX9_done 210 = .ok (.isub, 1) := by decide +kernel
theorem dX9_done_211 : decode cX9_done 211 = .ok (.ireturn, 1) := by decide +kernel
theorem dX9_done_212 : decode cX9_done 212 = .ok (.aload_n 0, 1) := by decide +kernel
theorem dX9_done_213 : decode cX9_done 213 = .ok (.iload 5, 2) := by decide +kernel
theorem dX9_done_215 : decode cX9_done 215 = .ok (.putfield 311, 3) := by decide +kernel
theorem dX9_done_218 : decode cX9_done 218 = .ok (.aload_n 0, 1) := by decide +kernel
theorem dX9_done_219 : decode cX9_done 219 = .ok (.getfield 143, 3) := by decide +kernel
theorem dX9_done_222 : decode cX9_done 222 = .ok (.iload_n 1, 1) := by decide +kernel
theorem dX9_done_223 : decode cX9_done 223 = .ok (.iconst 1, 1) := by decide +kernel
theorem dX9_done_224 : decode cX9_done 224 = .ok (.iastore, 1) := by decide +kernel
theorem dX9_done_225 : decode cX9_done 225 = .ok (.aload_n 0, 1) := by decide +kernel
theorem dX9_done_226 : decode cX9_done 226 = .ok (.getfield 149, 3) := by decide +kernel
theorem dX9_done_229 : decode cX9_done 229 = .ok (.iload_n 1, 1) := by decide +kernel
theorem dX9_done_230 : decode cX9_done 230 = .ok (.iconst (-1), 1) := by decide +kernel
theorem dX9_done_231 : decode cX9_done 231 = .ok (.iastore, 1) := by decide +kernel
theorem dX9_done_232 : decode cX9_done 232 = .ok (.aload_n 0, 1) := by decide +kernel
theorem dX9_done_233 : decode cX9_done 233 = .ok (.getfield 119, 3) := by decide +kernel
theorem dX9_done_236 : decode cX9_done 236 = .ok (.iload 4, 2) := by decide +kernel
theorem dX9_done_238 : decode cX9_done 238 = .ok (.iconst 0, 1) := by decide +kernel
theorem dX9_done_239 : decode cX9_done 239 = .ok (.bastore, 1) := by decide +kernel
theorem dX9_done_240 : decode cX9_done 240 = .ok (.iconst 0, 1) := by decide +kernel
theorem dX9_done_241 : decode cX9_done 241 = .ok (.istore 6, 2) := by decide +kernel
theorem dX9_done_243 : decode cX9_done 243 = .ok (.iload 6, 2) := by decide +kernel
theorem dX9_done_245 : decode cX9_done 245 = .ok (.iconst 4, 1) := by decide +kernel
theorem dX9_done_246 : decode cX9_done 246 = .ok (.if_icmp .ge 28, 3) := by decide +kernel
theorem dX9_done_249 : decode cX9_done 249 = .ok (.aload_n 0, 1) := by decide +kernel
theorem dX9_done_250 : decode cX9_done 250 = .ok (.getfield 113, 3) := by decide +kernel
theorem dX9_done_253 : decode cX9_done 253 = .ok (.iconst 4, 1) := by decide +kernel
theorem dX9_done_254 : decode cX9_done 254 = .ok (.iload 4, 2) := by decide +kernel
theorem dX9_done_256 : decode cX9_done 256 = .ok (.imul, 1) := by decide +kernel
theorem dX9_done_257 : decode cX9_done 257 = .ok (.iload 6, 2) := by decide +kernel
theorem dX9_done_259 : decode cX9_done 259 = .ok (.iadd, 1) := by decide +kernel
theorem dX9_done_260 : decode cX9_done 260 = .ok (.aload_n 0, 1) := by decide +kernel
theorem dX9_done_261 : decode cX9_done 261 = .ok (.getfield 122, 3) := by decide +kernel
theorem dX9_done_264 : decode cX9_done 264 = .ok (.iload 6, 2) := by decide +kernel
theorem dX9_done_266 : decode cX9_done 266 = .ok (.iaload, 1) := by decide +kernel
theorem dX9_done_267 : decode cX9_done 267 = .ok (.iastore, 1) := by decide +kernel
theorem dX9_done_268 : decode cX9_done 268 = .ok (.iinc 6 1, 3) := by decide +kernel
theorem dX9_done_271 : decode cX9_done 271 = .ok (.goto (-28), 3) := by decide +kernel
theorem dX9_done_274 : decode cX9_done 274 = .ok (.iconst 0, 1) := by decide +kernel
theorem dX9_done_275 : decode cX9_done 275 = .ok (.istore 6, 2) := by decide +kernel
theorem dX9_done_277 : decode cX9_done 277 = .ok (.iload 6, 2) := by decide +kernel
theorem dX9_done_279 : decode cX9_done 279 = .ok (.bipush 40, 2) := by decide +kernel
theorem dX9_done_281 : decode cX9_done 281 = .ok (.if_icmp .ge 29, 3) := by decide +kernel
theorem dX9_done_284 : decode cX9_done 284 = .ok (.aload_n 0, 1) := by decide +kernel
theorem dX9_done_285 : decode cX9_done 285 = .ok (.getfield 116, 3) := by decide +kernel
theorem dX9_done_288 : decode cX9_done 288 = .ok (.bipush 40, 2) := by decide +kernel
theorem dX9_done_290 : decode cX9_done 290 = .ok (.iload 4, 2) := by decide +kernel
theorem dX9_done_292 : decode cX9_done 292 = .ok (.imul, 1) := by decide +kernel
theorem dX9_done_293 : decode cX9_done 293 = .ok (.iload 6, 2) := by decide +kernel
theorem dX9_done_295 : decode cX9_done 295 = .ok (.iadd, 1) := by decide +kernel
theorem dX9_done_296 : decode cX9_done 296 = .ok (.aload_n 0, 1) := by decide +kernel
theorem dX9_done_297 : decode cX9_done 297 = .ok (.getfield 125, 3) := by decide +kernel
theorem dX9_done_300 : decode cX9_done 300 = .ok (.iload 6, 2) := by decide +kernel
theorem dX9_done_302 : decode cX9_done 302 = .ok (.iaload, 1) := by decide +kernel
theorem dX9_done_303 : decode cX9_done 303 = .ok (.iastore, 1) := by decide +kernel
theorem dX9_done_304 : decode cX9_done 304 = .ok (.iinc 6 1, 3) := by decide +kernel
theorem dX9_done_307 : decode cX9_done 307 = .ok (.goto (-30), 3) := by decide +kernel
theorem dX9_done_310 : decode cX9_done 310 = .ok (.iconst (-1), 1) := by decide +kernel
theorem dX9_done_311 : decode cX9_done 311 = .ok (.ireturn, 1) := by decide +kernel
theorem dX9_about_0 : decode cX9_about 0 = .ok (.iload_n 1, 1) := by decide +kernel
theorem dX9_about_1 : decode cX9_about 1 = .ok (.tableswitch 89 0 6 #[43, 48, 64, 69, 74, 79, 84], 43) := by decide +kernel
theorem dX9_about_44 : decode cX9_about 44 = .ok (.aload_n 0, 1) := by decide +kernel
theorem dX9_about_45 : decode cX9_about 45 = .ok (.getfield 46, 3) := by decide +kernel
theorem dX9_about_48 : decode cX9_about 48 = .ok (.ireturn, 1) := by decide +kernel
theorem dX9_about_49 : decode cX9_about 49 = .ok (.aload_n 0, 1) := by decide +kernel
theorem dX9_about_50 : decode cX9_about 50 = .ok (.getfield 46, 3) := by decide +kernel
theorem dX9_about_53 : decode cX9_about 53 = .ok (.ifCond .ge 7, 3) := by decide +kernel
theorem dX9_about_56 : decode cX9_about 56 = .ok (.iconst (-1), 1) := by decide +kernel
theorem dX9_about_57 : decode cX9_about 57 = .ok (.goto 7, 3) := by decide +kernel
theorem dX9_about_60 : decode cX9_about 60 = .ok (.aload_n 0, 1) := by decide +kernel
theorem dX9_about_61 : decode cX9_about 61 = .ok (.getfield 302, 3) := by decide +kernel
theorem dX9_about_64 : decode cX9_about 64 = .ok (.ireturn, 1) := by decide +kernel
theorem dX9_about_65 : decode cX9_about 65 = .ok (.aload_n 0, 1) := by decide +kernel
theorem dX9_about_66 : decode cX9_about 66 = .ok (.getfield 308, 3) := by decide +kernel
theorem dX9_about_69 : decode cX9_about 69 = .ok (.ireturn, 1) := by decide +kernel
theorem dX9_about_70 : decode cX9_about 70 = .ok (.aload_n 0, 1) := by decide +kernel
theorem dX9_about_71 : decode cX9_about 71 = .ok (.getfield 321, 3) := by decide +kernel
theorem dX9_about_74 : decode cX9_about 74 = .ok (.ireturn, 1) := by decide +kernel
theorem dX9_about_75 : decode cX9_about 75 = .ok (.aload_n 0, 1) := by decide +kernel
theorem dX9_about_76 : decode cX9_about 76 = .ok (.getfield 339, 3) := by decide +kernel
theorem dX9_about_79 : decode cX9_about 79 = .ok (.ireturn, 1) := by decide +kernel
theorem dX9_about_80 : decode cX9_about 80 = .ok (.aload_n 0, 1) := by decide +kernel
theorem dX9_about_81 : decode cX9_about 81 = .ok (.getfield 311, 3) := by decide +kernel
theorem dX9_about_84 : decode cX9_about 84 = .ok (.ireturn, 1) := by decide +kernel
theorem dX9_about_85 : decode cX9_about 85 = .ok (.aload_n 0, 1) := by decide +kernel
theorem dX9_about_86 : decode cX9_about 86 = .ok (.getfield 170, 3) := by decide +kernel
theorem dX9_about_89 : decode cX9_about 89 = .ok (.ireturn, 1) := by decide +kernel
theorem dX9_about_90 : decode cX9_about 90 = .ok (.iconst (-1), 1) := by decide +kernel
theorem dX9_about_91 : decode cX9_about 91 = .ok (.ireturn, 1) := by decide +kernel
end
section
theorem dX9_init_0 : decode cX9_init 0 = .ok (.aload_n 0, 1) := by decide +kernel
theorem dX9_init_1 : decode cX9_init 1 = .ok (.invokespecial 1, 3) := by decide +kernel
theorem dX9_init_4 : decode cX9_init 4 = .ok (.aload_n 0, 1) := by decide +kernel
theorem dX9_init_5 : decode cX9_init 5 = .ok (.sipush 300, 3) := by decide +kernel
theorem dX9_init_8 : decode cX9_init 8 = .ok (.newarray .byte, 2) := by decide +kernel
theorem dX9_init_10 : decode cX9_init 10 = .ok (.putfield 7, 3) := by decide +kernel
theorem dX9_init_13 : decode cX9_init 13 = .ok (.aload_n 0, 1) := by decide +kernel
theorem dX9_init_14 : decode cX9_init 14 = .ok (.iconst (-1), 1) := by decide +kernel
theorem dX9_init_15 : decode cX9_init 15 = .ok (.putfield 13, 3) := by decide +kernel
theorem dX9_init_18 : decode cX9_init 18 = .ok (.aload_n 0, 1) := by decide +kernel
theorem dX9_init_19 : decode cX9_init 19 = .ok (.iconst (-1), 1) := by decide +kernel
theorem dX9_init_20 : decode cX9_init 20 = .ok (.putfield 17, 3) := by decide +kernel
theorem dX9_init_23 : decode cX9_init 23 = .ok (.aload_n 0, 1) := by decide +kernel
theorem dX9_init_24 : decode cX9_init 24 = .ok (.sipush 200, 3) := by decide +kernel
theorem dX9_init_27 : decode cX9_init 27 = .ok (.newarray .int, 2) := by decide +kernel
theorem dX9_init_29 : decode cX9_init 29 = .ok (.putfield 20, 3) := by decide +kernel
theorem dX9_init_32 : decode cX9_init 32 = .ok (.aload_n 0, 1) := by decide +kernel
theorem dX9_init_33 : decode cX9_init 33 = .ok (.sipush 200, 3) := by decide +kernel
theorem dX9_init_36 : decode cX9_init 36 = .ok (.newarray .int, 2) := by decide +kernel
theorem dX9_init_38 : decode cX9_init 38 = .ok (.putfield 24, 3) := by decide +kernel
theorem dX9_init_41 : decode cX9_init 41 = .ok (.aload_n 0, 1) := by decide +kernel
theorem dX9_init_42 : decode cX9_init 42 = .ok (.sipush 200, 3) := by decide +kernel
theorem dX9_init_45 : decode cX9_init 45 = .ok (.newarray .int, 2) := by decide +kernel
theorem dX9_init_47 : decode cX9_init 47 = .ok (.putfield 27, 3) := by decide +kernel
theorem dX9_init_50 : decode cX9_init 50 = .ok (.aload_n 0, 1) := by decide +kernel
theorem dX9_init_51 : decode cX9_init 51 = .ok (.sipush 200, 3) := by decide +kernel
theorem dX9_init_54 : decode cX9_init 54 = .ok (.newarray .int, 2) := by decide +kernel
theorem dX9_init_56 : decode cX9_init 56 = .ok (.putfield 30, 3) := by decide +kernel
theorem dX9_init_59 : decode cX9_init 59 = .ok (.aload_n 0, 1) := by decide +kernel
theorem dX9_init_60 : decode cX9_init 60 = .ok (.bipush 40, 2) := by decide +kernel
theorem dX9_init_62 : decode cX9_init 62 = .ok (.newarray .long, 2) := by decide +kernel
theorem dX9_init_64 : decode cX9_init 64 = .ok (.putfield 33, 3) := by decide +kernel
theorem dX9_init_67 : decode cX9_init 67 = .ok (.aload_n 0, 1) := by decide +kernel
theorem dX9_init_68 : decode cX9_init 68 = .ok (.bipush 40, 2) := by decide +kernel
theorem dX9_init_70 : decode cX9_init 70 = .ok (.newarray .int, 2) := by decide +kernel
theorem dX9_init_72 : decode cX9_init 72 = .ok (.putfield 37, 3) := by decide +kernel
theorem dX9_init_75 : decode cX9_init 75 = .ok (.aload_n 0, 1) := by decide +kernel
theorem dX9_init_76 : decode cX9_init 76 = .ok (.bipush 40, 2) := by decide +kernel
theorem dX9_init_78 : decode cX9_init 78 = .ok (.newarray .int, 2) := by decide +kernel
theorem dX9_init_80 : decode cX9_init 80 = .ok (.putfield 40, 3) := by decide +kernel
theorem dX9_init_83 : decode cX9_init 83 = .ok (.aload_n 0, 1) := by decide +kernel
theorem dX9_init_84 : decode cX9_init 84 = .ok (.bipush 40, 2) := by decide +kernel
theorem dX9_init_86 : decode cX9_init 86 = .ok (.newarray .int, 2) := by decide +kernel
theorem dX9_init_88 : decode cX9_init 88 = .ok (.putfield 43, 3) := by decide +kernel
theorem dX9_init_91 : decode cX9_init 91 = .ok (.aload_n 0, 1) := by decide +kernel
theorem dX9_init_92 : decode cX9_init 92 = .ok (.iconst (-1), 1) := by decide +kernel
theorem dX9_init_93 : decode cX9_init 93 = .ok (.putfield 46, 3) := by decide +kernel
theorem dX9_init_96 : decode cX9_init 96 = .ok (.aload_n 0, 1) := by decide +kernel
theorem dX9_init_97 : decode cX9_init 97 = .ok (.sipush 200, 3) := by decide +kernel
theorem dX9_init_100 : decode cX9_init 100 = .ok (.newarray .int, 2) := by decide +kernel
theorem dX9_init_102 : decode cX9_init 102 = .ok (.putfield 49, 3) := by decide +kernel
theorem dX9_init_105 : decode cX9_init 105 = .ok (.aload_n 0, 1) := by decide +kernel
theorem dX9_init_106 : decode cX9_init 106 = .ok (.sipush 200, 3) := by decide +kernel
theorem dX9_init_109 : decode cX9_init 109 = .ok (.newarray .int, 2) := by decide +kernel
theorem dX9_init_111 : decode cX9_init 111 = .ok (.putfield 52, 3) := by decide +kernel
theorem dX9_init_114 : decode cX9_init 114 = .ok (.aload_n 0, 1) := by decide +kernel
theorem dX9_init_115 : decode cX9_init 115 = .ok (.sipush 200, 3) := by decide +kernel
theorem dX9_init_118 : decode cX9_init 118 = .ok (.newarray .int, 2) := by decide +kernel
theorem dX9_init_120 : decode cX9_init 120 = .ok (.putfield 55, 3) := by decide +kernel
theorem dX9_init_123 : decode cX9_init 123 = .ok (.aload_n 0, 1) := by decide +kernel
theorem dX9_init_124 : decode cX9_init 124 = .ok (.sipush 200, 3) := by decide +kernel
theorem dX9_init_127 : decode cX9_init 127 = .ok (.newarray .int, 2) := by decide +kernel
theorem dX9_init_129 : decode cX9_init 129 = .ok (.putfield 58, 3) := by decide +kernel
theorem dX9_init_132 : decode cX9_init 132 = .ok (.aload_n 0, 1) := by decide +kernel
theorem dX9_init_133 : decode cX9_init 133 = .ok (.bipush 40, 2) := by decide +kernel
theorem dX9_init_135 : decode cX9_init 135 = .ok (.newarray .int, 2) := by decide +kernel
theorem dX9_init_137 : decode cX9_init 137 = .ok (.putfield 61, 3) := by decide +kernel
theorem dX9_init_140 : decode cX9_init 140 = .ok (.aload_n 0, 1) := by decide +kernel
theorem dX9_init_141 : decode cX9_init 141 = .ok (.bipush 40, 2) := by decide +kernel
theorem dX9_init_143 : decode cX9_init 143 = .ok (.newarray .int, 2) := by decide +kernel
theorem dX9_init_145 : decode cX9_init 145 = .ok (.putfield 64, 3) := by decide +kernel
theorem dX9_init_148 : decode cX9_init 148 = .ok (.aload_n 0, 1) := by decide +kernel
theorem dX9_init_149 : decode cX9_init 149 = .ok (.bipush 40, 2) := by decide +kernel
theorem dX9_init_151 : decode cX9_init 151 = .ok (.newarray .int, 2) := by decide +kernel
theorem dX9_init_153 : decode cX9_init 153 = .ok (.putfield 67, 3) := by decide +kernel
theorem dX9_init_156 : decode cX9_init 156 = .ok (.aload_n 0, 1) := by decide +kernel
theorem dX9_init_157 : decode cX9_init 157 = .ok (.bipush 6, 2) := by decide +kernel
theorem dX9_init_159 : decode cX9_init 159 = .ok (.newarray .int, 2) := by decide +kernel
theorem dX9_init_161 : decode cX9_init 161 = .ok (.putfield 70, 3) := by decide +kernel
theorem dX9_init_164 : decode cX9_init 164 = .ok (.aload_n 0, 1) := by decide +kernel
theorem dX9_init_165 : decode cX9_init 165 = .ok (.bipush 6, 2) := by decide +kernel
theorem dX9_init_167 : decode cX9_init 167 = .ok (.newarray .int, 2) := by decide +kernel
theorem dX9_init_169 : decode cX9_init 169 = .ok (.putfield 73, 3) := by decide +kernel
theorem dX9_init_172 : decode cX9_init 172 = .ok (.aload_n 0, 1) := by decide +kernel
theorem dX9_init_173 : decode cX9_init 173 = .ok (.bipush 6, 2) := by decide +kernel
theorem dX9_init_175 : decode cX9_init 175 = .ok (.newarray .int, 2) := by decide +kernel
theorem dX9_init_177 : decode cX9_init 177 = .ok (.putfield 76, 3) := by decide +kernel
theorem dX9_init_180 : decode cX9_init 180 = .ok (.aload_n 0, 1) := by decide +kernel
theorem dX9_init_181 : decode cX9_init 181 = .ok (.bipush 6, 2) := by decide +kernel
theorem dX9_init_183 : decode cX9_init 183 = .ok (.newarray .int, 2) := by decide +kernel
theorem dX9_init_185 : decode cX9_init 185 = .ok (.putfield 79, 3) := by decide +kernel
theorem dX9_init_188 : decode cX9_init 188 = .ok (.aload_n 0, 1) := by decide +kernel
theorem dX9_init_189 : decode cX9_init 189 = .ok (.bipush 6, 2) := by decide +kernel
theorem dX9_init_191 : decode cX9_init 191 = .ok (.newarray .boolean, 2) := by decide +kernel
theorem dX9_init_193 : decode cX9_init 193 = .ok (.putfield 82, 3) := by decide +kernel
theorem dX9_init_196 : decode cX9_init 196 = .ok (.aload_n 0, 1) := by decide +kernel
theorem dX9_init_197 : decode cX9_init 197 = .ok (.bipush 6, 2) := by decide +kernel
theorem dX9_init_199 : decode cX9_init 199 = .ok (.newarray .boolean, 2) := by decide +kernel
theorem dX9_init_201 : decode cX9_init 201 = .ok (.putfield 86, 3) := by decide +kernel
theorem dX9_init_204 : decode cX9_init 204 = .ok (.aload_n 0, 1) := by decide +kernel
theorem dX9_init_205 : decode cX9_init 205 = .ok (.bipush 8, 2) := by decide +kernel
theorem dX9_init_207 : decode cX9_init 207 = .ok (.newarray .int, 2) := by decide +kernel
theorem dX9_init_209 : decode cX9_init 209 = .ok (.putfield 89, 3) := by decide +kernel
theorem dX9_init_212 : decode cX9_init 212 = .ok (.aload_n 0, 1) := by decide +kernel
theorem dX9_init_213 : decode cX9_init 213 = .ok (.sipush 1600, 3) := by decide +kernel
theorem dX9_init_216 : decode cX9_init 216 = .ok (.newarray .int, 2) := by decide +kernel
theorem dX9_init_218 : decode cX9_init 218 = .ok (.putfield 92, 3) := by decide +kernel
theorem dX9_init_221 : decode cX9_init 221 = .ok (.aload_n 0, 1) := by decide +kernel
theorem dX9_init_222 : decode cX9_init 222 = .ok (.sipush 1600, 3) := by decide +kernel
theorem dX9_init_225 : decode cX9_init 225 = .ok (.newarray .int, 2) := by decide +kernel
theorem dX9_init_227 : decode cX9_init 227 = .ok (.putfield 95, 3) := by decide +kernel
theorem dX9_init_230 : decode cX9_init 230 = .ok (.aload_n 0, 1) := by decide +kernel
theorem dX9_init_231 : decode cX9_init 231 = .ok (.sipush 1600, 3) := by decide +kernel
theorem dX9_init_234 : decode cX9_init 234 = .ok (.newarray .int, 2) := by decide +kernel
theorem dX9_init_236 : decode cX9_init 236 = .ok (.putfield 98, 3) := by decide +kernel
theorem dX9_init_239 : decode cX9_init 239 = .ok (.aload_n 0, 1) := by decide +kernel
theorem dX9_init_240 : decode cX9_init 240 = .ok (.sipush 1600, 3) := by decide +kernel
theorem dX9_init_243 : decode cX9_init 243 = .ok (.newarray .int, 2) := by decide +kernel
theorem dX9_init_245 : decode cX9_init 245 = .ok (.putfield 101, 3) := by decide +kernel
theorem dX9_init_248 : decode cX9_init 248 = .ok (.aload_n 0, 1) := by decide +kernel
theorem dX9_init_249 : decode cX9_init 249 = .ok (.sipush 320, 3) := by decide +kernel
theorem dX9_init_252 : decode cX9_init 252 = .ok (.newarray .int, 2) := by decide +kernel
theorem dX9_init_254 : decode cX9_init 254 = .ok (.putfield 104, 3) := by decide +kernel
theorem dX9_init_257 : decode cX9_init 257 = .ok (.aload_n 0, 1) := by decide +kernel
theorem dX9_init_258 : decode cX9_init 258 = .ok (.sipush 320, 3) := by decide +kernel
theorem dX9_init_261 : decode cX9_init 261 = .ok (.newarray .int, 2) := by decide +kernel
theorem dX9_init_263 : decode cX9_init 263 = .ok (.putfield 107, 3) := by decide +kernel
theorem dX9_init_266 : decode cX9_init 266 = .ok (.aload_n 0, 1) := by decide +kernel
theorem dX9_init_267 : decode cX9_init 267 = .ok (.sipush 320, 3) := by decide +kernel
theorem dX9_init_270 : decode cX9_init 270 = .ok (.newarray .int, 2) := by decide +kernel
theorem dX9_init_272 : decode cX9_init 272 = .ok (.putfield 110, 3) := by decide +kernel
theorem dX9_init_275 : decode cX9_init 275 = .ok (.aload_n 0, 1) := by decide +kernel
theorem dX9_init_276 : decode cX9_init 276 = .ok (.bipush 32, 2) := by decide +kernel
theorem dX9_init_278 : decode cX9_init 278 = .ok (.newarray .int, 2) := by decide +kernel
theorem dX9_init_280 : decode cX9_init 280 = .ok (.putfield 113, 3) := by decide +kernel
theorem dX9_init_283 : decode cX9_init 283 = .ok (.aload_n 0, 1) := by decide +kernel
theorem dX9_init_284 : decode cX9_init 284 = .ok (.sipush 320, 3) := by decide +kernel
theorem dX9_init_287 : decode cX9_init 287 = .ok (.newarray .int, 2) := by decide +kernel
theorem dX9_init_289 : decode cX9_init 289 = .ok (.putfield 116, 3) := by decide +kernel
theorem dX9_init_292 : decode cX9_init 292 = .ok (.aload_n 0, 1) := by decide +kernel
theorem dX9_init_293 : decode cX9_init 293 = .ok (.bipush 8, 2) := by decide +kernel
theorem dX9_init_295 : decode cX9_init 295 = .ok (.newarray .boolean, 2) := by decide +kernel
theorem dX9_init_297 : decode cX9_init 297 = .ok (.putfield 119, 3) := by decide +kernel
theorem dX9_init_300 : decode cX9_init 300 = .ok (.aload_n 0, 1) := by decide +kernel
theorem dX9_init_301 : decode cX9_init 301 = .ok (.iconst 4, 1) := by decide +kernel
theorem dX9_init_302 : decode cX9_init 302 = .ok (.newarray .int, 2) := by decide +kernel
theorem dX9_init_304 : decode cX9_init 304 = .ok (.putfield 122, 3) := by decide +kernel
theorem dX9_init_307 : decode cX9_init 307 = .ok (.aload_n 0, 1) := by decide +kernel
theorem dX9_init_308 : decode cX9_init 308 = .ok (.bipush 40, 2) := by decide +kernel
theorem dX9_init_310 : decode cX9_init 310 = .ok (.newarray .int, 2) := by decide +kernel
theorem dX9_init_312 : decode cX9_init 312 = .ok (.putfield 125, 3) := by decide +kernel
theorem dX9_init_315 : decode cX9_init 315 = .ok (.aload_n 0, 1) := by decide +kernel
theorem dX9_init_316 : decode cX9_init 316 = .ok (.sipush 200, 3) := by decide +kernel
theorem dX9_init_319 : decode cX9_init 319 = .ok (.newarray .int, 2) := by decide +kernel
theorem dX9_init_321 : decode cX9_init 321 = .ok (.putfield 128, 3) := by decide +kernel
theorem dX9_init_324 : decode cX9_init 324 = .ok (.aload_n 0, 1) := by decide +kernel
theorem dX9_init_325 : decode cX9_init 325 = .ok (.sipush 200, 3) := by decide +kernel
theorem dX9_init_328 : decode cX9_init 328 = .ok (.newarray .int, 2) := by decide +kernel
theorem dX9_init_330 : decode cX9_init 330 = .ok (.putfield 131, 3) := by decide +kernel
theorem dX9_init_333 : decode cX9_init 333 = .ok (.aload_n 0, 1) := by decide +kernel
theorem dX9_init_334 : decode cX9_init 334 = .ok (.sipush 200, 3) := by decide +kernel
theorem dX9_init_337 : decode cX9_init 337 = .ok (.newarray .int, 2) := by decide +kernel
theorem dX9_init_339 : decode cX9_init 339 = .ok (.putfield 134, 3) := by decide +kernel
theorem dX9_init_342 : decode cX9_init 342 = .ok (.aload_n 0, 1) := by decide +kernel
theorem dX9_init_343 : decode cX9_init 343 = .ok (.sipush 200, 3) := by decide +kernel
theorem dX9_init_346 : decode cX9_init 346 = .ok (.newarray .int, 2) := by decide +kernel
theorem dX9_init_348 : decode cX9_init 348 = .ok (.putfield 137, 3) := by decide +kernel
theorem dX9_init_351 : decode cX9_init 351 = .ok (.aload_n 0, 1) := by decide +kernel
theorem dX9_init_352 : decode cX9_init 352 = .ok (.sipush 200, 3) := by decide +kernel
theorem dX9_init_355 : decode cX9_init 355 = .ok (.newarray .int, 2) := by decide +kernel
theorem dX9_init_357 : decode cX9_init 357 = .ok (.putfield 140, 3) := by decide +kernel
theorem dX9_init_360 : decode cX9_init 360 = .ok (.aload_n 0, 1) := by decide +kernel
theorem dX9_init_361 : decode cX9_init 361 = .ok (.sipush 200, 3) := by decide +kernel
theorem dX9_init_364 : decode cX9_init 364 = .ok (.newarray .int, 2) := by decide +kernel
theorem dX9_init_366 : decode cX9_init 366 = .ok (.putfield 143, 3) := by decide +kernel
theorem dX9_init_369 : decode cX9_init 369 = .ok (.aload_n 0, 1) := by decide +kernel
theorem dX9_init_370 : decode cX9_init 370 = .ok (.sipush 200, 3) := by decide +kernel
theorem dX9_init_373 : decode cX9_init 373 = .ok (.newarray .int, 2) := by decide +kernel
theorem dX9_init_375 : decode cX9_init 375 = .ok (.putfield 146, 3) := by decide +kernel
theorem dX9_init_378 : decode cX9_init 378 = .ok (.aload_n 0, 1) := by decide +kernel
theorem dX9_init_379 : decode cX9_init 379 = .ok (.sipush 200, 3) := by decide +kernel
theorem dX9_init_382 : decode cX9_init 382 = .ok (.newarray .int, 2) := by decide +kernel
theorem dX9_init_384 : decode cX9_init 384 = .ok (.putfield 149, 3) := by decide +kernel
theorem dX9_init_387 : decode cX9_init 387 = .ok (.aload_n 0, 1) := by decide +kernel
theorem dX9_init_388 : decode cX9_init 388 = .ok (.bipush 8, 2) := by decide +kernel
theorem dX9_init_390 : decode cX9_init 390 = .ok (.newarray .int, 2) := by decide +kernel
theorem dX9_init_392 : decode cX9_init 392 = .ok (.putfield 152, 3) := by decide +kernel
theorem dX9_init_395 : decode cX9_init 395 = .ok (.aload_n 0, 1) := by decide +kernel
theorem dX9_init_396 : decode cX9_init 396 = .ok (.bipush 8, 2) := by decide +kernel
theorem dX9_init_398 : decode cX9_init 398 = .ok (.newarray .int, 2) := by decide +kernel
theorem dX9_init_400 : decode cX9_init 400 = .ok (.putfield 155, 3) := by decide +kernel
theorem dX9_init_403 : decode cX9_init 403 = .ok (.aload_n 0, 1) := by decide +kernel
theorem dX9_init_404 : decode cX9_init 404 = .ok (.bipush 8, 2) := by decide +kernel
theorem dX9_init_406 : decode cX9_init 406 = .ok (.newarray .int, 2) := by decide +kernel
theorem dX9_init_408 : decode cX9_init 408 = .ok (.putfield 158, 3) := by decide +kernel
theorem dX9_init_411 : decode cX9_init 411 = .ok (.aload_n 0, 1) := by decide +kernel
theorem dX9_init_412 : decode cX9_init 412 = .ok (.bipush 8, 2) := by decide +kernel
theorem dX9_init_414 : decode cX9_init 414 = .ok (.newarray .boolean, 2) := by decide +kernel
theorem dX9_init_416 : decode cX9_init 416 = .ok (.putfield 161, 3) := by decide +kernel
theorem dX9_init_419 : decode cX9_init 419 = .ok (.aload_n 0, 1) := by decide +kernel
theorem dX9_init_420 : decode cX9_init 420 = .ok (.bipush 64, 2) := by decide +kernel
theorem dX9_init_422 : decode cX9_init 422 = .ok (.newarray .int, 2) := by decide +kernel
theorem dX9_init_424 : decode cX9_init 424 = .ok (.putfield 164, 3) := by decide +kernel
theorem dX9_init_427 : decode cX9_init 427 = .ok (.aload_n 0, 1) := by decide +kernel
theorem dX9_init_428 : decode cX9_init 428 = .ok (.sipush 200, 3) := by decide +kernel
theorem dX9_init_431 : decode cX9_init 431 = .ok (.newarray .int, 2) := by decide +kernel
theorem dX9_init_433 : decode cX9_init 433 = .ok (.putfield 167, 3) := by decide +kernel
theorem dX9_init_436 : decode cX9_init 436 = .ok (.return_, 1) := by decide +kernel
theorem dX9_in_0 : decode cX9_in 0 = .ok (.lload_n 0, 1) := by decide +kernel
theorem dX9_in_1 : decode cX9_in 1 = .ok (.lload_n 2, 1) := by decide +kernel
theorem dX9_in_2 : decode cX9_in 2 = .ok (.lcmp, 1) := by decide +kernel
theorem dX9_in_3 : decode cX9_in 3 = .ok (.ifCond .lt 14, 3) := by decide +kernel
theorem dX9_in_6 : decode cX9_in 6 = .ok (.lload_n 0, 1) := by decide +kernel
theorem dX9_in_7 : decode cX9_in 7 = .ok (.lload 4, 2) := by decide +kernel
theorem dX9_in_9 : decode cX9_in 9 = .ok (.lcmp, 1) := by decide +kernel
theorem dX9_in_10 : decode cX9_in 10 = .ok (.ifCond .gt 7, 3) := by decide +kernel
theorem dX9_in_13 : decode cX9_in 13 = .ok (.iconst 1, 1) := by decide +kernel
theorem dX9_in_14 : decode cX9_in 14 = .ok (.goto 4, 3) := by decide +kernel
theorem dX9_in_17 : decode cX9_in 17 = .ok (.iconst 0, 1) := by decide +kernel
theorem dX9_in_18 : decode cX9_in 18 = .ok (.ireturn, 1) := by decide +kernel
theorem dX9_put_0 : decode cX9_put 0 = .ok (.aload_n 0, 1) := by decide +kernel
theorem dX9_put_1 : decode cX9_put 1 = .ok (.getfield 7, 3) := by decide +kernel
theorem dX9_put_4 : decode cX9_put 4 = .ok (.aload_n 0, 1) := by decide +kernel
theorem dX9_put_5 : decode cX9_put 5 = .ok (.getfield 170, 3) := by decide +kernel
theorem dX9_put_8 : decode cX9_put 8 = .ok (.iload_n 1, 1) := by decide +kernel
theorem dX9_put_9 : decode cX9_put 9 = .ok (.bipush 24, 2) := by decide +kernel
theorem dX9_put_11 : decode cX9_put 11 = .ok (.ishr, 1) := by decide +kernel
theorem dX9_put_12 : decode cX9_put 12 = .ok (.i2b, 1) := by decide +kernel
theorem dX9_put_13 : decode cX9_put 13 = .ok (.bastore, 1) := by decide +kernel
theorem dX9_put_14 : decode cX9_put 14 = .ok (.aload_n 0, 1) := by decide +kernel
theorem dX9_put_15 : decode cX9_put 15 = .ok (.getfield 7, 3) := by decide +kernel
theorem dX9_put_18 : decode cX9_put 18 = .ok (.aload_n 0, 1) := by decide +kernel
theorem dX9_put_19 : decode cX9_put 19 = .ok (.getfield 170, 3) := by decide +kernel
theorem dX9_put_22 : decode cX9_put 22 = .ok (.iconst 1, 1) := by decide +kernel
theorem dX9_put_23 : decode cX9_put 23 = .ok (.iadd, 1) := by decide +kernel
theorem dX9_put_24 : decode cX9_put 24 = .ok (.iload_n 1, 1) := by decide +kernel
theorem dX9_put_25 : decode cX9_put 25 = .ok (.bipush 16, 2) := by decide +kernel
theorem dX9_put_27 : decode cX9_put 27 = .ok (.ishr, 1) := by decide +kernel
theorem dX9_put_28 : decode cX9_put 28 = .ok (.i2b, 1) := by decide +kernel
theorem dX9_put_29 : decode cX9_put 29 = .ok (.bastore, 1) := by decide +kernel
theorem dX9_put_30 : decode cX9_put 30 = .ok (.aload_n 0, 1) := by decide +kernel
theorem dX9_put_31 : decode cX9_put 31 = .ok (.getfield 7, 3) := by decide +kernel
theorem dX9_put_34 : decode cX9_put 34 = .ok (.aload_n 0, 1) := by decide +kernel
theorem dX9_put_35 : decode cX9_put 35 = .ok (.getfield 170, 3) := by decide +kernel
theorem dX9_put_38 : decode cX9_put 38 = .ok (.iconst 2, 1) := by decide +kernel
theorem dX9_put_39 : decode cX9_put 39 = .ok (.iadd, 1) := by decide +kernel
theorem dX9_put_40 : decode cX9_put 40 = .ok (.iload_n 1, 1) := by decide +kernel
theorem dX9_put_41 : decode cX9_put 41 = .ok (.bipush 8, 2) := by decide +kernel
theorem dX9_put_43 : decode cX9_put 43 = .ok (.ishr, 1) := by decide +kernel
theorem dX9_put_44 : decode cX9_put 44 = .ok (.i2b, 1) := by decide +kernel
theorem dX9_put_45 : decode cX9_put 45 = .ok (.bastore, 1) := by decide +kernel
theorem dX9_put_46 : decode cX9_put 46 = .ok (.aload_n 0, 1) := by decide +kernel
theorem dX9_put_47 : decode cX9_put 47 = .ok (.getfield 7, 3) := by decide +kernel
theorem dX9_put_50 : decode cX9_put 50 = .ok (.aload_n 0, 1) := by decide +kernel
theorem dX9_put_51 : decode cX9_put 51 = .ok (.getfield 170, 3) := by decide +kernel
theorem dX9_put_54 : decode cX9_put 54 = .ok (.iconst 3, 1) := by decide +kernel
theorem dX9_put_55 : decode cX9_put 55 = .ok (.iadd, 1) := by decide +kernel
theorem dX9_put_56 : decode cX9_put 56 = .ok (.iload_n 1, 1) := by decide +kernel
theorem dX9_put_57 : decode cX9_put 57 = .ok (.i2b, 1) := by decide +kernel
theorem dX9_put_58 : decode cX9_put 58 = .ok (.bastore, 1) := by decide +kernel
theorem dX9_put_59 : decode cX9_put 59 = .ok (.aload_n 0, 1) := by decide +kernel
theorem dX9_put_60 : decode cX9_put 60 = .ok (.dup, 1) := by decide +kernel
theorem dX9_put_61 : decode cX9_put 61 = .ok (.getfield 170, 3) := by decide +kernel
theorem dX9_put_64 : decode cX9_put 64 = .ok (.iconst 4, 1) := by decide +kernel
theorem dX9_put_65 : decode cX9_put 65 = .ok (.iadd, 1) := by decide +kernel
theorem dX9_put_66 : decode cX9_put 66 = .ok (.putfield 170, 3) := by decide +kernel
theorem dX9_put_69 : decode cX9_put 69 = .ok (.return_, 1) := by decide +kernel
theorem dX9_feed_0 : decode cX9_feed 0 = .ok (.aload_n 0, 1) := by decide +kernel
theorem dX9_feed_1 : decode cX9_feed 1 = .ok (.getfield 170, 3) := by decide +kernel
theorem dX9_feed_4 : decode cX9_feed 4 = .ok (.bipush 20, 2) := by decide +kernel
theorem dX9_feed_6 : decode cX9_feed 6 = .ok (.iadd, 1) := by decide +kernel
theorem dX9_feed_7 : decode cX9_feed 7 = .ok (.sipush 300, 3) := by decide +kernel
theorem dX9_feed_10 : decode cX9_feed 10 = .ok (.if_icmp .le 5, 3) := by decide +kernel
theorem dX9_feed_13 : decode cX9_feed 13 = .ok (.iconst (-1), 1) := by decide +kernel
theorem dX9_feed_14 : decode cX9_feed 14 = .ok (.ireturn, 1) := by decide +kernel
theorem dX9_feed_15 : decode cX9_feed 15 = .ok (.aload_n 0, 1) := by decide +kernel
theorem dX9_feed_16 : decode cX9_feed 16 = .ok (.iload_n 1, 1) := by decide +kernel
theorem dX9_feed_17 : decode cX9_feed 17 = .ok (.invokevirtual 173, 3) := by decide +kernel
theorem dX9_feed_20 : decode cX9_feed 20 = .ok (.aload_n 0, 1) := by decide +kernel
theorem dX9_feed_21 : decode cX9_feed 21 = .ok (.iload_n 2, 1) := by decide +kernel
theorem dX9_feed_22 : decode cX9_feed 22 = .ok (.invokevirtual 173, 3) := by decide +kernel
theorem dX9_feed_25 : decode cX9_feed 25 = .ok (.aload_n 0, 1) := by decide +kernel
theorem dX9_feed_26 : decode cX9_feed 26 = .ok (.iload_n 3, 1) := by decide +kernel
theorem dX9_feed_27 : decode cX9_feed 27 = .ok (.invokevirtual 173, 3) := by decide +kernel
theorem dX9_feed_30 : decode cX9_feed 30 = .ok (.aload_n 0, 1) := by decide +kernel
theorem dX9_feed_31 : decode cX9_feed 31 = .ok (.iload 4, 2) := by decide +kernel
theorem dX9_feed_33 : decode cX9_feed 33 = .ok (.invokevirtual 173, 3) := by decide +kernel
theorem dX9_feed_36 : decode cX9_feed 36 = .ok (.aload_n 0, 1) := by decide +kernel
theorem dX9_feed_37 : decode cX9_feed 37 = .ok (.iload 5, 2) := by decide +kernel
theorem dX9_feed_39 : decode cX9_feed 39 = .ok (.invokevirtual 173, 3) := by decide +kernel
theorem dX9_feed_42 : decode cX9_feed 42 = .ok (.aload_n 0, 1) := by decide +kernel
theorem dX9_feed_43 : decode cX9_feed 43 = .ok (.getfield 170, 3) := by decide +kernel
theorem dX9_feed_46 : decode cX9_feed 46 = .ok (.ireturn, 1) := by decide +kernel
theorem dX9_isWell_0 : decode cX9_isWell 0 = .ok (.aload_n 0, 1) := by decide +kernel
theorem dX9_isWell_1 : decode cX9_isWell 1 = .ok (.getfield 181, 3) := by decide +kernel
theorem dX9_isWell_4 : decode cX9_isWell 4 = .ok (.ifCond .ne 7, 3) := by decide +kernel
theorem dX9_isWell_7 : decode cX9_isWell 7 = .ok (.iconst 1, 1) := by decide +kernel
theorem dX9_isWell_8 : decode cX9_isWell 8 = .ok (.goto 4, 3) := by decide +kernel
theorem dX9_isWell_11 : decode cX9_isWell 11 = .ok (.iconst 0, 1) := by decide +kernel
theorem dX9_isWell_12 : decode cX9_isWell 12 = .ok (.ireturn, 1) := by decide +kernel
theorem dX9_fails_0 : decode cX9_fails 0 = .ok (.aload_n 0, 1) := by decide +kernel
theorem dX9_fails_1 : decode cX9_fails 1 = .ok (.getfield 181, 3) := by decide +kernel
theorem dX9_fails_4 : decode cX9_fails 4 = .ok (.ifCond .ne 16, 3) := by decide +kernel
theorem dX9_fails_7 : decode cX9_fails 7 = .ok (.aload_n 0, 1) := by decide +kernel
theorem dX9_fails_8 : decode cX9_fails 8 = .ok (.iload_n 1, 1) := by decide +kernel
theorem dX9_fails_9 : decode cX9_fails 9 = .ok (.putfield 181, 3) := by decide +kernel
theorem dX9_fails_12 : decode cX9_fails 12 = .ok (.aload_n 0, 1) := by decide +kernel
theorem dX9_fails_13 : decode cX9_fails 13 = .ok (.aload_n 0, 1) := by decide +kernel
theorem dX9_fails_14 : decode cX9_fails 14 = .ok (.getfield 184, 3) := by decide +kernel
theorem dX9_fails_17 : decode cX9_fails 17 = .ok (.putfield 187, 3) := by decide +kernel
theorem dX9_fails_20 : decode cX9_fails 20 = .ok (.return_, 1) := by decide +kernel
theorem dX9_wordOf_0 : decode cX9_wordOf 0 = .ok (.iload_n 0, 1) := by decide +kernel
theorem dX9_wordOf_1 : decode cX9_wordOf 1 = .ok (.lookupswitch 104 #[(143, 83), (294, 93), (4773, 87), (19636, 101), (81544, 91), (176741, 95), (189619, 89), (605573, 85), (1279278, 98)], 83) := by decide +kernel
theorem dX9_wordOf_84 : decode cX9_wordOf 84 = .ok (.iconst 0, 1) := by decide +kernel
theorem dX9_wordOf_85 : decode cX9_wordOf 85 = .ok (.ireturn, 1) := by decide +kernel
theorem dX9_wordOf_86 : decode cX9_wordOf 86 = .ok (.iconst 1, 1) := by decide +kernel
theorem dX9_wordOf_87 : decode cX9_wordOf 87 = .ok (.ireturn, 1) := by decide +kernel
theorem dX9_wordOf_88 : decode cX9_wordOf 88 = .ok (.iconst 2, 1) := by decide +kernel
theorem dX9_wordOf_89 : decode cX9_wordOf 89 = .ok (.ireturn, 1) := by decide +kernel
theorem dX9_wordOf_90 : decode cX9_wordOf 90 = .ok (.iconst 3, 1) := by decide +kernel
theorem dX9_wordOf_91 : decode cX9_wordOf 91 = .ok (.ireturn, 1) := by decide +kernel
theorem dX9_wordOf_92 : decode cX9_wordOf 92 = .ok (.iconst 4, 1) := by decide +kernel
theorem dX9_wordOf_93 : decode cX9_wordOf 93 = .ok (.ireturn, 1) := by decide +kernel
theorem dX9_wordOf_94 : decode cX9_wordOf 94 = .ok (.iconst 5, 1) := by decide +kernel
theorem dX9_wordOf_95 : decode cX9_wordOf 95 = .ok (.ireturn, 1) := by decide +kernel
theorem dX9_wordOf_96 : decode cX9_wordOf 96 = .ok (.bipush 6, 2) := by decide +kernel
theorem dX9_wordOf_98 : decode cX9_wordOf 98 = .ok (.ireturn, 1) := by decide +kernel
theorem dX9_wordOf_99 : decode cX9_wordOf 99 = .ok (.bipush 7, 2) := by decide +kernel
theorem dX9_wordOf_101 : decode cX9_wordOf 101 = .ok (.ireturn, 1) := by decide +kernel
theorem dX9_wordOf_102 : decode cX9_wordOf 102 = .ok (.bipush 8, 2) := by decide +kernel
theorem dX9_wordOf_104 : decode cX9_wordOf 104 = .ok (.ireturn, 1) := by decide +kernel
theorem dX9_wordOf_105 : decode cX9_wordOf 105 = .ok (.iconst (-1), 1) := by decide +kernel
theorem dX9_wordOf_106 : decode cX9_wordOf 106 = .ok (.ireturn, 1) := by decide +kernel
theorem dX9_next_0 : decode cX9_next 0 = .ok (.aload_n 0, 1) := by decide +kernel
theorem dX9_next_1 : decode cX9_next 1 = .ok (.getfield 190, 3) := by decide +kernel
theorem dX9_next_4 : decode cX9_next 4 = .ok (.iload_n 1, 1) := by decide +kernel
theorem dX9_next_5 : decode cX9_next 5 = .ok (.if_icmp .ge 44, 3) := by decide +kernel
theorem dX9_next_8 : decode cX9_next 8 = .ok (.aload_n 0, 1) := by decide +kernel
theorem dX9_next_9 : decode cX9_next 9 = .ok (.getfield 7, 3) := by decide +kernel
theorem dX9_next_12 : decode cX9_next 12 = .ok (.aload_n 0, 1) := by decide +kernel
theorem dX9_next_13 : decode cX9_next 13 = .ok (.getfield 190, 3) := by decide +kernel
theorem dX9_next_16 : decode cX9_next 16 = .ok (.baload, 1) := by decide +kernel
theorem dX9_next_17 : decode cX9_next 17 = .ok (.bipush 32, 2) := by decide +kernel
theorem dX9_next_19 : decode cX9_next 19 = .ok (.if_icmp .eq 17, 3) := by decide +kernel
theorem dX9_next_22 : decode cX9_next 22 = .ok (.aload_n 0, 1) := by decide +kernel
theorem dX9_next_23 : decode cX9_next 23 = .ok (.getfield 7, 3) := by decide +kernel
theorem dX9_next_26 : decode cX9_next 26 = .ok (.aload_n 0, 1) := by decide +kernel
theorem dX9_next_27 : decode cX9_next 27 = .ok (.getfield 190, 3) := by decide +kernel
theorem dX9_next_30 : decode cX9_next 30 = .ok (.baload, 1) := by decide +kernel
theorem dX9_next_31 : decode cX9_next 31 = .ok (.bipush 10, 2) := by decide +kernel
theorem dX9_next_33 : decode cX9_next 33 = .ok (.if_icmp .ne 16, 3) := by decide +kernel
theorem dX9_next_36 : decode cX9_next 36 = .ok (.aload_n 0, 1) := by decide +kernel
theorem dX9_next_37 : decode cX9_next 37 = .ok (.dup, 1) := by decide +kernel
theorem dX9_next_38 : decode cX9_next 38 = .ok (.getfield 190, 3) := by decide +kernel
theorem dX9_next_41 : decode cX9_next 41 = .ok (.iconst 1, 1) := by decide +kernel
theorem dX9_next_42 : decode cX9_next 42 = .ok (.iadd, 1) := by decide +kernel
theorem dX9_next_43 : decode cX9_next 43 = .ok (.putfield 190, 3) := by decide +kernel
theorem dX9_next_46 : decode cX9_next 46 = .ok (.goto (-46), 3) := by decide +kernel
theorem dX9_next_49 : decode cX9_next 49 = .ok (.aload_n 0, 1) := by decide +kernel
theorem dX9_next_50 : decode cX9_next 50 = .ok (.aload_n 0, 1) := by decide +kernel
theorem dX9_next_51 : decode cX9_next 51 = .ok (.getfield 190, 3) := by decide +kernel
theorem dX9_next_54 : decode cX9_next 54 = .ok (.putfield 184, 3) := by decide +kernel
theorem dX9_next_57 : decode cX9_next 57 = .ok (.aload_n 0, 1) := by decide +kernel
theorem dX9_next_58 : decode cX9_next 58 = .ok (.lconst 0, 1) := by decide +kernel
theorem dX9_next_59 : decode cX9_next 59 = .ok (.putfield 193, 3) := by decide +kernel
theorem dX9_next_62 : decode cX9_next 62 = .ok (.aload_n 0, 1) := by decide +kernel
theorem dX9_next_63 : decode cX9_next 63 = .ok (.getfield 190, 3) := by decide +kernel
theorem dX9_next_66 : decode cX9_next 66 = .ok (.iload_n 1, 1) := by decide +kernel
theorem dX9_next_67 : decode cX9_next 67 = .ok (.if_icmp .ne 9, 3) := by decide +kernel
theorem dX9_next_70 : decode cX9_next 70 = .ok (.aload_n 0, 1) := by decide +kernel
theorem dX9_next_71 : decode cX9_next 71 = .ok (.iconst 0, 1) := by decide +kernel
theorem dX9_next_72 : decode cX9_next 72 = .ok (.putfield 197, 3) := by decide +kernel
theorem dX9_next_75 : decode cX9_next 75 = .ok (.return_, 1) := by decide +kernel
theorem dX9_next_76 : decode cX9_next 76 = .ok (.aload_n 0, 1) := by decide +kernel
theorem dX9_next_77 : decode cX9_next 77 = .ok (.getfield 7, 3) := by decide +kernel
theorem dX9_next_80 : decode cX9_next 80 = .ok (.aload_n 0, 1) := by decide +kernel
theorem dX9_next_81 : decode cX9_next 81 = .ok (.getfield 190, 3) := by decide +kernel
theorem dX9_next_84 : decode cX9_next 84 = .ok (.baload, 1) := by decide +kernel
theorem dX9_next_85 : decode cX9_next 85 = .ok (.istore_n 2, 1) := by decide +kernel
theorem dX9_next_86 : decode cX9_next 86 = .ok (.iload_n 2, 1) := by decide +kernel
theorem dX9_next_87 : decode cX9_next 87 = .ok (.i2l, 1) := by decide +kernel
theorem dX9_next_88 : decode cX9_next 88 = .ok (.ldc2_w 200, 3) := by decide +kernel
theorem dX9_next_91 : decode cX9_next 91 = .ok (.ldc2_w 202, 3) := by decide +kernel
theorem dX9_next_94 : decode cX9_next 94 = .ok (.invokestatic 177, 3) := by decide +kernel
theorem dX9_next_97 : decode cX9_next 97 = .ok (.ifCond .eq 171, 3) := by decide +kernel
theorem dX9_next_100 : decode cX9_next 100 = .ok (.aload_n 0, 1) := by decide +kernel
theorem dX9_next_101 : decode cX9_next 101 = .ok (.iconst 0, 1) := by decide +kernel
theorem dX9_next_102 : decode cX9_next 102 = .ok (.putfield 204, 3) := by decide +kernel
theorem dX9_next_105 : decode cX9_next 105 = .ok (.aload_n 0, 1) := by decide +kernel
theorem dX9_next_106 : decode cX9_next 106 = .ok (.getfield 190, 3) := by decide +kernel
theorem dX9_next_109 : decode cX9_next 109 = .ok (.iload_n 1, 1) := by decide +kernel
theorem dX9_next_110 : decode cX9_next 110 = .ok (.if_icmp .ge 91, 3) := by decide +kernel
theorem dX9_next_113 : decode cX9_next 113 = .ok (.aload_n 0, 1) := by decide +kernel
theorem dX9_next_114 : decode cX9_next 114 = .ok (.getfield 7, 3) := by decide +kernel
theorem dX9_next_117 : decode cX9_next 117 = .ok (.aload_n 0, 1) := by decide +kernel
theorem dX9_next_118 : decode cX9_next 118 = .ok (.getfield 190, 3) := by decide +kernel
theorem dX9_next_121 : decode cX9_next 121 = .ok (.baload, 1) := by decide +kernel
theorem dX9_next_122 : decode cX9_next 122 = .ok (.i2l, 1) := by decide +kernel
theorem dX9_next_123 : decode cX9_next 123 = .ok (.ldc2_w 200, 3) := by decide +kernel
theorem dX9_next_126 : decode cX9_next 126 = .ok (.ldc2_w 202, 3) := by decide +kernel
theorem dX9_next_129 : decode cX9_next 129 = .ok (.invokestatic 177, 3) := by decide +kernel
theorem dX9_next_132 : decode cX9_next 132 = .ok (.ifCond .eq 69, 3) := by decide +kernel
theorem dX9_next_135 : decode cX9_next 135 = .ok (.aload_n 0, 1) := by decide +kernel
theorem dX9_next_136 : decode cX9_next 136 = .ok (.aload_n 0, 1) := by decide +kernel
theorem dX9_next_137 : decode cX9_next 137 = .ok (.getfield 204, 3) := by decide +kernel
theorem dX9_next_140 : decode cX9_next 140 = .ok (.bipush 6, 2) := by decide +kernel
theorem dX9_next_142 : decode cX9_next 142 = .ok (.if_icmp .ge 29, 3) := by decide +kernel
theorem dX9_next_145 : decode cX9_next 145 = .ok (.ldc2_w 207, 3) := by decide +kernel
theorem dX9_next_148 : decode cX9_next 148 = .ok (.aload_n 0, 1) := by decide +kernel
theorem dX9_next_149 : decode cX9_next 149 = .ok (.getfield 193, 3) := by decide +kernel
theorem dX9_next_152 : decode cX9_next 152 = .ok (.lmul, 1) := by decide +kernel
theorem dX9_next_153 : decode cX9_next 153 = .ok (.aload_n 0, 1) := by decide +kernel
theorem dX9_next_154 : decode cX9_next 154 = .ok (.getfield 7, 3) := by decide +kernel
theorem dX9_next_157 : decode cX9_next 157 = .ok (.aload_n 0, 1) := by decide +kernel
theorem dX9_next_158 : decode cX9_next 158 = .ok (.getfield 190, 3) := by decide +kernel
theorem dX9_next_161 : decode cX9_next 161 = .ok (.baload, 1) := by decide +kernel
theorem dX9_next_162 : decode cX9_next 162 = .ok (.i2l, 1) := by decide +kernel
theorem dX9_next_163 : decode cX9_next 163 = .ok (.ladd, 1) := by decide +kernel
theorem dX9_next_164 : decode cX9_next 164 = .ok (.ldc2_w 209, 3) := by decide +kernel
theorem dX9_next_167 : decode cX9_next 167 = .ok (.lsub, 1) := by decide +kernel
theorem dX9_next_168 : decode cX9_next 168 = .ok (.goto 7, 3) := by decide +kernel
theorem dX9_next_171 : decode cX9_next 171 = .ok (.aload_n 0, 1) := by decide +kernel
theorem dX9_next_172 : decode cX9_next 172 = .ok (.getfield 193, 3) := by decide +kernel
theorem dX9_next_175 : decode cX9_next 175 = .ok (.putfield 193, 3) := by decide +kernel
theorem dX9_next_178 : decode cX9_next 178 = .ok (.aload_n 0, 1) := by decide +kernel
theorem dX9_next_179 : decode cX9_next 179 = .ok (.dup, 1) := by decide +kernel
theorem dX9_next_180 : decode cX9_next 180 = .ok (.getfield 204, 3) := by decide +kernel
theorem dX9_next_183 : decode cX9_next 183 = .ok (.iconst 1, 1) := by decide +kernel
theorem dX9_next_184 : decode cX9_next 184 = .ok (.iadd, 1) := by decide +kernel
theorem dX9_next_185 : decode cX9_next 185 = .ok (.putfield 204, 3) := by decide +kernel
theorem dX9_next_188 : decode cX9_next 188 = .ok (.aload_n 0, 1) := by decide +kernel
theorem dX9_next_189 : decode cX9_next 189 = .ok (.dup, 1) := by decide +kernel
theorem dX9_next_190 : decode cX9_next 190 = .ok (.getfield 190, 3) := by decide +kernel
theorem dX9_next_193 : decode cX9_next 193 = .ok (.iconst 1, 1) := by decide +kernel
theorem dX9_next_194 : decode cX9_next 194 = .ok (.iadd, 1) := by decide +kernel
theorem dX9_next_195 : decode cX9_next 195 = .ok (.putfield 190, 3) := by decide +kernel
theorem dX9_next_198 : decode cX9_next 198 = .ok (.goto (-93), 3) := by decide +kernel
theorem dX9_next_201 : decode cX9_next 201 = .ok (.aload_n 0, 1) := by decide +kernel
theorem dX9_next_202 : decode cX9_next 202 = .ok (.getfield 204, 3) := by decide +kernel
theorem dX9_next_205 : decode cX9_next 205 = .ok (.iconst 5, 1) := by decide +kernel
theorem dX9_next_206 : decode cX9_next 206 = .ok (.if_icmp .le 7, 3) := by decide +kernel
theorem dX9_next_209 : decode cX9_next 209 = .ok (.iconst (-1), 1) := by decide +kernel
theorem dX9_next_210 : decode cX9_next 210 = .ok (.goto 11, 3) := by decide +kernel
theorem dX9_next_213 : decode cX9_next 213 = .ok (.aload_n 0, 1) := by decide +kernel
theorem dX9_next_214 : decode cX9_next 214 = .ok (.getfield 193, 3) := by decide +kernel
theorem dX9_next_217 : decode cX9_next 217 = .ok (.l2i, 1) := by decide +kernel
theorem dX9_next_218 : decode cX9_next 218 = .ok (.invokestatic 211, 3) := by decide +kernel
theorem dX9_next_221 : decode cX9_next 221 = .ok (.istore_n 3, 1) := by decide +kernel
theorem dX9_next_222 : decode cX9_next 222 = .ok (.aload_n 0, 1) := by decide +kernel
theorem dX9_next_223 : decode cX9_next 223 = .ok (.iload_n 3, 1) := by decide +kernel
theorem dX9_next_224 : decode cX9_next 224 = .ok (.ifCond .lt 7, 3) := by decide +kernel
theorem dX9_next_227 : decode cX9_next 227 = .ok (.iconst 2, 1) := by decide +kernel
theorem dX9_next_228 : decode cX9_next 228 = .ok (.goto 17, 3) := by decide +kernel
theorem dX9_next_231 : decode cX9_next 231 = .ok (.aload_n 0, 1) := by decide +kernel
theorem dX9_next_232 : decode cX9_next 232 = .ok (.getfield 204, 3) := by decide +kernel
theorem dX9_next_235 : decode cX9_next 235 = .ok (.bipush 6, 2) := by decide +kernel
theorem dX9_next_237 : decode cX9_next 237 = .ok (.if_icmp .le 7, 3) := by decide +kernel
theorem dX9_next_240 : decode cX9_next 240 = .ok (.iconst 5, 1) := by decide +kernel
theorem dX9_next_241 : decode cX9_next 241 = .ok (.goto 4, 3) := by decide +kernel
theorem dX9_next_244 : decode cX9_next 244 = .ok (.iconst 1, 1) := by decide +kernel
theorem dX9_next_245 : decode cX9_next 245 = .ok (.putfield 197, 3) := by decide +kernel
theorem dX9_next_248 : decode cX9_next 248 = .ok (.aload_n 0, 1) := by decide +kernel
theorem dX9_next_249 : decode cX9_next 249 = .ok (.iload_n 3, 1) := by decide +kernel
theorem dX9_next_250 : decode cX9_next 250 = .ok (.ifCond .lt 8, 3) := by decide +kernel
theorem dX9_next_253 : decode cX9_next 253 = .ok (.iload_n 3, 1) := by decide +kernel
theorem dX9_next_254 : decode cX9_next 254 = .ok (.i2l, 1) := by decide +kernel
theorem dX9_next_255 : decode cX9_next 255 = .ok (.goto 7, 3) := by decide +kernel
theorem dX9_next_258 : decode cX9_next 258 = .ok (.aload_n 0, 1) := by decide +kernel
theorem dX9_next_259 : decode cX9_next 259 = .ok (.getfield 193, 3) := by decide +kernel
theorem dX9_next_262 : decode cX9_next 262 = .ok (.putfield 193, 3) := by decide +kernel
theorem dX9_next_265 : decode cX9_next 265 = .ok (.goto 158, 3) := by decide +kernel
theorem dX9_next_268 : decode cX9_next 268 = .ok (.iload_n 2, 1) := by decide +kernel
theorem dX9_next_269 : decode cX9_next 269 = .ok (.i2l, 1) := by decide +kernel
theorem dX9_next_270 : decode cX9_next 270 = .ok (.ldc2_w 215, 3) := by decide +kernel
theorem dX9_next_273 : decode cX9_next 273 = .ok (.ldc2_w 217, 3) := by decide +kernel
theorem dX9_next_276 : decode cX9_next 276 = .ok (.invokestatic 177, 3) := by decide +kernel
theorem dX9_next_279 : decode cX9_next 279 = .ok (.ifCond .eq 95, 3) := by decide +kernel
theorem dX9_next_282 : decode cX9_next 282 = .ok (.aload_n 0, 1) := by decide +kernel
theorem dX9_next_283 : decode cX9_next 283 = .ok (.iconst 3, 1) := by decide +kernel
theorem dX9_next_284 : decode cX9_next 284 = .ok (.putfield 197, 3) := by decide +kernel
theorem dX9_next_287 : decode cX9_next 287 = .ok (.aload_n 0, 1) := by decide +kernel
theorem dX9_next_288 : decode cX9_next 288 = .ok (.getfield 190, 3) := by decide +kernel
theorem dX9_next_291 : decode cX9_next 291 = .ok (.iload_n 1, 1) := by decide +kernel
theorem dX9_next_292 : decode cX9_next 292 = .ok (.if_icmp .ge 131, 3) := by decide +kernel
theorem dX9_next_295 : decode cX9_next 295 = .ok (.aload_n 0, 1) := by decide +kernel
theorem dX9_next_296 : decode cX9_next 296 = .ok (.getfield 7, 3) := by decide +kernel
theorem dX9_next_299 : decode cX9_next 299 = .ok (.aload_n 0, 1) := by decide +kernel
theorem dX9_next_300 : decode cX9_next 300 = .ok (.getfield 190, 3) := by decide +kernel
theorem dX9_next_303 : decode cX9_next 303 = .ok (.baload, 1) := by decide +kernel
theorem dX9_next_304 : decode cX9_next 304 = .ok (.i2l, 1) := by decide +kernel
theorem dX9_next_305 : decode cX9_next 305 = .ok (.ldc2_w 215, 3) := by decide +kernel
theorem dX9_next_308 : decode cX9_next 308 = .ok (.ldc2_w 217, 3) := by decide +kernel
theorem dX9_next_311 : decode cX9_next 311 = .ok (.invokestatic 177, 3) := by decide +kernel
theorem dX9_next_314 : decode cX9_next 314 = .ok (.ifCond .eq 109, 3) := by decide +kernel
theorem dX9_next_317 : decode cX9_next 317 = .ok (.aload_n 0, 1) := by decide +kernel
theorem dX9_next_318 : decode cX9_next 318 = .ok (.aload_n 0, 1) := by decide +kernel
theorem dX9_next_319 : decode cX9_next 319 = .ok (.getfield 193, 3) := by decide +kernel
theorem dX9_next_322 : decode cX9_next 322 = .ok (.ldc2_w 219, 3) := by decide +kernel
theorem dX9_next_325 : decode cX9_next 325 = .ok (.lcmp, 1) := by decide +kernel
theorem dX9_next_326 : decode cX9_next 326 = .ok (.ifCond .le 9, 3) := by decide +kernel
theorem dX9_next_329 : decode cX9_next 329 = .ok (.ldc2_w 221, 3) := by decide +kernel
theorem dX9_next_332 : decode cX9_next 332 = .ok (.goto 26, 3) := by decide +kernel
theorem dX9_next_335 : decode cX9_next 335 = .ok (.ldc2_w 223, 3) := by decide +kernel
theorem dX9_next_338 : decode cX9_next 338 = .ok (.aload_n 0, 1) := by decide +kernel
theorem dX9_next_339 : decode cX9_next 339 = .ok (.getfield 193, 3) := by decide +kernel
theorem dX9_next_342 : decode cX9_next 342 = .ok (.lmul, 1) := by decide +kernel
theorem dX9_next_343 : decode cX9_next 343 = .ok (.aload_n 0, 1) := by decide +kernel
theorem dX9_next_344 : decode cX9_next 344 = .ok (.getfield 7, 3) := by decide +kernel
theorem dX9_next_347 : decode cX9_next 347 = .ok (.aload_n 0, 1) := by decide +kernel
theorem dX9_next_348 : decode cX9_next 348 = .ok (.getfield 190, 3) := by decide +kernel
theorem dX9_next_351 : decode cX9_next 351 = .ok (.baload, 1) := by decide +kernel
theorem dX9_next_352 : decode cX9_next 352 = .ok (.i2l, 1) := by decide +kernel
theorem dX9_next_353 : decode cX9_next 353 = .ok (.ladd, 1) := by decide +kernel
theorem dX9_next_354 : decode cX9_next 354 = .ok (.ldc2_w 215, 3) := by decide +kernel
theorem dX9_next_357 : decode cX9_next 357 = .ok (.lsub, 1) := by decide +kernel
theorem dX9_next_358 : decode cX9_next 358 = .ok (.putfield 193, 3) := by decide +kernel
theorem dX9_next_361 : decode cX9_next 361 = .ok (.aload_n 0, 1) := by decide +kernel
theorem dX9_next_362 : decode cX9_next 362 = .ok (.dup, 1) := by decide +kernel
theorem dX9_next_363 : decode cX9_next 363 = .ok (.getfield 190, 3) := by decide +kernel
theorem dX9_next_366 : decode cX9_next 366 = .ok (.iconst 1, 1) := by decide +kernel
theorem dX9_next_367 : decode cX9_next 367 = .ok (.iadd, 1) := by decide +kernel
theorem dX9_next_368 : decode cX9_next 368 = .ok (.putfield 190, 3) := by decide +kernel
theorem dX9_next_371 : decode cX9_next 371 = .ok (.goto (-84), 3) := by decide +kernel
theorem dX9_next_374 : decode cX9_next 374 = .ok (.aload_n 0, 1) := by decide +kernel
theorem dX9_next_375 : decode cX9_next 375 = .ok (.dup, 1) := by decide +kernel
theorem dX9_next_376 : decode cX9_next 376 = .ok (.getfield 190, 3) := by decide +kernel
theorem dX9_next_379 : decode cX9_next 379 = .ok (.iconst 1, 1) := by decide +kernel
theorem dX9_next_380 : decode cX9_next 380 = .ok (.iadd, 1) := by decide +kernel
theorem dX9_next_381 : decode cX9_next 381 = .ok (.putfield 190, 3) := by decide +kernel
theorem dX9_next_384 : decode cX9_next 384 = .ok (.aload_n 0, 1) := by decide +kernel
theorem dX9_next_385 : decode cX9_next 385 = .ok (.iload_n 2, 1) := by decide +kernel
theorem dX9_next_386 : decode cX9_next 386 = .ok (.i2l, 1) := by decide +kernel
theorem dX9_next_387 : decode cX9_next 387 = .ok (.putfield 193, 3) := by decide +kernel
theorem dX9_next_390 : decode cX9_next 390 = .ok (.aload_n 0, 1) := by decide +kernel
theorem dX9_next_391 : decode cX9_next 391 = .ok (.iload_n 2, 1) := by decide +kernel
theorem dX9_next_392 : decode cX9_next 392 = .ok (.bipush 123, 2) := by decide +kernel
theorem dX9_next_394 : decode cX9_next 394 = .ok (.if_icmp .eq 21, 3) := by decide +kernel
theorem dX9_next_397 : decode cX9_next 397 = .ok (.iload_n 2, 1) := by decide +kernel
theorem dX9_next_398 : decode cX9_next 398 = .ok (.bipush 125, 2) := by decide +kernel
theorem dX9_next_400 : decode cX9_next 400 = .ok (.if_icmp .eq 15, 3) := by decide +kernel
theorem dX9_next_403 : decode cX9_next 403 = .ok (.iload_n 2, 1) := by decide +kernel
theorem dX9_next_404 : decode cX9_next 404 = .ok (.bipush 59, 2) := by decide +kernel
theorem dX9_next_406 : decode cX9_next 406 = .ok (.if_icmp .eq 9, 3) := by decide +kernel
theorem dX9_next_409 : decode cX9_next 409 = .ok (.iload_n 2, 1) := by decide +kernel
theorem dX9_next_410 : decode cX9_next 410 = .ok (.bipush 60, 2) := by decide +kernel
theorem dX9_next_412 : decode cX9_next 412 = .ok (.if_icmp .ne 7, 3) := by decide +kernel
theorem dX9_next_415 : decode cX9_next 415 = .ok (.iconst 4, 1) := by decide +kernel
theorem dX9_next_416 : decode cX9_next 416 = .ok (.goto 4, 3) := by decide +kernel
theorem dX9_next_419 : decode cX9_next 419 = .ok (.iconst 5, 1) := by decide +kernel
theorem dX9_next_420 : decode cX9_next 420 = .ok (.putfield 197, 3) := by decide +kernel
theorem dX9_next_423 : decode cX9_next 423 = .ok (.return_, 1) := by decide +kernel
theorem dX9_isSign_0 : decode cX9_isSign 0 = .ok (.aload_n 0, 1) := by decide +kernel
theorem dX9_isSign_1 : decode cX9_isSign 1 = .ok (.invokevirtual 225, 3) := by decide +kernel
theorem dX9_isSign_4 : decode cX9_isSign 4 = .ok (.ifCond .eq 25, 3) := by decide +kernel
theorem dX9_isSign_7 : decode cX9_isSign 7 = .ok (.aload_n 0, 1) := by decide +kernel
theorem dX9_isSign_8 : decode cX9_isSign 8 = .ok (.getfield 197, 3) := by decide +kernel
theorem dX9_isSign_11 : decode cX9_isSign 11 = .ok (.iconst 4, 1) := by decide +kernel
theorem dX9_isSign_12 : decode cX9_isSign 12 = .ok (.if_icmp .ne 17, 3) := by decide +kernel
theorem dX9_isSign_15 : decode cX9_isSign 15 = .ok (.aload_n 0, 1) := by decide +kernel
theorem dX9_isSign_16 : decode cX9_isSign 16 = .ok (.getfield 193, 3) := by decide +kernel
theorem dX9_isSign_19 : decode cX9_isSign 19 = .ok (.iload_n 1, 1) := by decide +kernel
theorem dX9_isSign_20 : decode cX9_isSign 20 = .ok (.i2l, 1) := by decide +kernel
theorem dX9_isSign_21 : decode cX9_isSign 21 = .ok (.lcmp, 1) := by decide +kernel
theorem dX9_isSign_22 : decode cX9_isSign 22 = .ok (.ifCond .ne 7, 3) := by decide +kernel
theorem dX9_isSign_25 : decode cX9_isSign 25 = .ok (.iconst 1, 1) := by decide +kernel
theorem dX9_isSign_26 : decode cX9_isSign 26 = .ok (.goto 4, 3) := by decide +kernel
theorem dX9_isSign_29 : decode cX9_isSign 29 = .ok (.iconst 0, 1) := by decide +kernel
theorem dX9_isSign_30 : decode cX9_isSign 30 = .ok (.ireturn, 1) := by decide +kernel
theorem dX9_isWord_0 : decode cX9_isWord 0 = .ok (.aload_n 0, 1) := by decide +kernel
theorem dX9_isWord_1 : decode cX9_isWord 1 = .ok (.invokevirtual 225, 3) := by decide +kernel
theorem dX9_isWord_4 : decode cX9_isWord 4 = .ok (.ifCond .eq 25, 3) := by decide +kernel
theorem dX9_isWord_7 : decode cX9_isWord 7 = .ok (.aload_n 0, 1) := by decide +kernel
theorem dX9_isWord_8 : decode cX9_isWord 8 = .ok (.getfield 197, 3) := by decide +kernel
theorem dX9_isWord_11 : decode cX9_isWord 11 = .ok (.iconst 2, 1) := by decide +kernel
theorem dX9_isWord_12 : decode cX9_isWord 12 = .ok (.if_icmp .ne 17, 3) := by decide +kernel
theorem dX9_isWord_15 : decode cX9_isWord 15 = .ok (.aload_n 0, 1) := by decide +kernel
theorem dX9_isWord_16 : decode cX9_isWord 16 = .ok (.getfield 193, 3) := by decide +kernel
theorem dX9_isWord_19 : decode cX9_isWord 19 = .ok (.iload_n 1, 1) := by decide +kernel
theorem dX9_isWord_20 : decode cX9_isWord 20 = .ok (.i2l, 1) := by decide +kernel
theorem dX9_isWord_21 : decode cX9_isWord 21 = .ok (.lcmp, 1) := by decide +kernel
theorem dX9_isWord_22 : decode cX9_isWord 22 = .ok (.ifCond .ne 7, 3) := by decide +kernel
theorem dX9_isWord_25 : decode cX9_isWord 25 = .ok (.iconst 1, 1) := by decide +kernel
theorem dX9_isWord_26 : decode cX9_isWord 26 = .ok (.goto 4, 3) := by decide +kernel
theorem dX9_isWord_29 : decode cX9_isWord 29 = .ok (.iconst 0, 1) := by decide +kernel
theorem dX9_isWord_30 : decode cX9_isWord 30 = .ok (.ireturn, 1) := by decide +kernel
theorem dX9_takes_0 : decode cX9_takes 0 = .ok (.aload_n 0, 1) := by decide +kernel
theorem dX9_takes_1 : decode cX9_takes 1 = .ok (.iload_n 1, 1) := by decide +kernel
theorem dX9_takes_2 : decode cX9_takes 2 = .ok (.invokevirtual 229, 3) := by decide +kernel
theorem dX9_takes_5 : decode cX9_takes 5 = .ok (.ifCond .eq 11, 3) := by decide +kernel
theorem dX9_takes_8 : decode cX9_takes 8 = .ok (.aload_n 0, 1) := by decide +kernel
theorem dX9_takes_9 : decode cX9_takes 9 = .ok (.iload_n 2, 1) := by decide +kernel
theorem dX9_takes_10 : decode cX9_takes 10 = .ok (.invokevirtual 233, 3) := by decide +kernel
theorem dX9_takes_13 : decode cX9_takes 13 = .ok (.goto 8, 3) := by decide +kernel
theorem dX9_takes_16 : decode cX9_takes 16 = .ok (.aload_n 0, 1) := by decide +kernel
theorem dX9_takes_17 : decode cX9_takes 17 = .ok (.iconst 1, 1) := by decide +kernel
theorem dX9_takes_18 : decode cX9_takes 18 = .ok (.invokevirtual 236, 3) := by decide +kernel
theorem dX9_takes_21 : decode cX9_takes 21 = .ok (.return_, 1) := by decide +kernel
theorem dX9_takesWord_0 : decode cX9_takesWord 0 = .ok (.aload_n 0, 1) := by decide +kernel
theorem dX9_takesWord_1 : decode cX9_takesWord 1 = .ok (.iload_n 1, 1) := by decide +kernel
theorem dX9_takesWord_2 : decode cX9_takesWord 2 = .ok (.invokevirtual 239, 3) := by decide +kernel
theorem dX9_takesWord_5 : decode cX9_takesWord 5 = .ok (.ifCond .eq 11, 3) := by decide +kernel
theorem dX9_takesWord_8 : decode cX9_takesWord 8 = .ok (.aload_n 0, 1) := by decide +kernel
theorem dX9_takesWord_9 : decode cX9_takesWord 9 = .ok (.iload_n 2, 1) := by decide +kernel
theorem dX9_takesWord_10 : decode cX9_takesWord 10 = .ok (.invokevirtual 233, 3) := by decide +kernel
theorem dX9_takesWord_13 : decode cX9_takesWord 13 = .ok (.goto 8, 3) := by decide +kernel
theorem dX9_takesWord_16 : decode cX9_takesWord 16 = .ok (.aload_n 0, 1) := by decide +kernel
theorem dX9_takesWord_17 : decode cX9_takesWord 17 = .ok (.iconst 1, 1) := by decide +kernel
theorem dX9_takesWord_18 : decode cX9_takesWord 18 = .ok (.invokevirtual 236, 3) := by decide +kernel
theorem dX9_takesWord_21 : decode cX9_takesWord 21 = .ok (.return_, 1) := by decide +kernel
theorem dX9_number_0 : decode cX9_number 0 = .ok (.aload_n 0, 1) := by decide +kernel
theorem dX9_number_1 : decode cX9_number 1 = .ok (.invokevirtual 225, 3) := by decide +kernel
theorem dX9_number_4 : decode cX9_number 4 = .ok (.ifCond .eq 11, 3) := by decide +kernel
theorem dX9_number_7 : decode cX9_number 7 = .ok (.aload_n 0, 1) := by decide +kernel
theorem dX9_number_8 : decode cX9_number 8 = .ok (.getfield 197, 3) := by decide +kernel
theorem dX9_number_11 : decode cX9_number 11 = .ok (.iconst 3, 1) := by decide +kernel
theorem dX9_number_12 : decode cX9_number 12 = .ok (.if_icmp .eq 10, 3) := by decide +kernel
theorem dX9_number_15 : decode cX9_number 15 = .ok (.aload_n 0, 1) := by decide +kernel
theorem dX9_number_16 : decode cX9_number 16 = .ok (.iconst 1, 1) := by decide +kernel
theorem dX9_number_17 : decode cX9_number 17 = .ok (.invokevirtual 236, 3) := by decide +kernel
theorem dX9_number_20 : decode cX9_number 20 = .ok (.iload_n 1, 1) := by decide +kernel
theorem dX9_number_21 : decode cX9_number 21 = .ok (.ireturn, 1) := by decide +kernel
theorem dX9_number_22 : decode cX9_number 22 = .ok (.aload_n 0, 1) := by decide +kernel
theorem dX9_number_23 : decode cX9_number 23 = .ok (.getfield 193, 3) := by decide +kernel
theorem dX9_number_26 : decode cX9_number 26 = .ok (.iload_n 1, 1) := by decide +kernel
theorem dX9_number_27 : decode cX9_number 27 = .ok (.i2l, 1) := by decide +kernel
theorem dX9_number_28 : decode cX9_number 28 = .ok (.iload_n 2, 1) := by decide +kernel
theorem dX9_number_29 : decode cX9_number 29 = .ok (.i2l, 1) := by decide +kernel
theorem dX9_number_30 : decode cX9_number 30 = .ok (.invokestatic 177, 3) := by decide +kernel
theorem dX9_number_33 : decode cX9_number 33 = .ok (.ifCond .ne 10, 3) := by decide +kernel
theorem dX9_number_36 : decode cX9_number 36 = .ok (.aload_n 0, 1) := by decide +kernel
theorem dX9_number_37 : decode cX9_number 37 = .ok (.iconst 3, 1) := by decide +kernel
theorem dX9_number_38 : decode cX9_number 38 = .ok (.invokevirtual 236, 3) := by decide +kernel
theorem dX9_number_41 : decode cX9_number 41 = .ok (.iload_n 1, 1) := by decide +kernel
theorem dX9_number_42 : decode cX9_number 42 = .ok (.ireturn, 1) := by decide +kernel
theorem dX9_number_43 : decode cX9_number 43 = .ok (.aload_n 0, 1) := by decide +kernel
theorem dX9_number_44 : decode cX9_number 44 = .ok (.getfield 193, 3) := by decide +kernel
theorem dX9_number_47 : decode cX9_number 47 = .ok (.l2i, 1) := by decide +kernel
theorem dX9_number_48 : decode cX9_number 48 = .ok (.istore 4, 2) := by decide +kernel
theorem dX9_number_50 : decode cX9_number 50 = .ok (.aload_n 0, 1) := by decide +kernel
theorem dX9_number_51 : decode cX9_number 51 = .ok (.iload_n 3, 1) := by decide +kernel
theorem dX9_number_52 : decode cX9_number 52 = .ok (.invokevirtual 233, 3) := by decide +kernel
theorem dX9_number_55 : decode cX9_number 55 = .ok (.iload 4, 2) := by decide +kernel
theorem dX9_number_57 : decode cX9_number 57 = .ok (.ireturn, 1) := by decide +kernel
theorem dX9_fieldOf_0 : decode cX9_fieldOf 0 = .ok (.aload_n 0, 1) := by decide +kernel
theorem dX9_fieldOf_1 : decode cX9_fieldOf 1 = .ok (.invokevirtual 225, 3) := by decide +kernel
theorem dX9_fieldOf_4 : decode cX9_fieldOf 4 = .ok (.ifCond .eq 33, 3) := by decide +kernel
theorem dX9_fieldOf_7 : decode cX9_fieldOf 7 = .ok (.aload_n 0, 1) := by decide +kernel
theorem dX9_fieldOf_8 : decode cX9_fieldOf 8 = .ok (.getfield 197, 3) := by decide +kernel
theorem dX9_fieldOf_11 : decode cX9_fieldOf 11 = .ok (.iconst 1, 1) := by decide +kernel
theorem dX9_fieldOf_12 : decode cX9_fieldOf 12 = .ok (.if_icmp .ne 25, 3) := by decide +kernel
theorem dX9_fieldOf_15 : decode cX9_fieldOf 15 = .ok (.aload_n 0, 1) := by decide +kernel
theorem dX9_fieldOf_16 : decode cX9_fieldOf 16 = .ok (.getfield 204, 3) := by decide +kernel
theorem dX9_fieldOf_19 : decode cX9_fieldOf 19 = .ok (.iconst 1, 1) := by decide +kernel
theorem dX9_fieldOf_20 : decode cX9_fieldOf 20 = .ok (.if_icmp .ne 17, 3) := by decide +kernel
theorem dX9_fieldOf_23 : decode cX9_fieldOf 23 = .ok (.aload_n 0, 1) := by decide +kernel
theorem dX9_fieldOf_24 : decode cX9_fieldOf 24 = .ok (.getfield 193, 3) := by decide +kernel
theorem dX9_fieldOf_27 : decode cX9_fieldOf 27 = .ok (.lconst 1, 1) := by decide +kernel
theorem dX9_fieldOf_28 : decode cX9_fieldOf 28 = .ok (.ldc2_w 242, 3) := by decide +kernel
theorem dX9_fieldOf_31 : decode cX9_fieldOf 31 = .ok (.invokestatic 177, 3) := by decide +kernel
theorem dX9_fieldOf_34 : decode cX9_fieldOf 34 = .ok (.ifCond .ne 10, 3) := by decide +kernel
theorem dX9_fieldOf_37 : decode cX9_fieldOf 37 = .ok (.aload_n 0, 1) := by decide +kernel
theorem dX9_fieldOf_38 : decode cX9_fieldOf 38 = .ok (.iconst 1, 1) := by decide +kernel
theorem dX9_fieldOf_39 : decode cX9_fieldOf 39 = .ok (.invokevirtual 236, 3) := by decide +kernel
theorem dX9_fieldOf_42 : decode cX9_fieldOf 42 = .ok (.iconst 0, 1) := by decide +kernel
theorem dX9_fieldOf_43 : decode cX9_fieldOf 43 = .ok (.ireturn, 1) := by decide +kernel
theorem dX9_fieldOf_44 : decode cX9_fieldOf 44 = .ok (.aload_n 0, 1) := by decide +kernel
theorem dX9_fieldOf_45 : decode cX9_fieldOf 45 = .ok (.getfield 193, 3) := by decide +kernel
theorem dX9_fieldOf_48 : decode cX9_fieldOf 48 = .ok (.l2i, 1) := by decide +kernel
theorem dX9_fieldOf_49 : decode cX9_fieldOf 49 = .ok (.iconst 1, 1) := by decide +kernel
theorem dX9_fieldOf_50 : decode cX9_fieldOf 50 = .ok (.isub, 1) := by decide +kernel
theorem dX9_fieldOf_51 : decode cX9_fieldOf 51 = .ok (.istore_n 2, 1) := by decide +kernel
theorem dX9_fieldOf_52 : decode cX9_fieldOf 52 = .ok (.aload_n 0, 1) := by decide +kernel
theorem dX9_fieldOf_53 : decode cX9_fieldOf 53 = .ok (.iload_n 1, 1) := by decide +kernel
theorem dX9_fieldOf_54 : decode cX9_fieldOf 54 = .ok (.invokevirtual 233, 3) := by decide +kernel
theorem dX9_fieldOf_57 : decode cX9_fieldOf 57 = .ok (.iload_n 2, 1) := by decide +kernel
theorem dX9_fieldOf_58 : decode cX9_fieldOf 58 = .ok (.ireturn, 1) := by decide +kernel
theorem dX9_opens_0 : decode cX9_opens 0 = .ok (.aload_n 0, 1) := by decide +kernel
theorem dX9_opens_1 : decode cX9_opens 1 = .ok (.bipush 123, 2) := by decide +kernel
theorem dX9_opens_3 : decode cX9_opens 3 = .ok (.iload 5, 2) := by decide +kernel
theorem dX9_opens_5 : decode cX9_opens 5 = .ok (.invokevirtual 247, 3) := by decide +kernel
theorem dX9_opens_8 : decode cX9_opens 8 = .ok (.aload_n 0, 1) := by decide +kernel
theorem dX9_opens_9 : decode cX9_opens 9 = .ok (.dup, 1) := by decide +kernel
theorem dX9_opens_10 : decode cX9_opens 10 = .ok (.getfield 251, 3) := by decide +kernel
theorem dX9_opens_13 : decode cX9_opens 13 = .ok (.iconst 1, 1) := by decide +kernel
theorem dX9_opens_14 : decode cX9_opens 14 = .ok (.iadd, 1) := by decide +kernel
theorem dX9_opens_15 : decode cX9_opens 15 = .ok (.putfield 251, 3) := by decide +kernel
theorem dX9_opens_18 : decode cX9_opens 18 = .ok (.aload_n 0, 1) := by decide +kernel
theorem dX9_opens_19 : decode cX9_opens 19 = .ok (.getfield 70, 3) := by decide +kernel
theorem dX9_opens_22 : decode cX9_opens 22 = .ok (.aload_n 0, 1) := by decide +kernel
theorem dX9_opens_23 : decode cX9_opens 23 = .ok (.getfield 251, 3) := by decide +kernel
theorem dX9_opens_26 : decode cX9_opens 26 = .ok (.iload_n 1, 1) := by decide +kernel
theorem dX9_opens_27 : decode cX9_opens 27 = .ok (.iastore, 1) := by decide +kernel
theorem dX9_opens_28 : decode cX9_opens 28 = .ok (.aload_n 0, 1) := by decide +kernel
theorem dX9_opens_29 : decode cX9_opens 29 = .ok (.getfield 73, 3) := by decide +kernel
theorem dX9_opens_32 : decode cX9_opens 32 = .ok (.aload_n 0, 1) := by decide +kernel
theorem dX9_opens_33 : decode cX9_opens 33 = .ok (.getfield 251, 3) := by decide +kernel
theorem dX9_opens_36 : decode cX9_opens 36 = .ok (.iload_n 2, 1) := by decide +kernel
theorem dX9_opens_37 : decode cX9_opens 37 = .ok (.iastore, 1) := by decide +kernel
theorem dX9_opens_38 : decode cX9_opens 38 = .ok (.aload_n 0, 1) := by decide +kernel
theorem dX9_opens_39 : decode cX9_opens 39 = .ok (.getfield 76, 3) := by decide +kernel
theorem dX9_opens_42 : decode cX9_opens 42 = .ok (.aload_n 0, 1) := by decide +kernel
theorem dX9_opens_43 : decode cX9_opens 43 = .ok (.getfield 251, 3) := by decide +kernel
theorem dX9_opens_46 : decode cX9_opens 46 = .ok (.iload_n 3, 1) := by decide +kernel
theorem dX9_opens_47 : decode cX9_opens 47 = .ok (.iastore, 1) := by decide +kernel
theorem dX9_opens_48 : decode cX9_opens 48 = .ok (.aload_n 0, 1) := by decide +kernel
theorem dX9_opens_49 : decode cX9_opens 49 = .ok (.getfield 79, 3) := by decide +kernel
theorem dX9_opens_52 : decode cX9_opens 52 = .ok (.aload_n 0, 1) := by decide +kernel
theorem dX9_opens_53 : decode cX9_opens 53 = .ok (.getfield 251, 3) := by decide +kernel
theorem dX9_opens_56 : decode cX9_opens 56 = .ok (.iload 4, 2) := by decide +kernel
theorem dX9_opens_58 : decode cX9_opens 58 = .ok (.iastore, 1) := by decide +kernel
theorem dX9_opens_59 : decode cX9_opens 59 = .ok (.aload_n 0, 1) := by decide +kernel
theorem dX9_opens_60 : decode cX9_opens 60 = .ok (.getfield 82, 3) := by decide +kernel
theorem dX9_opens_63 : decode cX9_opens 63 = .ok (.aload_n 0, 1) := by decide +kernel
theorem dX9_opens_64 : decode cX9_opens 64 = .ok (.getfield 251, 3) := by decide +kernel
theorem dX9_opens_67 : decode cX9_opens 67 = .ok (.iconst 0, 1) := by decide +kernel
theorem dX9_opens_68 : decode cX9_opens 68 = .ok (.bastore, 1) := by decide +kernel
theorem dX9_opens_69 : decode cX9_opens 69 = .ok (.return_, 1) := by decide +kernel
theorem dX9_step_0 : decode cX9_step 0 = .ok (.aload_n 0, 1) := by decide +kernel
theorem dX9_step_1 : decode cX9_step 1 = .ok (.getfield 197, 3) := by decide +kernel
theorem dX9_step_4 : decode cX9_step 4 = .ok (.iconst 2, 1) := by decide +kernel
theorem dX9_step_5 : decode cX9_step 5 = .ok (.if_icmp .ne 60, 3) := by decide +kernel
theorem dX9_step_8 : decode cX9_step 8 = .ok (.aload_n 0, 1) := by decide +kernel
theorem dX9_step_9 : decode cX9_step 9 = .ok (.getfield 193, 3) := by decide +kernel
theorem dX9_step_12 : decode cX9_step 12 = .ok (.lconst 0, 1) := by decide +kernel
theorem dX9_step_13 : decode cX9_step 13 = .ok (.lcmp, 1) := by decide +kernel
theorem dX9_step_14 : decode cX9_step 14 = .ok (.ifCond .eq 47, 3) := by decide +kernel
theorem dX9_step_17 : decode cX9_step 17 = .ok (.aload_n 0, 1) := by decide +kernel
theorem dX9_step_18 : decode cX9_step 18 = .ok (.getfield 193, 3) := by decide +kernel
theorem dX9_step_21 : decode cX9_step 21 = .ok (.ldc2_w 271, 3) := by decide +kernel
theorem dX9_step_24 : decode cX9_step 24 = .ok (.lcmp, 1) := by decide +kernel
theorem dX9_step_25 : decode cX9_step 25 = .ok (.ifCond .eq 36, 3) := by decide +kernel
theorem dX9_step_28 : decode cX9_step 28 = .ok (.aload_n 0, 1) := by decide +kernel
theorem dX9_step_29 : decode cX9_step 29 = .ok (.getfield 193, 3) := by decide +kernel
theorem dX9_step_32 : decode cX9_step 32 = .ok (.ldc2_w 242, 3) := by decide +kernel
theorem dX9_step_35 : decode cX9_step 35 = .ok (.lcmp, 1) := by decide +kernel
theorem dX9_step_36 : decode cX9_step 36 = .ok (.ifCond .eq 25, 3) := by decide +kernel
theorem dX9_step_39 : decode cX9_step 39 = .ok (.aload_n 0, 1) := by decide +kernel
theorem dX9_step_40 : decode cX9_step 40 = .ok (.getfield 193, 3) := by decide +kernel
theorem dX9_step_43 : decode cX9_step 43 = .ok (.ldc2_w 273, 3) := by decide +kernel
theorem dX9_step_46 : decode cX9_step 46 = .ok (.lcmp, 1) := by decide +kernel
theorem dX9_step_47 : decode cX9_step 47 = .ok (.ifCond .eq 14, 3) := by decide +kernel
theorem dX9_step_50 : decode cX9_step 50 = .ok (.aload_n 0, 1) := by decide +kernel
theorem dX9_step_51 : decode cX9_step 51 = .ok (.getfield 193, 3) := by decide +kernel
theorem dX9_step_54 : decode cX9_step 54 = .ok (.ldc2_w 275, 3) := by decide +kernel
theorem dX9_step_57 : decode cX9_step 57 = .ok (.lcmp, 1) := by decide +kernel
theorem dX9_step_58 : decode cX9_step 58 = .ok (.ifCond .ne 7, 3) := by decide +kernel
theorem dX9_step_61 : decode cX9_step 61 = .ok (.iconst 1, 1) := by decide +kernel
theorem dX9_step_62 : decode cX9_step 62 = .ok (.goto 4, 3) := by decide +kernel
theorem dX9_step_65 : decode cX9_step 65 = .ok (.iconst 0, 1) := by decide +kernel
theorem dX9_step_66 : decode cX9_step 66 = .ok (.istore_n 2, 1) := by decide +kernel
theorem dX9_step_67 : decode cX9_step 67 = .ok (.iload_n 2, 1) := by decide +kernel
theorem dX9_step_68 : decode cX9_step 68 = .ok (.ifCond .ne 9, 3) := by decide +kernel
theorem dX9_step_71 : decode cX9_step 71 = .ok (.aload_n 0, 1) := by decide +kernel
theorem dX9_step_72 : decode cX9_step 72 = .ok (.iconst 1, 1) := by decide +kernel
theorem dX9_step_73 : decode cX9_step 73 = .ok (.invokevirtual 236, 3) := by decide +kernel
theorem dX9_step_76 : decode cX9_step 76 = .ok (.return_, 1) := by decide +kernel
theorem dX9_step_77 : decode cX9_step 77 = .ok (.aload_n 0, 1) := by decide +kernel
theorem dX9_step_78 : decode cX9_step 78 = .ok (.getfield 193, 3) := by decide +kernel
theorem dX9_step_81 : decode cX9_step 81 = .ok (.l2i, 1) := by decide +kernel
theorem dX9_step_82 : decode cX9_step 82 = .ok (.istore_n 3, 1) := by decide +kernel
theorem dX9_step_83 : decode cX9_step 83 = .ok (.aload_n 0, 1) := by decide +kernel
theorem dX9_step_84 : decode cX9_step 84 = .ok (.getfield 277, 3) := by decide +kernel
theorem dX9_step_87 : decode cX9_step 87 = .ok (.bipush 40, 2) := by decide +kernel
theorem dX9_step_89 : decode cX9_step 89 = .ok (.if_icmp .eq 21, 3) := by decide +kernel
theorem dX9_step_92 : decode cX9_step 92 = .ok (.iload_n 3, 1) := by decide +kernel
theorem dX9_step_93 : decode cX9_step 93 = .ok (.ifCond .eq 23, 3) := by decide +kernel
theorem dX9_step_96 : decode cX9_step 96 = .ok (.iload_n 3, 1) := by decide +kernel
theorem dX9_step_97 : decode cX9_step 97 = .ok (.bipush 8, 2) := by decide +kernel
theorem dX9_step_99 : decode cX9_step 99 = .ok (.if_icmp .eq 17, 3) := by decide +kernel
theorem dX9_step_102 : decode cX9_step 102 = .ok (.aload_n 0, 1) := by decide +kernel
theorem dX9_step_103 : decode cX9_step 103 = .ok (.getfield 251, 3) := by decide +kernel
theorem dX9_step_106 : decode cX9_step 106 = .ok (.iconst 4, 1) := by decide +kernel
theorem dX9_step_107 : decode cX9_step 107 = .ok (.if_icmp .ne 9, 3) := by decide +kernel
theorem dX9_step_110 : decode cX9_step 110 = .ok (.aload_n 0, 1) := by decide +kernel
theorem dX9_step_111 : decode cX9_step 111 = .ok (.iconst 4, 1) := by decide +kernel
theorem dX9_step_112 : decode cX9_step 112 = .ok (.invokevirtual 236, 3) := by decide +kernel
theorem dX9_step_115 : decode cX9_step 115 = .ok (.return_, 1) := by decide +kernel
theorem dX9_step_116 : decode cX9_step 116 = .ok (.aload_n 0, 1) := by decide +kernel
theorem dX9_step_117 : decode cX9_step 117 = .ok (.dup, 1) := by decide +kernel
theorem dX9_step_118 : decode cX9_step 118 = .ok (.getfield 277, 3) := by decide +kernel
theorem dX9_step_121 : decode cX9_step 121 = .ok (.iconst 1, 1) := by decide +kernel
theorem dX9_step_122 : decode cX9_step 122 = .ok (.iadd, 1) := by decide +kernel
theorem dX9_step_123 : decode cX9_step 123 = .ok (.putfield 277, 3) := by decide +kernel
theorem dX9_step_126 : decode cX9_step 126 = .ok (.aload_n 0, 1) := by decide +kernel
theorem dX9_step_127 : decode cX9_step 127 = .ok (.iload_n 1, 1) := by decide +kernel
theorem dX9_step_128 : decode cX9_step 128 = .ok (.invokevirtual 233, 3) := by decide +kernel
theorem dX9_step_131 : decode cX9_step 131 = .ok (.iload_n 3, 1) := by decide +kernel
theorem dX9_step_132 : decode cX9_step 132 = .ok (.lookupswitch 117 #[(0, 36), (4, 82), (8, 44)], 36) := by decide +kernel
theorem dX9_step_168 : decode cX9_step 168 = .ok (.aload_n 0, 1) := by decide +kernel
theorem dX9_step_169 : decode cX9_step 169 = .ok (.iload_n 1, 1) := by decide +kernel
theorem dX9_step_170 : decode cX9_step 170 = .ok (.invokevirtual 280, 3) := by decide +kernel
theorem dX9_step_173 : decode cX9_step 173 = .ok (.goto 147, 3) := by decide +kernel
theorem dX9_step_176 : decode cX9_step 176 = .ok (.aload_n 0, 1) := by decide +kernel
theorem dX9_step_177 : decode cX9_step 177 = .ok (.iload_n 1, 1) := by decide +kernel
theorem dX9_step_178 : decode cX9_step 178 = .ok (.invokevirtual 283, 3) := by decide +kernel
theorem dX9_step_181 : decode cX9_step 181 = .ok (.istore 4, 2) := by decide +kernel
theorem dX9_step_183 : decode cX9_step 183 = .ok (.aload_n 0, 1) := by decide +kernel
theorem dX9_step_184 : decode cX9_step 184 = .ok (.iconst 0, 1) := by decide +kernel
theorem dX9_step_185 : decode cX9_step 185 = .ok (.bipush 99, 2) := by decide +kernel
theorem dX9_step_187 : decode cX9_step 187 = .ok (.iload_n 1, 1) := by decide +kernel
theorem dX9_step_188 : decode cX9_step 188 = .ok (.invokevirtual 264, 3) := by decide +kernel
theorem dX9_step_191 : decode cX9_step 191 = .ok (.istore 5, 2) := by decide +kernel
theorem dX9_step_193 : decode cX9_step 193 = .ok (.aload_n 0, 1) := by decide +kernel
theorem dX9_step_194 : decode cX9_step 194 = .ok (.bipush 59, 2) := by decide +kernel
theorem dX9_step_196 : decode cX9_step 196 = .ok (.iload_n 1, 1) := by decide +kernel
theorem dX9_step_197 : decode cX9_step 197 = .ok (.invokevirtual 247, 3) := by decide +kernel
theorem dX9_step_200 : decode cX9_step 200 = .ok (.aload_n 0, 1) := by decide +kernel
theorem dX9_step_201 : decode cX9_step 201 = .ok (.iconst 1, 1) := by decide +kernel
theorem dX9_step_202 : decode cX9_step 202 = .ok (.iload 4, 2) := by decide +kernel
theorem dX9_step_204 : decode cX9_step 204 = .ok (.iload 5, 2) := by decide +kernel
theorem dX9_step_206 : decode cX9_step 206 = .ok (.invokevirtual 268, 3) := by decide +kernel
theorem dX9_step_209 : decode cX9_step 209 = .ok (.istore 6, 2) := by decide +kernel
theorem dX9_step_211 : decode cX9_step 211 = .ok (.goto 109, 3) := by decide +kernel
theorem dX9_step_214 : decode cX9_step 214 = .ok (.aload_n 0, 1) := by decide +kernel
theorem dX9_step_215 : decode cX9_step 215 = .ok (.iconst 5, 1) := by decide +kernel
theorem dX9_step_216 : decode cX9_step 216 = .ok (.aload_n 0, 1) := by decide +kernel
theorem dX9_step_217 : decode cX9_step 217 = .ok (.getfield 286, 3) := by decide +kernel
theorem dX9_step_220 : decode cX9_step 220 = .ok (.iconst 0, 1) := by decide +kernel
theorem dX9_step_221 : decode cX9_step 221 = .ok (.invokevirtual 268, 3) := by decide +kernel
theorem dX9_step_224 : decode cX9_step 224 = .ok (.istore 4, 2) := by decide +kernel
theorem dX9_step_226 : decode cX9_step 226 = .ok (.aload_n 0, 1) := by decide +kernel
theorem dX9_step_227 : decode cX9_step 227 = .ok (.dup, 1) := by decide +kernel
theorem dX9_step_228 : decode cX9_step 228 = .ok (.getfield 286, 3) := by decide +kernel
theorem dX9_step_231 : decode cX9_step 231 = .ok (.iconst 1, 1) := by decide +kernel
theorem dX9_step_232 : decode cX9_step 232 = .ok (.iadd, 1) := by decide +kernel
theorem dX9_step_233 : decode cX9_step 233 = .ok (.putfield 286, 3) := by decide +kernel
theorem dX9_step_236 : decode cX9_step 236 = .ok (.aload_n 0, 1) := by decide +kernel
theorem dX9_step_237 : decode cX9_step 237 = .ok (.iconst 1, 1) := by decide +kernel
theorem dX9_step_238 : decode cX9_step 238 = .ok (.iload 4, 2) := by decide +kernel
theorem dX9_step_240 : decode cX9_step 240 = .ok (.iconst 0, 1) := by decide +kernel
theorem dX9_step_241 : decode cX9_step 241 = .ok (.iconst 0, 1) := by decide +kernel
theorem dX9_step_242 : decode cX9_step 242 = .ok (.iload_n 1, 1) := by decide +kernel
theorem dX9_step_243 : decode cX9_step 243 = .ok (.invokevirtual 289, 3) := by decide +kernel
theorem dX9_step_246 : decode cX9_step 246 = .ok (.goto 74, 3) := by decide +kernel
theorem dX9_step_249 : decode cX9_step 249 = .ok (.aload_n 0, 1) := by decide +kernel
theorem dX9_step_250 : decode cX9_step 250 = .ok (.iload_n 1, 1) := by decide +kernel
theorem dX9_step_251 : decode cX9_step 251 = .ok (.invokevirtual 283, 3) := by decide +kernel
theorem dX9_step_254 : decode cX9_step 254 = .ok (.istore 4, 2) := by decide +kernel
theorem dX9_step_256 : decode cX9_step 256 = .ok (.aload_n 0, 1) := by decide +kernel
theorem dX9_step_257 : decode cX9_step 257 = .ok (.bipush 60, 2) := by decide +kernel
theorem dX9_step_259 : decode cX9_step 259 = .ok (.iload_n 1, 1) := by decide +kernel
theorem dX9_step_260 : decode cX9_step 260 = .ok (.invokevirtual 247, 3) := by decide +kernel
theorem dX9_step_263 : decode cX9_step 263 = .ok (.aload_n 0, 1) := by decide +kernel
theorem dX9_step_264 : decode cX9_step 264 = .ok (.iconst 0, 1) := by decide +kernel
theorem dX9_step_265 : decode cX9_step 265 = .ok (.bipush 99, 2) := by decide +kernel
theorem dX9_step_267 : decode cX9_step 267 = .ok (.iload_n 1, 1) := by decide +kernel
theorem dX9_step_268 : decode cX9_step 268 = .ok (.invokevirtual 264, 3) := by decide +kernel
theorem dX9_step_271 : decode cX9_step 271 = .ok (.istore 5, 2) := by decide +kernel
theorem dX9_step_273 : decode cX9_step 273 = .ok (.iload_n 3, 1) := by decide +kernel
theorem dX9_step_274 : decode cX9_step 274 = .ok (.iconst 5, 1) := by decide +kernel
theorem dX9_step_275 : decode cX9_step 275 = .ok (.if_icmp .ne 15, 3) := by decide +kernel
theorem dX9_step_278 : decode cX9_step 278 = .ok (.aload_n 0, 1) := by decide +kernel
theorem dX9_step_279 : decode cX9_step 279 = .ok (.iconst 2, 1) := by decide +kernel
theorem dX9_step_280 : decode cX9_step 280 = .ok (.iload 4, 2) := by decide +kernel
theorem dX9_step_282 : decode cX9_step 282 = .ok (.iload 5, 2) := by decide +kernel
theorem dX9_step_284 : decode cX9_step 284 = .ok (.invokevirtual 268, 3) := by decide +kernel
theorem dX9_step_287 : decode cX9_step 287 = .ok (.goto 7, 3) := by decide +kernel
theorem dX9_step_290 : decode cX9_step 290 = .ok (.aload_n 0, 1) := by decide +kernel
theorem dX9_step_291 : decode cX9_step 291 = .ok (.getfield 244, 3) := by decide +kernel
theorem dX9_step_294 : decode cX9_step 294 = .ok (.istore 6, 2) := by decide +kernel
theorem dX9_step_296 : decode cX9_step 296 = .ok (.aload_n 0, 1) := by decide +kernel
theorem dX9_step_297 : decode cX9_step 297 = .ok (.iload_n 3, 1) := by decide +kernel
theorem dX9_step_298 : decode cX9_step 298 = .ok (.iconst 5, 1) := by decide +kernel
theorem dX9_step_299 : decode cX9_step 299 = .ok (.if_icmp .ne 7, 3) := by decide +kernel
theorem dX9_step_302 : decode cX9_step 302 = .ok (.iconst 3, 1) := by decide +kernel
theorem dX9_step_303 : decode cX9_step 303 = .ok (.goto 4, 3) := by decide +kernel
theorem dX9_step_306 : decode cX9_step 306 = .ok (.iconst 5, 1) := by decide +kernel
theorem dX9_step_307 : decode cX9_step 307 = .ok (.iload 6, 2) := by decide +kernel
theorem dX9_step_309 : decode cX9_step 309 = .ok (.iload 4, 2) := by decide +kernel
theorem dX9_step_311 : decode cX9_step 311 = .ok (.iload 5, 2) := by decide +kernel
theorem dX9_step_313 : decode cX9_step 313 = .ok (.iload_n 1, 1) := by decide +kernel
theorem dX9_step_314 : decode cX9_step 314 = .ok (.invokevirtual 289, 3) := by decide +kernel
theorem dX9_step_317 : decode cX9_step 317 = .ok (.goto 3, 3) := by decide +kernel
theorem dX9_step_320 : decode cX9_step 320 = .ok (.return_, 1) := by decide +kernel
theorem dX9_holds_0 : decode cX9_holds 0 = .ok (.aload_n 0, 1) := by decide +kernel
theorem dX9_holds_1 : decode cX9_holds 1 = .ok (.aload_n 0, 1) := by decide +kernel
theorem dX9_holds_2 : decode cX9_holds 2 = .ok (.getfield 277, 3) := by decide +kernel
theorem dX9_holds_5 : decode cX9_holds 5 = .ok (.putfield 46, 3) := by decide +kernel
theorem dX9_holds_8 : decode cX9_holds 8 = .ok (.aload_n 0, 1) := by decide +kernel
theorem dX9_holds_9 : decode cX9_holds 9 = .ok (.aload_n 0, 1) := by decide +kernel
theorem dX9_holds_10 : decode cX9_holds 10 = .ok (.getfield 254, 3) := by decide +kernel
theorem dX9_holds_13 : decode cX9_holds 13 = .ok (.putfield 302, 3) := by decide +kernel
theorem dX9_holds_16 : decode cX9_holds 16 = .ok (.aload_n 0, 1) := by decide +kernel
theorem dX9_holds_17 : decode cX9_holds 17 = .ok (.aload_n 0, 1) := by decide +kernel
theorem dX9_holds_18 : decode cX9_holds 18 = .ok (.getfield 244, 3) := by decide +kernel
theorem dX9_holds_21 : decode cX9_holds 21 = .ok (.putfield 305, 3) := by decide +kernel
theorem dX9_holds_24 : decode cX9_holds 24 = .ok (.iconst 0, 1) := by decide +kernel
theorem dX9_holds_25 : decode cX9_holds 25 = .ok (.istore_n 1, 1) := by decide +kernel
theorem dX9_holds_26 : decode cX9_holds 26 = .ok (.iload_n 1, 1) := by decide +kernel
theorem dX9_holds_27 : decode cX9_holds 27 = .ok (.sipush 200, 3) := by decide +kernel
theorem dX9_holds_30 : decode cX9_holds 30 = .ok (.if_icmp .ge 57, 3) := by decide +kernel
theorem dX9_holds_33 : decode cX9_holds 33 = .ok (.aload_n 0, 1) := by decide +kernel
theorem dX9_holds_34 : decode cX9_holds 34 = .ok (.getfield 49, 3) := by decide +kernel
theorem dX9_holds_37 : decode cX9_holds 37 = .ok (.iload_n 1, 1) := by decide +kernel
theorem dX9_holds_38 : decode cX9_holds 38 = .ok (.aload_n 0, 1) := by decide +kernel
theorem dX9_holds_39 : decode cX9_holds 39 = .ok (.getfield 20, 3) := by decide +kernel
theorem dX9_holds_42 : decode cX9_holds 42 = .ok (.iload_n 1, 1) := by decide +kernel
theorem dX9_holds_43 : decode cX9_holds 43 = .ok (.iaload, 1) := by decide +kernel
theorem dX9_holds_44 : decode cX9_holds 44 = .ok (.iastore, 1) := by decide +kernel
theorem dX9_holds_45 : decode cX9_holds 45 = .ok (.aload_n 0, 1) := by decide +kernel
theorem dX9_holds_46 : decode cX9_holds 46 = .ok (.getfield 52, 3) := by decide +kernel
theorem dX9_holds_49 : decode cX9_holds 49 = .ok (.iload_n 1, 1) := by decide +kernel
theorem dX9_holds_50 : decode cX9_holds 50 = .ok (.aload_n 0, 1) := by decide +kernel
theorem dX9_holds_51 : decode cX9_holds 51 = .ok (.getfield 24, 3) := by decide +kernel
theorem dX9_holds_54 : decode cX9_holds 54 = .ok (.iload_n 1, 1) := by decide +kernel
theorem dX9_holds_55 : decode cX9_holds 55 = .ok (.iaload, 1) := by decide +kernel
theorem dX9_holds_56 : decode cX9_holds 56 = .ok (.iastore, 1) := by decide +kernel
theorem dX9_holds_57 : decode cX9_holds 57 = .ok (.aload_n 0, 1) := by decide +kernel
theorem dX9_holds_58 : decode cX9_holds 58 = .ok (.getfield 55, 3) := by decide +kernel
theorem dX9_holds_61 : decode cX9_holds 61 = .ok (.iload_n 1, 1) := by decide +kernel
theorem dX9_holds_62 : decode cX9_holds 62 = .ok (.aload_n 0, 1) := by decide +kernel
theorem dX9_holds_63 : decode cX9_holds 63 = .ok (.getfield 27, 3) := by decide +kernel
theorem dX9_holds_66 : decode cX9_holds 66 = .ok (.iload_n 1, 1) := by decide +kernel
theorem dX9_holds_67 : decode cX9_holds 67 = .ok (.iaload, 1) := by decide +kernel
theorem dX9_holds_68 : decode cX9_holds 68 = .ok (.iastore, 1) := by decide +kernel
theorem dX9_holds_69 : decode cX9_holds 69 = .ok (.aload_n 0, 1) := by decide +kernel
theorem dX9_holds_70 : decode cX9_holds 70 = .ok (.getfield 58, 3) := by decide +kernel
theorem dX9_holds_73 : decode cX9_holds 73 = .ok (.iload_n 1, 1) := by decide +kernel
theorem dX9_holds_74 : decode cX9_holds 74 = .ok (.aload_n 0, 1) := by decide +kernel
theorem dX9_holds_75 : decode cX9_holds 75 = .ok (.getfield 30, 3) := by decide +kernel
theorem dX9_holds_78 : decode cX9_holds 78 = .ok (.iload_n 1, 1) := by decide +kernel
theorem dX9_holds_79 : decode cX9_holds 79 = .ok (.iaload, 1) := by decide +kernel
theorem dX9_holds_80 : decode cX9_holds 80 = .ok (.iastore, 1) := by decide +kernel
theorem dX9_holds_81 : decode cX9_holds 81 = .ok (.iinc 1 1, 3) := by decide +kernel
theorem dX9_holds_84 : decode cX9_holds 84 = .ok (.goto (-58), 3) := by decide +kernel
theorem dX9_holds_87 : decode cX9_holds 87 = .ok (.iconst 0, 1) := by decide +kernel
theorem dX9_holds_88 : decode cX9_holds 88 = .ok (.istore_n 1, 1) := by decide +kernel
theorem dX9_holds_89 : decode cX9_holds 89 = .ok (.iload_n 1, 1) := by decide +kernel
theorem dX9_holds_90 : decode cX9_holds 90 = .ok (.bipush 40, 2) := by decide +kernel
theorem dX9_holds_92 : decode cX9_holds 92 = .ok (.if_icmp .ge 45, 3) := by decide +kernel
theorem dX9_holds_95 : decode cX9_holds 95 = .ok (.aload_n 0, 1) := by decide +kernel
theorem dX9_holds_96 : decode cX9_holds 96 = .ok (.getfield 61, 3) := by decide +kernel
theorem dX9_holds_99 : decode cX9_holds 99 = .ok (.iload_n 1, 1) := by decide +kernel
theorem dX9_holds_100 : decode cX9_holds 100 = .ok (.aload_n 0, 1) := by decide +kernel
theorem dX9_holds_101 : decode cX9_holds 101 = .ok (.getfield 37, 3) := by decide +kernel
theorem dX9_holds_104 : decode cX9_holds 104 = .ok (.iload_n 1, 1) := by decide +kernel
theorem dX9_holds_105 : decode cX9_holds 105 = .ok (.iaload, 1) := by decide +kernel
theorem dX9_holds_106 : decode cX9_holds 106 = .ok (.iastore, 1) := by decide +kernel
theorem dX9_holds_107 : decode cX9_holds 107 = .ok (.aload_n 0, 1) := by decide +kernel
theorem dX9_holds_108 : decode cX9_holds 108 = .ok (.getfield 64, 3) := by decide +kernel
theorem dX9_holds_111 : decode cX9_holds 111 = .ok (.iload_n 1, 1) := by decide +kernel
theorem dX9_holds_112 : decode cX9_holds 112 = .ok (.aload_n 0, 1) := by decide +kernel
theorem dX9_holds_113 : decode cX9_holds 113 = .ok (.getfield 40, 3) := by decide +kernel
theorem dX9_holds_116 : decode cX9_holds 116 = .ok (.iload_n 1, 1) := by decide +kernel
theorem dX9_holds_117 : decode cX9_holds 117 = .ok (.iaload, 1) := by decide +kernel
theorem dX9_holds_118 : decode cX9_holds 118 = .ok (.iastore, 1) := by decide +kernel
theorem dX9_holds_119 : decode cX9_holds 119 = .ok (.aload_n 0, 1) := by decide +kernel
theorem dX9_holds_120 : decode cX9_holds 120 = .ok (.getfield 67, 3) := by decide +kernel
theorem dX9_holds_123 : decode cX9_holds 123 = .ok (.iload_n 1, 1) := by decide +kernel
theorem dX9_holds_124 : decode cX9_holds 124 = .ok (.aload_n 0, 1) := by decide +kernel
theorem dX9_holds_125 : decode cX9_holds 125 = .ok (.getfield 43, 3) := by decide +kernel
theorem dX9_holds_128 : decode cX9_holds 128 = .ok (.iload_n 1, 1) := by decide +kernel
theorem dX9_holds_129 : decode cX9_holds 129 = .ok (.iaload, 1) := by decide +kernel
theorem dX9_holds_130 : decode cX9_holds 130 = .ok (.iastore, 1) := by decide +kernel
theorem dX9_holds_131 : decode cX9_holds 131 = .ok (.iinc 1 1, 3) := by decide +kernel
theorem dX9_holds_134 : decode cX9_holds 134 = .ok (.goto (-45), 3) := by decide +kernel
theorem dX9_holds_137 : decode cX9_holds 137 = .ok (.return_, 1) := by decide +kernel
theorem dX9_fault_0 : decode cX9_fault 0 = .ok (.iload_n 1, 1) := by decide +kernel
theorem dX9_fault_1 : decode cX9_fault 1 = .ok (.ifCond .ne 10, 3) := by decide +kernel
theorem dX9_fault_4 : decode cX9_fault 4 = .ok (.aload_n 0, 1) := by decide +kernel
theorem dX9_fault_5 : decode cX9_fault 5 = .ok (.getfield 13, 3) := by decide +kernel
theorem dX9_fault_8 : decode cX9_fault 8 = .ok (.goto 16, 3) := by decide +kernel
theorem dX9_fault_11 : decode cX9_fault 11 = .ok (.iload_n 1, 1) := by decide +kernel
theorem dX9_fault_12 : decode cX9_fault 12 = .ok (.iconst 1, 1) := by decide +kernel
theorem dX9_fault_13 : decode cX9_fault 13 = .ok (.if_icmp .ne 10, 3) := by decide +kernel
theorem dX9_fault_16 : decode cX9_fault 16 = .ok (.aload_n 0, 1) := by decide +kernel
theorem dX9_fault_17 : decode cX9_fault 17 = .ok (.getfield 17, 3) := by decide +kernel
theorem dX9_fault_20 : decode cX9_fault 20 = .ok (.goto 4, 3) := by decide +kernel
theorem dX9_fault_23 : decode cX9_fault 23 = .ok (.iconst (-1), 1) := by decide +kernel
theorem dX9_fault_24 : decode cX9_fault 24 = .ok (.ireturn, 1) := by decide +kernel
theorem dX9_isPerson_0 : decode cX9_isPerson 0 = .ok (.iload_n 1, 1) := by decide +kernel
theorem dX9_isPerson_1 : decode cX9_isPerson 1 = .ok (.i2l, 1) := by decide +kernel
theorem dX9_isPerson_2 : decode cX9_isPerson 2 = .ok (.lconst 0, 1) := by decide +kernel
theorem dX9_isPerson_3 : decode cX9_isPerson 3 = .ok (.aload_n 0, 1) := by decide +kernel
theorem dX9_isPerson_4 : decode cX9_isPerson 4 = .ok (.getfield 308, 3) := by decide +kernel
theorem dX9_isPerson_7 : decode cX9_isPerson 7 = .ok (.iconst 1, 1) := by decide +kernel
theorem dX9_isPerson_8 : decode cX9_isPerson 8 = .ok (.isub, 1) := by decide +kernel
theorem dX9_isPerson_9 : decode cX9_isPerson 9 = .ok (.i2l, 1) := by decide +kernel
theorem dX9_isPerson_10 : decode cX9_isPerson 10 = .ok (.invokestatic 177, 3) := by decide +kernel
theorem dX9_isPerson_13 : decode cX9_isPerson 13 = .ok (.ireturn, 1) := by decide +kernel
theorem dX9_isTask_0 : decode cX9_isTask 0 = .ok (.iload_n 1, 1) := by decide +kernel
theorem dX9_isTask_1 : decode cX9_isTask 1 = .ok (.i2l, 1) := by decide +kernel
theorem dX9_isTask_2 : decode cX9_isTask 2 = .ok (.lconst 0, 1) := by decide +kernel
theorem dX9_isTask_3 : decode cX9_isTask 3 = .ok (.aload_n 0, 1) := by decide +kernel
theorem dX9_isTask_4 : decode cX9_isTask 4 = .ok (.getfield 311, 3) := by decide +kernel
theorem dX9_isTask_7 : decode cX9_isTask 7 = .ok (.iconst 1, 1) := by decide +kernel
theorem dX9_isTask_8 : decode cX9_isTask 8 = .ok (.isub, 1) := by decide +kernel
theorem dX9_isTask_9 : decode cX9_isTask 9 = .ok (.i2l, 1) := by decide +kernel
theorem dX9_isTask_10 : decode cX9_isTask 10 = .ok (.invokestatic 177, 3) := by decide +kernel
theorem dX9_isTask_13 : decode cX9_isTask 13 = .ok (.ireturn, 1) := by decide +kernel
theorem dX9_person_0 : decode cX9_person 0 = .ok (.iload_n 1, 1) := by decide +kernel
theorem dX9_person_1 : decode cX9_person 1 = .ok (.i2l, 1) := by decide +kernel
theorem dX9_person_2 : decode cX9_person 2 = .ok (.lconst 0, 1) := by decide +kernel
theorem dX9_person_3 : decode cX9_person 3 = .ok (.ldc2_w 314, 3) := by decide +kernel
theorem dX9_person_6 : decode cX9_person 6 = .ok (.invokestatic 177, 3) := by decide +kernel
theorem dX9_person_9 : decode cX9_person 9 = .ok (.ifCond .eq 24, 3) := by decide +kernel
theorem dX9_person_12 : decode cX9_person 12 = .ok (.iload_n 2, 1) := by decide +kernel
theorem dX9_person_13 : decode cX9_person 13 = .ok (.i2l, 1) := by decide +kernel
theorem dX9_person_14 : decode cX9_person 14 = .ok (.lconst 1, 1) := by decide +kernel
theorem dX9_person_15 : decode cX9_person 15 = .ok (.ldc2_w 316, 3) := by decide +kernel
theorem dX9_person_18 : decode cX9_person 18 = .ok (.invokestatic 177, 3) := by decide +kernel
theorem dX9_person_21 : decode cX9_person 21 = .ok (.ifCond .eq 12, 3) := by decide +kernel
theorem dX9_person_24 : decode cX9_person 24 = .ok (.aload_n 0, 1) := by decide +kernel
theorem dX9_person_25 : decode cX9_person 25 = .ok (.getfield 308, 3) := by decide +kernel
theorem dX9_person_28 : decode cX9_person 28 = .ok (.bipush 8, 2) := by decide +kernel
theorem dX9_person_30 : decode cX9_person 30 = .ok (.if_icmp .ne 5, 3) := by decide +kernel
theorem dX9_person_33 : decode cX9_person 33 = .ok (.iconst (-1), 1) := by decide +kernel
theorem dX9_person_34 : decode cX9_person 34 = .ok (.ireturn, 1) := by decide +kernel
theorem dX9_person_35 : decode cX9_person 35 = .ok (.aload_n 0, 1) := by decide +kernel
theorem dX9_person_36 : decode cX9_person 36 = .ok (.getfield 152, 3) := by decide +kernel
theorem dX9_person_39 : decode cX9_person 39 = .ok (.aload_n 0, 1) := by decide +kernel
theorem dX9_person_40 : decode cX9_person 40 = .ok (.getfield 308, 3) := by decide +kernel
theorem dX9_person_43 : decode cX9_person 43 = .ok (.iload_n 1, 1) := by decide +kernel
theorem dX9_person_44 : decode cX9_person 44 = .ok (.iastore, 1) := by decide +kernel
theorem dX9_person_45 : decode cX9_person 45 = .ok (.aload_n 0, 1) := by decide +kernel
theorem dX9_person_46 : decode cX9_person 46 = .ok (.getfield 155, 3) := by decide +kernel
theorem dX9_person_49 : decode cX9_person 49 = .ok (.aload_n 0, 1) := by decide +kernel
theorem dX9_person_50 : decode cX9_person 50 = .ok (.getfield 308, 3) := by decide +kernel
theorem dX9_person_53 : decode cX9_person 53 = .ok (.iload_n 2, 1) := by decide +kernel
theorem dX9_person_54 : decode cX9_person 54 = .ok (.iastore, 1) := by decide +kernel
theorem dX9_person_55 : decode cX9_person 55 = .ok (.aload_n 0, 1) := by decide +kernel
theorem dX9_person_56 : decode cX9_person 56 = .ok (.getfield 158, 3) := by decide +kernel
theorem dX9_person_59 : decode cX9_person 59 = .ok (.aload_n 0, 1) := by decide +kernel
theorem dX9_person_60 : decode cX9_person 60 = .ok (.getfield 308, 3) := by decide +kernel
theorem dX9_person_63 : decode cX9_person 63 = .ok (.iconst (-1), 1) := by decide +kernel
theorem dX9_person_64 : decode cX9_person 64 = .ok (.iastore, 1) := by decide +kernel
theorem dX9_person_65 : decode cX9_person 65 = .ok (.aload_n 0, 1) := by decide +kernel
theorem dX9_person_66 : decode cX9_person 66 = .ok (.getfield 161, 3) := by decide +kernel
theorem dX9_person_69 : decode cX9_person 69 = .ok (.aload_n 0, 1) := by decide +kernel
theorem dX9_person_70 : decode cX9_person 70 = .ok (.getfield 308, 3) := by decide +kernel
theorem dX9_person_73 : decode cX9_person 73 = .ok (.iconst 0, 1) := by decide +kernel
theorem dX9_person_74 : decode cX9_person 74 = .ok (.bastore, 1) := by decide +kernel
theorem dX9_person_75 : decode cX9_person 75 = .ok (.aload_n 0, 1) := by decide +kernel
theorem dX9_person_76 : decode cX9_person 76 = .ok (.dup, 1) := by decide +kernel
theorem dX9_person_77 : decode cX9_person 77 = .ok (.getfield 308, 3) := by decide +kernel
theorem dX9_person_80 : decode cX9_person 80 = .ok (.iconst 1, 1) := by decide +kernel
theorem dX9_person_81 : decode cX9_person 81 = .ok (.iadd, 1) := by decide +kernel
theorem dX9_person_82 : decode cX9_person 82 = .ok (.putfield 308, 3) := by decide +kernel
theorem dX9_person_85 : decode cX9_person 85 = .ok (.aload_n 0, 1) := by decide +kernel
theorem dX9_person_86 : decode cX9_person 86 = .ok (.getfield 308, 3) := by decide +kernel
theorem dX9_person_89 : decode cX9_person 89 = .ok (.iconst 1, 1) := by decide +kernel
theorem dX9_person_90 : decode cX9_person 90 = .ok (.isub, 1) := by decide +kernel
theorem dX9_person_91 : decode cX9_person 91 = .ok (.ireturn, 1) := by decide +kernel
theorem dX9_stands_0 : decode cX9_stands 0 = .ok (.aload_n 0, 1) := by decide +kernel
theorem dX9_stands_1 : decode cX9_stands 1 = .ok (.iload_n 1, 1) := by decide +kernel
theorem dX9_stands_2 : decode cX9_stands 2 = .ok (.invokevirtual 318, 3) := by decide +kernel
theorem dX9_stands_5 : decode cX9_stands 5 = .ok (.ifCond .ne 5, 3) := by decide +kernel
theorem dX9_stands_8 : decode cX9_stands 8 = .ok (.iconst (-1), 1) := by decide +kernel
theorem dX9_stands_9 : decode cX9_stands 9 = .ok (.ireturn, 1) := by decide +kernel
theorem dX9_stands_10 : decode cX9_stands 10 = .ok (.iload_n 1, 1) := by decide +kernel
theorem dX9_stands_11 : decode cX9_stands 11 = .ok (.istore_n 2, 1) := by decide +kernel
theorem dX9_stands_12 : decode cX9_stands 12 = .ok (.iconst 0, 1) := by decide +kernel
theorem dX9_stands_13 : decode cX9_stands 13 = .ok (.istore_n 3, 1) := by decide +kernel
theorem dX9_stands_14 : decode cX9_stands 14 = .ok (.iload_n 3, 1) := by decide +kernel
theorem dX9_stands_15 : decode cX9_stands 15 = .ok (.bipush 8, 2) := by decide +kernel
theorem dX9_stands_17 : decode cX9_stands 17 = .ok (.if_icmp .ge 29, 3) := by decide +kernel
theorem dX9_stands_20 : decode cX9_stands 20 = .ok (.iload_n 2, 1) := by decide +kernel
theorem dX9_stands_21 : decode cX9_stands 21 = .ok (.ifCond .lt 25, 3) := by decide +kernel
theorem dX9_stands_24 : decode cX9_stands 24 = .ok (.aload_n 0, 1) := by decide +kernel
theorem dX9_stands_25 : decode cX9_stands 25 = .ok (.getfield 161, 3) := by decide +kernel
theorem dX9_stands_28 : decode cX9_stands 28 = .ok (.iload_n 2, 1) := by decide +kernel
theorem dX9_stands_29 : decode cX9_stands 29 = .ok (.baload, 1) := by decide +kernel
theorem dX9_stands_30 : decode cX9_stands 30 = .ok (.ifCond .eq 16, 3) := by decide +kernel
theorem dX9_stands_33 : decode cX9_stands 33 = .ok (.aload_n 0, 1) := by decide +kernel
theorem dX9_stands_34 : decode cX9_stands 34 = .ok (.getfield 158, 3) := by decide +kernel
theorem dX9_stands_37 : decode cX9_stands 37 = .ok (.iload_n 2, 1) := by decide +kernel
theorem dX9_stands_38 : decode cX9_stands 38 = .ok (.iaload, 1) := by decide +kernel
theorem dX9_stands_39 : decode cX9_stands 39 = .ok (.istore_n 2, 1) := by decide +kernel
theorem dX9_stands_40 : decode cX9_stands 40 = .ok (.iinc 3 1, 3) := by decide +kernel
theorem dX9_stands_43 : decode cX9_stands 43 = .ok (.goto (-29), 3) := by decide +kernel
theorem dX9_stands_46 : decode cX9_stands 46 = .ok (.iload_n 2, 1) := by decide +kernel
theorem dX9_stands_47 : decode cX9_stands 47 = .ok (.ifCond .lt 16, 3) := by decide +kernel
theorem dX9_stands_50 : decode cX9_stands 50 = .ok (.aload_n 0, 1) := by decide +kernel
theorem dX9_stands_51 : decode cX9_stands 51 = .ok (.getfield 161, 3) := by decide +kernel
theorem dX9_stands_54 : decode cX9_stands 54 = .ok (.iload_n 2, 1) := by decide +kernel
theorem dX9_stands_55 : decode cX9_stands 55 = .ok (.baload, 1) := by decide +kernel
theorem dX9_stands_56 : decode cX9_stands 56 = .ok (.ifCond .eq 7, 3) := by decide +kernel
theorem dX9_stands_59 : decode cX9_stands 59 = .ok (.iconst (-1), 1) := by decide +kernel
theorem dX9_stands_60 : decode cX9_stands 60 = .ok (.goto 4, 3) := by decide +kernel
theorem dX9_stands_63 : decode cX9_stands 63 = .ok (.iload_n 2, 1) := by decide +kernel
theorem dX9_stands_64 : decode cX9_stands 64 = .ok (.ireturn, 1) := by decide +kernel
theorem dX9_hour_0 : decode cX9_hour 0 = .ok (.iload_n 1, 1) := by decide +kernel
theorem dX9_hour_1 : decode cX9_hour 1 = .ok (.i2l, 1) := by decide +kernel
theorem dX9_hour_2 : decode cX9_hour 2 = .ok (.aload_n 0, 1) := by decide +kernel
theorem dX9_hour_3 : decode cX9_hour 3 = .ok (.getfield 321, 3) := by decide +kernel
theorem dX9_hour_6 : decode cX9_hour 6 = .ok (.i2l, 1) := by decide +kernel
theorem dX9_hour_7 : decode cX9_hour 7 = .ok (.ldc2_w 324, 3) := by decide +kernel
theorem dX9_hour_10 : decode cX9_hour 10 = .ok (.invokestatic 177, 3) := by decide +kernel
theorem dX9_hour_13 : decode cX9_hour 13 = .ok (.ifCond .ne 5, 3) := by decide +kernel
theorem dX9_hour_16 : decode cX9_hour 16 = .ok (.iconst 0, 1) := by decide +kernel
theorem dX9_hour_17 : decode cX9_hour 17 = .ok (.ireturn, 1) := by decide +kernel
theorem dX9_hour_18 : decode cX9_hour 18 = .ok (.aload_n 0, 1) := by decide +kernel
theorem dX9_hour_19 : decode cX9_hour 19 = .ok (.iload_n 1, 1) := by decide +kernel
theorem dX9_hour_20 : decode cX9_hour 20 = .ok (.putfield 321, 3) := by decide +kernel
theorem dX9_hour_23 : decode cX9_hour 23 = .ok (.iconst 1, 1) := by decide +kernel
theorem dX9_hour_24 : decode cX9_hour 24 = .ok (.ireturn, 1) := by decide +kernel
theorem dX9_isWorking_0 : decode cX9_isWorking 0 = .ok (.iload_n 0, 1) := by decide +kernel
theorem dX9_isWorking_1 : decode cX9_isWorking 1 = .ok (.bipush 24, 2) := by decide +kernel
theorem dX9_isWorking_3 : decode cX9_isWorking 3 = .ok (.idiv, 1) := by decide +kernel
theorem dX9_isWorking_4 : decode cX9_isWorking 4 = .ok (.bipush 7, 2) := by decide +kernel
theorem dX9_isWorking_6 : decode cX9_isWorking 6 = .ok (.irem, 1) := by decide +kernel
theorem dX9_isWorking_7 : decode cX9_isWorking 7 = .ok (.iconst 5, 1) := by decide +kernel
theorem dX9_isWorking_8 : decode cX9_isWorking 8 = .ok (.if_icmp .ge 25, 3) := by decide +kernel
theorem dX9_isWorking_11 : decode cX9_isWorking 11 = .ok (.iload_n 0, 1) := by decide +kernel
theorem dX9_isWorking_12 : decode cX9_isWorking 12 = .ok (.bipush 24, 2) := by decide +kernel
theorem dX9_isWorking_14 : decode cX9_isWorking 14 = .ok (.irem, 1) := by decide +kernel
theorem dX9_isWorking_15 : decode cX9_isWorking 15 = .ok (.bipush 9, 2) := by decide +kernel
theorem dX9_isWorking_17 : decode cX9_isWorking 17 = .ok (.if_icmp .lt 16, 3) := by decide +kernel
theorem dX9_isWorking_20 : decode cX9_isWorking 20 = .ok (.iload_n 0, 1) := by decide +kernel
theorem dX9_isWorking_21 : decode cX9_isWorking 21 = .ok (.bipush 24, 2) := by decide +kernel
theorem dX9_isWorking_23 : decode cX9_isWorking 23 = .ok (.irem, 1) := by decide +kernel
theorem dX9_isWorking_24 : decode cX9_isWorking 24 = .ok (.bipush 16, 2) := by decide +kernel
theorem dX9_isWorking_26 : decode cX9_isWorking 26 = .ok (.if_icmp .gt 7, 3) := by decide +kernel
theorem dX9_isWorking_29 : decode cX9_isWorking 29 = .ok (.iconst 1, 1) := by decide +kernel
theorem dX9_isWorking_30 : decode cX9_isWorking 30 = .ok (.goto 4, 3) := by decide +kernel
theorem dX9_isWorking_33 : decode cX9_isWorking 33 = .ok (.iconst 0, 1) := by decide +kernel
theorem dX9_isWorking_34 : decode cX9_isWorking 34 = .ok (.ireturn, 1) := by decide +kernel
theorem dX9_goes_0 : decode cX9_goes 0 = .ok (.iconst 1, 1) := by decide +kernel
theorem dX9_goes_1 : decode cX9_goes 1 = .ok (.istore_n 3, 1) := by decide +kernel
theorem dX9_goes_2 : decode cX9_goes 2 = .ok (.aload_n 0, 1) := by decide +kernel
theorem dX9_goes_3 : decode cX9_goes 3 = .ok (.getfield 164, 3) := by decide +kernel
theorem dX9_goes_6 : decode cX9_goes 6 = .ok (.iconst 0, 1) := by decide +kernel
theorem dX9_goes_7 : decode cX9_goes 7 = .ok (.iload_n 2, 1) := by decide +kernel
theorem dX9_goes_8 : decode cX9_goes 8 = .ok (.iastore, 1) := by decide +kernel
theorem dX9_goes_9 : decode cX9_goes 9 = .ok (.iload_n 3, 1) := by decide +kernel
theorem dX9_goes_10 : decode cX9_goes 10 = .ok (.ifCond .le 365, 3) := by decide +kernel
theorem dX9_goes_13 : decode cX9_goes 13 = .ok (.iinc 3 (-1), 3) := by decide +kernel
theorem dX9_goes_16 : decode cX9_goes 16 = .ok (.aload_n 0, 1) := by decide +kernel
theorem dX9_goes_17 : decode cX9_goes 17 = .ok (.getfield 164, 3) := by decide +kernel
theorem dX9_goes_20 : decode cX9_goes 20 = .ok (.iload_n 3, 1) := by decide +kernel
theorem dX9_goes_21 : decode cX9_goes 21 = .ok (.iaload, 1) := by decide +kernel
theorem dX9_goes_22 : decode cX9_goes 22 = .ok (.istore 4, 2) := by decide +kernel
theorem dX9_goes_24 : decode cX9_goes 24 = .ok (.iconst 1, 1) := by decide +kernel
theorem dX9_goes_25 : decode cX9_goes 25 = .ok (.istore 5, 2) := by decide +kernel
theorem dX9_goes_27 : decode cX9_goes 27 = .ok (.iload 5, 2) := by decide +kernel
theorem dX9_goes_29 : decode cX9_goes 29 = .ok (.ifCond .eq 343, 3) := by decide +kernel
theorem dX9_goes_32 : decode cX9_goes 32 = .ok (.iload 4, 2) := by decide +kernel
theorem dX9_goes_34 : decode cX9_goes 34 = .ok (.aload_n 0, 1) := by decide +kernel
theorem dX9_goes_35 : decode cX9_goes 35 = .ok (.getfield 89, 3) := by decide +kernel
theorem dX9_goes_38 : decode cX9_goes 38 = .ok (.iload_n 1, 1) := by decide +kernel
theorem dX9_goes_39 : decode cX9_goes 39 = .ok (.iaload, 1) := by decide +kernel
theorem dX9_goes_40 : decode cX9_goes 40 = .ok (.if_icmp .ne 16, 3) := by decide +kernel
theorem dX9_goes_43 : decode cX9_goes 43 = .ok (.aload_n 0, 1) := by decide +kernel
theorem dX9_goes_44 : decode cX9_goes 44 = .ok (.getfield 119, 3) := by decide +kernel
theorem dX9_goes_47 : decode cX9_goes 47 = .ok (.iload_n 1, 1) := by decide +kernel
theorem dX9_goes_48 : decode cX9_goes 48 = .ok (.iconst 1, 1) := by decide +kernel
theorem dX9_goes_49 : decode cX9_goes 49 = .ok (.bastore, 1) := by decide +kernel
theorem dX9_goes_50 : decode cX9_goes 50 = .ok (.iconst 0, 1) := by decide +kernel
theorem dX9_goes_51 : decode cX9_goes 51 = .ok (.istore 5, 2) := by decide +kernel
theorem dX9_goes_53 : decode cX9_goes 53 = .ok (.goto (-26), 3) := by decide +kernel
theorem dX9_goes_56 : decode cX9_goes 56 = .ok (.sipush 200, 3) := by decide +kernel
theorem dX9_goes_59 : decode cX9_goes 59 = .ok (.iload_n 1, 1) := by decide +kernel
theorem dX9_goes_60 : decode cX9_goes 60 = .ok (.imul, 1) := by decide +kernel
theorem dX9_goes_61 : decode cX9_goes 61 = .ok (.iload 4, 2) := by decide +kernel
theorem dX9_goes_63 : decode cX9_goes 63 = .ok (.iadd, 1) := by decide +kernel
theorem dX9_goes_64 : decode cX9_goes 64 = .ok (.istore 6, 2) := by decide +kernel
theorem dX9_goes_66 : decode cX9_goes 66 = .ok (.iinc 4 1, 3) := by decide +kernel
theorem dX9_goes_69 : decode cX9_goes 69 = .ok (.aload_n 0, 1) := by decide +kernel
theorem dX9_goes_70 : decode cX9_goes 70 = .ok (.getfield 92, 3) := by decide +kernel
theorem dX9_goes_73 : decode cX9_goes 73 = .ok (.iload 6, 2) := by decide +kernel
theorem dX9_goes_75 : decode cX9_goes 75 = .ok (.iaload, 1) := by decide +kernel
theorem dX9_goes_76 : decode cX9_goes 76 = .ok (.tableswitch 215 0 5 #[40, 72, 98, 141, 153, 196], 40) := by decide +kernel
theorem dX9_goes_116 : decode cX9_goes 116 = .ok (.aload_n 0, 1) := by decide +kernel
theorem dX9_goes_117 : decode cX9_goes 117 = .ok (.getfield 311, 3) := by decide +kernel
theorem dX9_goes_120 : decode cX9_goes 120 = .ok (.sipush 200, 3) := by decide +kernel
theorem dX9_goes_123 : decode cX9_goes 123 = .ok (.if_icmp .ne 5, 3) := by decide +kernel
theorem dX9_goes_126 : decode cX9_goes 126 = .ok (.iconst 0, 1) := by decide +kernel
theorem dX9_goes_127 : decode cX9_goes 127 = .ok (.ireturn, 1) := by decide +kernel
theorem dX9_goes_128 : decode cX9_goes 128 = .ok (.aload_n 0, 1) := by decide +kernel
theorem dX9_goes_129 : decode cX9_goes 129 = .ok (.iload_n 1, 1) := by decide +kernel
theorem dX9_goes_130 : decode cX9_goes 130 = .ok (.aload_n 0, 1) := by decide +kernel
theorem dX9_goes_131 : decode cX9_goes 131 = .ok (.getfield 95, 3) := by decide +kernel
theorem dX9_goes_134 : decode cX9_goes 134 = .ok (.iload 6, 2) := by decide +kernel
theorem dX9_goes_136 : decode cX9_goes 136 = .ok (.iaload, 1) := by decide +kernel
theorem dX9_goes_137 : decode cX9_goes 137 = .ok (.iload 4, 2) := by decide +kernel
theorem dX9_goes_139 : decode cX9_goes 139 = .ok (.invokevirtual 335, 3) := by decide +kernel
theorem dX9_goes_142 : decode cX9_goes 142 = .ok (.iconst 0, 1) := by decide +kernel
theorem dX9_goes_143 : decode cX9_goes 143 = .ok (.istore 5, 2) := by decide +kernel
theorem dX9_goes_145 : decode cX9_goes 145 = .ok (.goto 224, 3) := by decide +kernel
theorem dX9_goes_148 : decode cX9_goes 148 = .ok (.aload_n 0, 1) := by decide +kernel
theorem dX9_goes_149 : decode cX9_goes 149 = .ok (.getfield 113, 3) := by decide +kernel
theorem dX9_goes_152 : decode cX9_goes 152 = .ok (.iconst 4, 1) := by decide +kernel
theorem dX9_goes_153 : decode cX9_goes 153 = .ok (.iload_n 1, 1) := by decide +kernel
theorem dX9_goes_154 : decode cX9_goes 154 = .ok (.imul, 1) := by decide +kernel
theorem dX9_goes_155 : decode cX9_goes 155 = .ok (.aload_n 0, 1) := by decide +kernel
theorem dX9_goes_156 : decode cX9_goes 156 = .ok (.getfield 95, 3) := by decide +kernel
theorem dX9_goes_159 : decode cX9_goes 159 = .ok (.iload 6, 2) := by decide +kernel
theorem dX9_goes_161 : decode cX9_goes 161 = .ok (.iaload, 1) := by decide +kernel
theorem dX9_goes_162 : decode cX9_goes 162 = .ok (.iadd, 1) := by decide +kernel
theorem dX9_goes_163 : decode cX9_goes 163 = .ok (.aload_n 0, 1) := by decide +kernel
theorem dX9_goes_164 : decode cX9_goes 164 = .ok (.getfield 98, 3) := by decide +kernel
theorem dX9_goes_167 : decode cX9_goes 167 = .ok (.iload 6, 2) := by decide +kernel
theorem dX9_goes_169 : decode cX9_goes 169 = .ok (.iaload, 1) := by decide +kernel
theorem dX9_goes_170 : decode cX9_goes 170 = .ok (.iastore, 1) := by decide +kernel
theorem dX9_goes_171 : decode cX9_goes 171 = .ok (.goto 198, 3) := by decide +kernel
theorem dX9_goes_174 : decode cX9_goes 174 = .ok (.aload_n 0, 1) := by decide +kernel
theorem dX9_goes_175 : decode cX9_goes 175 = .ok (.getfield 113, 3) := by decide +kernel
theorem dX9_goes_178 : decode cX9_goes 178 = .ok (.iconst 4, 1) := by decide +kernel
theorem dX9_goes_179 : decode cX9_goes 179 = .ok (.iload_n 1, 1) := by decide +kernel
theorem dX9_goes_180 : decode cX9_goes 180 = .ok (.imul, 1) := by decide +kernel
theorem dX9_goes_181 : decode cX9_goes 181 = .ok (.aload_n 0, 1) := by decide +kernel
theorem dX9_goes_182 : decode cX9_goes 182 = .ok (.getfield 95, 3) := by decide +kernel
theorem dX9_goes_185 : decode cX9_goes 185 = .ok (.iload 6, 2) := by decide +kernel
theorem dX9_goes_187 : decode cX9_goes 187 = .ok (.iaload, 1) := by decide +kernel
theorem dX9_goes_188 : decode cX9_goes 188 = .ok (.iadd, 1) := by decide +kernel
theorem dX9_goes_189 : decode cX9_goes 189 = .ok (.iaload, 1) := by decide +kernel
theorem dX9_goes_190 : decode cX9_goes 190 = .ok (.aload_n 0, 1) := by decide +kernel
theorem dX9_goes_191 : decode cX9_goes 191 = .ok (.getfield 98, 3) := by decide +kernel
theorem dX9_goes_194 : decode cX9_goes 194 = .ok (.iload 6, 2) := by decide +kernel
theorem dX9_goes_196 : decode cX9_goes 196 = .ok (.iaload, 1) := by decide +kernel
theorem dX9_goes_197 : decode cX9_goes 197 = .ok (.if_icmp .ge 8, 3) := by decide +kernel
theorem dX9_goes_200 : decode cX9_goes 200 = .ok (.iload 4, 2) := by decide +kernel
theorem dX9_goes_202 : decode cX9_goes 202 = .ok (.goto 10, 3) := by decide +kernel
theorem dX9_goes_205 : decode cX9_goes 205 = .ok (.aload_n 0, 1) := by decide +kernel
theorem dX9_goes_206 : decode cX9_goes 206 = .ok (.getfield 101, 3) := by decide +kernel
theorem dX9_goes_209 : decode cX9_goes 209 = .ok (.iload 6, 2) := by decide +kernel
theorem dX9_goes_211 : decode cX9_goes 211 = .ok (.iaload, 1) := by decide +kernel
theorem dX9_goes_212 : decode cX9_goes 212 = .ok (.istore 4, 2) := by decide +kernel
theorem dX9_goes_214 : decode cX9_goes 214 = .ok (.goto 155, 3) := by decide +kernel
theorem dX9_goes_217 : decode cX9_goes 217 = .ok (.aload_n 0, 1) := by decide +kernel
theorem dX9_goes_218 : decode cX9_goes 218 = .ok (.getfield 101, 3) := by decide +kernel
theorem dX9_goes_221 : decode cX9_goes 221 = .ok (.iload 6, 2) := by decide +kernel
theorem dX9_goes_223 : decode cX9_goes 223 = .ok (.iaload, 1) := by decide +kernel
theorem dX9_goes_224 : decode cX9_goes 224 = .ok (.istore 4, 2) := by decide +kernel
theorem dX9_goes_226 : decode cX9_goes 226 = .ok (.goto 143, 3) := by decide +kernel
theorem dX9_goes_229 : decode cX9_goes 229 = .ok (.aload_n 0, 1) := by decide +kernel
theorem dX9_goes_230 : decode cX9_goes 230 = .ok (.getfield 113, 3) := by decide +kernel
theorem dX9_goes_233 : decode cX9_goes 233 = .ok (.iconst 4, 1) := by decide +kernel
theorem dX9_goes_234 : decode cX9_goes 234 = .ok (.iload_n 1, 1) := by decide +kernel
theorem dX9_goes_235 : decode cX9_goes 235 = .ok (.imul, 1) := by decide +kernel
theorem dX9_goes_236 : decode cX9_goes 236 = .ok (.aload_n 0, 1) := by decide +kernel
theorem dX9_goes_237 : decode cX9_goes 237 = .ok (.getfield 95, 3) := by decide +kernel
theorem dX9_goes_240 : decode cX9_goes 240 = .ok (.iload 6, 2) := by decide +kernel
theorem dX9_goes_242 : decode cX9_goes 242 = .ok (.iaload, 1) := by decide +kernel
theorem dX9_goes_243 : decode cX9_goes 243 = .ok (.iadd, 1) := by decide +kernel
theorem dX9_goes_244 : decode cX9_goes 244 = .ok (.iaload, 1) := by decide +kernel
theorem dX9_goes_245 : decode cX9_goes 245 = .ok (.aload_n 0, 1) := by decide +kernel
theorem dX9_goes_246 : decode cX9_goes 246 = .ok (.getfield 98, 3) := by decide +kernel
theorem dX9_goes_249 : decode cX9_goes 249 = .ok (.iload 6, 2) := by decide +kernel
theorem dX9_goes_251 : decode cX9_goes 251 = .ok (.iaload, 1) := by decide +kernel
theorem dX9_goes_252 : decode cX9_goes 252 = .ok (.if_icmp .ge 13, 3) := by decide +kernel
theorem dX9_goes_255 : decode cX9_goes 255 = .ok (.aload_n 0, 1) := by decide +kernel
theorem dX9_goes_256 : decode cX9_goes 256 = .ok (.getfield 101, 3) := by decide +kernel
theorem dX9_goes_259 : decode cX9_goes 259 = .ok (.iload 6, 2) := by decide +kernel
theorem dX9_goes_261 : decode cX9_goes 261 = .ok (.iaload, 1) := by decide +kernel
theorem dX9_goes_262 : decode cX9_goes 262 = .ok (.goto 5, 3) := by decide +kernel
theorem dX9_goes_265 : decode cX9_goes 265 = .ok (.iload 4, 2) := by decide +kernel
theorem dX9_goes_267 : decode cX9_goes 267 = .ok (.istore 4, 2) := by decide +kernel
theorem dX9_goes_269 : decode cX9_goes 269 = .ok (.goto 100, 3) := by decide +kernel
theorem dX9_goes_272 : decode cX9_goes 272 = .ok (.aload_n 0, 1) := by decide +kernel
theorem dX9_goes_273 : decode cX9_goes 273 = .ok (.getfield 164, 3) := by decide +kernel
theorem dX9_goes_276 : decode cX9_goes 276 = .ok (.iload_n 3, 1) := by decide +kernel
theorem dX9_goes_277 : decode cX9_goes 277 = .ok (.aload_n 0, 1) := by decide +kernel
theorem dX9_goes_278 : decode cX9_goes 278 = .ok (.getfield 101, 3) := by decide +kernel
theorem dX9_goes_281 : decode cX9_goes 281 = .ok (.iload 6, 2) := by decide +kernel
theorem dX9_goes_283 : decode cX9_goes 283 = .ok (.iaload, 1) := by decide +kernel
theorem dX9_goes_284 : decode cX9_goes 284 = .ok (.iastore, 1) := by decide +kernel
theorem dX9_goes_285 : decode cX9_goes 285 = .ok (.iinc 3 1, 3) := by decide +kernel
theorem dX9_goes_288 : decode cX9_goes 288 = .ok (.goto 81, 3) := by decide +kernel
theorem dX9_goes_291 : decode cX9_goes 291 = .ok (.bipush 40, 2) := by decide +kernel
theorem dX9_goes_293 : decode cX9_goes 293 = .ok (.iload_n 1, 1) := by decide +kernel
theorem dX9_goes_294 : decode cX9_goes 294 = .ok (.imul, 1) := by decide +kernel
theorem dX9_goes_295 : decode cX9_goes 295 = .ok (.aload_n 0, 1) := by decide +kernel
theorem dX9_goes_296 : decode cX9_goes 296 = .ok (.getfield 95, 3) := by decide +kernel
theorem dX9_goes_299 : decode cX9_goes 299 = .ok (.iload 6, 2) := by decide +kernel
theorem dX9_goes_301 : decode cX9_goes 301 = .ok (.iaload, 1) := by decide +kernel
theorem dX9_goes_302 : decode cX9_goes 302 = .ok (.iadd, 1) := by decide +kernel
theorem dX9_goes_303 : decode cX9_goes 303 = .ok (.istore 7, 2) := by decide +kernel
theorem dX9_goes_305 : decode cX9_goes 305 = .ok (.aload_n 0, 1) := by decide +kernel
theorem dX9_goes_306 : decode cX9_goes 306 = .ok (.getfield 116, 3) := by decide +kernel
theorem dX9_goes_309 : decode cX9_goes 309 = .ok (.iload 7, 2) := by decide +kernel
theorem dX9_goes_311 : decode cX9_goes 311 = .ok (.dup2, 1) := by decide +kernel
theorem dX9_goes_312 : decode cX9_goes 312 = .ok (.iaload, 1) := by decide +kernel
theorem dX9_goes_313 : decode cX9_goes 313 = .ok (.iconst 1, 1) := by decide +kernel
theorem dX9_goes_314 : decode cX9_goes 314 = .ok (.iadd, 1) := by decide +kernel
theorem dX9_goes_315 : decode cX9_goes 315 = .ok (.iastore, 1) := by decide +kernel
theorem dX9_goes_316 : decode cX9_goes 316 = .ok (.aload_n 0, 1) := by decide +kernel
theorem dX9_goes_317 : decode cX9_goes 317 = .ok (.getfield 116, 3) := by decide +kernel
theorem dX9_goes_320 : decode cX9_goes 320 = .ok (.iload 7, 2) := by decide +kernel
theorem dX9_goes_322 : decode cX9_goes 322 = .ok (.iaload, 1) := by decide +kernel
theorem dX9_goes_323 : decode cX9_goes 323 = .ok (.iconst 2, 1) := by decide +kernel
theorem dX9_goes_324 : decode cX9_goes 324 = .ok (.if_icmp .ne 7, 3) := by decide +kernel
theorem dX9_goes_327 : decode cX9_goes 327 = .ok (.iconst 1, 1) := by decide +kernel
theorem dX9_goes_328 : decode cX9_goes 328 = .ok (.goto 4, 3) := by decide +kernel
theorem dX9_goes_331 : decode cX9_goes 331 = .ok (.iconst 0, 1) := by decide +kernel
theorem dX9_goes_332 : decode cX9_goes 332 = .ok (.istore 5, 2) := by decide +kernel
theorem dX9_goes_334 : decode cX9_goes 334 = .ok (.aload_n 0, 1) := by decide +kernel
theorem dX9_goes_335 : decode cX9_goes 335 = .ok (.getfield 116, 3) := by decide +kernel
theorem dX9_goes_338 : decode cX9_goes 338 = .ok (.iload 7, 2) := by decide +kernel
theorem dX9_goes_340 : decode cX9_goes 340 = .ok (.iload 5, 2) := by decide +kernel
theorem dX9_goes_342 : decode cX9_goes 342 = .ok (.ifCond .eq 7, 3) := by decide +kernel
theorem dX9_goes_345 : decode cX9_goes 345 = .ok (.iconst 0, 1) := by decide +kernel
theorem dX9_goes_346 : decode cX9_goes 346 = .ok (.goto 10, 3) := by decide +kernel
theorem dX9_goes_349 : decode cX9_goes 349 = .ok (.aload_n 0, 1) := by decide +kernel
theorem dX9_goes_350 : decode cX9_goes 350 = .ok (.getfield 116, 3) := by decide +kernel
theorem dX9_goes_353 : decode cX9_goes 353 = .ok (.iload 7, 2) := by decide +kernel
theorem dX9_goes_355 : decode cX9_goes 355 = .ok (.iaload, 1) := by decide +kernel
theorem dX9_goes_356 : decode cX9_goes 356 = .ok (.iastore, 1) := by decide +kernel
theorem dX9_goes_357 : decode cX9_goes 357 = .ok (.aload_n 0, 1) := by decide +kernel
theorem dX9_goes_358 : decode cX9_goes 358 = .ok (.getfield 101, 3) := by decide +kernel
theorem dX9_goes_361 : decode cX9_goes 361 = .ok (.iload 6, 2) := by decide +kernel
theorem dX9_goes_363 : decode cX9_goes 363 = .ok (.iaload, 1) := by decide +kernel
theorem dX9_goes_364 : decode cX9_goes 364 = .ok (.istore 4, 2) := by decide +kernel
theorem dX9_goes_366 : decode cX9_goes 366 = .ok (.goto 3, 3) := by decide +kernel
theorem dX9_goes_369 : decode cX9_goes 369 = .ok (.goto (-342), 3) := by decide +kernel
theorem dX9_goes_372 : decode cX9_goes 372 = .ok (.goto (-363), 3) := by decide +kernel
theorem dX9_goes_375 : decode cX9_goes 375 = .ok (.iconst 1, 1) := by decide +kernel
theorem dX9_goes_376 : decode cX9_goes 376 = .ok (.ireturn, 1) := by decide +kernel
theorem dX9_run_0 : decode cX9_run 0 = .ok (.aload_n 0, 1) := by decide +kernel
theorem dX9_run_1 : decode cX9_run 1 = .ok (.getfield 46, 3) := by decide +kernel
theorem dX9_run_4 : decode cX9_run 4 = .ok (.ifCond .lt 12, 3) := by decide +kernel
theorem dX9_run_7 : decode cX9_run 7 = .ok (.aload_n 0, 1) := by decide +kernel
theorem dX9_run_8 : decode cX9_run 8 = .ok (.getfield 339, 3) := by decide +kernel
theorem dX9_run_11 : decode cX9_run 11 = .ok (.bipush 8, 2) := by decide +kernel
theorem dX9_run_13 : decode cX9_run 13 = .ok (.if_icmp .ne 5, 3) := by decide +kernel
theorem dX9_run_16 : decode cX9_run 16 = .ok (.iconst (-1), 1) := by decide +kernel
theorem dX9_run_17 : decode cX9_run 17 = .ok (.ireturn, 1) := by decide +kernel
theorem dX9_run_18 : decode cX9_run 18 = .ok (.aload_n 0, 1) := by decide +kernel
theorem dX9_run_19 : decode cX9_run 19 = .ok (.getfield 339, 3) := by decide +kernel
theorem dX9_run_22 : decode cX9_run 22 = .ok (.istore_n 1, 1) := by decide +kernel
theorem dX9_run_23 : decode cX9_run 23 = .ok (.aload_n 0, 1) := by decide +kernel
theorem dX9_run_24 : decode cX9_run 24 = .ok (.getfield 89, 3) := by decide +kernel
theorem dX9_run_27 : decode cX9_run 27 = .ok (.iload_n 1, 1) := by decide +kernel
theorem dX9_run_28 : decode cX9_run 28 = .ok (.aload_n 0, 1) := by decide +kernel
theorem dX9_run_29 : decode cX9_run 29 = .ok (.getfield 305, 3) := by decide +kernel
theorem dX9_run_32 : decode cX9_run 32 = .ok (.iastore, 1) := by decide +kernel
theorem dX9_run_33 : decode cX9_run 33 = .ok (.aload_n 0, 1) := by decide +kernel
theorem dX9_run_34 : decode cX9_run 34 = .ok (.getfield 119, 3) := by decide +kernel
theorem dX9_run_37 : decode cX9_run 37 = .ok (.iload_n 1, 1) := by decide +kernel
theorem dX9_run_38 : decode cX9_run 38 = .ok (.iconst 0, 1) := by decide +kernel
theorem dX9_run_39 : decode cX9_run 39 = .ok (.bastore, 1) := by decide +kernel
theorem dX9_run_40 : decode cX9_run 40 = .ok (.iconst 0, 1) := by decide +kernel
theorem dX9_run_41 : decode cX9_run 41 = .ok (.istore_n 2, 1) := by decide +kernel
theorem dX9_run_42 : decode cX9_run 42 = .ok (.iload_n 2, 1) := by decide +kernel
theorem dX9_run_43 : decode cX9_run 43 = .ok (.sipush 200, 3) := by decide +kernel
theorem dX9_run_46 : decode cX9_run 46 = .ok (.if_icmp .ge 81, 3) := by decide +kernel
theorem dX9_run_49 : decode cX9_run 49 = .ok (.aload_n 0, 1) := by decide +kernel
theorem dX9_run_50 : decode cX9_run 50 = .ok (.getfield 92, 3) := by decide +kernel
theorem dX9_run_53 : decode cX9_run 53 = .ok (.sipush 200, 3) := by decide +kernel
theorem dX9_run_56 : decode cX9_run 56 = .ok (.iload_n 1, 1) := by decide +kernel
theorem dX9_run_57 : decode cX9_run 57 = .ok (.imul, 1) := by decide +kernel
theorem dX9_run_58 : decode cX9_run 58 = .ok (.iload_n 2, 1) := by decide +kernel
theorem dX9_run_59 : decode cX9_run 59 = .ok (.iadd, 1) := by decide +kernel
theorem dX9_run_60 : decode cX9_run 60 = .ok (.aload_n 0, 1) := by decide +kernel
theorem dX9_run_61 : decode cX9_run 61 = .ok (.getfield 49, 3) := by decide +kernel
theorem dX9_run_64 : decode cX9_run 64 = .ok (.iload_n 2, 1) := by decide +kernel
theorem dX9_run_65 : decode cX9_run 65 = .ok (.iaload, 1) := by decide +kernel
theorem dX9_run_66 : decode cX9_run 66 = .ok (.iastore, 1) := by decide +kernel
theorem dX9_run_67 : decode cX9_run 67 = .ok (.aload_n 0, 1) := by decide +kernel
theorem dX9_run_68 : decode cX9_run 68 = .ok (.getfield 95, 3) := by decide +kernel
theorem dX9_run_71 : decode cX9_run 71 = .ok (.sipush 200, 3) := by decide +kernel
theorem dX9_run_74 : decode cX9_run 74 = .ok (.iload_n 1, 1) := by decide +kernel
theorem dX9_run_75 : decode cX9_run 75 = .ok (.imul, 1) := by decide +kernel
theorem dX9_run_76 : decode cX9_run 76 = .ok (.iload_n 2, 1) := by decide +kernel
theorem dX9_run_77 : decode cX9_run 77 = .ok (.iadd, 1) := by decide +kernel
theorem dX9_run_78 : decode cX9_run 78 = .ok (.aload_n 0, 1) := by decide +kernel
theorem dX9_run_79 : decode cX9_run 79 = .ok (.getfield 52, 3) := by decide +kernel
theorem dX9_run_82 : decode cX9_run 82 = .ok (.iload_n 2, 1) := by decide +kernel
theorem dX9_run_83 : decode cX9_run 83 = .ok (.iaload, 1) := by decide +kernel
theorem dX9_run_84 : decode cX9_run 84 = .ok (.iastore, 1) := by decide +kernel
theorem dX9_run_85 : decode cX9_run 85 = .ok (.aload_n 0, 1) := by decide +kernel
theorem dX9_run_86 : decode cX9_run 86 = .ok (.getfield 98, 3) := by decide +kernel
theorem dX9_run_89 : decode cX9_run 89 = .ok (.sipush 200, 3) := by decide +kernel
theorem dX9_run_92 : decode cX9_run 92 = .ok (.iload_n 1, 1) := by decide +kernel
theorem dX9_run_93 : decode cX9_run 93 = .ok (.imul, 1) := by decide +kernel
theorem dX9_run_94 : decode cX9_run 94 = .ok (.iload_n 2, 1) := by decide +kernel
theorem dX9_run_95 : decode cX9_run 95 = .ok (.iadd, 1) := by decide +kernel
theorem dX9_run_96 : decode cX9_run 96 = .ok (.aload_n 0, 1) := by decide +kernel
theorem dX9_run_97 : decode cX9_run 97 = .ok (.getfield 55, 3) := by decide +kernel
theorem dX9_run_100 : decode cX9_run 100 = .ok (.iload_n 2, 1) := by decide +kernel
theorem dX9_run_101 : decode cX9_run 101 = .ok (.iaload, 1) := by decide +kernel
theorem dX9_run_102 : decode cX9_run 102 = .ok (.iastore, 1) := by decide +kernel
theorem dX9_run_103 : decode cX9_run 103 = .ok (.aload_n 0, 1) := by decide +kernel
theorem dX9_run_104 : decode cX9_run 104 = .ok (.getfield 101, 3) := by decide +kernel
theorem dX9_run_107 : decode cX9_run 107 = .ok (.sipush 200, 3) := by decide +kernel
theorem dX9_run_110 : decode cX9_run 110 = .ok (.iload_n 1, 1) := by decide +kernel
theorem dX9_run_111 : decode cX9_run 111 = .ok (.imul, 1) := by decide +kernel
theorem dX9_run_112 : decode cX9_run 112 = .ok (.iload_n 2, 1) := by decide +kernel
theorem dX9_run_113 : decode cX9_run 113 = .ok (.iadd, 1) := by decide +kernel
theorem dX9_run_114 : decode cX9_run 114 = .ok (.aload_n 0, 1) := by decide +kernel
theorem dX9_run_115 : decode cX9_run 115 = .ok (.getfield 58, 3) := by decide +kernel
theorem dX9_run_118 : decode cX9_run 118 = .ok (.iload_n 2, 1) := by decide +kernel
theorem dX9_run_119 : decode cX9_run 119 = .ok (.iaload, 1) := by decide +kernel
theorem dX9_run_120 : decode cX9_run 120 = .ok (.iastore, 1) := by decide +kernel
theorem dX9_run_121 : decode cX9_run 121 = .ok (.iinc 2 1, 3) := by decide +kernel
theorem dX9_run_124 : decode cX9_run 124 = .ok (.goto (-82), 3) := by decide +kernel
theorem dX9_run_127 : decode cX9_run 127 = .ok (.iconst 0, 1) := by decide +kernel
theorem dX9_run_128 : decode cX9_run 128 = .ok (.istore_n 2, 1) := by decide +kernel
theorem dX9_run_129 : decode cX9_run 129 = .ok (.iload_n 2, 1) := by decide +kernel
theorem dX9_run_130 : decode cX9_run 130 = .ok (.bipush 40, 2) := by decide +kernel
theorem dX9_run_132 : decode cX9_run 132 = .ok (.if_icmp .ge 72, 3) := by decide +kernel
theorem dX9_run_135 : decode cX9_run 135 = .ok (.aload_n 0, 1) := by decide +kernel
theorem dX9_run_136 : decode cX9_run 136 = .ok (.getfield 104, 3) := by decide +kernel
theorem dX9_run_139 : decode cX9_run 139 = .ok (.bipush 40, 2) := by decide +kernel
theorem dX9_run_141 : decode cX9_run 141 = .ok (.iload_n 1, 1) := by decide +kernel
theorem dX9_run_142 : decode cX9_run 142 = .ok (.imul, 1) := by decide +kernel
theorem dX9_run_143 : decode cX9_run 143 = .ok (.iload_n 2, 1) := by decide +kernel
theorem dX9_run_144 : decode cX9_run 144 = .ok (.iadd, 1) := by decide +kernel
theorem dX9_run_145 : decode cX9_run 145 = .ok (.aload_n 0, 1) := by decide +kernel
theorem dX9_run_146 : decode cX9_run 146 = .ok (.getfield 61, 3) := by decide +kernel
theorem dX9_run_149 : decode cX9_run 149 = .ok (.iload_n 2, 1) := by decide +kernel
theorem dX9_run_150 : decode cX9_run 150 = .ok (.iaload, 1) := by decide +kernel
theorem dX9_run_151 : decode cX9_run 151 = .ok (.iastore, 1) := by decide +kernel
theorem dX9_run_152 : decode cX9_run 152 = .ok (.aload_n 0, 1) := by decide +kernel
theorem dX9_run_153 : decode cX9_run 153 = .ok (.getfield 107, 3) := by decide +kernel
theorem dX9_run_156 : decode cX9_run 156 = .ok (.bipush 40, 2) := by decide +kernel
theorem dX9_run_158 : decode cX9_run 158 = .ok (.iload_n 1, 1) := by decide +kernel
theorem dX9_run_159 : decode cX9_run 159 = .ok (.imul, 1) := by decide +kernel
theorem dX9_run_160 : decode cX9_run 160 = .ok (.iload_n 2, 1) := by decide +kernel
theorem dX9_run_161 : decode cX9_run 161 = .ok (.iadd, 1) := by decide +kernel
theorem dX9_run_162 : decode cX9_run 162 = .ok (.aload_n 0, 1) := by decide +kernel
theorem dX9_run_163 : decode cX9_run 163 = .ok (.getfield 64, 3) := by decide +kernel
theorem dX9_run_166 : decode cX9_run 166 = .ok (.iload_n 2, 1) := by decide +kernel
theorem dX9_run_167 : decode cX9_run 167 = .ok (.iaload, 1) := by decide +kernel
theorem dX9_run_168 : decode cX9_run 168 = .ok (.iastore, 1) := by decide +kernel
theorem dX9_run_169 : decode cX9_run 169 = .ok (.aload_n 0, 1) := by decide +kernel
theorem dX9_run_170 : decode cX9_run 170 = .ok (.getfield 110, 3) := by decide +kernel
theorem dX9_run_173 : decode cX9_run 173 = .ok (.bipush 40, 2) := by decide +kernel
theorem dX9_run_175 : decode cX9_run 175 = .ok (.iload_n 1, 1) := by decide +kernel
theorem dX9_run_176 : decode cX9_run 176 = .ok (.imul, 1) := by decide +kernel
theorem dX9_run_177 : decode cX9_run 177 = .ok (.iload_n 2, 1) := by decide +kernel
theorem dX9_run_178 : decode cX9_run 178 = .ok (.iadd, 1) := by decide +kernel
theorem dX9_run_179 : decode cX9_run 179 = .ok (.aload_n 0, 1) := by decide +kernel
theorem dX9_run_180 : decode cX9_run 180 = .ok (.getfield 67, 3) := by decide +kernel
theorem dX9_run_183 : decode cX9_run 183 = .ok (.iload_n 2, 1) := by decide +kernel
theorem dX9_run_184 : decode cX9_run 184 = .ok (.iaload, 1) := by decide +kernel
theorem dX9_run_185 : decode cX9_run 185 = .ok (.iastore, 1) := by decide +kernel
theorem dX9_run_186 : decode cX9_run 186 = .ok (.aload_n 0, 1) := by decide +kernel
theorem dX9_run_187 : decode cX9_run 187 = .ok (.getfield 116, 3) := by decide +kernel
theorem dX9_run_190 : decode cX9_run 190 = .ok (.bipush 40, 2) := by decide +kernel
theorem dX9_run_192 : decode cX9_run 192 = .ok (.iload_n 1, 1) := by decide +kernel
theorem dX9_run_193 : decode cX9_run 193 = .ok (.imul, 1) := by decide +kernel
theorem dX9_run_194 : decode cX9_run 194 = .ok (.iload_n 2, 1) := by decide +kernel
theorem dX9_run_195 : decode cX9_run 195 = .ok (.iadd, 1) := by decide +kernel
theorem dX9_run_196 : decode cX9_run 196 = .ok (.iconst 0, 1) := by decide +kernel
theorem dX9_run_197 : decode cX9_run 197 = .ok (.iastore, 1) := by decide +kernel
theorem dX9_run_198 : decode cX9_run 198 = .ok (.iinc 2 1, 3) := by decide +kernel
theorem dX9_run_201 : decode cX9_run 201 = .ok (.goto (-72), 3) := by decide +kernel
theorem dX9_run_204 : decode cX9_run 204 = .ok (.iconst 0, 1) := by decide +kernel
theorem dX9_run_205 : decode cX9_run 205 = .ok (.istore_n 2, 1) := by decide +kernel
theorem dX9_run_206 : decode cX9_run 206 = .ok (.iload_n 2, 1) := by decide +kernel
theorem dX9_run_207 : decode cX9_run 207 = .ok (.iconst 4, 1) := by decide +kernel
theorem dX9_run_208 : decode cX9_run 208 = .ok (.if_icmp .ge 20, 3) := by decide +kernel
theorem dX9_run_211 : decode cX9_run 211 = .ok (.aload_n 0, 1) := by decide +kernel
theorem dX9_run_212 : decode cX9_run 212 = .ok (.getfield 113, 3) := by decide +kernel
theorem dX9_run_215 : decode cX9_run 215 = .ok (.iconst 4, 1) := by decide +kernel
theorem dX9_run_216 : decode cX9_run 216 = .ok (.iload_n 1, 1) := by decide +kernel
theorem dX9_run_217 : decode cX9_run 217 = .ok (.imul, 1) := by decide +kernel
theorem dX9_run_218 : decode cX9_run 218 = .ok (.iload_n 2, 1) := by decide +kernel
theorem dX9_run_219 : decode cX9_run 219 = .ok (.iadd, 1) := by decide +kernel
theorem dX9_run_220 : decode cX9_run 220 = .ok (.iconst 0, 1) := by decide +kernel
theorem dX9_run_221 : decode cX9_run 221 = .ok (.iastore, 1) := by decide +kernel
theorem dX9_run_222 : decode cX9_run 222 = .ok (.iinc 2 1, 3) := by decide +kernel
theorem dX9_run_225 : decode cX9_run 225 = .ok (.goto (-19), 3) := by decide +kernel
theorem dX9_run_228 : decode cX9_run 228 = .ok (.aload_n 0, 1) := by decide +kernel
theorem dX9_run_229 : decode cX9_run 229 = .ok (.getfield 311, 3) := by decide +kernel
theorem dX9_run_232 : decode cX9_run 232 = .ok (.istore_n 2, 1) := by decide +kernel
theorem dX9_run_233 : decode cX9_run 233 = .ok (.aload_n 0, 1) := by decide +kernel
theorem dX9_run_234 : decode cX9_run 234 = .ok (.iload_n 1, 1) := by decide +kernel
theorem dX9_run_235 : decode cX9_run 235 = .ok (.iconst 0, 1) := by decide +kernel
theorem dX9_run_236 : decode cX9_run 236 = .ok (.invokevirtual 342, 3) := by decide +kernel
theorem dX9_run_239 : decode cX9_run 239 = .ok (.ifCond .ne 10, 3) := by decide +kernel
theorem dX9_run_242 : decode cX9_run 242 = .ok (.aload_n 0, 1) := by decide +kernel
theorem dX9_run_243 : decode cX9_run 243 = .ok (.iload_n 2, 1) := by decide +kernel
theorem dX9_run_244 : decode cX9_run 244 = .ok (.putfield 311, 3) := by decide +kernel
theorem dX9_run_247 : decode cX9_run 247 = .ok (.iconst (-1), 1) := by decide +kernel
theorem dX9_run_248 : decode cX9_run 248 = .ok (.ireturn, 1) := by decide +kernel
theorem dX9_run_249 : decode cX9_run 249 = .ok (.aload_n 0, 1) := by decide +kernel
theorem dX9_run_250 : decode cX9_run 250 = .ok (.dup, 1) := by decide +kernel
theorem dX9_run_251 : decode cX9_run 251 = .ok (.getfield 339, 3) := by decide +kernel
theorem dX9_run_254 : decode cX9_run 254 = .ok (.iconst 1, 1) := by decide +kernel
theorem dX9_run_255 : decode cX9_run 255 = .ok (.iadd, 1) := by decide +kernel
theorem dX9_run_256 : decode cX9_run 256 = .ok (.putfield 339, 3) := by decide +kernel
theorem dX9_run_259 : decode cX9_run 259 = .ok (.iload_n 1, 1) := by decide +kernel
theorem dX9_run_260 : decode cX9_run 260 = .ok (.ireturn, 1) := by decide +kernel
theorem dX9_runOf_0 : decode cX9_runOf 0 = .ok (.iload_n 1, 1) := by decide +kernel
theorem dX9_runOf_1 : decode cX9_runOf 1 = .ok (.i2l, 1) := by decide +kernel
theorem dX9_runOf_2 : decode cX9_runOf 2 = .ok (.lconst 0, 1) := by decide +kernel
theorem dX9_runOf_3 : decode cX9_runOf 3 = .ok (.aload_n 0, 1) := by decide +kernel
theorem dX9_runOf_4 : decode cX9_runOf 4 = .ok (.getfield 339, 3) := by decide +kernel
theorem dX9_runOf_7 : decode cX9_runOf 7 = .ok (.iconst 1, 1) := by decide +kernel
theorem dX9_runOf_8 : decode cX9_runOf 8 = .ok (.isub, 1) := by decide +kernel
theorem dX9_runOf_9 : decode cX9_runOf 9 = .ok (.i2l, 1) := by decide +kernel
theorem dX9_runOf_10 : decode cX9_runOf 10 = .ok (.invokestatic 177, 3) := by decide +kernel
theorem dX9_runOf_13 : decode cX9_runOf 13 = .ok (.ifCond .ne 5, 3) := by decide +kernel
theorem dX9_runOf_16 : decode cX9_runOf 16 = .ok (.iconst (-1), 1) := by decide +kernel
theorem dX9_runOf_17 : decode cX9_runOf 17 = .ok (.ireturn, 1) := by decide +kernel
theorem dX9_runOf_18 : decode cX9_runOf 18 = .ok (.iconst 0, 1) := by decide +kernel
theorem dX9_runOf_19 : decode cX9_runOf 19 = .ok (.istore_n 3, 1) := by decide +kernel
theorem dX9_runOf_20 : decode cX9_runOf 20 = .ok (.iconst 0, 1) := by decide +kernel
theorem dX9_runOf_21 : decode cX9_runOf 21 = .ok (.istore 4, 2) := by decide +kernel
theorem dX9_runOf_23 : decode cX9_runOf 23 = .ok (.iload 4, 2) := by decide +kernel
theorem dX9_runOf_25 : decode cX9_runOf 25 = .ok (.aload_n 0, 1) := by decide +kernel
theorem dX9_runOf_26 : decode cX9_runOf 26 = .ok (.getfield 311, 3) := by decide +kernel
theorem dX9_runOf_29 : decode cX9_runOf 29 = .ok (.if_icmp .ge 39, 3) := by decide +kernel
theorem dX9_runOf_32 : decode cX9_runOf 32 = .ok (.iload_n 3, 1) := by decide +kernel
theorem dX9_runOf_33 : decode cX9_runOf 33 = .ok (.aload_n 0, 1) := by decide +kernel
theorem dX9_runOf_34 : decode cX9_runOf 34 = .ok (.getfield 128, 3) := by decide +kernel
theorem dX9_runOf_37 : decode cX9_runOf 37 = .ok (.iload 4, 2) := by decide +kernel
theorem dX9_runOf_39 : decode cX9_runOf 39 = .ok (.iaload, 1) := by decide +kernel
theorem dX9_runOf_40 : decode cX9_runOf 40 = .ok (.iload_n 1, 1) := by decide +kernel
theorem dX9_runOf_41 : decode cX9_runOf 41 = .ok (.if_icmp .ne 18, 3) := by decide +kernel
theorem dX9_runOf_44 : decode cX9_runOf 44 = .ok (.aload_n 0, 1) := by decide +kernel
theorem dX9_runOf_45 : decode cX9_runOf 45 = .ok (.getfield 143, 3) := by decide +kernel
theorem dX9_runOf_48 : decode cX9_runOf 48 = .ok (.iload 4, 2) := by decide +kernel
theorem dX9_runOf_50 : decode cX9_runOf 50 = .ok (.iaload, 1) := by decide +kernel
theorem dX9_runOf_51 : decode cX9_runOf 51 = .ok (.iconst 2, 1) := by decide +kernel
theorem dX9_runOf_52 : decode cX9_runOf 52 = .ok (.if_icmp .eq 7, 3) := by decide +kernel
theorem dX9_runOf_55 : decode cX9_runOf 55 = .ok (.iconst 1, 1) := by decide +kernel
theorem dX9_runOf_56 : decode cX9_runOf 56 = .ok (.goto 4, 3) := by decide +kernel
theorem dX9_runOf_59 : decode cX9_runOf 59 = .ok (.iconst 0, 1) := by decide +kernel
theorem dX9_runOf_60 : decode cX9_runOf 60 = .ok (.iadd, 1) := by decide +kernel
theorem dX9_runOf_61 : decode cX9_runOf 61 = .ok (.istore_n 3, 1) := by decide +kernel
theorem dX9_runOf_62 : decode cX9_runOf 62 = .ok (.iinc 4 1, 3) := by decide +kernel
theorem dX9_runOf_65 : decode cX9_runOf 65 = .ok (.goto (-42), 3) := by decide +kernel
theorem dX9_runOf_68 : decode cX9_runOf 68 = .ok (.iload_n 2, 1) := by decide +kernel
theorem dX9_runOf_69 : decode cX9_runOf 69 = .ok (.i2l, 1) := by decide +kernel
theorem dX9_runOf_70 : decode cX9_runOf 70 = .ok (.lconst 0, 1) := by decide +kernel
theorem dX9_runOf_71 : decode cX9_runOf 71 = .ok (.ldc2_w 346, 3) := by decide +kernel
theorem dX9_runOf_74 : decode cX9_runOf 74 = .ok (.invokestatic 177, 3) := by decide +kernel
theorem dX9_runOf_77 : decode cX9_runOf 77 = .ok (.ifCond .eq 16, 3) := by decide +kernel
theorem dX9_runOf_80 : decode cX9_runOf 80 = .ok (.aload_n 0, 1) := by decide +kernel
theorem dX9_runOf_81 : decode cX9_runOf 81 = .ok (.getfield 113, 3) := by decide +kernel
theorem dX9_runOf_84 : decode cX9_runOf 84 = .ok (.iconst 4, 1) := by decide +kernel
theorem dX9_runOf_85 : decode cX9_runOf 85 = .ok (.iload_n 1, 1) := by decide +kernel
theorem dX9_runOf_86 : decode cX9_runOf 86 = .ok (.imul, 1) := by decide +kernel
theorem dX9_runOf_87 : decode cX9_runOf 87 = .ok (.iload_n 2, 1) := by decide +kernel
theorem dX9_runOf_88 : decode cX9_runOf 88 = .ok (.iadd, 1) := by decide +kernel
theorem dX9_runOf_89 : decode cX9_runOf 89 = .ok (.iaload, 1) := by decide +kernel
theorem dX9_runOf_90 : decode cX9_runOf 90 = .ok (.goto 35, 3) := by decide +kernel
theorem dX9_runOf_93 : decode cX9_runOf 93 = .ok (.iload_n 2, 1) := by decide +kernel
theorem dX9_runOf_94 : decode cX9_runOf 94 = .ok (.iconst 4, 1) := by decide +kernel
theorem dX9_runOf_95 : decode cX9_runOf 95 = .ok (.if_icmp .ne 20, 3) := by decide +kernel
theorem dX9_runOf_98 : decode cX9_runOf 98 = .ok (.aload_n 0, 1) := by decide +kernel
theorem dX9_runOf_99 : decode cX9_runOf 99 = .ok (.getfield 119, 3) := by decide +kernel
theorem dX9_runOf_102 : decode cX9_runOf 102 = .ok (.iload_n 1, 1) := by decide +kernel
theorem dX9_runOf_103 : decode cX9_runOf 103 = .ok (.baload, 1) := by decide +kernel
theorem dX9_runOf_104 : decode cX9_runOf 104 = .ok (.ifCond .eq 7, 3) := by decide +kernel
theorem dX9_runOf_107 : decode cX9_runOf 107 = .ok (.iconst 1, 1) := by decide +kernel
theorem dX9_runOf_108 : decode cX9_runOf 108 = .ok (.goto 17, 3) := by decide +kernel
theorem dX9_runOf_111 : decode cX9_runOf 111 = .ok (.iconst 0, 1) := by decide +kernel
theorem dX9_runOf_112 : decode cX9_runOf 112 = .ok (.goto 13, 3) := by decide +kernel
theorem dX9_runOf_115 : decode cX9_runOf 115 = .ok (.iload_n 2, 1) := by decide +kernel
theorem dX9_runOf_116 : decode cX9_runOf 116 = .ok (.iconst 5, 1) := by decide +kernel
theorem dX9_runOf_117 : decode cX9_runOf 117 = .ok (.if_icmp .ne 7, 3) := by decide +kernel
theorem dX9_runOf_120 : decode cX9_runOf 120 = .ok (.iload_n 3, 1) := by decide +kernel
theorem dX9_runOf_121 : decode cX9_runOf 121 = .ok (.goto 4, 3) := by decide +kernel
theorem dX9_runOf_124 : decode cX9_runOf 124 = .ok (.iconst (-1), 1) := by decide +kernel
theorem dX9_runOf_125 : decode cX9_runOf 125 = .ok (.ireturn, 1) := by decide +kernel
theorem dX9_task_0 : decode cX9_task 0 = .ok (.aload_n 0, 1) := by decide +kernel
theorem dX9_task_1 : decode cX9_task 1 = .ok (.iload_n 1, 1) := by decide +kernel
theorem dX9_task_2 : decode cX9_task 2 = .ok (.invokevirtual 348, 3) := by decide +kernel
theorem dX9_task_5 : decode cX9_task 5 = .ok (.ifCond .ne 5, 3) := by decide +kernel
theorem dX9_task_8 : decode cX9_task 8 = .ok (.iconst (-1), 1) := by decide +kernel
theorem dX9_task_9 : decode cX9_task 9 = .ok (.ireturn, 1) := by decide +kernel
theorem dX9_task_10 : decode cX9_task 10 = .ok (.iload_n 2, 1) := by decide +kernel
theorem dX9_task_11 : decode cX9_task 11 = .ok (.tableswitch 116 0 7 #[45, 52, 59, 81, 88, 95, 102, 109], 45) := by decide +kernel
theorem dX9_task_56 : decode cX9_task 56 = .ok (.aload_n 0, 1) := by decide +kernel
theorem dX9_task_57 : decode cX9_task 57 = .ok (.getfield 128, 3) := by decide +kernel
theorem dX9_task_60 : decode cX9_task 60 = .ok (.iload_n 1, 1) := by decide +kernel
theorem dX9_task_61 : decode cX9_task 61 = .ok (.iaload, 1) := by decide +kernel
theorem dX9_task_62 : decode cX9_task 62 = .ok (.ireturn, 1) := by decide +kernel
theorem dX9_task_63 : decode cX9_task 63 = .ok (.aload_n 0, 1) := by decide +kernel
theorem dX9_task_64 : decode cX9_task 64 = .ok (.getfield 131, 3) := by decide +kernel
theorem dX9_task_67 : decode cX9_task 67 = .ok (.iload_n 1, 1) := by decide +kernel
theorem dX9_task_68 : decode cX9_task 68 = .ok (.iaload, 1) := by decide +kernel
theorem dX9_task_69 : decode cX9_task 69 = .ok (.ireturn, 1) := by decide +kernel
theorem dX9_task_70 : decode cX9_task 70 = .ok (.aload_n 0, 1) := by decide +kernel
theorem dX9_task_71 : decode cX9_task 71 = .ok (.getfield 104, 3) := by decide +kernel
theorem dX9_task_74 : decode cX9_task 74 = .ok (.bipush 40, 2) := by decide +kernel
theorem dX9_task_76 : decode cX9_task 76 = .ok (.aload_n 0, 1) := by decide +kernel
theorem dX9_task_77 : decode cX9_task 77 = .ok (.getfield 128, 3) := by decide +kernel
theorem dX9_task_80 : decode cX9_task 80 = .ok (.iload_n 1, 1) := by decide +kernel
theorem dX9_task_81 : decode cX9_task 81 = .ok (.iaload, 1) := by decide +kernel
theorem dX9_task_82 : decode cX9_task 82 = .ok (.imul, 1) := by decide +kernel
theorem dX9_task_83 : decode cX9_task 83 = .ok (.aload_n 0, 1) := by decide +kernel
theorem dX9_task_84 : decode cX9_task 84 = .ok (.getfield 131, 3) := by decide +kernel
theorem dX9_task_87 : decode cX9_task 87 = .ok (.iload_n 1, 1) := by decide +kernel
theorem dX9_task_88 : decode cX9_task 88 = .ok (.iaload, 1) := by decide +kernel
theorem dX9_task_89 : decode cX9_task 89 = .ok (.iadd, 1) := by decide +kernel
theorem dX9_task_90 : decode cX9_task 90 = .ok (.iaload, 1) := by decide +kernel
theorem dX9_task_91 : decode cX9_task 91 = .ok (.ireturn, 1) := by decide +kernel
theorem dX9_task_92 : decode cX9_task 92 = .ok (.aload_n 0, 1) := by decide +kernel
theorem dX9_task_93 : decode cX9_task 93 = .ok (.getfield 137, 3) := by decide +kernel
theorem dX9_task_96 : decode cX9_task 96 = .ok (.iload_n 1, 1) := by decide +kernel
theorem dX9_task_97 : decode cX9_task 97 = .ok (.iaload, 1) := by decide +kernel
theorem dX9_task_98 : decode cX9_task 98 = .ok (.ireturn, 1) := by decide +kernel
theorem dX9_task_99 : decode cX9_task 99 = .ok (.aload_n 0, 1) := by decide +kernel
theorem dX9_task_100 : decode cX9_task 100 = .ok (.getfield 140, 3) := by decide +kernel
theorem dX9_task_103 : decode cX9_task 103 = .ok (.iload_n 1, 1) := by decide +kernel
theorem dX9_task_104 : decode cX9_task 104 = .ok (.iaload, 1) := by decide +kernel
theorem dX9_task_105 : decode cX9_task 105 = .ok (.ireturn, 1) := by decide +kernel
theorem dX9_task_106 : decode cX9_task 106 = .ok (.aload_n 0, 1) := by decide +kernel
theorem dX9_task_107 : decode cX9_task 107 = .ok (.getfield 143, 3) := by decide +kernel
theorem dX9_task_110 : decode cX9_task 110 = .ok (.iload_n 1, 1) := by decide +kernel
theorem dX9_task_111 : decode cX9_task 111 = .ok (.iaload, 1) := by decide +kernel
theorem dX9_task_112 : decode cX9_task 112 = .ok (.ireturn, 1) := by decide +kernel
theorem dX9_task_113 : decode cX9_task 113 = .ok (.aload_n 0, 1) := by decide +kernel
theorem dX9_task_114 : decode cX9_task 114 = .ok (.getfield 146, 3) := by decide +kernel
theorem dX9_task_117 : decode cX9_task 117 = .ok (.iload_n 1, 1) := by decide +kernel
theorem dX9_task_118 : decode cX9_task 118 = .ok (.iaload, 1) := by decide +kernel
theorem dX9_task_119 : decode cX9_task 119 = .ok (.ireturn, 1) := by decide +kernel
theorem dX9_task_120 : decode cX9_task 120 = .ok (.aload_n 0, 1) := by decide +kernel
theorem dX9_task_121 : decode cX9_task 121 = .ok (.getfield 149, 3) := by decide +kernel
theorem dX9_task_124 : decode cX9_task 124 = .ok (.iload_n 1, 1) := by decide +kernel
theorem dX9_task_125 : decode cX9_task 125 = .ok (.iaload, 1) := by decide +kernel
theorem dX9_task_126 : decode cX9_task 126 = .ok (.ireturn, 1) := by decide +kernel
theorem dX9_task_127 : decode cX9_task 127 = .ok (.iconst (-1), 1) := by decide +kernel
theorem dX9_task_128 : decode cX9_task 128 = .ok (.ireturn, 1) := by decide +kernel
theorem dX9_mayDo_0 : decode cX9_mayDo 0 = .ok (.aload_n 0, 1) := by decide +kernel
theorem dX9_mayDo_1 : decode cX9_mayDo 1 = .ok (.getfield 161, 3) := by decide +kernel
theorem dX9_mayDo_4 : decode cX9_mayDo 4 = .ok (.iload_n 1, 1) := by decide +kernel
theorem dX9_mayDo_5 : decode cX9_mayDo 5 = .ok (.baload, 1) := by decide +kernel
theorem dX9_mayDo_6 : decode cX9_mayDo 6 = .ok (.ifCond .eq 5, 3) := by decide +kernel
theorem dX9_mayDo_9 : decode cX9_mayDo 9 = .ok (.iconst 0, 1) := by decide +kernel
theorem dX9_mayDo_10 : decode cX9_mayDo 10 = .ok (.ireturn, 1) := by decide +kernel
theorem dX9_mayDo_11 : decode cX9_mayDo 11 = .ok (.aload_n 0, 1) := by decide +kernel
theorem dX9_mayDo_12 : decode cX9_mayDo 12 = .ok (.getfield 128, 3) := by decide +kernel
theorem dX9_mayDo_15 : decode cX9_mayDo 15 = .ok (.iload_n 2, 1) := by decide +kernel
theorem dX9_mayDo_16 : decode cX9_mayDo 16 = .ok (.iaload, 1) := by decide +kernel
theorem dX9_mayDo_17 : decode cX9_mayDo 17 = .ok (.istore_n 3, 1) := by decide +kernel
theorem dX9_mayDo_18 : decode cX9_mayDo 18 = .ok (.aload_n 0, 1) := by decide +kernel
theorem dX9_mayDo_19 : decode cX9_mayDo 19 = .ok (.getfield 104, 3) := by decide +kernel
theorem dX9_mayDo_22 : decode cX9_mayDo 22 = .ok (.bipush 40, 2) := by decide +kernel
theorem dX9_mayDo_24 : decode cX9_mayDo 24 = .ok (.iload_n 3, 1) := by decide +kernel
theorem dX9_mayDo_25 : decode cX9_mayDo 25 = .ok (.imul, 1) := by decide +kernel
theorem dX9_mayDo_26 : decode cX9_mayDo 26 = .ok (.aload_n 0, 1) := by decide +kernel
theorem dX9_mayDo_27 : decode cX9_mayDo 27 = .ok (.getfield 131, 3) := by decide +kernel
theorem dX9_mayDo_30 : decode cX9_mayDo 30 = .ok (.iload_n 2, 1) := by decide +kernel
theorem dX9_mayDo_31 : decode cX9_mayDo 31 = .ok (.iaload, 1) := by decide +kernel
theorem dX9_mayDo_32 : decode cX9_mayDo 32 = .ok (.iadd, 1) := by decide +kernel
theorem dX9_mayDo_33 : decode cX9_mayDo 33 = .ok (.iaload, 1) := by decide +kernel
theorem dX9_mayDo_34 : decode cX9_mayDo 34 = .ok (.istore 4, 2) := by decide +kernel
theorem dX9_mayDo_36 : decode cX9_mayDo 36 = .ok (.aload_n 0, 1) := by decide +kernel
theorem dX9_mayDo_37 : decode cX9_mayDo 37 = .ok (.getfield 110, 3) := by decide +kernel
theorem dX9_mayDo_40 : decode cX9_mayDo 40 = .ok (.bipush 40, 2) := by decide +kernel
theorem dX9_mayDo_42 : decode cX9_mayDo 42 = .ok (.iload_n 3, 1) := by decide +kernel
theorem dX9_mayDo_43 : decode cX9_mayDo 43 = .ok (.imul, 1) := by decide +kernel
theorem dX9_mayDo_44 : decode cX9_mayDo 44 = .ok (.aload_n 0, 1) := by decide +kernel
theorem dX9_mayDo_45 : decode cX9_mayDo 45 = .ok (.getfield 131, 3) := by decide +kernel
theorem dX9_mayDo_48 : decode cX9_mayDo 48 = .ok (.iload_n 2, 1) := by decide +kernel
theorem dX9_mayDo_49 : decode cX9_mayDo 49 = .ok (.iaload, 1) := by decide +kernel
theorem dX9_mayDo_50 : decode cX9_mayDo 50 = .ok (.iadd, 1) := by decide +kernel
theorem dX9_mayDo_51 : decode cX9_mayDo 51 = .ok (.iaload, 1) := by decide +kernel
theorem dX9_mayDo_52 : decode cX9_mayDo 52 = .ok (.istore 5, 2) := by decide +kernel
theorem dX9_mayDo_54 : decode cX9_mayDo 54 = .ok (.iconst 0, 1) := by decide +kernel
theorem dX9_mayDo_55 : decode cX9_mayDo 55 = .ok (.istore 6, 2) := by decide +kernel
theorem dX9_mayDo_57 : decode cX9_mayDo 57 = .ok (.iconst 0, 1) := by decide +kernel
theorem dX9_mayDo_58 : decode cX9_mayDo 58 = .ok (.istore 7, 2) := by decide +kernel
theorem dX9_mayDo_60 : decode cX9_mayDo 60 = .ok (.iload 7, 2) := by decide +kernel
theorem dX9_mayDo_62 : decode cX9_mayDo 62 = .ok (.aload_n 0, 1) := by decide +kernel
theorem dX9_mayDo_63 : decode cX9_mayDo 63 = .ok (.getfield 308, 3) := by decide +kernel
theorem dX9_mayDo_66 : decode cX9_mayDo 66 = .ok (.if_icmp .ge 47, 3) := by decide +kernel
theorem dX9_mayDo_69 : decode cX9_mayDo 69 = .ok (.iload 6, 2) := by decide +kernel
theorem dX9_mayDo_71 : decode cX9_mayDo 71 = .ok (.ifCond .ne 29, 3) := by decide +kernel
theorem dX9_mayDo_74 : decode cX9_mayDo 74 = .ok (.aload_n 0, 1) := by decide +kernel
theorem dX9_mayDo_75 : decode cX9_mayDo 75 = .ok (.iload 7, 2) := by decide +kernel
theorem dX9_mayDo_77 : decode cX9_mayDo 77 = .ok (.invokevirtual 351, 3) := by decide +kernel
theorem dX9_mayDo_80 : decode cX9_mayDo 80 = .ok (.iload_n 1, 1) := by decide +kernel
theorem dX9_mayDo_81 : decode cX9_mayDo 81 = .ok (.if_icmp .ne 23, 3) := by decide +kernel
theorem dX9_mayDo_84 : decode cX9_mayDo 84 = .ok (.aload_n 0, 1) := by decide +kernel
theorem dX9_mayDo_85 : decode cX9_mayDo 85 = .ok (.getfield 152, 3) := by decide +kernel
theorem dX9_mayDo_88 : decode cX9_mayDo 88 = .ok (.iload 7, 2) := by decide +kernel
theorem dX9_mayDo_90 : decode cX9_mayDo 90 = .ok (.iaload, 1) := by decide +kernel
theorem dX9_mayDo_91 : decode cX9_mayDo 91 = .ok (.iload 4, 2) := by decide +kernel
theorem dX9_mayDo_93 : decode cX9_mayDo 93 = .ok (.ishr, 1) := by decide +kernel
theorem dX9_mayDo_94 : decode cX9_mayDo 94 = .ok (.iconst 1, 1) := by decide +kernel
theorem dX9_mayDo_95 : decode cX9_mayDo 95 = .ok (.iand, 1) := by decide +kernel
theorem dX9_mayDo_96 : decode cX9_mayDo 96 = .ok (.iconst 1, 1) := by decide +kernel
theorem dX9_mayDo_97 : decode cX9_mayDo 97 = .ok (.if_icmp .ne 7, 3) := by decide +kernel
theorem dX9_mayDo_100 : decode cX9_mayDo 100 = .ok (.iconst 1, 1) := by decide +kernel
theorem dX9_mayDo_101 : decode cX9_mayDo 101 = .ok (.goto 4, 3) := by decide +kernel
theorem dX9_mayDo_104 : decode cX9_mayDo 104 = .ok (.iconst 0, 1) := by decide +kernel
theorem dX9_mayDo_105 : decode cX9_mayDo 105 = .ok (.istore 6, 2) := by decide +kernel
theorem dX9_mayDo_107 : decode cX9_mayDo 107 = .ok (.iinc 7 1, 3) := by decide +kernel
theorem dX9_mayDo_110 : decode cX9_mayDo 110 = .ok (.goto (-50), 3) := by decide +kernel
theorem dX9_mayDo_113 : decode cX9_mayDo 113 = .ok (.iload 6, 2) := by decide +kernel
theorem dX9_mayDo_115 : decode cX9_mayDo 115 = .ok (.ifCond .eq 23, 3) := by decide +kernel
theorem dX9_mayDo_118 : decode cX9_mayDo 118 = .ok (.iload 5, 2) := by decide +kernel
theorem dX9_mayDo_120 : decode cX9_mayDo 120 = .ok (.ifCond .lt 14, 3) := by decide +kernel
theorem dX9_mayDo_123 : decode cX9_mayDo 123 = .ok (.aload_n 0, 1) := by decide +kernel
theorem dX9_mayDo_124 : decode cX9_mayDo 124 = .ok (.iload_n 3, 1) := by decide +kernel
theorem dX9_mayDo_125 : decode cX9_mayDo 125 = .ok (.iload 5, 2) := by decide +kernel
theorem dX9_mayDo_127 : decode cX9_mayDo 127 = .ok (.invokevirtual 354, 3) := by decide +kernel
theorem dX9_mayDo_130 : decode cX9_mayDo 130 = .ok (.iload_n 1, 1) := by decide +kernel
theorem dX9_mayDo_131 : decode cX9_mayDo 131 = .ok (.if_icmp .eq 7, 3) := by decide +kernel
theorem dX9_mayDo_134 : decode cX9_mayDo 134 = .ok (.iconst 1, 1) := by decide +kernel
theorem dX9_mayDo_135 : decode cX9_mayDo 135 = .ok (.goto 4, 3) := by decide +kernel
theorem dX9_mayDo_138 : decode cX9_mayDo 138 = .ok (.iconst 0, 1) := by decide +kernel
theorem dX9_mayDo_139 : decode cX9_mayDo 139 = .ok (.ireturn, 1) := by decide +kernel
theorem dX9_may_0 : decode cX9_may 0 = .ok (.aload_n 0, 1) := by decide +kernel
theorem dX9_may_1 : decode cX9_may 1 = .ok (.iload_n 1, 1) := by decide +kernel
theorem dX9_may_2 : decode cX9_may 2 = .ok (.invokevirtual 318, 3) := by decide +kernel
theorem dX9_may_5 : decode cX9_may 5 = .ok (.ifCond .eq 11, 3) := by decide +kernel
theorem dX9_may_8 : decode cX9_may 8 = .ok (.aload_n 0, 1) := by decide +kernel
theorem dX9_may_9 : decode cX9_may 9 = .ok (.iload_n 2, 1) := by decide +kernel
theorem dX9_may_10 : decode cX9_may 10 = .ok (.invokevirtual 348, 3) := by decide +kernel
theorem dX9_may_13 : decode cX9_may 13 = .ok (.ifCond .ne 7, 3) := by decide +kernel
theorem dX9_may_16 : decode cX9_may 16 = .ok (.iconst (-1), 1) := by decide +kernel
theorem dX9_may_17 : decode cX9_may 17 = .ok (.goto 17, 3) := by decide +kernel
theorem dX9_may_20 : decode cX9_may 20 = .ok (.aload_n 0, 1) := by decide +kernel
theorem dX9_may_21 : decode cX9_may 21 = .ok (.iload_n 1, 1) := by decide +kernel
theorem dX9_may_22 : decode cX9_may 22 = .ok (.iload_n 2, 1) := by decide +kernel
theorem dX9_may_23 : decode cX9_may 23 = .ok (.invokevirtual 357, 3) := by decide +kernel
theorem dX9_may_26 : decode cX9_may 26 = .ok (.ifCond .eq 7, 3) := by decide +kernel
theorem dX9_may_29 : decode cX9_may 29 = .ok (.iconst 1, 1) := by decide +kernel
theorem dX9_may_30 : decode cX9_may 30 = .ok (.goto 4, 3) := by decide +kernel
theorem dX9_may_33 : decode cX9_may 33 = .ok (.iconst 0, 1) := by decide +kernel
theorem dX9_may_34 : decode cX9_may 34 = .ok (.ireturn, 1) := by decide +kernel
theorem dX9_giveBack_0 : decode cX9_giveBack 0 = .ok (.aload_n 0, 1) := by decide +kernel
theorem dX9_giveBack_1 : decode cX9_giveBack 1 = .ok (.iload_n 1, 1) := by decide +kernel
theorem dX9_giveBack_2 : decode cX9_giveBack 2 = .ok (.invokevirtual 348, 3) := by decide +kernel
theorem dX9_giveBack_5 : decode cX9_giveBack 5 = .ok (.ifCond .eq 13, 3) := by decide +kernel
theorem dX9_giveBack_8 : decode cX9_giveBack 8 = .ok (.aload_n 0, 1) := by decide +kernel
theorem dX9_giveBack_9 : decode cX9_giveBack 9 = .ok (.getfield 143, 3) := by decide +kernel
theorem dX9_giveBack_12 : decode cX9_giveBack 12 = .ok (.iload_n 1, 1) := by decide +kernel
theorem dX9_giveBack_13 : decode cX9_giveBack 13 = .ok (.iaload, 1) := by decide +kernel
theorem dX9_giveBack_14 : decode cX9_giveBack 14 = .ok (.iconst 1, 1) := by decide +kernel
theorem dX9_giveBack_15 : decode cX9_giveBack 15 = .ok (.if_icmp .eq 5, 3) := by decide +kernel
theorem dX9_giveBack_18 : decode cX9_giveBack 18 = .ok (.iconst 0, 1) := by decide +kernel
theorem dX9_giveBack_19 : decode cX9_giveBack 19 = .ok (.ireturn, 1) := by decide +kernel
theorem dX9_giveBack_20 : decode cX9_giveBack 20 = .ok (.aload_n 0, 1) := by decide +kernel
theorem dX9_giveBack_21 : decode cX9_giveBack 21 = .ok (.getfield 143, 3) := by decide +kernel
theorem dX9_giveBack_24 : decode cX9_giveBack 24 = .ok (.iload_n 1, 1) := by decide +kernel
theorem dX9_giveBack_25 : decode cX9_giveBack 25 = .ok (.iconst 0, 1) := by decide +kernel
theorem dX9_giveBack_26 : decode cX9_giveBack 26 = .ok (.iastore, 1) := by decide +kernel
theorem dX9_giveBack_27 : decode cX9_giveBack 27 = .ok (.aload_n 0, 1) := by decide +kernel
theorem dX9_giveBack_28 : decode cX9_giveBack 28 = .ok (.getfield 146, 3) := by decide +kernel
theorem dX9_giveBack_31 : decode cX9_giveBack 31 = .ok (.iload_n 1, 1) := by decide +kernel
theorem dX9_giveBack_32 : decode cX9_giveBack 32 = .ok (.iconst (-1), 1) := by decide +kernel
theorem dX9_giveBack_33 : decode cX9_giveBack 33 = .ok (.iastore, 1) := by decide +kernel
theorem dX9_giveBack_34 : decode cX9_giveBack 34 = .ok (.iconst 1, 1) := by decide +kernel
theorem dX9_giveBack_35 : decode cX9_giveBack 35 = .ok (.ireturn, 1) := by decide +kernel
theorem dX9_isListed_0 : decode cX9_isListed 0 = .ok (.aload_n 0, 1) := by decide +kernel
theorem dX9_isListed_1 : decode cX9_isListed 1 = .ok (.getfield 143, 3) := by decide +kernel
theorem dX9_isListed_4 : decode cX9_isListed 4 = .ok (.iload_n 2, 1) := by decide +kernel
theorem dX9_isListed_5 : decode cX9_isListed 5 = .ok (.iaload, 1) := by decide +kernel
theorem dX9_isListed_6 : decode cX9_isListed 6 = .ok (.ifCond .ne 16, 3) := by decide +kernel
theorem dX9_isListed_9 : decode cX9_isListed 9 = .ok (.aload_n 0, 1) := by decide +kernel
theorem dX9_isListed_10 : decode cX9_isListed 10 = .ok (.iload_n 1, 1) := by decide +kernel
theorem dX9_isListed_11 : decode cX9_isListed 11 = .ok (.iload_n 2, 1) := by decide +kernel
theorem dX9_isListed_12 : decode cX9_isListed 12 = .ok (.invokevirtual 357, 3) := by decide +kernel
theorem dX9_isListed_15 : decode cX9_isListed 15 = .ok (.ifCond .eq 7, 3) := by decide +kernel
theorem dX9_isListed_18 : decode cX9_isListed 18 = .ok (.iconst 1, 1) := by decide +kernel
theorem dX9_isListed_19 : decode cX9_isListed 19 = .ok (.goto 4, 3) := by decide +kernel
theorem dX9_isListed_22 : decode cX9_isListed 22 = .ok (.iconst 0, 1) := by decide +kernel
theorem dX9_isListed_23 : decode cX9_isListed 23 = .ok (.ireturn, 1) := by decide +kernel
theorem dX9_list_0 : decode cX9_list 0 = .ok (.aload_n 0, 1) := by decide +kernel
theorem dX9_list_1 : decode cX9_list 1 = .ok (.iload_n 1, 1) := by decide +kernel
theorem dX9_list_2 : decode cX9_list 2 = .ok (.invokevirtual 318, 3) := by decide +kernel
theorem dX9_list_5 : decode cX9_list 5 = .ok (.ifCond .ne 5, 3) := by decide +kernel
theorem dX9_list_8 : decode cX9_list 8 = .ok (.iconst (-1), 1) := by decide +kernel
theorem dX9_list_9 : decode cX9_list 9 = .ok (.ireturn, 1) := by decide +kernel
theorem dX9_list_10 : decode cX9_list 10 = .ok (.iconst 0, 1) := by decide +kernel
theorem dX9_list_11 : decode cX9_list 11 = .ok (.istore_n 2, 1) := by decide +kernel
theorem dX9_list_12 : decode cX9_list 12 = .ok (.iconst 0, 1) := by decide +kernel
theorem dX9_list_13 : decode cX9_list 13 = .ok (.istore_n 3, 1) := by decide +kernel
theorem dX9_list_14 : decode cX9_list 14 = .ok (.iload_n 3, 1) := by decide +kernel
theorem dX9_list_15 : decode cX9_list 15 = .ok (.aload_n 0, 1) := by decide +kernel
theorem dX9_list_16 : decode cX9_list 16 = .ok (.getfield 311, 3) := by decide +kernel
theorem dX9_list_19 : decode cX9_list 19 = .ok (.if_icmp .ge 26, 3) := by decide +kernel
theorem dX9_list_22 : decode cX9_list 22 = .ok (.iload_n 2, 1) := by decide +kernel
theorem dX9_list_23 : decode cX9_list 23 = .ok (.aload_n 0, 1) := by decide +kernel
theorem dX9_list_24 : decode cX9_list 24 = .ok (.iload_n 1, 1) := by decide +kernel
theorem dX9_list_25 : decode cX9_list 25 = .ok (.iload_n 3, 1) := by decide +kernel
theorem dX9_list_26 : decode cX9_list 26 = .ok (.invokevirtual 368, 3) := by decide +kernel
theorem dX9_list_29 : decode cX9_list 29 = .ok (.ifCond .eq 7, 3) := by decide +kernel
theorem dX9_list_32 : decode cX9_list 32 = .ok (.iconst 1, 1) := by decide +kernel
theorem dX9_list_33 : decode cX9_list 33 = .ok (.goto 4, 3) := by decide +kernel
theorem dX9_list_36 : decode cX9_list 36 = .ok (.iconst 0, 1) := by decide +kernel
theorem dX9_list_37 : decode cX9_list 37 = .ok (.iadd, 1) := by decide +kernel
theorem dX9_list_38 : decode cX9_list 38 = .ok (.istore_n 2, 1) := by decide +kernel
theorem dX9_list_39 : decode cX9_list 39 = .ok (.iinc 3 1, 3) := by decide +kernel
theorem dX9_list_42 : decode cX9_list 42 = .ok (.goto (-28), 3) := by decide +kernel
theorem dX9_list_45 : decode cX9_list 45 = .ok (.iload_n 2, 1) := by decide +kernel
theorem dX9_list_46 : decode cX9_list 46 = .ok (.ireturn, 1) := by decide +kernel
theorem dX9_listed_0 : decode cX9_listed 0 = .ok (.aload_n 0, 1) := by decide +kernel
theorem dX9_listed_1 : decode cX9_listed 1 = .ok (.iload_n 1, 1) := by decide +kernel
theorem dX9_listed_2 : decode cX9_listed 2 = .ok (.invokevirtual 318, 3) := by decide +kernel
theorem dX9_listed_5 : decode cX9_listed 5 = .ok (.ifCond .ne 5, 3) := by decide +kernel
theorem dX9_listed_8 : decode cX9_listed 8 = .ok (.iconst (-1), 1) := by decide +kernel
theorem dX9_listed_9 : decode cX9_listed 9 = .ok (.ireturn, 1) := by decide +kernel
theorem dX9_listed_10 : decode cX9_listed 10 = .ok (.iconst 0, 1) := by decide +kernel
theorem dX9_listed_11 : decode cX9_listed 11 = .ok (.istore_n 3, 1) := by decide +kernel
theorem dX9_listed_12 : decode cX9_listed 12 = .ok (.iload_n 3, 1) := by decide +kernel
theorem dX9_listed_13 : decode cX9_listed 13 = .ok (.aload_n 0, 1) := by decide +kernel
theorem dX9_listed_14 : decode cX9_listed 14 = .ok (.getfield 311, 3) := by decide +kernel
theorem dX9_listed_17 : decode cX9_listed 17 = .ok (.if_icmp .ge 126, 3) := by decide +kernel
theorem dX9_listed_20 : decode cX9_listed 20 = .ok (.aload_n 0, 1) := by decide +kernel
theorem dX9_listed_21 : decode cX9_listed 21 = .ok (.iload_n 1, 1) := by decide +kernel
theorem dX9_listed_22 : decode cX9_listed 22 = .ok (.iload_n 3, 1) := by decide +kernel
theorem dX9_listed_23 : decode cX9_listed 23 = .ok (.invokevirtual 368, 3) := by decide +kernel
theorem dX9_listed_26 : decode cX9_listed 26 = .ok (.ifCond .ne 6, 3) := by decide +kernel
theorem dX9_listed_29 : decode cX9_listed 29 = .ok (.goto 108, 3) := by decide +kernel
theorem dX9_listed_32 : decode cX9_listed 32 = .ok (.iconst 0, 1) := by decide +kernel
theorem dX9_listed_33 : decode cX9_listed 33 = .ok (.istore 4, 2) := by decide +kernel
theorem dX9_listed_35 : decode cX9_listed 35 = .ok (.iconst 0, 1) := by decide +kernel
theorem dX9_listed_36 : decode cX9_listed 36 = .ok (.istore 5, 2) := by decide +kernel
theorem dX9_listed_38 : decode cX9_listed 38 = .ok (.iload 5, 2) := by decide +kernel
theorem dX9_listed_40 : decode cX9_listed 40 = .ok (.aload_n 0, 1) := by decide +kernel
theorem dX9_listed_41 : decode cX9_listed 41 = .ok (.getfield 311, 3) := by decide +kernel
theorem dX9_listed_44 : decode cX9_listed 44 = .ok (.if_icmp .ge 85, 3) := by decide +kernel
theorem dX9_listed_47 : decode cX9_listed 47 = .ok (.iload 5, 2) := by decide +kernel
theorem dX9_listed_49 : decode cX9_listed 49 = .ok (.iload_n 3, 1) := by decide +kernel
theorem dX9_listed_50 : decode cX9_listed 50 = .ok (.if_icmp .eq 55, 3) := by decide +kernel
theorem dX9_listed_53 : decode cX9_listed 53 = .ok (.aload_n 0, 1) := by decide +kernel
theorem dX9_listed_54 : decode cX9_listed 54 = .ok (.iload_n 1, 1) := by decide +kernel
theorem dX9_listed_55 : decode cX9_listed 55 = .ok (.iload 5, 2) := by decide +kernel
theorem dX9_listed_57 : decode cX9_listed 57 = .ok (.invokevirtual 368, 3) := by decide +kernel
theorem dX9_listed_60 : decode cX9_listed 60 = .ok (.ifCond .eq 45, 3) := by decide +kernel
theorem dX9_listed_63 : decode cX9_listed 63 = .ok (.aload_n 0, 1) := by decide +kernel
theorem dX9_listed_64 : decode cX9_listed 64 = .ok (.getfield 140, 3) := by decide +kernel
theorem dX9_listed_67 : decode cX9_listed 67 = .ok (.iload 5, 2) := by decide +kernel
theorem dX9_listed_69 : decode cX9_listed 69 = .ok (.iaload, 1) := by decide +kernel
theorem dX9_listed_70 : decode cX9_listed 70 = .ok (.aload_n 0, 1) := by decide +kernel
theorem dX9_listed_71 : decode cX9_listed 71 = .ok (.getfield 140, 3) := by decide +kernel
theorem dX9_listed_74 : decode cX9_listed 74 = .ok (.iload_n 3, 1) := by decide +kernel
theorem dX9_listed_75 : decode cX9_listed 75 = .ok (.iaload, 1) := by decide +kernel
theorem dX9_listed_76 : decode cX9_listed 76 = .ok (.if_icmp .lt 25, 3) := by decide +kernel
theorem dX9_listed_79 : decode cX9_listed 79 = .ok (.aload_n 0, 1) := by decide +kernel
theorem dX9_listed_80 : decode cX9_listed 80 = .ok (.getfield 140, 3) := by decide +kernel
theorem dX9_listed_83 : decode cX9_listed 83 = .ok (.iload 5, 2) := by decide +kernel
theorem dX9_listed_85 : decode cX9_listed 85 = .ok (.iaload, 1) := by decide +kernel
theorem dX9_listed_86 : decode cX9_listed 86 = .ok (.aload_n 0, 1) := by decide +kernel
theorem dX9_listed_87 : decode cX9_listed 87 = .ok (.getfield 140, 3) := by decide +kernel
theorem dX9_listed_90 : decode cX9_listed 90 = .ok (.iload_n 3, 1) := by decide +kernel
theorem dX9_listed_91 : decode cX9_listed 91 = .ok (.iaload, 1) := by decide +kernel
theorem dX9_listed_92 : decode cX9_listed 92 = .ok (.if_icmp .ne 13, 3) := by decide +kernel
theorem dX9_listed_95 : decode cX9_listed 95 = .ok (.iload 5, 2) := by decide +kernel
theorem dX9_listed_97 : decode cX9_listed 97 = .ok (.iload_n 3, 1) := by decide +kernel
theorem dX9_listed_98 : decode cX9_listed 98 = .ok (.if_icmp .ge 7, 3) := by decide +kernel
theorem dX9_listed_101 : decode cX9_listed 101 = .ok (.iconst 1, 1) := by decide +kernel
theorem dX9_listed_102 : decode cX9_listed 102 = .ok (.goto 4, 3) := by decide +kernel
theorem dX9_listed_105 : decode cX9_listed 105 = .ok (.iconst 0, 1) := by decide +kernel
theorem dX9_listed_106 : decode cX9_listed 106 = .ok (.istore 6, 2) := by decide +kernel
theorem dX9_listed_108 : decode cX9_listed 108 = .ok (.iload 4, 2) := by decide +kernel
theorem dX9_listed_110 : decode cX9_listed 110 = .ok (.iload 6, 2) := by decide +kernel
theorem dX9_listed_112 : decode cX9_listed 112 = .ok (.ifCond .eq 7, 3) := by decide +kernel
theorem dX9_listed_115 : decode cX9_listed 115 = .ok (.iconst 1, 1) := by decide +kernel
theorem dX9_listed_116 : decode cX9_listed 116 = .ok (.goto 4, 3) := by decide +kernel
theorem dX9_listed_119 : decode cX9_listed 119 = .ok (.iconst 0, 1) := by decide +kernel
theorem dX9_listed_120 : decode cX9_listed 120 = .ok (.iadd, 1) := by decide +kernel
theorem dX9_listed_121 : decode cX9_listed 121 = .ok (.istore 4, 2) := by decide +kernel
theorem dX9_listed_123 : decode cX9_listed 123 = .ok (.iinc 5 1, 3) := by decide +kernel
theorem dX9_listed_126 : decode cX9_listed 126 = .ok (.goto (-88), 3) := by decide +kernel
theorem dX9_listed_129 : decode cX9_listed 129 = .ok (.iload 4, 2) := by decide +kernel
theorem dX9_listed_131 : decode cX9_listed 131 = .ok (.iload_n 2, 1) := by decide +kernel
theorem dX9_listed_132 : decode cX9_listed 132 = .ok (.if_icmp .ne 5, 3) := by decide +kernel
theorem dX9_listed_135 : decode cX9_listed 135 = .ok (.iload_n 3, 1) := by decide +kernel
theorem dX9_listed_136 : decode cX9_listed 136 = .ok (.ireturn, 1) := by decide +kernel
theorem dX9_listed_137 : decode cX9_listed 137 = .ok (.iinc 3 1, 3) := by decide +kernel
theorem dX9_listed_140 : decode cX9_listed 140 = .ok (.goto (-128), 3) := by decide +kernel
theorem dX9_listed_143 : decode cX9_listed 143 = .ok (.iconst (-1), 1) := by decide +kernel
theorem dX9_listed_144 : decode cX9_listed 144 = .ok (.ireturn, 1) := by decide +kernel
theorem dX9_offer_0 : decode cX9_offer 0 = .ok (.aload_n 0, 1) := by decide +kernel
theorem dX9_offer_1 : decode cX9_offer 1 = .ok (.iload_n 1, 1) := by decide +kernel
theorem dX9_offer_2 : decode cX9_offer 2 = .ok (.invokevirtual 348, 3) := by decide +kernel
theorem dX9_offer_5 : decode cX9_offer 5 = .ok (.ifCond .eq 12, 3) := by decide +kernel
theorem dX9_offer_8 : decode cX9_offer 8 = .ok (.aload_n 0, 1) := by decide +kernel
theorem dX9_offer_9 : decode cX9_offer 9 = .ok (.getfield 143, 3) := by decide +kernel
theorem dX9_offer_12 : decode cX9_offer 12 = .ok (.iload_n 1, 1) := by decide +kernel
theorem dX9_offer_13 : decode cX9_offer 13 = .ok (.iaload, 1) := by decide +kernel
theorem dX9_offer_14 : decode cX9_offer 14 = .ok (.ifCond .eq 5, 3) := by decide +kernel
theorem dX9_offer_17 : decode cX9_offer 17 = .ok (.iconst (-1), 1) := by decide +kernel
theorem dX9_offer_18 : decode cX9_offer 18 = .ok (.ireturn, 1) := by decide +kernel
theorem dX9_offer_19 : decode cX9_offer 19 = .ok (.iconst (-1), 1) := by decide +kernel
theorem dX9_offer_20 : decode cX9_offer 20 = .ok (.istore_n 2, 1) := by decide +kernel
theorem dX9_offer_21 : decode cX9_offer 21 = .ok (.iconst 0, 1) := by decide +kernel
theorem dX9_offer_22 : decode cX9_offer 22 = .ok (.istore_n 3, 1) := by decide +kernel
theorem dX9_offer_23 : decode cX9_offer 23 = .ok (.iload_n 3, 1) := by decide +kernel
theorem dX9_offer_24 : decode cX9_offer 24 = .ok (.aload_n 0, 1) := by decide +kernel
theorem dX9_offer_25 : decode cX9_offer 25 = .ok (.getfield 308, 3) := by decide +kernel
theorem dX9_offer_28 : decode cX9_offer 28 = .ok (.if_icmp .ge 63, 3) := by decide +kernel
theorem dX9_offer_31 : decode cX9_offer 31 = .ok (.aload_n 0, 1) := by decide +kernel
theorem dX9_offer_32 : decode cX9_offer 32 = .ok (.iload_n 3, 1) := by decide +kernel
theorem dX9_offer_33 : decode cX9_offer 33 = .ok (.iload_n 1, 1) := by decide +kernel
theorem dX9_offer_34 : decode cX9_offer 34 = .ok (.invokevirtual 357, 3) := by decide +kernel
theorem dX9_offer_37 : decode cX9_offer 37 = .ok (.ifCond .eq 21, 3) := by decide +kernel
theorem dX9_offer_40 : decode cX9_offer 40 = .ok (.aload_n 0, 1) := by decide +kernel
theorem dX9_offer_41 : decode cX9_offer 41 = .ok (.iload_n 3, 1) := by decide +kernel
theorem dX9_offer_42 : decode cX9_offer 42 = .ok (.invokevirtual 360, 3) := by decide +kernel
theorem dX9_offer_45 : decode cX9_offer 45 = .ok (.aload_n 0, 1) := by decide +kernel
theorem dX9_offer_46 : decode cX9_offer 46 = .ok (.getfield 155, 3) := by decide +kernel
theorem dX9_offer_49 : decode cX9_offer 49 = .ok (.iload_n 3, 1) := by decide +kernel
theorem dX9_offer_50 : decode cX9_offer 50 = .ok (.iaload, 1) := by decide +kernel
theorem dX9_offer_51 : decode cX9_offer 51 = .ok (.if_icmp .ge 7, 3) := by decide +kernel
theorem dX9_offer_54 : decode cX9_offer 54 = .ok (.iconst 1, 1) := by decide +kernel
theorem dX9_offer_55 : decode cX9_offer 55 = .ok (.goto 4, 3) := by decide +kernel
theorem dX9_offer_58 : decode cX9_offer 58 = .ok (.iconst 0, 1) := by decide +kernel
theorem dX9_offer_59 : decode cX9_offer 59 = .ok (.istore 4, 2) := by decide +kernel
theorem dX9_offer_61 : decode cX9_offer 61 = .ok (.iload 4, 2) := by decide +kernel
theorem dX9_offer_63 : decode cX9_offer 63 = .ok (.ifCond .eq 22, 3) := by decide +kernel
theorem dX9_offer_66 : decode cX9_offer 66 = .ok (.iload_n 2, 1) := by decide +kernel
theorem dX9_offer_67 : decode cX9_offer 67 = .ok (.ifCond .lt 16, 3) := by decide +kernel
theorem dX9_offer_70 : decode cX9_offer 70 = .ok (.aload_n 0, 1) := by decide +kernel
theorem dX9_offer_71 : decode cX9_offer 71 = .ok (.iload_n 3, 1) := by decide +kernel
theorem dX9_offer_72 : decode cX9_offer 72 = .ok (.invokevirtual 360, 3) := by decide +kernel
theorem dX9_offer_75 : decode cX9_offer 75 = .ok (.aload_n 0, 1) := by decide +kernel
theorem dX9_offer_76 : decode cX9_offer 76 = .ok (.iload_n 2, 1) := by decide +kernel
theorem dX9_offer_77 : decode cX9_offer 77 = .ok (.invokevirtual 360, 3) := by decide +kernel
theorem dX9_offer_80 : decode cX9_offer 80 = .ok (.if_icmp .ge 5, 3) := by decide +kernel
theorem dX9_offer_83 : decode cX9_offer 83 = .ok (.iload_n 3, 1) := by decide +kernel
theorem dX9_offer_84 : decode cX9_offer 84 = .ok (.istore_n 2, 1) := by decide +kernel
theorem dX9_offer_85 : decode cX9_offer 85 = .ok (.iinc 3 1, 3) := by decide +kernel
theorem dX9_offer_88 : decode cX9_offer 88 = .ok (.goto (-65), 3) := by decide +kernel
theorem dX9_offer_91 : decode cX9_offer 91 = .ok (.iload_n 2, 1) := by decide +kernel
theorem dX9_offer_92 : decode cX9_offer 92 = .ok (.ireturn, 1) := by decide +kernel
theorem dX9_late_0 : decode cX9_late 0 = .ok (.iconst 0, 1) := by decide +kernel
theorem dX9_late_1 : decode cX9_late 1 = .ok (.istore_n 1, 1) := by decide +kernel
theorem dX9_late_2 : decode cX9_late 2 = .ok (.iconst 0, 1) := by decide +kernel
theorem dX9_late_3 : decode cX9_late 3 = .ok (.istore_n 2, 1) := by decide +kernel
theorem dX9_late_4 : decode cX9_late 4 = .ok (.iload_n 2, 1) := by decide +kernel
theorem dX9_late_5 : decode cX9_late 5 = .ok (.aload_n 0, 1) := by decide +kernel
theorem dX9_late_6 : decode cX9_late 6 = .ok (.getfield 311, 3) := by decide +kernel
theorem dX9_late_9 : decode cX9_late 9 = .ok (.if_icmp .ge 40, 3) := by decide +kernel
theorem dX9_late_12 : decode cX9_late 12 = .ok (.iload_n 1, 1) := by decide +kernel
theorem dX9_late_13 : decode cX9_late 13 = .ok (.aload_n 0, 1) := by decide +kernel
theorem dX9_late_14 : decode cX9_late 14 = .ok (.getfield 143, 3) := by decide +kernel
theorem dX9_late_17 : decode cX9_late 17 = .ok (.iload_n 2, 1) := by decide +kernel
theorem dX9_late_18 : decode cX9_late 18 = .ok (.iaload, 1) := by decide +kernel
theorem dX9_late_19 : decode cX9_late 19 = .ok (.iconst 2, 1) := by decide +kernel
theorem dX9_late_20 : decode cX9_late 20 = .ok (.if_icmp .eq 20, 3) := by decide +kernel
theorem dX9_late_23 : decode cX9_late 23 = .ok (.aload_n 0, 1) := by decide +kernel
theorem dX9_late_24 : decode cX9_late 24 = .ok (.getfield 140, 3) := by decide +kernel
theorem dX9_late_27 : decode cX9_late 27 = .ok (.iload_n 2, 1) := by decide +kernel
theorem dX9_late_28 : decode cX9_late 28 = .ok (.iaload, 1) := by decide +kernel
theorem dX9_late_29 : decode cX9_late 29 = .ok (.aload_n 0, 1) := by decide +kernel
theorem dX9_late_30 : decode cX9_late 30 = .ok (.getfield 321, 3) := by decide +kernel
theorem dX9_late_33 : decode cX9_late 33 = .ok (.if_icmp .ge 7, 3) := by decide +kernel
theorem dX9_late_36 : decode cX9_late 36 = .ok (.iconst 1, 1) := by decide +kernel
theorem dX9_late_37 : decode cX9_late 37 = .ok (.goto 4, 3) := by decide +kernel
theorem dX9_late_40 : decode cX9_late 40 = .ok (.iconst 0, 1) := by decide +kernel
theorem dX9_late_41 : decode cX9_late 41 = .ok (.iadd, 1) := by decide +kernel
theorem dX9_late_42 : decode cX9_late 42 = .ok (.istore_n 1, 1) := by decide +kernel
theorem dX9_late_43 : decode cX9_late 43 = .ok (.iinc 2 1, 3) := by decide +kernel
theorem dX9_late_46 : decode cX9_late 46 = .ok (.goto (-42), 3) := by decide +kernel
theorem dX9_late_49 : decode cX9_late 49 = .ok (.iload_n 1, 1) := by decide +kernel
theorem dX9_late_50 : decode cX9_late 50 = .ok (.ireturn, 1) := by decide +kernel
theorem dX9_personOf_0 : decode cX9_personOf 0 = .ok (.aload_n 0, 1) := by decide +kernel
theorem dX9_personOf_1 : decode cX9_personOf 1 = .ok (.iload_n 1, 1) := by decide +kernel
theorem dX9_personOf_2 : decode cX9_personOf 2 = .ok (.invokevirtual 318, 3) := by decide +kernel
theorem dX9_personOf_5 : decode cX9_personOf 5 = .ok (.ifCond .ne 5, 3) := by decide +kernel
theorem dX9_personOf_8 : decode cX9_personOf 8 = .ok (.iconst (-1), 1) := by decide +kernel
theorem dX9_personOf_9 : decode cX9_personOf 9 = .ok (.ireturn, 1) := by decide +kernel
theorem dX9_personOf_10 : decode cX9_personOf 10 = .ok (.iconst 0, 1) := by decide +kernel
theorem dX9_personOf_11 : decode cX9_personOf 11 = .ok (.istore_n 3, 1) := by decide +kernel
theorem dX9_personOf_12 : decode cX9_personOf 12 = .ok (.iconst 0, 1) := by decide +kernel
theorem dX9_personOf_13 : decode cX9_personOf 13 = .ok (.istore 4, 2) := by decide +kernel
theorem dX9_personOf_15 : decode cX9_personOf 15 = .ok (.iload 4, 2) := by decide +kernel
theorem dX9_personOf_17 : decode cX9_personOf 17 = .ok (.aload_n 0, 1) := by decide +kernel
theorem dX9_personOf_18 : decode cX9_personOf 18 = .ok (.getfield 311, 3) := by decide +kernel
theorem dX9_personOf_21 : decode cX9_personOf 21 = .ok (.if_icmp .ge 39, 3) := by decide +kernel
theorem dX9_personOf_24 : decode cX9_personOf 24 = .ok (.iload_n 3, 1) := by decide +kernel
theorem dX9_personOf_25 : decode cX9_personOf 25 = .ok (.aload_n 0, 1) := by decide +kernel
theorem dX9_personOf_26 : decode cX9_personOf 26 = .ok (.getfield 143, 3) := by decide +kernel
theorem dX9_personOf_29 : decode cX9_personOf 29 = .ok (.iload 4, 2) := by decide +kernel
theorem dX9_personOf_31 : decode cX9_personOf 31 = .ok (.iaload, 1) := by decide +kernel
theorem dX9_personOf_32 : decode cX9_personOf 32 = .ok (.iconst 2, 1) := by decide +kernel
theorem dX9_personOf_33 : decode cX9_personOf 33 = .ok (.if_icmp .ne 18, 3) := by decide +kernel
theorem dX9_personOf_36 : decode cX9_personOf 36 = .ok (.aload_n 0, 1) := by decide +kernel
theorem dX9_personOf_37 : decode cX9_personOf 37 = .ok (.getfield 146, 3) := by decide +kernel
theorem dX9_personOf_40 : decode cX9_personOf 40 = .ok (.iload 4, 2) := by decide +kernel
theorem dX9_personOf_42 : decode cX9_personOf 42 = .ok (.iaload, 1) := by decide +kernel
theorem dX9_personOf_43 : decode cX9_personOf 43 = .ok (.iload_n 1, 1) := by decide +kernel
theorem dX9_personOf_44 : decode cX9_personOf 44 = .ok (.if_icmp .ne 7, 3) := by decide +kernel
theorem dX9_personOf_47 : decode cX9_personOf 47 = .ok (.iconst 1, 1) := by decide +kernel
theorem dX9_personOf_48 : decode cX9_personOf 48 = .ok (.goto 4, 3) := by decide +kernel
theorem dX9_personOf_51 : decode cX9_personOf 51 = .ok (.iconst 0, 1) := by decide +kernel
theorem dX9_personOf_52 : decode cX9_personOf 52 = .ok (.iadd, 1) := by decide +kernel
theorem dX9_personOf_53 : decode cX9_personOf 53 = .ok (.istore_n 3, 1) := by decide +kernel
theorem dX9_personOf_54 : decode cX9_personOf 54 = .ok (.iinc 4 1, 3) := by decide +kernel
theorem dX9_personOf_57 : decode cX9_personOf 57 = .ok (.goto (-42), 3) := by decide +kernel
theorem dX9_personOf_60 : decode cX9_personOf 60 = .ok (.iload_n 2, 1) := by decide +kernel
theorem dX9_personOf_61 : decode cX9_personOf 61 = .ok (.tableswitch 83 0 5 #[39, 46, 53, 59, 74, 81], 39) := by decide +kernel
theorem dX9_personOf_100 : decode cX9_personOf 100 = .ok (.aload_n 0, 1) := by decide +kernel
theorem dX9_personOf_101 : decode cX9_personOf 101 = .ok (.getfield 152, 3) := by decide +kernel
theorem dX9_personOf_104 : decode cX9_personOf 104 = .ok (.iload_n 1, 1) := by decide +kernel
theorem dX9_personOf_105 : decode cX9_personOf 105 = .ok (.iaload, 1) := by decide +kernel
theorem dX9_personOf_106 : decode cX9_personOf 106 = .ok (.ireturn, 1) := by decide +kernel
theorem dX9_personOf_107 : decode cX9_personOf 107 = .ok (.aload_n 0, 1) := by decide +kernel
theorem dX9_personOf_108 : decode cX9_personOf 108 = .ok (.getfield 155, 3) := by decide +kernel
theorem dX9_personOf_111 : decode cX9_personOf 111 = .ok (.iload_n 1, 1) := by decide +kernel
theorem dX9_personOf_112 : decode cX9_personOf 112 = .ok (.iaload, 1) := by decide +kernel
theorem dX9_personOf_113 : decode cX9_personOf 113 = .ok (.ireturn, 1) := by decide +kernel
theorem dX9_personOf_114 : decode cX9_personOf 114 = .ok (.aload_n 0, 1) := by decide +kernel
theorem dX9_personOf_115 : decode cX9_personOf 115 = .ok (.iload_n 1, 1) := by decide +kernel
theorem dX9_personOf_116 : decode cX9_personOf 116 = .ok (.invokevirtual 360, 3) := by decide +kernel
theorem dX9_personOf_119 : decode cX9_personOf 119 = .ok (.ireturn, 1) := by decide +kernel
theorem dX9_personOf_120 : decode cX9_personOf 120 = .ok (.aload_n 0, 1) := by decide +kernel
theorem dX9_personOf_121 : decode cX9_personOf 121 = .ok (.getfield 161, 3) := by decide +kernel
theorem dX9_personOf_124 : decode cX9_personOf 124 = .ok (.iload_n 1, 1) := by decide +kernel
theorem dX9_personOf_125 : decode cX9_personOf 125 = .ok (.baload, 1) := by decide +kernel
theorem dX9_personOf_126 : decode cX9_personOf 126 = .ok (.ifCond .eq 7, 3) := by decide +kernel
theorem dX9_personOf_129 : decode cX9_personOf 129 = .ok (.iconst 1, 1) := by decide +kernel
theorem dX9_personOf_130 : decode cX9_personOf 130 = .ok (.goto 4, 3) := by decide +kernel
theorem dX9_personOf_133 : decode cX9_personOf 133 = .ok (.iconst 0, 1) := by decide +kernel
theorem dX9_personOf_134 : decode cX9_personOf 134 = .ok (.ireturn, 1) := by decide +kernel
theorem dX9_personOf_135 : decode cX9_personOf 135 = .ok (.aload_n 0, 1) := by decide +kernel
theorem dX9_personOf_136 : decode cX9_personOf 136 = .ok (.getfield 158, 3) := by decide +kernel
theorem dX9_personOf_139 : decode cX9_personOf 139 = .ok (.iload_n 1, 1) := by decide +kernel
theorem dX9_personOf_140 : decode cX9_personOf 140 = .ok (.iaload, 1) := by decide +kernel
theorem dX9_personOf_141 : decode cX9_personOf 141 = .ok (.ireturn, 1) := by decide +kernel
theorem dX9_personOf_142 : decode cX9_personOf 142 = .ok (.iload_n 3, 1) := by decide +kernel
theorem dX9_personOf_143 : decode cX9_personOf 143 = .ok (.ireturn, 1) := by decide +kernel
theorem dX9_personOf_144 : decode cX9_personOf 144 = .ok (.iconst (-1), 1) := by decide +kernel
theorem dX9_personOf_145 : decode cX9_personOf 145 = .ok (.ireturn, 1) := by decide +kernel
end
section
theorem dL_law_0 : decode cL_law 0 = .ok (.new 7, 3) := by decide +kernel
theorem dL_law_3 : decode cL_law 3 = .ok (.dup, 1) := by decide +kernel
theorem dL_law_4 : decode cL_law 4 = .ok (.invokespecial 9, 3) := by decide +kernel
theorem dL_law_7 : decode cL_law 7 = .ok (.astore_n 1, 1) := by decide +kernel
theorem dL_law_8 : decode cL_law 8 = .ok (.new 10, 3) := by decide +kernel
theorem dL_law_11 : decode cL_law 11 = .ok (.dup, 1) := by decide +kernel
theorem dL_law_12 : decode cL_law 12 = .ok (.invokespecial 12, 3) := by decide +kernel
theorem dL_law_15 : decode cL_law 15 = .ok (.astore_n 2, 1) := by decide +kernel
theorem dL_law_16 : decode cL_law 16 = .ok (.iconst 0, 1) := by decide +kernel
theorem dL_law_17 : decode cL_law 17 = .ok (.istore_n 3, 1) := by decide +kernel
theorem dL_law_18 : decode cL_law 18 = .ok (.iload_n 3, 1) := by decide +kernel
theorem dL_law_19 : decode cL_law 19 = .ok (.aload_n 0, 1) := by decide +kernel
theorem dL_law_20 : decode cL_law 20 = .ok (.arraylength, 1) := by decide +kernel
theorem dL_law_21 : decode cL_law 21 = .ok (.bipush 6, 2) := by decide +kernel
theorem dL_law_23 : decode cL_law 23 = .ok (.isub, 1) := by decide +kernel
theorem dL_law_24 : decode cL_law 24 = .ok (.if_icmp .gt 797, 3) := by decide +kernel
theorem dL_law_27 : decode cL_law 27 = .ok (.aload_n 0, 1) := by decide +kernel
theorem dL_law_28 : decode cL_law 28 = .ok (.iload_n 3, 1) := by decide +kernel
theorem dL_law_29 : decode cL_law 29 = .ok (.iaload, 1) := by decide +kernel
theorem dL_law_30 : decode cL_law 30 = .ok (.bipush 31, 2) := by decide +kernel
theorem dL_law_32 : decode cL_law 32 = .ok (.iand, 1) := by decide +kernel
theorem dL_law_33 : decode cL_law 33 = .ok (.tableswitch 782 0 22 #[107, 170, 193, 206, 229, 262, 295, 344, 367, 390, 403, 436, 469, 502, 535, 558, 601, 624, 657, 680, 693, 726, 759], 107) := by decide +kernel
theorem dL_law_140 : decode cL_law 140 = .ok (.aload_n 1, 1) := by decide +kernel
theorem dL_law_141 : decode cL_law 141 = .ok (.aload_n 0, 1) := by decide +kernel
theorem dL_law_142 : decode cL_law 142 = .ok (.iload_n 3, 1) := by decide +kernel
theorem dL_law_143 : decode cL_law 143 = .ok (.iconst 1, 1) := by decide +kernel
theorem dL_law_144 : decode cL_law 144 = .ok (.iadd, 1) := by decide +kernel
theorem dL_law_145 : decode cL_law 145 = .ok (.iaload, 1) := by decide +kernel
theorem dL_law_146 : decode cL_law 146 = .ok (.aload_n 0, 1) := by decide +kernel
theorem dL_law_147 : decode cL_law 147 = .ok (.iload_n 3, 1) := by decide +kernel
theorem dL_law_148 : decode cL_law 148 = .ok (.iconst 2, 1) := by decide +kernel
theorem dL_law_149 : decode cL_law 149 = .ok (.iadd, 1) := by decide +kernel
theorem dL_law_150 : decode cL_law 150 = .ok (.iaload, 1) := by decide +kernel
theorem dL_law_151 : decode cL_law 151 = .ok (.aload_n 0, 1) := by decide +kernel
theorem dL_law_152 : decode cL_law 152 = .ok (.iload_n 3, 1) := by decide +kernel
theorem dL_law_153 : decode cL_law 153 = .ok (.iconst 3, 1) := by decide +kernel
theorem dL_law_154 : decode cL_law 154 = .ok (.iadd, 1) := by decide +kernel
theorem dL_law_155 : decode cL_law 155 = .ok (.iaload, 1) := by decide +kernel
theorem dL_law_156 : decode cL_law 156 = .ok (.aload_n 0, 1) := by decide +kernel
theorem dL_law_157 : decode cL_law 157 = .ok (.iload_n 3, 1) := by decide +kernel
theorem dL_law_158 : decode cL_law 158 = .ok (.iconst 4, 1) := by decide +kernel
theorem dL_law_159 : decode cL_law 159 = .ok (.iadd, 1) := by decide +kernel
theorem dL_law_160 : decode cL_law 160 = .ok (.iaload, 1) := by decide +kernel
theorem dL_law_161 : decode cL_law 161 = .ok (.aload_n 0, 1) := by decide +kernel
theorem dL_law_162 : decode cL_law 162 = .ok (.iload_n 3, 1) := by decide +kernel
theorem dL_law_163 : decode cL_law 163 = .ok (.iconst 5, 1) := by decide +kernel
theorem dL_law_164 : decode cL_law 164 = .ok (.iadd, 1) := by decide +kernel
theorem dL_law_165 : decode cL_law 165 = .ok (.iaload, 1) := by decide +kernel
theorem dL_law_166 : decode cL_law 166 = .ok (.invokevirtual 13, 3) := by decide +kernel
theorem dL_law_169 : decode cL_law 169 = .ok (.aload_n 2, 1) := by decide +kernel
theorem dL_law_170 : decode cL_law 170 = .ok (.aload_n 0, 1) := by decide +kernel
theorem dL_law_171 : decode cL_law 171 = .ok (.iload_n 3, 1) := by decide +kernel
theorem dL_law_172 : decode cL_law 172 = .ok (.iconst 1, 1) := by decide +kernel
theorem dL_law_173 : decode cL_law 173 = .ok (.iadd, 1) := by decide +kernel
theorem dL_law_174 : decode cL_law 174 = .ok (.iaload, 1) := by decide +kernel
theorem dL_law_175 : decode cL_law 175 = .ok (.aload_n 0, 1) := by decide +kernel
theorem dL_law_176 : decode cL_law 176 = .ok (.iload_n 3, 1) := by decide +kernel
theorem dL_law_177 : decode cL_law 177 = .ok (.iconst 2, 1) := by decide +kernel
theorem dL_law_178 : decode cL_law 178 = .ok (.iadd, 1) := by decide +kernel
theorem dL_law_179 : decode cL_law 179 = .ok (.iaload, 1) := by decide +kernel
theorem dL_law_180 : decode cL_law 180 = .ok (.aload_n 0, 1) := by decide +kernel
theorem dL_law_181 : decode cL_law 181 = .ok (.iload_n 3, 1) := by decide +kernel
theorem dL_law_182 : decode cL_law 182 = .ok (.iconst 3, 1) := by decide +kernel
theorem dL_law_183 : decode cL_law 183 = .ok (.iadd, 1) := by decide +kernel
theorem dL_law_184 : decode cL_law 184 = .ok (.iaload, 1) := by decide +kernel
theorem dL_law_185 : decode cL_law 185 = .ok (.aload_n 0, 1) := by decide +kernel
theorem dL_law_186 : decode cL_law 186 = .ok (.iload_n 3, 1) := by decide +kernel
theorem dL_law_187 : decode cL_law 187 = .ok (.iconst 4, 1) := by decide +kernel
theorem dL_law_188 : decode cL_law 188 = .ok (.iadd, 1) := by decide +kernel
theorem dL_law_189 : decode cL_law 189 = .ok (.iaload, 1) := by decide +kernel
theorem dL_law_190 : decode cL_law 190 = .ok (.aload_n 0, 1) := by decide +kernel
theorem dL_law_191 : decode cL_law 191 = .ok (.iload_n 3, 1) := by decide +kernel
theorem dL_law_192 : decode cL_law 192 = .ok (.iconst 5, 1) := by decide +kernel
theorem dL_law_193 : decode cL_law 193 = .ok (.iadd, 1) := by decide +kernel
theorem dL_law_194 : decode cL_law 194 = .ok (.iaload, 1) := by decide +kernel
theorem dL_law_195 : decode cL_law 195 = .ok (.invokevirtual 17, 3) := by decide +kernel
theorem dL_law_198 : decode cL_law 198 = .ok (.if_icmp .eq 617, 3) := by decide +kernel
theorem dL_law_201 : decode cL_law 201 = .ok (.iconst 0, 1) := by decide +kernel
theorem dL_law_202 : decode cL_law 202 = .ok (.ireturn, 1) := by decide +kernel
theorem dL_law_203 : decode cL_law 203 = .ok (.aload_n 1, 1) := by decide +kernel
theorem dL_law_204 : decode cL_law 204 = .ok (.aload_n 0, 1) := by decide +kernel
theorem dL_law_205 : decode cL_law 205 = .ok (.iload_n 3, 1) := by decide +kernel
theorem dL_law_206 : decode cL_law 206 = .ok (.iconst 1, 1) := by decide +kernel
theorem dL_law_207 : decode cL_law 207 = .ok (.iadd, 1) := by decide +kernel
theorem dL_law_208 : decode cL_law 208 = .ok (.iaload, 1) := by decide +kernel
theorem dL_law_209 : decode cL_law 209 = .ok (.invokevirtual 18, 3) := by decide +kernel
theorem dL_law_212 : decode cL_law 212 = .ok (.aload_n 2, 1) := by decide +kernel
theorem dL_law_213 : decode cL_law 213 = .ok (.aload_n 0, 1) := by decide +kernel
theorem dL_law_214 : decode cL_law 214 = .ok (.iload_n 3, 1) := by decide +kernel
theorem dL_law_215 : decode cL_law 215 = .ok (.iconst 1, 1) := by decide +kernel
theorem dL_law_216 : decode cL_law 216 = .ok (.iadd, 1) := by decide +kernel
theorem dL_law_217 : decode cL_law 217 = .ok (.iaload, 1) := by decide +kernel
theorem dL_law_218 : decode cL_law 218 = .ok (.invokevirtual 22, 3) := by decide +kernel
theorem dL_law_221 : decode cL_law 221 = .ok (.if_icmp .eq 594, 3) := by decide +kernel
theorem dL_law_224 : decode cL_law 224 = .ok (.iconst 0, 1) := by decide +kernel
theorem dL_law_225 : decode cL_law 225 = .ok (.ireturn, 1) := by decide +kernel
theorem dL_law_226 : decode cL_law 226 = .ok (.aload_n 1, 1) := by decide +kernel
theorem dL_law_227 : decode cL_law 227 = .ok (.invokevirtual 23, 3) := by decide +kernel
theorem dL_law_230 : decode cL_law 230 = .ok (.aload_n 2, 1) := by decide +kernel
theorem dL_law_231 : decode cL_law 231 = .ok (.invokevirtual 27, 3) := by decide +kernel
theorem dL_law_234 : decode cL_law 234 = .ok (.if_icmp .eq 581, 3) := by decide +kernel
theorem dL_law_237 : decode cL_law 237 = .ok (.iconst 0, 1) := by decide +kernel
theorem dL_law_238 : decode cL_law 238 = .ok (.ireturn, 1) := by decide +kernel
theorem dL_law_239 : decode cL_law 239 = .ok (.aload_n 1, 1) := by decide +kernel
theorem dL_law_240 : decode cL_law 240 = .ok (.aload_n 0, 1) := by decide +kernel
theorem dL_law_241 : decode cL_law 241 = .ok (.iload_n 3, 1) := by decide +kernel
theorem dL_law_242 : decode cL_law 242 = .ok (.iconst 1, 1) := by decide +kernel
theorem dL_law_243 : decode cL_law 243 = .ok (.iadd, 1) := by decide +kernel
theorem dL_law_244 : decode cL_law 244 = .ok (.iaload, 1) := by decide +kernel
theorem dL_law_245 : decode cL_law 245 = .ok (.invokevirtual 28, 3) := by decide +kernel
theorem dL_law_248 : decode cL_law 248 = .ok (.aload_n 2, 1) := by decide +kernel
theorem dL_law_249 : decode cL_law 249 = .ok (.aload_n 0, 1) := by decide +kernel
theorem dL_law_250 : decode cL_law 250 = .ok (.iload_n 3, 1) := by decide +kernel
theorem dL_law_251 : decode cL_law 251 = .ok (.iconst 1, 1) := by decide +kernel
theorem dL_law_252 : decode cL_law 252 = .ok (.iadd, 1) := by decide +kernel
theorem dL_law_253 : decode cL_law 253 = .ok (.iaload, 1) := by decide +kernel
theorem dL_law_254 : decode cL_law 254 = .ok (.invokevirtual 31, 3) := by decide +kernel
theorem dL_law_257 : decode cL_law 257 = .ok (.if_icmp .eq 558, 3) := by decide +kernel
theorem dL_law_260 : decode cL_law 260 = .ok (.iconst 0, 1) := by decide +kernel
theorem dL_law_261 : decode cL_law 261 = .ok (.ireturn, 1) := by decide +kernel
theorem dL_law_262 : decode cL_law 262 = .ok (.aload_n 1, 1) := by decide +kernel
theorem dL_law_263 : decode cL_law 263 = .ok (.aload_n 0, 1) := by decide +kernel
theorem dL_law_264 : decode cL_law 264 = .ok (.iload_n 3, 1) := by decide +kernel
theorem dL_law_265 : decode cL_law 265 = .ok (.iconst 1, 1) := by decide +kernel
theorem dL_law_266 : decode cL_law 266 = .ok (.iadd, 1) := by decide +kernel
theorem dL_law_267 : decode cL_law 267 = .ok (.iaload, 1) := by decide +kernel
theorem dL_law_268 : decode cL_law 268 = .ok (.aload_n 0, 1) := by decide +kernel
theorem dL_law_269 : decode cL_law 269 = .ok (.iload_n 3, 1) := by decide +kernel
theorem dL_law_270 : decode cL_law 270 = .ok (.iconst 2, 1) := by decide +kernel
theorem dL_law_271 : decode cL_law 271 = .ok (.iadd, 1) := by decide +kernel
theorem dL_law_272 : decode cL_law 272 = .ok (.iaload, 1) := by decide +kernel
theorem dL_law_273 : decode cL_law 273 = .ok (.invokevirtual 32, 3) := by decide +kernel
theorem dL_law_276 : decode cL_law 276 = .ok (.aload_n 2, 1) := by decide +kernel
theorem dL_law_277 : decode cL_law 277 = .ok (.aload_n 0, 1) := by decide +kernel
theorem dL_law_278 : decode cL_law 278 = .ok (.iload_n 3, 1) := by decide +kernel
theorem dL_law_279 : decode cL_law 279 = .ok (.iconst 1, 1) := by decide +kernel
theorem dL_law_280 : decode cL_law 280 = .ok (.iadd, 1) := by decide +kernel
theorem dL_law_281 : decode cL_law 281 = .ok (.iaload, 1) := by decide +kernel
theorem dL_law_282 : decode cL_law 282 = .ok (.aload_n 0, 1) := by decide +kernel
theorem dL_law_283 : decode cL_law 283 = .ok (.iload_n 3, 1) := by decide +kernel
theorem dL_law_284 : decode cL_law 284 = .ok (.iconst 2, 1) := by decide +kernel
theorem dL_law_285 : decode cL_law 285 = .ok (.iadd, 1) := by decide +kernel
theorem dL_law_286 : decode cL_law 286 = .ok (.iaload, 1) := by decide +kernel
theorem dL_law_287 : decode cL_law 287 = .ok (.invokevirtual 36, 3) := by decide +kernel
theorem dL_law_290 : decode cL_law 290 = .ok (.if_icmp .eq 525, 3) := by decide +kernel
theorem dL_law_293 : decode cL_law 293 = .ok (.iconst 0, 1) := by decide +kernel
theorem dL_law_294 : decode cL_law 294 = .ok (.ireturn, 1) := by decide +kernel
theorem dL_law_295 : decode cL_law 295 = .ok (.aload_n 1, 1) := by decide +kernel
theorem dL_law_296 : decode cL_law 296 = .ok (.aload_n 0, 1) := by decide +kernel
theorem dL_law_297 : decode cL_law 297 = .ok (.iload_n 3, 1) := by decide +kernel
theorem dL_law_298 : decode cL_law 298 = .ok (.iconst 1, 1) := by decide +kernel
theorem dL_law_299 : decode cL_law 299 = .ok (.iadd, 1) := by decide +kernel
theorem dL_law_300 : decode cL_law 300 = .ok (.iaload, 1) := by decide +kernel
theorem dL_law_301 : decode cL_law 301 = .ok (.aload_n 0, 1) := by decide +kernel
theorem dL_law_302 : decode cL_law 302 = .ok (.iload_n 3, 1) := by decide +kernel
theorem dL_law_303 : decode cL_law 303 = .ok (.iconst 2, 1) := by decide +kernel
theorem dL_law_304 : decode cL_law 304 = .ok (.iadd, 1) := by decide +kernel
theorem dL_law_305 : decode cL_law 305 = .ok (.iaload, 1) := by decide +kernel
theorem dL_law_306 : decode cL_law 306 = .ok (.invokevirtual 37, 3) := by decide +kernel
theorem dL_law_309 : decode cL_law 309 = .ok (.aload_n 2, 1) := by decide +kernel
theorem dL_law_310 : decode cL_law 310 = .ok (.aload_n 0, 1) := by decide +kernel
theorem dL_law_311 : decode cL_law 311 = .ok (.iload_n 3, 1) := by decide +kernel
theorem dL_law_312 : decode cL_law 312 = .ok (.iconst 1, 1) := by decide +kernel
theorem dL_law_313 : decode cL_law 313 = .ok (.iadd, 1) := by decide +kernel
theorem dL_law_314 : decode cL_law 314 = .ok (.iaload, 1) := by decide +kernel
theorem dL_law_315 : decode cL_law 315 = .ok (.aload_n 0, 1) := by decide +kernel
theorem dL_law_316 : decode cL_law 316 = .ok (.iload_n 3, 1) := by decide +kernel
theorem dL_law_317 : decode cL_law 317 = .ok (.iconst 2, 1) := by decide +kernel
theorem dL_law_318 : decode cL_law 318 = .ok (.iadd, 1) := by decide +kernel
theorem dL_law_319 : decode cL_law 319 = .ok (.iaload, 1) := by decide +kernel
theorem dL_law_320 : decode cL_law 320 = .ok (.invokevirtual 41, 3) := by decide +kernel
theorem dL_law_323 : decode cL_law 323 = .ok (.if_icmp .eq 492, 3) := by decide +kernel
theorem dL_law_326 : decode cL_law 326 = .ok (.iconst 0, 1) := by decide +kernel
theorem dL_law_327 : decode cL_law 327 = .ok (.ireturn, 1) := by decide +kernel
theorem dL_law_328 : decode cL_law 328 = .ok (.aload_n 1, 1) := by decide +kernel
theorem dL_law_329 : decode cL_law 329 = .ok (.aload_n 0, 1) := by decide +kernel
theorem dL_law_330 : decode cL_law 330 = .ok (.iload_n 3, 1) := by decide +kernel
theorem dL_law_331 : decode cL_law 331 = .ok (.iconst 1, 1) := by decide +kernel
theorem dL_law_332 : decode cL_law 332 = .ok (.iadd, 1) := by decide +kernel
theorem dL_law_333 : decode cL_law 333 = .ok (.iaload, 1) := by decide +kernel
theorem dL_law_334 : decode cL_law 334 = .ok (.aload_n 0, 1) := by decide +kernel
theorem dL_law_335 : decode cL_law 335 = .ok (.iload_n 3, 1) := by decide +kernel
theorem dL_law_336 : decode cL_law 336 = .ok (.iconst 2, 1) := by decide +kernel
theorem dL_law_337 : decode cL_law 337 = .ok (.iadd, 1) := by decide +kernel
theorem dL_law_338 : decode cL_law 338 = .ok (.iaload, 1) := by decide +kernel
theorem dL_law_339 : decode cL_law 339 = .ok (.ifCond .eq 7, 3) := by decide +kernel
theorem dL_law_342 : decode cL_law 342 = .ok (.iconst 1, 1) := by decide +kernel
theorem dL_law_343 : decode cL_law 343 = .ok (.goto 4, 3) := by decide +kernel
theorem dL_law_346 : decode cL_law 346 = .ok (.iconst 0, 1) := by decide +kernel
theorem dL_law_347 : decode cL_law 347 = .ok (.invokevirtual 42, 3) := by decide +kernel
theorem dL_law_350 : decode cL_law 350 = .ok (.aload_n 2, 1) := by decide +kernel
theorem dL_law_351 : decode cL_law 351 = .ok (.aload_n 0, 1) := by decide +kernel
theorem dL_law_352 : decode cL_law 352 = .ok (.iload_n 3, 1) := by decide +kernel
theorem dL_law_353 : decode cL_law 353 = .ok (.iconst 1, 1) := by decide +kernel
theorem dL_law_354 : decode cL_law 354 = .ok (.iadd, 1) := by decide +kernel
theorem dL_law_355 : decode cL_law 355 = .ok (.iaload, 1) := by decide +kernel
theorem dL_law_356 : decode cL_law 356 = .ok (.aload_n 0, 1) := by decide +kernel
theorem dL_law_357 : decode cL_law 357 = .ok (.iload_n 3, 1) := by decide +kernel
theorem dL_law_358 : decode cL_law 358 = .ok (.iconst 2, 1) := by decide +kernel
theorem dL_law_359 : decode cL_law 359 = .ok (.iadd, 1) := by decide +kernel
theorem dL_law_360 : decode cL_law 360 = .ok (.iaload, 1) := by decide +kernel
theorem dL_law_361 : decode cL_law 361 = .ok (.ifCond .eq 7, 3) := by decide +kernel
theorem dL_law_364 : decode cL_law 364 = .ok (.iconst 1, 1) := by decide +kernel
theorem dL_law_365 : decode cL_law 365 = .ok (.goto 4, 3) := by decide +kernel
theorem dL_law_368 : decode cL_law 368 = .ok (.iconst 0, 1) := by decide +kernel
theorem dL_law_369 : decode cL_law 369 = .ok (.invokevirtual 46, 3) := by decide +kernel
theorem dL_law_372 : decode cL_law 372 = .ok (.if_icmp .eq 443, 3) := by decide +kernel
theorem dL_law_375 : decode cL_law 375 = .ok (.iconst 0, 1) := by decide +kernel
theorem dL_law_376 : decode cL_law 376 = .ok (.ireturn, 1) := by decide +kernel
theorem dL_law_377 : decode cL_law 377 = .ok (.aload_n 1, 1) := by decide +kernel
theorem dL_law_378 : decode cL_law 378 = .ok (.aload_n 0, 1) := by decide +kernel
theorem dL_law_379 : decode cL_law 379 = .ok (.iload_n 3, 1) := by decide +kernel
theorem dL_law_380 : decode cL_law 380 = .ok (.iconst 1, 1) := by decide +kernel
theorem dL_law_381 : decode cL_law 381 = .ok (.iadd, 1) := by decide +kernel
theorem dL_law_382 : decode cL_law 382 = .ok (.iaload, 1) := by decide +kernel
theorem dL_law_383 : decode cL_law 383 = .ok (.invokevirtual 47, 3) := by decide +kernel
theorem dL_law_386 : decode cL_law 386 = .ok (.aload_n 2, 1) := by decide +kernel
theorem dL_law_387 : decode cL_law 387 = .ok (.aload_n 0, 1) := by decide +kernel
theorem dL_law_388 : decode cL_law 388 = .ok (.iload_n 3, 1) := by decide +kernel
theorem dL_law_389 : decode cL_law 389 = .ok (.iconst 1, 1) := by decide +kernel
theorem dL_law_390 : decode cL_law 390 = .ok (.iadd, 1) := by decide +kernel
theorem dL_law_391 : decode cL_law 391 = .ok (.iaload, 1) := by decide +kernel
theorem dL_law_392 : decode cL_law 392 = .ok (.invokevirtual 50, 3) := by decide +kernel
theorem dL_law_395 : decode cL_law 395 = .ok (.if_icmp .eq 420, 3) := by decide +kernel
theorem dL_law_398 : decode cL_law 398 = .ok (.iconst 0, 1) := by decide +kernel
theorem dL_law_399 : decode cL_law 399 = .ok (.ireturn, 1) := by decide +kernel
theorem dL_law_400 : decode cL_law 400 = .ok (.aload_n 1, 1) := by decide +kernel
theorem dL_law_401 : decode cL_law 401 = .ok (.aload_n 0, 1) := by decide +kernel
theorem dL_law_402 : decode cL_law 402 = .ok (.iload_n 3, 1) := by decide +kernel
theorem dL_law_403 : decode cL_law 403 = .ok (.iconst 1, 1) := by decide +kernel
theorem dL_law_404 : decode cL_law 404 = .ok (.iadd, 1) := by decide +kernel
theorem dL_law_405 : decode cL_law 405 = .ok (.iaload, 1) := by decide +kernel
theorem dL_law_406 : decode cL_law 406 = .ok (.invokevirtual 51, 3) := by decide +kernel
theorem dL_law_409 : decode cL_law 409 = .ok (.aload_n 2, 1) := by decide +kernel
theorem dL_law_410 : decode cL_law 410 = .ok (.aload_n 0, 1) := by decide +kernel
theorem dL_law_411 : decode cL_law 411 = .ok (.iload_n 3, 1) := by decide +kernel
theorem dL_law_412 : decode cL_law 412 = .ok (.iconst 1, 1) := by decide +kernel
theorem dL_law_413 : decode cL_law 413 = .ok (.iadd, 1) := by decide +kernel
theorem dL_law_414 : decode cL_law 414 = .ok (.iaload, 1) := by decide +kernel
theorem dL_law_415 : decode cL_law 415 = .ok (.invokevirtual 55, 3) := by decide +kernel
theorem dL_law_418 : decode cL_law 418 = .ok (.if_icmp .eq 397, 3) := by decide +kernel
theorem dL_law_421 : decode cL_law 421 = .ok (.iconst 0, 1) := by decide +kernel
theorem dL_law_422 : decode cL_law 422 = .ok (.ireturn, 1) := by decide +kernel
theorem dL_law_423 : decode cL_law 423 = .ok (.aload_n 1, 1) := by decide +kernel
theorem dL_law_424 : decode cL_law 424 = .ok (.invokevirtual 56, 3) := by decide +kernel
theorem dL_law_427 : decode cL_law 427 = .ok (.aload_n 2, 1) := by decide +kernel
theorem dL_law_428 : decode cL_law 428 = .ok (.invokevirtual 59, 3) := by decide +kernel
theorem dL_law_431 : decode cL_law 431 = .ok (.if_icmp .eq 384, 3) := by decide +kernel
theorem dL_law_434 : decode cL_law 434 = .ok (.iconst 0, 1) := by decide +kernel
theorem dL_law_435 : decode cL_law 435 = .ok (.ireturn, 1) := by decide +kernel
theorem dL_law_436 : decode cL_law 436 = .ok (.aload_n 1, 1) := by decide +kernel
theorem dL_law_437 : decode cL_law 437 = .ok (.aload_n 0, 1) := by decide +kernel
theorem dL_law_438 : decode cL_law 438 = .ok (.iload_n 3, 1) := by decide +kernel
theorem dL_law_439 : decode cL_law 439 = .ok (.iconst 1, 1) := by decide +kernel
theorem dL_law_440 : decode cL_law 440 = .ok (.iadd, 1) := by decide +kernel
theorem dL_law_441 : decode cL_law 441 = .ok (.iaload, 1) := by decide +kernel
theorem dL_law_442 : decode cL_law 442 = .ok (.aload_n 0, 1) := by decide +kernel
theorem dL_law_443 : decode cL_law 443 = .ok (.iload_n 3, 1) := by decide +kernel
theorem dL_law_444 : decode cL_law 444 = .ok (.iconst 2, 1) := by decide +kernel
theorem dL_law_445 : decode cL_law 445 = .ok (.iadd, 1) := by decide +kernel
theorem dL_law_446 : decode cL_law 446 = .ok (.iaload, 1) := by decide +kernel
theorem dL_law_447 : decode cL_law 447 = .ok (.invokevirtual 60, 3) := by decide +kernel
theorem dL_law_450 : decode cL_law 450 = .ok (.aload_n 2, 1) := by decide +kernel
theorem dL_law_451 : decode cL_law 451 = .ok (.aload_n 0, 1) := by decide +kernel
theorem dL_law_452 : decode cL_law 452 = .ok (.iload_n 3, 1) := by decide +kernel
theorem dL_law_453 : decode cL_law 453 = .ok (.iconst 1, 1) := by decide +kernel
theorem dL_law_454 : decode cL_law 454 = .ok (.iadd, 1) := by decide +kernel
theorem dL_law_455 : decode cL_law 455 = .ok (.iaload, 1) := by decide +kernel
theorem dL_law_456 : decode cL_law 456 = .ok (.aload_n 0, 1) := by decide +kernel
theorem dL_law_457 : decode cL_law 457 = .ok (.iload_n 3, 1) := by decide +kernel
theorem dL_law_458 : decode cL_law 458 = .ok (.iconst 2, 1) := by decide +kernel
theorem dL_law_459 : decode cL_law 459 = .ok (.iadd, 1) := by decide +kernel
theorem dL_law_460 : decode cL_law 460 = .ok (.iaload, 1) := by decide +kernel
theorem dL_law_461 : decode cL_law 461 = .ok (.invokevirtual 63, 3) := by decide +kernel
theorem dL_law_464 : decode cL_law 464 = .ok (.if_icmp .eq 351, 3) := by decide +kernel
theorem dL_law_467 : decode cL_law 467 = .ok (.iconst 0, 1) := by decide +kernel
theorem dL_law_468 : decode cL_law 468 = .ok (.ireturn, 1) := by decide +kernel
theorem dL_law_469 : decode cL_law 469 = .ok (.aload_n 1, 1) := by decide +kernel
theorem dL_law_470 : decode cL_law 470 = .ok (.aload_n 0, 1) := by decide +kernel
theorem dL_law_471 : decode cL_law 471 = .ok (.iload_n 3, 1) := by decide +kernel
theorem dL_law_472 : decode cL_law 472 = .ok (.iconst 1, 1) := by decide +kernel
theorem dL_law_473 : decode cL_law 473 = .ok (.iadd, 1) := by decide +kernel
theorem dL_law_474 : decode cL_law 474 = .ok (.iaload, 1) := by decide +kernel
theorem dL_law_475 : decode cL_law 475 = .ok (.aload_n 0, 1) := by decide +kernel
theorem dL_law_476 : decode cL_law 476 = .ok (.iload_n 3, 1) := by decide +kernel
theorem dL_law_477 : decode cL_law 477 = .ok (.iconst 2, 1) := by decide +kernel
theorem dL_law_478 : decode cL_law 478 = .ok (.iadd, 1) := by decide +kernel
theorem dL_law_479 : decode cL_law 479 = .ok (.iaload, 1) := by decide +kernel
theorem dL_law_480 : decode cL_law 480 = .ok (.invokevirtual 64, 3) := by decide +kernel
theorem dL_law_483 : decode cL_law 483 = .ok (.aload_n 2, 1) := by decide +kernel
theorem dL_law_484 : decode cL_law 484 = .ok (.aload_n 0, 1) := by decide +kernel
theorem dL_law_485 : decode cL_law 485 = .ok (.iload_n 3, 1) := by decide +kernel
theorem dL_law_486 : decode cL_law 486 = .ok (.iconst 1, 1) := by decide +kernel
theorem dL_law_487 : decode cL_law 487 = .ok (.iadd, 1) := by decide +kernel
theorem dL_law_488 : decode cL_law 488 = .ok (.iaload, 1) := by decide +kernel
theorem dL_law_489 : decode cL_law 489 = .ok (.aload_n 0, 1) := by decide +kernel
theorem dL_law_490 : decode cL_law 490 = .ok (.iload_n 3, 1) := by decide +kernel
theorem dL_law_491 : decode cL_law 491 = .ok (.iconst 2, 1) := by decide +kernel
theorem dL_law_492 : decode cL_law 492 = .ok (.iadd, 1) := by decide +kernel
theorem dL_law_493 : decode cL_law 493 = .ok (.iaload, 1) := by decide +kernel
theorem dL_law_494 : decode cL_law 494 = .ok (.invokevirtual 67, 3) := by decide +kernel
theorem dL_law_497 : decode cL_law 497 = .ok (.if_icmp .eq 318, 3) := by decide +kernel
theorem dL_law_500 : decode cL_law 500 = .ok (.iconst 0, 1) := by decide +kernel
theorem dL_law_501 : decode cL_law 501 = .ok (.ireturn, 1) := by decide +kernel
theorem dL_law_502 : decode cL_law 502 = .ok (.aload_n 1, 1) := by decide +kernel
theorem dL_law_503 : decode cL_law 503 = .ok (.aload_n 0, 1) := by decide +kernel
theorem dL_law_504 : decode cL_law 504 = .ok (.iload_n 3, 1) := by decide +kernel
theorem dL_law_505 : decode cL_law 505 = .ok (.iconst 1, 1) := by decide +kernel
theorem dL_law_506 : decode cL_law 506 = .ok (.iadd, 1) := by decide +kernel
theorem dL_law_507 : decode cL_law 507 = .ok (.iaload, 1) := by decide +kernel
theorem dL_law_508 : decode cL_law 508 = .ok (.aload_n 0, 1) := by decide +kernel
theorem dL_law_509 : decode cL_law 509 = .ok (.iload_n 3, 1) := by decide +kernel
theorem dL_law_510 : decode cL_law 510 = .ok (.iconst 2, 1) := by decide +kernel
theorem dL_law_511 : decode cL_law 511 = .ok (.iadd, 1) := by decide +kernel
theorem dL_law_512 : decode cL_law 512 = .ok (.iaload, 1) := by decide +kernel
theorem dL_law_513 : decode cL_law 513 = .ok (.invokevirtual 68, 3) := by decide +kernel
theorem dL_law_516 : decode cL_law 516 = .ok (.aload_n 2, 1) := by decide +kernel
theorem dL_law_517 : decode cL_law 517 = .ok (.aload_n 0, 1) := by decide +kernel
theorem dL_law_518 : decode cL_law 518 = .ok (.iload_n 3, 1) := by decide +kernel
theorem dL_law_519 : decode cL_law 519 = .ok (.iconst 1, 1) := by decide +kernel
theorem dL_law_520 : decode cL_law 520 = .ok (.iadd, 1) := by decide +kernel
theorem dL_law_521 : decode cL_law 521 = .ok (.iaload, 1) := by decide +kernel
theorem dL_law_522 : decode cL_law 522 = .ok (.aload_n 0, 1) := by decide +kernel
theorem dL_law_523 : decode cL_law 523 = .ok (.iload_n 3, 1) := by decide +kernel
theorem dL_law_524 : decode cL_law 524 = .ok (.iconst 2, 1) := by decide +kernel
theorem dL_law_525 : decode cL_law 525 = .ok (.iadd, 1) := by decide +kernel
theorem dL_law_526 : decode cL_law 526 = .ok (.iaload, 1) := by decide +kernel
theorem dL_law_527 : decode cL_law 527 = .ok (.invokevirtual 71, 3) := by decide +kernel
theorem dL_law_530 : decode cL_law 530 = .ok (.if_icmp .eq 285, 3) := by decide +kernel
theorem dL_law_533 : decode cL_law 533 = .ok (.iconst 0, 1) := by decide +kernel
theorem dL_law_534 : decode cL_law 534 = .ok (.ireturn, 1) := by decide +kernel
theorem dL_law_535 : decode cL_law 535 = .ok (.aload_n 1, 1) := by decide +kernel
theorem dL_law_536 : decode cL_law 536 = .ok (.aload_n 0, 1) := by decide +kernel
theorem dL_law_537 : decode cL_law 537 = .ok (.iload_n 3, 1) := by decide +kernel
theorem dL_law_538 : decode cL_law 538 = .ok (.iconst 1, 1) := by decide +kernel
theorem dL_law_539 : decode cL_law 539 = .ok (.iadd, 1) := by decide +kernel
theorem dL_law_540 : decode cL_law 540 = .ok (.iaload, 1) := by decide +kernel
theorem dL_law_541 : decode cL_law 541 = .ok (.aload_n 0, 1) := by decide +kernel
theorem dL_law_542 : decode cL_law 542 = .ok (.iload_n 3, 1) := by decide +kernel
theorem dL_law_543 : decode cL_law 543 = .ok (.iconst 2, 1) := by decide +kernel
theorem dL_law_544 : decode cL_law 544 = .ok (.iadd, 1) := by decide +kernel
theorem dL_law_545 : decode cL_law 545 = .ok (.iaload, 1) := by decide +kernel
theorem dL_law_546 : decode cL_law 546 = .ok (.invokevirtual 72, 3) := by decide +kernel
theorem dL_law_549 : decode cL_law 549 = .ok (.aload_n 2, 1) := by decide +kernel
theorem dL_law_550 : decode cL_law 550 = .ok (.aload_n 0, 1) := by decide +kernel
theorem dL_law_551 : decode cL_law 551 = .ok (.iload_n 3, 1) := by decide +kernel
theorem dL_law_552 : decode cL_law 552 = .ok (.iconst 1, 1) := by decide +kernel
theorem dL_law_553 : decode cL_law 553 = .ok (.iadd, 1) := by decide +kernel
theorem dL_law_554 : decode cL_law 554 = .ok (.iaload, 1) := by decide +kernel
theorem dL_law_555 : decode cL_law 555 = .ok (.aload_n 0, 1) := by decide +kernel
theorem dL_law_556 : decode cL_law 556 = .ok (.iload_n 3, 1) := by decide +kernel
theorem dL_law_557 : decode cL_law 557 = .ok (.iconst 2, 1) := by decide +kernel
theorem dL_law_558 : decode cL_law 558 = .ok (.iadd, 1) := by decide +kernel
theorem dL_law_559 : decode cL_law 559 = .ok (.iaload, 1) := by decide +kernel
theorem dL_law_560 : decode cL_law 560 = .ok (.invokevirtual 75, 3) := by decide +kernel
theorem dL_law_563 : decode cL_law 563 = .ok (.if_icmp .eq 252, 3) := by decide +kernel
theorem dL_law_566 : decode cL_law 566 = .ok (.iconst 0, 1) := by decide +kernel
theorem dL_law_567 : decode cL_law 567 = .ok (.ireturn, 1) := by decide +kernel
theorem dL_law_568 : decode cL_law 568 = .ok (.aload_n 1, 1) := by decide +kernel
theorem dL_law_569 : decode cL_law 569 = .ok (.aload_n 0, 1) := by decide +kernel
theorem dL_law_570 : decode cL_law 570 = .ok (.iload_n 3, 1) := by decide +kernel
theorem dL_law_571 : decode cL_law 571 = .ok (.iconst 1, 1) := by decide +kernel
theorem dL_law_572 : decode cL_law 572 = .ok (.iadd, 1) := by decide +kernel
theorem dL_law_573 : decode cL_law 573 = .ok (.iaload, 1) := by decide +kernel
theorem dL_law_574 : decode cL_law 574 = .ok (.invokevirtual 76, 3) := by decide +kernel
theorem dL_law_577 : decode cL_law 577 = .ok (.aload_n 2, 1) := by decide +kernel
theorem dL_law_578 : decode cL_law 578 = .ok (.aload_n 0, 1) := by decide +kernel
theorem dL_law_579 : decode cL_law 579 = .ok (.iload_n 3, 1) := by decide +kernel
theorem dL_law_580 : decode cL_law 580 = .ok (.iconst 1, 1) := by decide +kernel
theorem dL_law_581 : decode cL_law 581 = .ok (.iadd, 1) := by decide +kernel
theorem dL_law_582 : decode cL_law 582 = .ok (.iaload, 1) := by decide +kernel
theorem dL_law_583 : decode cL_law 583 = .ok (.invokevirtual 79, 3) := by decide +kernel
theorem dL_law_586 : decode cL_law 586 = .ok (.if_icmp .eq 229, 3) := by decide +kernel
theorem dL_law_589 : decode cL_law 589 = .ok (.iconst 0, 1) := by decide +kernel
theorem dL_law_590 : decode cL_law 590 = .ok (.ireturn, 1) := by decide +kernel
theorem dL_law_591 : decode cL_law 591 = .ok (.aload_n 1, 1) := by decide +kernel
theorem dL_law_592 : decode cL_law 592 = .ok (.aload_n 0, 1) := by decide +kernel
theorem dL_law_593 : decode cL_law 593 = .ok (.iload_n 3, 1) := by decide +kernel
theorem dL_law_594 : decode cL_law 594 = .ok (.iconst 1, 1) := by decide +kernel
theorem dL_law_595 : decode cL_law 595 = .ok (.iadd, 1) := by decide +kernel
theorem dL_law_596 : decode cL_law 596 = .ok (.iaload, 1) := by decide +kernel
theorem dL_law_597 : decode cL_law 597 = .ok (.aload_n 0, 1) := by decide +kernel
theorem dL_law_598 : decode cL_law 598 = .ok (.iload_n 3, 1) := by decide +kernel
theorem dL_law_599 : decode cL_law 599 = .ok (.iconst 2, 1) := by decide +kernel
theorem dL_law_600 : decode cL_law 600 = .ok (.iadd, 1) := by decide +kernel
theorem dL_law_601 : decode cL_law 601 = .ok (.iaload, 1) := by decide +kernel
theorem dL_law_602 : decode cL_law 602 = .ok (.aload_n 0, 1) := by decide +kernel
theorem dL_law_603 : decode cL_law 603 = .ok (.iload_n 3, 1) := by decide +kernel
theorem dL_law_604 : decode cL_law 604 = .ok (.iconst 3, 1) := by decide +kernel
theorem dL_law_605 : decode cL_law 605 = .ok (.iadd, 1) := by decide +kernel
theorem dL_law_606 : decode cL_law 606 = .ok (.iaload, 1) := by decide +kernel
theorem dL_law_607 : decode cL_law 607 = .ok (.invokevirtual 80, 3) := by decide +kernel
theorem dL_law_610 : decode cL_law 610 = .ok (.aload_n 2, 1) := by decide +kernel
theorem dL_law_611 : decode cL_law 611 = .ok (.aload_n 0, 1) := by decide +kernel
theorem dL_law_612 : decode cL_law 612 = .ok (.iload_n 3, 1) := by decide +kernel
theorem dL_law_613 : decode cL_law 613 = .ok (.iconst 1, 1) := by decide +kernel
theorem dL_law_614 : decode cL_law 614 = .ok (.iadd, 1) := by decide +kernel
theorem dL_law_615 : decode cL_law 615 = .ok (.iaload, 1) := by decide +kernel
theorem dL_law_616 : decode cL_law 616 = .ok (.aload_n 0, 1) := by decide +kernel
theorem dL_law_617 : decode cL_law 617 = .ok (.iload_n 3, 1) := by decide +kernel
theorem dL_law_618 : decode cL_law 618 = .ok (.iconst 2, 1) := by decide +kernel
theorem dL_law_619 : decode cL_law 619 = .ok (.iadd, 1) := by decide +kernel
theorem dL_law_620 : decode cL_law 620 = .ok (.iaload, 1) := by decide +kernel
theorem dL_law_621 : decode cL_law 621 = .ok (.aload_n 0, 1) := by decide +kernel
theorem dL_law_622 : decode cL_law 622 = .ok (.iload_n 3, 1) := by decide +kernel
theorem dL_law_623 : decode cL_law 623 = .ok (.iconst 3, 1) := by decide +kernel
theorem dL_law_624 : decode cL_law 624 = .ok (.iadd, 1) := by decide +kernel
theorem dL_law_625 : decode cL_law 625 = .ok (.iaload, 1) := by decide +kernel
theorem dL_law_626 : decode cL_law 626 = .ok (.invokevirtual 84, 3) := by decide +kernel
theorem dL_law_629 : decode cL_law 629 = .ok (.if_icmp .eq 186, 3) := by decide +kernel
theorem dL_law_632 : decode cL_law 632 = .ok (.iconst 0, 1) := by decide +kernel
theorem dL_law_633 : decode cL_law 633 = .ok (.ireturn, 1) := by decide +kernel
theorem dL_law_634 : decode cL_law 634 = .ok (.aload_n 1, 1) := by decide +kernel
theorem dL_law_635 : decode cL_law 635 = .ok (.aload_n 0, 1) := by decide +kernel
theorem dL_law_636 : decode cL_law 636 = .ok (.iload_n 3, 1) := by decide +kernel
theorem dL_law_637 : decode cL_law 637 = .ok (.iconst 1, 1) := by decide +kernel
theorem dL_law_638 : decode cL_law 638 = .ok (.iadd, 1) := by decide +kernel
theorem dL_law_639 : decode cL_law 639 = .ok (.iaload, 1) := by decide +kernel
theorem dL_law_640 : decode cL_law 640 = .ok (.invokevirtual 85, 3) := by decide +kernel
theorem dL_law_643 : decode cL_law 643 = .ok (.aload_n 2, 1) := by decide +kernel
theorem dL_law_644 : decode cL_law 644 = .ok (.aload_n 0, 1) := by decide +kernel
theorem dL_law_645 : decode cL_law 645 = .ok (.iload_n 3, 1) := by decide +kernel
theorem dL_law_646 : decode cL_law 646 = .ok (.iconst 1, 1) := by decide +kernel
theorem dL_law_647 : decode cL_law 647 = .ok (.iadd, 1) := by decide +kernel
theorem dL_law_648 : decode cL_law 648 = .ok (.iaload, 1) := by decide +kernel
theorem dL_law_649 : decode cL_law 649 = .ok (.invokevirtual 88, 3) := by decide +kernel
theorem dL_law_652 : decode cL_law 652 = .ok (.if_icmp .eq 163, 3) := by decide +kernel
theorem dL_law_655 : decode cL_law 655 = .ok (.iconst 0, 1) := by decide +kernel
theorem dL_law_656 : decode cL_law 656 = .ok (.ireturn, 1) := by decide +kernel
theorem dL_law_657 : decode cL_law 657 = .ok (.aload_n 1, 1) := by decide +kernel
theorem dL_law_658 : decode cL_law 658 = .ok (.aload_n 0, 1) := by decide +kernel
theorem dL_law_659 : decode cL_law 659 = .ok (.iload_n 3, 1) := by decide +kernel
theorem dL_law_660 : decode cL_law 660 = .ok (.iconst 1, 1) := by decide +kernel
theorem dL_law_661 : decode cL_law 661 = .ok (.iadd, 1) := by decide +kernel
theorem dL_law_662 : decode cL_law 662 = .ok (.iaload, 1) := by decide +kernel
theorem dL_law_663 : decode cL_law 663 = .ok (.aload_n 0, 1) := by decide +kernel
theorem dL_law_664 : decode cL_law 664 = .ok (.iload_n 3, 1) := by decide +kernel
theorem dL_law_665 : decode cL_law 665 = .ok (.iconst 2, 1) := by decide +kernel
theorem dL_law_666 : decode cL_law 666 = .ok (.iadd, 1) := by decide +kernel
theorem dL_law_667 : decode cL_law 667 = .ok (.iaload, 1) := by decide +kernel
theorem dL_law_668 : decode cL_law 668 = .ok (.invokevirtual 89, 3) := by decide +kernel
theorem dL_law_671 : decode cL_law 671 = .ok (.aload_n 2, 1) := by decide +kernel
theorem dL_law_672 : decode cL_law 672 = .ok (.aload_n 0, 1) := by decide +kernel
theorem dL_law_673 : decode cL_law 673 = .ok (.iload_n 3, 1) := by decide +kernel
theorem dL_law_674 : decode cL_law 674 = .ok (.iconst 1, 1) := by decide +kernel
theorem dL_law_675 : decode cL_law 675 = .ok (.iadd, 1) := by decide +kernel
theorem dL_law_676 : decode cL_law 676 = .ok (.iaload, 1) := by decide +kernel
theorem dL_law_677 : decode cL_law 677 = .ok (.aload_n 0, 1) := by decide +kernel
theorem dL_law_678 : decode cL_law 678 = .ok (.iload_n 3, 1) := by decide +kernel
theorem dL_law_679 : decode cL_law 679 = .ok (.iconst 2, 1) := by decide +kernel
theorem dL_law_680 : decode cL_law 680 = .ok (.iadd, 1) := by decide +kernel
theorem dL_law_681 : decode cL_law 681 = .ok (.iaload, 1) := by decide +kernel
theorem dL_law_682 : decode cL_law 682 = .ok (.invokevirtual 92, 3) := by decide +kernel
theorem dL_law_685 : decode cL_law 685 = .ok (.if_icmp .eq 130, 3) := by decide +kernel
theorem dL_law_688 : decode cL_law 688 = .ok (.iconst 0, 1) := by decide +kernel
theorem dL_law_689 : decode cL_law 689 = .ok (.ireturn, 1) := by decide +kernel
theorem dL_law_690 : decode cL_law 690 = .ok (.aload_n 1, 1) := by decide +kernel
theorem dL_law_691 : decode cL_law 691 = .ok (.aload_n 0, 1) := by decide +kernel
theorem dL_law_692 : decode cL_law 692 = .ok (.iload_n 3, 1) := by decide +kernel
theorem dL_law_693 : decode cL_law 693 = .ok (.iconst 1, 1) := by decide +kernel
theorem dL_law_694 : decode cL_law 694 = .ok (.iadd, 1) := by decide +kernel
theorem dL_law_695 : decode cL_law 695 = .ok (.iaload, 1) := by decide +kernel
theorem dL_law_696 : decode cL_law 696 = .ok (.invokevirtual 93, 3) := by decide +kernel
theorem dL_law_699 : decode cL_law 699 = .ok (.aload_n 2, 1) := by decide +kernel
theorem dL_law_700 : decode cL_law 700 = .ok (.aload_n 0, 1) := by decide +kernel
theorem dL_law_701 : decode cL_law 701 = .ok (.iload_n 3, 1) := by decide +kernel
theorem dL_law_702 : decode cL_law 702 = .ok (.iconst 1, 1) := by decide +kernel
theorem dL_law_703 : decode cL_law 703 = .ok (.iadd, 1) := by decide +kernel
theorem dL_law_704 : decode cL_law 704 = .ok (.iaload, 1) := by decide +kernel
theorem dL_law_705 : decode cL_law 705 = .ok (.invokevirtual 96, 3) := by decide +kernel
theorem dL_law_708 : decode cL_law 708 = .ok (.if_icmp .eq 107, 3) := by decide +kernel
theorem dL_law_711 : decode cL_law 711 = .ok (.iconst 0, 1) := by decide +kernel
theorem dL_law_712 : decode cL_law 712 = .ok (.ireturn, 1) := by decide +kernel
theorem dL_law_713 : decode cL_law 713 = .ok (.aload_n 1, 1) := by decide +kernel
theorem dL_law_714 : decode cL_law 714 = .ok (.invokevirtual 97, 3) := by decide +kernel
theorem dL_law_717 : decode cL_law 717 = .ok (.aload_n 2, 1) := by decide +kernel
theorem dL_law_718 : decode cL_law 718 = .ok (.invokevirtual 100, 3) := by decide +kernel
theorem dL_law_721 : decode cL_law 721 = .ok (.if_icmp .eq 94, 3) := by decide +kernel
theorem dL_law_724 : decode cL_law 724 = .ok (.iconst 0, 1) := by decide +kernel
theorem dL_law_725 : decode cL_law 725 = .ok (.ireturn, 1) := by decide +kernel
theorem dL_law_726 : decode cL_law 726 = .ok (.aload_n 1, 1) := by decide +kernel
theorem dL_law_727 : decode cL_law 727 = .ok (.aload_n 0, 1) := by decide +kernel
theorem dL_law_728 : decode cL_law 728 = .ok (.iload_n 3, 1) := by decide +kernel
theorem dL_law_729 : decode cL_law 729 = .ok (.iconst 1, 1) := by decide +kernel
theorem dL_law_730 : decode cL_law 730 = .ok (.iadd, 1) := by decide +kernel
theorem dL_law_731 : decode cL_law 731 = .ok (.iaload, 1) := by decide +kernel
theorem dL_law_732 : decode cL_law 732 = .ok (.aload_n 0, 1) := by decide +kernel
theorem dL_law_733 : decode cL_law 733 = .ok (.iload_n 3, 1) := by decide +kernel
theorem dL_law_734 : decode cL_law 734 = .ok (.iconst 2, 1) := by decide +kernel
theorem dL_law_735 : decode cL_law 735 = .ok (.iadd, 1) := by decide +kernel
theorem dL_law_736 : decode cL_law 736 = .ok (.iaload, 1) := by decide +kernel
theorem dL_law_737 : decode cL_law 737 = .ok (.invokevirtual 101, 3) := by decide +kernel
theorem dL_law_740 : decode cL_law 740 = .ok (.aload_n 2, 1) := by decide +kernel
theorem dL_law_741 : decode cL_law 741 = .ok (.aload_n 0, 1) := by decide +kernel
theorem dL_law_742 : decode cL_law 742 = .ok (.iload_n 3, 1) := by decide +kernel
theorem dL_law_743 : decode cL_law 743 = .ok (.iconst 1, 1) := by decide +kernel
theorem dL_law_744 : decode cL_law 744 = .ok (.iadd, 1) := by decide +kernel
theorem dL_law_745 : decode cL_law 745 = .ok (.iaload, 1) := by decide +kernel
theorem dL_law_746 : decode cL_law 746 = .ok (.aload_n 0, 1) := by decide +kernel
theorem dL_law_747 : decode cL_law 747 = .ok (.iload_n 3, 1) := by decide +kernel
theorem dL_law_748 : decode cL_law 748 = .ok (.iconst 2, 1) := by decide +kernel
theorem dL_law_749 : decode cL_law 749 = .ok (.iadd, 1) := by decide +kernel
theorem dL_law_750 : decode cL_law 750 = .ok (.iaload, 1) := by decide +kernel
theorem dL_law_751 : decode cL_law 751 = .ok (.invokevirtual 104, 3) := by decide +kernel
theorem dL_law_754 : decode cL_law 754 = .ok (.if_icmp .eq 61, 3) := by decide +kernel
theorem dL_law_757 : decode cL_law 757 = .ok (.iconst 0, 1) := by decide +kernel
theorem dL_law_758 : decode cL_law 758 = .ok (.ireturn, 1) := by decide +kernel
theorem dL_law_759 : decode cL_law 759 = .ok (.aload_n 1, 1) := by decide +kernel
theorem dL_law_760 : decode cL_law 760 = .ok (.aload_n 0, 1) := by decide +kernel
theorem dL_law_761 : decode cL_law 761 = .ok (.iload_n 3, 1) := by decide +kernel
theorem dL_law_762 : decode cL_law 762 = .ok (.iconst 1, 1) := by decide +kernel
theorem dL_law_763 : decode cL_law 763 = .ok (.iadd, 1) := by decide +kernel
theorem dL_law_764 : decode cL_law 764 = .ok (.iaload, 1) := by decide +kernel
theorem dL_law_765 : decode cL_law 765 = .ok (.aload_n 0, 1) := by decide +kernel
theorem dL_law_766 : decode cL_law 766 = .ok (.iload_n 3, 1) := by decide +kernel
theorem dL_law_767 : decode cL_law 767 = .ok (.iconst 2, 1) := by decide +kernel
theorem dL_law_768 : decode cL_law 768 = .ok (.iadd, 1) := by decide +kernel
theorem dL_law_769 : decode cL_law 769 = .ok (.iaload, 1) := by decide +kernel
theorem dL_law_770 : decode cL_law 770 = .ok (.invokevirtual 105, 3) := by decide +kernel
theorem dL_law_773 : decode cL_law 773 = .ok (.aload_n 2, 1) := by decide +kernel
theorem dL_law_774 : decode cL_law 774 = .ok (.aload_n 0, 1) := by decide +kernel
theorem dL_law_775 : decode cL_law 775 = .ok (.iload_n 3, 1) := by decide +kernel
theorem dL_law_776 : decode cL_law 776 = .ok (.iconst 1, 1) := by decide +kernel
theorem dL_law_777 : decode cL_law 777 = .ok (.iadd, 1) := by decide +kernel
theorem dL_law_778 : decode cL_law 778 = .ok (.iaload, 1) := by decide +kernel
theorem dL_law_779 : decode cL_law 779 = .ok (.aload_n 0, 1) := by decide +kernel
theorem dL_law_780 : decode cL_law 780 = .ok (.iload_n 3, 1) := by decide +kernel
theorem dL_law_781 : decode cL_law 781 = .ok (.iconst 2, 1) := by decide +kernel
theorem dL_law_782 : decode cL_law 782 = .ok (.iadd, 1) := by decide +kernel
theorem dL_law_783 : decode cL_law 783 = .ok (.iaload, 1) := by decide +kernel
theorem dL_law_784 : decode cL_law 784 = .ok (.invokevirtual 108, 3) := by decide +kernel
theorem dL_law_787 : decode cL_law 787 = .ok (.if_icmp .eq 28, 3) := by decide +kernel
theorem dL_law_790 : decode cL_law 790 = .ok (.iconst 0, 1) := by decide +kernel
theorem dL_law_791 : decode cL_law 791 = .ok (.ireturn, 1) := by decide +kernel
theorem dL_law_792 : decode cL_law 792 = .ok (.aload_n 1, 1) := by decide +kernel
theorem dL_law_793 : decode cL_law 793 = .ok (.aload_n 0, 1) := by decide +kernel
theorem dL_law_794 : decode cL_law 794 = .ok (.iload_n 3, 1) := by decide +kernel
theorem dL_law_795 : decode cL_law 795 = .ok (.iconst 1, 1) := by decide +kernel
theorem dL_law_796 : decode cL_law 796 = .ok (.iadd, 1) := by decide +kernel
theorem dL_law_797 : decode cL_law 797 = .ok (.iaload, 1) := by decide +kernel
theorem dL_law_798 : decode cL_law 798 = .ok (.invokevirtual 109, 3) := by decide +kernel
theorem dL_law_801 : decode cL_law 801 = .ok (.aload_n 2, 1) := by decide +kernel
theorem dL_law_802 : decode cL_law 802 = .ok (.aload_n 0, 1) := by decide +kernel
theorem dL_law_803 : decode cL_law 803 = .ok (.iload_n 3, 1) := by decide +kernel
theorem dL_law_804 : decode cL_law 804 = .ok (.iconst 1, 1) := by decide +kernel
theorem dL_law_805 : decode cL_law 805 = .ok (.iadd, 1) := by decide +kernel
theorem dL_law_806 : decode cL_law 806 = .ok (.iaload, 1) := by decide +kernel
theorem dL_law_807 : decode cL_law 807 = .ok (.invokevirtual 112, 3) := by decide +kernel
theorem dL_law_810 : decode cL_law 810 = .ok (.if_icmp .eq 5, 3) := by decide +kernel
theorem dL_law_813 : decode cL_law 813 = .ok (.iconst 0, 1) := by decide +kernel
theorem dL_law_814 : decode cL_law 814 = .ok (.ireturn, 1) := by decide +kernel
theorem dL_law_815 : decode cL_law 815 = .ok (.iinc 3 6, 3) := by decide +kernel
theorem dL_law_818 : decode cL_law 818 = .ok (.goto (-800), 3) := by decide +kernel
theorem dL_law_821 : decode cL_law 821 = .ok (.iconst 1, 1) := by decide +kernel
theorem dL_law_822 : decode cL_law 822 = .ok (.ireturn, 1) := by decide +kernel
end
section
/-! The heap as a function from addresses to entries, and W over it: 'WW'. A method's contract over it: 'Sat'. -/
abbrev wE : Type := (FieldType × vp_A) ⊕ (Nat × (Nat → Value))
abbrev wH : Type := (Nat → Option wE) × Nat
abbrev wG : Type := Launch × va_G × Nat × (State → Prop)
/-- the words that a call may pay -/
def wTb : List Cond := lw_tbl.filter goodWord
abbrev wM : Type := MethodName × ByteArray × Nat × Option FieldType × Nat × Nat × Nat
abbrev wX : Type := Program × Env × Room × State × MethodId × Array Value × List Frame × Method × Code
def wCl : List vw_C := [(RX0, TX0, 12), (RX2, TX2, 7), (RX3, TX3, 14), (RX4, TX4, 7), (RX5, TX5, 7), (RX6, TX6, 10), (RX7, TX7, 7), (RX8, TX8, 10), (RX9, TX9, 72)]
/-- what is kept of the start beside the class's own cells: it speaks of old cells and of the tables alone -/
def wStab (G : wG) : Prop := ∀ U U2 : State, U.vm.Alike U2.vm → (∀ q, q < G.2.2.1 → U2.heap[q]? = U.heap[q]?) → G.2.2.2 U → G.2.2.2 U2
def wAt (D : va_G) (U : State) (H : Heap) (a : Nat) (e : wE) : Prop := match e with
  | .inl (ty, arr) => ∃ cA : ClassId, H[a]? = some (vp_cell cA arr) ∧ ArrOfT U cA ty ∧ va_RA U cA ty
  | .inr (ci, V) => ∃ r : vw_C, wCl[ci]? = some r ∧ t_OB a (D.1 ci) r.2.2 (D.2 ci) H V
def wRel (G : wG) (h : wH) (U : State) (H : Heap) : Prop := H.size = h.2 ∧ G.2.2.1 ≤ h.2 ∧ ∀ (a : Nat) (e : wE), h.1 a = some e → G.2.2.1 ≤ a ∧ wAt G.2.1 U H a e
abbrev wA (G : wG) : Nat → Prop := fun q => G.2.2.1 ≤ q
def wRm (lev mc ms : Nat) : Room := { frames := lev, cells := mc, slots := ms, locals := 34 * lev }
def wQc (G : wG) (Q : Option Value → wH → Prop) : Array Value → State → Outcome → State → Prop := fun _ st oc t => ∃ (v : Option Value) (h : wH), oc = .returned v ∧ Q v h ∧ wRel G h t t.heap ∧ va_F (wA G) st t
abbrev wWs (M : wM) : List Cond := Cond.code M.1 M.2.1 M.2.2.1 M.2.2.2.1 :: wTb
/-- the method M at these arguments and this heap returns, and Q holds of its answer and the heap behind it -/
def Sat (G : wG) (M : wM) (av : List Value) (h : wH) (Q : Option Value → wH → Prop) : Prop :=
  Met G.1 M.1 (wWs M) (wRm M.2.2.2.2.1 M.2.2.2.2.2.1 M.2.2.2.2.2.2) (va_Pc av (fun U => wRel G h U U.heap ∧ va_K G.2.1 wCl [] U ∧ G.2.2.2 U ∧ wStab G)) (wQc G Q) M.2.2.2.2.2.1 M.2.2.2.2.2.2 (wA G)
def wl : Nat → List (Option Value) → List (Nat × Value)
  | _, [] => []
  | i, none :: r => wl (i + 1) r
  | i, some v :: r => (i, v) :: wl (i + 1) r
def wOk (G : wG) (M : wM) (cc : ByteArray) (p : Program) (R : Room) (s : State) (m : MethodId) (args : Array Value) (meth : Method) (c : Code) : Prop :=
  p.tables.exec = Jvm.exec ∧ c.code = cc ∧ c.maxLocals = M.2.2.1 ∧ meth.sig.returnType = M.2.2.2.1 ∧ s.vm.findClass M.1.cls = some m.cls ∧ (∀ w ∈ wTb, w.before args s = true) ∧ meth.locks = false ∧ meth.name = M.1.name ∧ va_K G.2.1 wCl [] s ∧
  (M.2.2.2.2.1 ≤ R.frames ∧ 34 * M.2.2.2.2.1 ≤ R.locals ∧ R.cells = M.2.2.2.2.2.1 ∧ R.slots = M.2.2.2.2.2.2) ∧ G.2.2.1 ≤ s.heap.size ∧ G.2.2.2 s ∧ wStab G
/-- the machine at pc, with these locals, stack and heap, comes to Z -/
def WW (G : wG) (M : wM) (cc : ByteArray) (X : wX) (Z : State → Prop) (pc : Nat) (lv : List (Option Value)) (st : List Value) (h : wH) (k n : Nat) : Prop :=
  match X with
  | (p, e, R, s, m, args, below, meth, c) => wOk G M cc p R s m args meth c → ∀ (H : Heap) (locs : List Loc) (ls : Array Slot), wRel G h s H → va_S (wA G) s.heap H locs → lv_has ls M.2.2.1 (wl 0 lv) → W p G.1 e R s m args below meth c H locs k n Z (F0 m pc ls st)
theorem wl_mem : ∀ (lv : List (Option Value)) (j i : Nat) (v : Value), lv[i]? = some (some v) → (j + i, v) ∈ wl j lv
  | [], j, i, v, h => by simp at h
  | none :: r, j, 0, v, h => by simp at h
  | some w :: r, j, 0, v, h => by
    have e : w = v := by simpa using h
    subst e
    exact List.mem_cons_self
  | none :: r, j, i + 1, v, h => by
    have := wl_mem r (j + 1) i v (by simpa using h)
    rw [show j + (i + 1) = j + 1 + i by omega]
    exact this
  | some w :: r, j, i + 1, v, h => by
    have := wl_mem r (j + 1) i v (by simpa using h)
    rw [show j + (i + 1) = j + 1 + i by omega]
    exact List.mem_cons_of_mem _ this
theorem wl_of : ∀ (lv : List (Option Value)) (j : Nat) (q : Nat × Value), q ∈ wl j lv → ∃ i, q.1 = j + i ∧ lv[i]? = some (some q.2)
  | [], j, q, h => by simp [wl] at h
  | none :: r, j, q, h => by
    obtain ⟨i, h1, h2⟩ := wl_of r (j + 1) q h
    exact ⟨i + 1, by omega, by simpa using h2⟩
  | some w :: r, j, q, h => by
    rcases List.mem_cons.mp h with h | h
    · exact ⟨0, by rw [h]; rfl, by rw [h]; rfl⟩
    · obtain ⟨i, h1, h2⟩ := wl_of r (j + 1) q h
      exact ⟨i + 1, by omega, by simpa using h2⟩
theorem wl_at {ls : Array Slot} {nL : Nat} {lv : List (Option Value)} (hl : lv_has ls nL (wl 0 lv)) {i : Nat} {v : Value} (h : lv[i]? = some (some v)) : ls[i]? = some (.val v) := by
  have := hl.2.2 _ (wl_mem lv 0 i v h)
  simpa using this
def wst (lv : List (Option Value)) (i : Nat) : Bool := match i with
  | 0 => true
  | j + 1 => match lv[j]? with
    | some (some v) => v.category != 2
    | _ => true
theorem wl_set {ls : Array Slot} {nL : Nat} {lv : List (Option Value)} {i : Nat} {v : Value} (hw : wst lv i = true) (h : lv_has ls nL ((i, v) :: (wl 0 lv).filter (fun q => !(q.1 == i) && !(q.1 + 1 == i && q.2.category == 2)))) : lv_has ls nL (wl 0 (lv.set i (some v))) := by
  refine ⟨h.1, h.2.1, fun q hq => h.2.2 q ?_⟩
  obtain ⟨j, h1, h2⟩ := wl_of _ 0 q hq
  rw [Nat.zero_add] at h1
  by_cases hj : i = j
  · subst hj
    by_cases hb : i < lv.length
    · rw [List.getElem?_set_self hb] at h2
      have e : v = q.2 := by simpa using h2
      have : q = (i, v) := by rw [e, ← h1]
      rw [this]
      exact List.mem_cons_self
    · rw [List.getElem?_eq_none (by simp; omega)] at h2
      cases h2
  · rw [List.getElem?_set_ne hj] at h2
    have hm := wl_mem lv 0 j q.2 h2
    rw [Nat.zero_add] at hm
    refine List.mem_cons_of_mem _ (List.mem_filter.mpr ⟨by rw [show q = (j, q.2) by rw [← h1]]; exact hm, ?_⟩)
    have n1 : (q.1 == i) = false := by rw [h1]; simp; omega
    rw [n1]
    cases hc : (q.1 + 1 == i) with
    | false => rfl
    | true =>
      have e : i = j + 1 := by rw [h1] at hc; simp at hc; omega
      subst e
      simp only [wst, h2] at hw
      have : (q.2.category == 2) = false := by simpa [bne] using hw
      simp [this]
section WR
variable {G : wG} {M : wM} {cc : ByteArray} {X : wX} {Z : State → Prop} {pc : Nat} {lv : List (Option Value)} {st : List Value} {h : wH} {k n : Nat}

theorem ww_iconst {i : Int} {v : Int32} (hd : decode cc pc = .ok (.iconst i, 1)) (hv : Int32.ofInt i = v) (kk : WW G M cc X Z (pc + 1) lv (.int v :: st) h k n) : WW G M cc X Z pc lv st h k n := by
  obtain ⟨p, e, R, s, m, args, below, meth, c⟩ := X
  intro O H locs ls hR hS hl
  exact lv_iconst O.1 O.2.1 hd hv (kk O H locs ls hR hS hl)
theorem ww_bipush {i : Int} {v : Int32} (hd : decode cc pc = .ok (.bipush i, 2)) (hv : (Int8.ofInt i).toInt32 = v) (kk : WW G M cc X Z (pc + 2) lv (.int v :: st) h k n) : WW G M cc X Z pc lv st h k n := by
  obtain ⟨p, e, R, s, m, args, below, meth, c⟩ := X
  intro O H locs ls hR hS hl
  exact lv_bipush O.1 O.2.1 hd hv (kk O H locs ls hR hS hl)
theorem ww_sipush {i : Int} {v : Int32} (hd : decode cc pc = .ok (.sipush i, 3)) (hv : (Int16.ofInt i).toInt32 = v) (kk : WW G M cc X Z (pc + 3) lv (.int v :: st) h k n) : WW G M cc X Z pc lv st h k n := by
  obtain ⟨p, e, R, s, m, args, below, meth, c⟩ := X
  intro O H locs ls hR hS hl
  exact lv_sipush O.1 O.2.1 hd hv (kk O H locs ls hR hS hl)
theorem ww_lconst {i : Fin 2} {v : Int64} (hd : decode cc pc = .ok (.lconst i, 1)) (hv : Int64.ofNat (i : Nat) = v) (kk : WW G M cc X Z (pc + 1) lv (.long v :: st) h k n) : WW G M cc X Z pc lv st h k n := by
  obtain ⟨p, e, R, s, m, args, below, meth, c⟩ := X
  intro O H locs ls hR hS hl
  exact lv_lconst O.1 O.2.1 hd hv (kk O H locs ls hR hS hl)
theorem ww_ldc2 {i : Nat} {v : Int64} (hd : decode cc pc = .ok (.ldc2_w i, 3)) (hw : Cond.constantLong M.1.cls i v ∈ wTb) (kk : WW G M cc X Z (pc + 3) lv (.long v :: st) h k n) : WW G M cc X Z pc lv st h k n := by
  obtain ⟨p, e, R, s, m, args, below, meth, c⟩ := X
  intro O H locs ls hR hS hl
  exact lv_ldc2 O.1 O.2.1 O.2.2.2.2.1 (O.2.2.2.2.2.1 _ hw) hd (kk O H locs ls hR hS hl)
theorem ww_null (hd : decode cc pc = .ok (.aconst_null, 1)) (kk : WW G M cc X Z (pc + 1) lv (.null :: st) h k n) : WW G M cc X Z pc lv st h k n := by
  obtain ⟨p, e, R, s, m, args, below, meth, c⟩ := X
  intro O H locs ls hR hS hl
  exact lv_null O.1 O.2.1 hd (kk O H locs ls hR hS hl)
theorem ww_iload {i : Nat} {x : Int32} (hd : decode cc pc = .ok (.iload i, 2)) (hv : lv[i]? = some (some (.int x))) (kk : WW G M cc X Z (pc + 2) lv (.int x :: st) h k n) : WW G M cc X Z pc lv st h k n := by
  obtain ⟨p, e, R, s, m, args, below, meth, c⟩ := X
  intro O H locs ls hR hS hl
  exact lv_iload O.1 O.2.1 hd (wl_at hl hv) (kk O H locs ls hR hS hl)
theorem ww_iload_n {j : Fin 4} {i : Nat} {x : Int32} (hd : decode cc pc = .ok (.iload_n j, 1)) (hj : (j : Nat) = i) (hv : lv[i]? = some (some (.int x))) (kk : WW G M cc X Z (pc + 1) lv (.int x :: st) h k n) : WW G M cc X Z pc lv st h k n := by
  obtain ⟨p, e, R, s, m, args, below, meth, c⟩ := X
  intro O H locs ls hR hS hl
  exact lv_iload_n O.1 O.2.1 hd hj (wl_at hl hv) (kk O H locs ls hR hS hl)
theorem ww_lload {i : Nat} {x : Int64} (hd : decode cc pc = .ok (.lload i, 2)) (hv : lv[i]? = some (some (.long x))) (kk : WW G M cc X Z (pc + 2) lv (.long x :: st) h k n) : WW G M cc X Z pc lv st h k n := by
  obtain ⟨p, e, R, s, m, args, below, meth, c⟩ := X
  intro O H locs ls hR hS hl
  exact lv_lload O.1 O.2.1 hd (wl_at hl hv) (kk O H locs ls hR hS hl)
theorem ww_lload_n {j : Fin 4} {i : Nat} {x : Int64} (hd : decode cc pc = .ok (.lload_n j, 1)) (hj : (j : Nat) = i) (hv : lv[i]? = some (some (.long x))) (kk : WW G M cc X Z (pc + 1) lv (.long x :: st) h k n) : WW G M cc X Z pc lv st h k n := by
  obtain ⟨p, e, R, s, m, args, below, meth, c⟩ := X
  intro O H locs ls hR hS hl
  exact lv_lload_n O.1 O.2.1 hd hj (wl_at hl hv) (kk O H locs ls hR hS hl)
theorem ww_aload {i : Nat} {x : Nat} (hd : decode cc pc = .ok (.aload i, 2)) (hv : lv[i]? = some (some (.ref x))) (kk : WW G M cc X Z (pc + 2) lv (.ref x :: st) h k n) : WW G M cc X Z pc lv st h k n := by
  obtain ⟨p, e, R, s, m, args, below, meth, c⟩ := X
  intro O H locs ls hR hS hl
  exact lv_aload O.1 O.2.1 hd (wl_at hl hv) (kk O H locs ls hR hS hl)
theorem ww_aload_n {j : Fin 4} {i : Nat} {x : Nat} (hd : decode cc pc = .ok (.aload_n j, 1)) (hj : (j : Nat) = i) (hv : lv[i]? = some (some (.ref x))) (kk : WW G M cc X Z (pc + 1) lv (.ref x :: st) h k n) : WW G M cc X Z pc lv st h k n := by
  obtain ⟨p, e, R, s, m, args, below, meth, c⟩ := X
  intro O H locs ls hR hS hl
  exact lv_aload_n O.1 O.2.1 hd hj (wl_at hl hv) (kk O H locs ls hR hS hl)
theorem ww_aloadN {i : Nat} (hd : decode cc pc = .ok (.aload i, 2)) (hv : lv[i]? = some (some .null)) (kk : WW G M cc X Z (pc + 2) lv (.null :: st) h k n) : WW G M cc X Z pc lv st h k n := by
  obtain ⟨p, e, R, s, m, args, below, meth, c⟩ := X
  intro O H locs ls hR hS hl
  exact lv_aloadN O.1 O.2.1 hd (wl_at hl hv) (kk O H locs ls hR hS hl)
theorem ww_aload_nN {j : Fin 4} {i : Nat} (hd : decode cc pc = .ok (.aload_n j, 1)) (hj : (j : Nat) = i) (hv : lv[i]? = some (some .null)) (kk : WW G M cc X Z (pc + 1) lv (.null :: st) h k n) : WW G M cc X Z pc lv st h k n := by
  obtain ⟨p, e, R, s, m, args, below, meth, c⟩ := X
  intro O H locs ls hR hS hl
  exact lv_aload_nN O.1 O.2.1 hd hj (wl_at hl hv) (kk O H locs ls hR hS hl)
theorem ww_istore {i : Nat} {x : Int32} (hd : decode cc pc = .ok (.istore i, 2)) (hn : Nat.blt i M.2.2.1 = true) (hw : wst lv i = true) (kk : WW G M cc X Z (pc + 2) (lv.set i (some (.int x))) st h k n) : WW G M cc X Z pc lv ((.int x) :: st) h k n := by
  obtain ⟨p, e, R, s, m, args, below, meth, c⟩ := X
  intro O H locs ls hR hS hl
  exact lv_istore O.1 O.2.1 hd hl (Nat.blt_eq.mp hn) rfl (fun ls2 hl2 => kk O H locs ls2 hR hS (wl_set hw hl2))
theorem ww_istore_n {j : Fin 4} {i : Nat} {x : Int32} (hd : decode cc pc = .ok (.istore_n j, 1)) (hj : (j : Nat) = i) (hn : Nat.blt i M.2.2.1 = true) (hw : wst lv i = true) (kk : WW G M cc X Z (pc + 1) (lv.set i (some (.int x))) st h k n) : WW G M cc X Z pc lv ((.int x) :: st) h k n := by
  obtain ⟨p, e, R, s, m, args, below, meth, c⟩ := X
  intro O H locs ls hR hS hl
  exact lv_istore_n O.1 O.2.1 hd hj hl (Nat.blt_eq.mp hn) rfl (fun ls2 hl2 => kk O H locs ls2 hR hS (wl_set hw hl2))
theorem ww_astore {i : Nat} {x : Nat} (hd : decode cc pc = .ok (.astore i, 2)) (hn : Nat.blt i M.2.2.1 = true) (hw : wst lv i = true) (kk : WW G M cc X Z (pc + 2) (lv.set i (some (.ref x))) st h k n) : WW G M cc X Z pc lv ((.ref x) :: st) h k n := by
  obtain ⟨p, e, R, s, m, args, below, meth, c⟩ := X
  intro O H locs ls hR hS hl
  exact lv_astore O.1 O.2.1 hd hl (Nat.blt_eq.mp hn) rfl (fun ls2 hl2 => kk O H locs ls2 hR hS (wl_set hw hl2))
theorem ww_astore_n {j : Fin 4} {i : Nat} {x : Nat} (hd : decode cc pc = .ok (.astore_n j, 1)) (hj : (j : Nat) = i) (hn : Nat.blt i M.2.2.1 = true) (hw : wst lv i = true) (kk : WW G M cc X Z (pc + 1) (lv.set i (some (.ref x))) st h k n) : WW G M cc X Z pc lv ((.ref x) :: st) h k n := by
  obtain ⟨p, e, R, s, m, args, below, meth, c⟩ := X
  intro O H locs ls hR hS hl
  exact lv_astore_n O.1 O.2.1 hd hj hl (Nat.blt_eq.mp hn) rfl (fun ls2 hl2 => kk O H locs ls2 hR hS (wl_set hw hl2))
theorem ww_astoreN {i : Nat} (hd : decode cc pc = .ok (.astore i, 2)) (hn : Nat.blt i M.2.2.1 = true) (hw : wst lv i = true) (kk : WW G M cc X Z (pc + 2) (lv.set i (some .null)) st h k n) : WW G M cc X Z pc lv (.null :: st) h k n := by
  obtain ⟨p, e, R, s, m, args, below, meth, c⟩ := X
  intro O H locs ls hR hS hl
  exact lv_astoreN O.1 O.2.1 hd hl (Nat.blt_eq.mp hn) rfl (fun ls2 hl2 => kk O H locs ls2 hR hS (wl_set hw hl2))
theorem ww_astore_nN {j : Fin 4} {i : Nat} (hd : decode cc pc = .ok (.astore_n j, 1)) (hj : (j : Nat) = i) (hn : Nat.blt i M.2.2.1 = true) (hw : wst lv i = true) (kk : WW G M cc X Z (pc + 1) (lv.set i (some .null)) st h k n) : WW G M cc X Z pc lv (.null :: st) h k n := by
  obtain ⟨p, e, R, s, m, args, below, meth, c⟩ := X
  intro O H locs ls hR hS hl
  exact lv_astore_nN O.1 O.2.1 hd hj hl (Nat.blt_eq.mp hn) rfl (fun ls2 hl2 => kk O H locs ls2 hR hS (wl_set hw hl2))
theorem ww_iinc {i : Nat} {d : Int} {x v : Int32} (hd : decode cc pc = .ok (.iinc i d, 3)) (hx : lv[i]? = some (some (.int x))) (hv : x + Int32.ofInt d = v) (hn : Nat.blt i M.2.2.1 = true) (hw : wst lv i = true) (kk : WW G M cc X Z (pc + 3) (lv.set i (some (.int v))) st h k n) : WW G M cc X Z pc lv st h k n := by
  obtain ⟨p, e, R, s, m, args, below, meth, c⟩ := X
  intro O H locs ls hR hS hl
  obtain ⟨q, hq⟩ := List.getElem?_of_mem (wl_mem lv 0 i _ hx)
  rw [Nat.zero_add] at hq
  exact lv_iinc O.1 O.2.1 hd hl hq hv (Nat.blt_eq.mp hn) rfl (fun ls2 hl2 => kk O H locs ls2 hR hS (wl_set hw hl2))
theorem ww_iadd {x y : Int32} (hd : decode cc pc = .ok (.iadd, 1)) (kk : WW G M cc X Z (pc + 1) lv (.int (x + y) :: st) h k n) : WW G M cc X Z pc lv (.int y :: .int x :: st) h k n := by
  obtain ⟨p, e, R, s, m, args, below, meth, c⟩ := X
  intro O H locs ls hR hS hl
  exact lv_iadd O.1 O.2.1 hd (kk O H locs ls hR hS hl)
theorem ww_isub {x y : Int32} (hd : decode cc pc = .ok (.isub, 1)) (kk : WW G M cc X Z (pc + 1) lv (.int (x - y) :: st) h k n) : WW G M cc X Z pc lv (.int y :: .int x :: st) h k n := by
  obtain ⟨p, e, R, s, m, args, below, meth, c⟩ := X
  intro O H locs ls hR hS hl
  exact lv_isub O.1 O.2.1 hd (kk O H locs ls hR hS hl)
theorem ww_imul {x y : Int32} (hd : decode cc pc = .ok (.imul, 1)) (kk : WW G M cc X Z (pc + 1) lv (.int (x * y) :: st) h k n) : WW G M cc X Z pc lv (.int y :: .int x :: st) h k n := by
  obtain ⟨p, e, R, s, m, args, below, meth, c⟩ := X
  intro O H locs ls hR hS hl
  exact lv_imul O.1 O.2.1 hd (kk O H locs ls hR hS hl)
theorem ww_iand {x y : Int32} (hd : decode cc pc = .ok (.iand, 1)) (kk : WW G M cc X Z (pc + 1) lv (.int (x &&& y) :: st) h k n) : WW G M cc X Z pc lv (.int y :: .int x :: st) h k n := by
  obtain ⟨p, e, R, s, m, args, below, meth, c⟩ := X
  intro O H locs ls hR hS hl
  exact lv_iand O.1 O.2.1 hd (kk O H locs ls hR hS hl)
theorem ww_ior {x y : Int32} (hd : decode cc pc = .ok (.ior, 1)) (kk : WW G M cc X Z (pc + 1) lv (.int (x ||| y) :: st) h k n) : WW G M cc X Z pc lv (.int y :: .int x :: st) h k n := by
  obtain ⟨p, e, R, s, m, args, below, meth, c⟩ := X
  intro O H locs ls hR hS hl
  exact lv_ior O.1 O.2.1 hd (kk O H locs ls hR hS hl)
theorem ww_ishl {x y : Int32} (hd : decode cc pc = .ok (.ishl, 1)) (kk : WW G M cc X Z (pc + 1) lv (.int (x <<< (y &&& 31)) :: st) h k n) : WW G M cc X Z pc lv (.int y :: .int x :: st) h k n := by
  obtain ⟨p, e, R, s, m, args, below, meth, c⟩ := X
  intro O H locs ls hR hS hl
  exact lv_ishl O.1 O.2.1 hd (kk O H locs ls hR hS hl)
theorem ww_ishr {x y : Int32} (hd : decode cc pc = .ok (.ishr, 1)) (kk : WW G M cc X Z (pc + 1) lv (.int (x >>> (y &&& 31)) :: st) h k n) : WW G M cc X Z pc lv (.int y :: .int x :: st) h k n := by
  obtain ⟨p, e, R, s, m, args, below, meth, c⟩ := X
  intro O H locs ls hR hS hl
  exact lv_ishr O.1 O.2.1 hd (kk O H locs ls hR hS hl)
theorem ww_idiv {x y : Int32} (hd : decode cc pc = .ok (.idiv, 1)) (hne : ¬ y = 0) (kk : WW G M cc X Z (pc + 1) lv (.int (x / y) :: st) h k n) : WW G M cc X Z pc lv (.int y :: .int x :: st) h k n := by
  obtain ⟨p, e, R, s, m, args, below, meth, c⟩ := X
  intro O H locs ls hR hS hl
  exact lv_idiv O.1 O.2.1 hd hne (kk O H locs ls hR hS hl)
theorem ww_irem {x y : Int32} (hd : decode cc pc = .ok (.irem, 1)) (hne : ¬ y = 0) (kk : WW G M cc X Z (pc + 1) lv (.int (x - x / y * y) :: st) h k n) : WW G M cc X Z pc lv (.int y :: .int x :: st) h k n := by
  obtain ⟨p, e, R, s, m, args, below, meth, c⟩ := X
  intro O H locs ls hR hS hl
  exact lv_irem O.1 O.2.1 hd hne (kk O H locs ls hR hS hl)
theorem ww_iushr {x y : Int32} (hd : decode cc pc = .ok (.iushr, 1)) (kk : WW G M cc X Z (pc + 1) lv (.int (x.toUInt32 >>> (y.toUInt32 &&& Int32.toUInt32 31)).toInt32 :: st) h k n) : WW G M cc X Z pc lv (.int y :: .int x :: st) h k n := by
  obtain ⟨p, e, R, s, m, args, below, meth, c⟩ := X
  intro O H locs ls hR hS hl
  exact lv_iushr O.1 O.2.1 hd rfl (kk O H locs ls hR hS hl)
theorem ww_ladd {x y : Int64} (hd : decode cc pc = .ok (.ladd, 1)) (kk : WW G M cc X Z (pc + 1) lv (.long (x + y) :: st) h k n) : WW G M cc X Z pc lv (.long y :: .long x :: st) h k n := by
  obtain ⟨p, e, R, s, m, args, below, meth, c⟩ := X
  intro O H locs ls hR hS hl
  exact lv_ladd O.1 O.2.1 hd (kk O H locs ls hR hS hl)
theorem ww_lsub {x y : Int64} (hd : decode cc pc = .ok (.lsub, 1)) (kk : WW G M cc X Z (pc + 1) lv (.long (x - y) :: st) h k n) : WW G M cc X Z pc lv (.long y :: .long x :: st) h k n := by
  obtain ⟨p, e, R, s, m, args, below, meth, c⟩ := X
  intro O H locs ls hR hS hl
  exact lv_lsub O.1 O.2.1 hd (kk O H locs ls hR hS hl)
theorem ww_lmul {x y : Int64} (hd : decode cc pc = .ok (.lmul, 1)) (kk : WW G M cc X Z (pc + 1) lv (.long (x * y) :: st) h k n) : WW G M cc X Z pc lv (.long y :: .long x :: st) h k n := by
  obtain ⟨p, e, R, s, m, args, below, meth, c⟩ := X
  intro O H locs ls hR hS hl
  exact lv_lmul O.1 O.2.1 hd (kk O H locs ls hR hS hl)
theorem ww_lcmp {x y : Int64} (hd : decode cc pc = .ok (.lcmp, 1)) (kk : WW G M cc X Z (pc + 1) lv (.int (lg_cmp x y) :: st) h k n) : WW G M cc X Z pc lv (.long y :: .long x :: st) h k n := by
  obtain ⟨p, e, R, s, m, args, below, meth, c⟩ := X
  intro O H locs ls hR hS hl
  exact W.lcmp O.1 O.2.1 hd (kk O H locs ls hR hS hl)
theorem ww_i2l {x : Int32} (hd : decode cc pc = .ok (.i2l, 1)) (kk : WW G M cc X Z (pc + 1) lv (.long x.toInt64 :: st) h k n) : WW G M cc X Z pc lv (.int x :: st) h k n := by
  obtain ⟨p, e, R, s, m, args, below, meth, c⟩ := X
  intro O H locs ls hR hS hl
  exact lv_i2l O.1 O.2.1 hd rfl (kk O H locs ls hR hS hl)
theorem ww_l2i {x : Int64} (hd : decode cc pc = .ok (.l2i, 1)) (kk : WW G M cc X Z (pc + 1) lv (.int x.toInt32 :: st) h k n) : WW G M cc X Z pc lv (.long x :: st) h k n := by
  obtain ⟨p, e, R, s, m, args, below, meth, c⟩ := X
  intro O H locs ls hR hS hl
  exact lv_l2i O.1 O.2.1 hd rfl (kk O H locs ls hR hS hl)
theorem ww_i2b {x : Int32} (hd : decode cc pc = .ok (.i2b, 1)) (kk : WW G M cc X Z (pc + 1) lv (.int x.toInt8.toInt32 :: st) h k n) : WW G M cc X Z pc lv (.int x :: st) h k n := by
  obtain ⟨p, e, R, s, m, args, below, meth, c⟩ := X
  intro O H locs ls hR hS hl
  exact lv_i2b O.1 O.2.1 hd rfl (kk O H locs ls hR hS hl)
theorem ww_dup {v : Value} (hd : decode cc pc = .ok (.dup, 1)) (hc : v.category = 1) (kk : WW G M cc X Z (pc + 1) lv (v :: v :: st) h k n) : WW G M cc X Z pc lv (v :: st) h k n := by
  obtain ⟨p, e, R, s, m, args, below, meth, c⟩ := X
  intro O H locs ls hR hS hl
  exact lv_dup O.1 O.2.1 hd hc (kk O H locs ls hR hS hl)
theorem ww_pop {v : Value} (hd : decode cc pc = .ok (.pop, 1)) (hc : v.category = 1) (kk : WW G M cc X Z (pc + 1) lv st h k n) : WW G M cc X Z pc lv (v :: st) h k n := by
  obtain ⟨p, e, R, s, m, args, below, meth, c⟩ := X
  intro O H locs ls hR hS hl
  exact lv_pop O.1 O.2.1 hd hc (kk O H locs ls hR hS hl)
theorem ww_dup2 {v w : Value} (hd : decode cc pc = .ok (.dup2, 1)) (hc : v.category = 1) (hc2 : w.category = 1) (kk : WW G M cc X Z (pc + 1) lv (v :: w :: v :: w :: st) h k n) : WW G M cc X Z pc lv (v :: w :: st) h k n := by
  obtain ⟨p, e, R, s, m, args, below, meth, c⟩ := X
  intro O H locs ls hR hS hl
  exact lv_dup2_11 O.1 O.2.1 hd hc hc2 (kk O H locs ls hR hS hl)
theorem ww_goto {off : Int} {tgt : Nat} (hd : decode cc pc = .ok (.goto off, 3)) (ht : (pc : Int) + off = (tgt : Int)) (kk : WW G M cc X Z tgt lv st h k n) : WW G M cc X Z pc lv st h k n := by
  obtain ⟨p, e, R, s, m, args, below, meth, c⟩ := X
  intro O H locs ls hR hS hl
  exact lv_goto O.1 O.2.1 hd ht (kk O H locs ls hR hS hl)
theorem ww_if_eq {x : Int32} {off : Int} {tgt : Nat} (hd : decode cc pc = .ok (.ifCond .eq off, 3)) (ht : (pc : Int) + off = (tgt : Int)) (kt : x = 0 → WW G M cc X Z tgt lv st h k n) (kf : ¬ x = 0 → WW G M cc X Z (pc + 3) lv st h k n) : WW G M cc X Z pc lv (.int x :: st) h k n := by
  obtain ⟨p, e, R, s, m, args, below, meth, c⟩ := X
  intro O H locs ls hR hS hl
  exact lv_if_eq O.1 O.2.1 hd ht (fun q => kt q O H locs ls hR hS hl) (fun q => kf q O H locs ls hR hS hl)
theorem ww_icmp_eq {x y : Int32} {off : Int} {tgt : Nat} (hd : decode cc pc = .ok (.if_icmp .eq off, 3)) (ht : (pc : Int) + off = (tgt : Int)) (kt : x = y → WW G M cc X Z tgt lv st h k n) (kf : ¬ x = y → WW G M cc X Z (pc + 3) lv st h k n) : WW G M cc X Z pc lv (.int y :: .int x :: st) h k n := by
  obtain ⟨p, e, R, s, m, args, below, meth, c⟩ := X
  intro O H locs ls hR hS hl
  exact lv_icmp_eq O.1 O.2.1 hd ht (fun q => kt q O H locs ls hR hS hl) (fun q => kf q O H locs ls hR hS hl)
theorem ww_if_ne {x : Int32} {off : Int} {tgt : Nat} (hd : decode cc pc = .ok (.ifCond .ne off, 3)) (ht : (pc : Int) + off = (tgt : Int)) (kt : ¬ x = 0 → WW G M cc X Z tgt lv st h k n) (kf : x = 0 → WW G M cc X Z (pc + 3) lv st h k n) : WW G M cc X Z pc lv (.int x :: st) h k n := by
  obtain ⟨p, e, R, s, m, args, below, meth, c⟩ := X
  intro O H locs ls hR hS hl
  exact lv_if_ne O.1 O.2.1 hd ht (fun q => kt q O H locs ls hR hS hl) (fun q => kf q O H locs ls hR hS hl)
theorem ww_icmp_ne {x y : Int32} {off : Int} {tgt : Nat} (hd : decode cc pc = .ok (.if_icmp .ne off, 3)) (ht : (pc : Int) + off = (tgt : Int)) (kt : ¬ x = y → WW G M cc X Z tgt lv st h k n) (kf : x = y → WW G M cc X Z (pc + 3) lv st h k n) : WW G M cc X Z pc lv (.int y :: .int x :: st) h k n := by
  obtain ⟨p, e, R, s, m, args, below, meth, c⟩ := X
  intro O H locs ls hR hS hl
  exact lv_icmp_ne O.1 O.2.1 hd ht (fun q => kt q O H locs ls hR hS hl) (fun q => kf q O H locs ls hR hS hl)
theorem ww_if_lt {x : Int32} {off : Int} {tgt : Nat} (hd : decode cc pc = .ok (.ifCond .lt off, 3)) (ht : (pc : Int) + off = (tgt : Int)) (kt : x < 0 → WW G M cc X Z tgt lv st h k n) (kf : ¬ x < 0 → WW G M cc X Z (pc + 3) lv st h k n) : WW G M cc X Z pc lv (.int x :: st) h k n := by
  obtain ⟨p, e, R, s, m, args, below, meth, c⟩ := X
  intro O H locs ls hR hS hl
  exact lv_if_lt O.1 O.2.1 hd ht (fun q => kt q O H locs ls hR hS hl) (fun q => kf q O H locs ls hR hS hl)
theorem ww_icmp_lt {x y : Int32} {off : Int} {tgt : Nat} (hd : decode cc pc = .ok (.if_icmp .lt off, 3)) (ht : (pc : Int) + off = (tgt : Int)) (kt : x < y → WW G M cc X Z tgt lv st h k n) (kf : ¬ x < y → WW G M cc X Z (pc + 3) lv st h k n) : WW G M cc X Z pc lv (.int y :: .int x :: st) h k n := by
  obtain ⟨p, e, R, s, m, args, below, meth, c⟩ := X
  intro O H locs ls hR hS hl
  exact lv_icmp_lt O.1 O.2.1 hd ht (fun q => kt q O H locs ls hR hS hl) (fun q => kf q O H locs ls hR hS hl)
theorem ww_if_ge {x : Int32} {off : Int} {tgt : Nat} (hd : decode cc pc = .ok (.ifCond .ge off, 3)) (ht : (pc : Int) + off = (tgt : Int)) (kt : 0 ≤ x → WW G M cc X Z tgt lv st h k n) (kf : ¬ 0 ≤ x → WW G M cc X Z (pc + 3) lv st h k n) : WW G M cc X Z pc lv (.int x :: st) h k n := by
  obtain ⟨p, e, R, s, m, args, below, meth, c⟩ := X
  intro O H locs ls hR hS hl
  exact lv_if_ge O.1 O.2.1 hd ht (fun q => kt q O H locs ls hR hS hl) (fun q => kf q O H locs ls hR hS hl)
theorem ww_icmp_ge {x y : Int32} {off : Int} {tgt : Nat} (hd : decode cc pc = .ok (.if_icmp .ge off, 3)) (ht : (pc : Int) + off = (tgt : Int)) (kt : y ≤ x → WW G M cc X Z tgt lv st h k n) (kf : ¬ y ≤ x → WW G M cc X Z (pc + 3) lv st h k n) : WW G M cc X Z pc lv (.int y :: .int x :: st) h k n := by
  obtain ⟨p, e, R, s, m, args, below, meth, c⟩ := X
  intro O H locs ls hR hS hl
  exact lv_icmp_ge O.1 O.2.1 hd ht (fun q => kt q O H locs ls hR hS hl) (fun q => kf q O H locs ls hR hS hl)
theorem ww_if_gt {x : Int32} {off : Int} {tgt : Nat} (hd : decode cc pc = .ok (.ifCond .gt off, 3)) (ht : (pc : Int) + off = (tgt : Int)) (kt : 0 < x → WW G M cc X Z tgt lv st h k n) (kf : ¬ 0 < x → WW G M cc X Z (pc + 3) lv st h k n) : WW G M cc X Z pc lv (.int x :: st) h k n := by
  obtain ⟨p, e, R, s, m, args, below, meth, c⟩ := X
  intro O H locs ls hR hS hl
  exact lv_if_gt O.1 O.2.1 hd ht (fun q => kt q O H locs ls hR hS hl) (fun q => kf q O H locs ls hR hS hl)
theorem ww_icmp_gt {x y : Int32} {off : Int} {tgt : Nat} (hd : decode cc pc = .ok (.if_icmp .gt off, 3)) (ht : (pc : Int) + off = (tgt : Int)) (kt : y < x → WW G M cc X Z tgt lv st h k n) (kf : ¬ y < x → WW G M cc X Z (pc + 3) lv st h k n) : WW G M cc X Z pc lv (.int y :: .int x :: st) h k n := by
  obtain ⟨p, e, R, s, m, args, below, meth, c⟩ := X
  intro O H locs ls hR hS hl
  exact lv_icmp_gt O.1 O.2.1 hd ht (fun q => kt q O H locs ls hR hS hl) (fun q => kf q O H locs ls hR hS hl)
theorem ww_if_le {x : Int32} {off : Int} {tgt : Nat} (hd : decode cc pc = .ok (.ifCond .le off, 3)) (ht : (pc : Int) + off = (tgt : Int)) (kt : x ≤ 0 → WW G M cc X Z tgt lv st h k n) (kf : ¬ x ≤ 0 → WW G M cc X Z (pc + 3) lv st h k n) : WW G M cc X Z pc lv (.int x :: st) h k n := by
  obtain ⟨p, e, R, s, m, args, below, meth, c⟩ := X
  intro O H locs ls hR hS hl
  exact lv_if_le O.1 O.2.1 hd ht (fun q => kt q O H locs ls hR hS hl) (fun q => kf q O H locs ls hR hS hl)
theorem ww_icmp_le {x y : Int32} {off : Int} {tgt : Nat} (hd : decode cc pc = .ok (.if_icmp .le off, 3)) (ht : (pc : Int) + off = (tgt : Int)) (kt : x ≤ y → WW G M cc X Z tgt lv st h k n) (kf : ¬ x ≤ y → WW G M cc X Z (pc + 3) lv st h k n) : WW G M cc X Z pc lv (.int y :: .int x :: st) h k n := by
  obtain ⟨p, e, R, s, m, args, below, meth, c⟩ := X
  intro O H locs ls hR hS hl
  exact lv_icmp_le O.1 O.2.1 hd ht (fun q => kt q O H locs ls hR hS hl) (fun q => kf q O H locs ls hR hS hl)
theorem ww_ifnonnull {x : Nat} {off : Int} {tgt : Nat} (hd : decode cc pc = .ok (.ifnonnull off, 3)) (ht : (pc : Int) + off = (tgt : Int)) (kk : WW G M cc X Z tgt lv st h k n) : WW G M cc X Z pc lv (.ref x :: st) h k n := by
  obtain ⟨p, e, R, s, m, args, below, meth, c⟩ := X
  intro O H locs ls hR hS hl
  exact lv_ifnonnull O.1 O.2.1 hd ht (kk O H locs ls hR hS hl)
theorem ww_ifnonnullN {off : Int} (hd : decode cc pc = .ok (.ifnonnull off, 3)) (kk : WW G M cc X Z (pc + 3) lv st h k n) : WW G M cc X Z pc lv (.null :: st) h k n := by
  obtain ⟨p, e, R, s, m, args, below, meth, c⟩ := X
  intro O H locs ls hR hS hl
  exact lv_ifnonnullN O.1 O.2.1 hd (kk O H locs ls hR hS hl)
theorem ww_ifnull {x : Nat} {off : Int} (hd : decode cc pc = .ok (.ifnull off, 3)) (kk : WW G M cc X Z (pc + 3) lv st h k n) : WW G M cc X Z pc lv (.ref x :: st) h k n := by
  obtain ⟨p, e, R, s, m, args, below, meth, c⟩ := X
  intro O H locs ls hR hS hl
  exact lv_ifnull O.1 O.2.1 hd (kk O H locs ls hR hS hl)
theorem ww_ifnullN {off : Int} {tgt : Nat} (hd : decode cc pc = .ok (.ifnull off, 3)) (ht : (pc : Int) + off = (tgt : Int)) (kk : WW G M cc X Z tgt lv st h k n) : WW G M cc X Z pc lv (.null :: st) h k n := by
  obtain ⟨p, e, R, s, m, args, below, meth, c⟩ := X
  intro O H locs ls hR hS hl
  exact lv_ifnullN O.1 O.2.1 hd ht (kk O H locs ls hR hS hl)
end WR
end
section
/-! Rows of WW that touch the heap; returns; calls; a contract out of a walk. -/
theorem wAt_kept {D : va_G} {U : State} {H H1 : Heap} {a : Nat} {e : wE} (h : wAt D U H a e) (hq : H1[a]? = H[a]?) : wAt D U H1 a e := by
  rcases e with ⟨ty, arr⟩ | ⟨ci, V⟩
  · obtain ⟨cA, h1, h2⟩ := h
    exact ⟨cA, by rw [hq]; exact h1, h2⟩
  · obtain ⟨r, h1, h2⟩ := h
    exact ⟨r, h1, h2.kept hq⟩
theorem wAt_moved {D : va_G} {U U2 : State} {H : Heap} {a : Nat} {e : wE} (hvm : U.vm.Alike U2.vm) (h : wAt D U H a e) : wAt D U2 H a e := by
  rcases e with ⟨ty, arr⟩ | ⟨ci, V⟩
  · obtain ⟨cA, h1, h2, h3⟩ := h
    exact ⟨cA, h1, arrOfT_moved hvm h2, va_RA.moved hvm h3⟩
  · exact h
theorem wAt_lt {D : va_G} {U : State} {H : Heap} {a : Nat} {e : wE} (h : wAt D U H a e) : a < H.size := by
  rcases e with ⟨ty, arr⟩ | ⟨ci, V⟩
  · obtain ⟨cA, h1, h2⟩ := h
    exact (Array.getElem?_eq_some_iff.mp h1).1
  · obtain ⟨r, h1, cell, h2, h3⟩ := h
    exact (Array.getElem?_eq_some_iff.mp h2).1
theorem wRel.moved {G : wG} {h : wH} {U U2 : State} {H : Heap} (hvm : U.vm.Alike U2.vm) (hR : wRel G h U H) : wRel G h U2 H := ⟨hR.1, hR.2.1, fun a e he => ⟨(hR.2.2 a e he).1, wAt_moved hvm (hR.2.2 a e he).2⟩⟩
theorem wRel.put {G : wG} {h : wH} {U : State} {H H1 : Heap} {a : Nat} {e : wE} (hR : wRel G h U H) (hb : G.2.2.1 ≤ a) (hz : H1.size = H.size) (ho : ∀ q, q ≠ a → H1[q]? = H[q]?) (hn : wAt G.2.1 U H1 a e) : wRel G (va_up h.1 a (some e), h.2) U H1 := by
  refine ⟨by rw [hz]; exact hR.1, hR.2.1, fun b f hf => ?_⟩
  by_cases hq : b = a
  · subst hq
    have : some e = some f := by simpa [va_up] using hf
    cases this
    exact ⟨hb, hn⟩
  · have hf' : h.1 b = some f := by simpa [va_up, hq] using hf
    exact ⟨(hR.2.2 b f hf').1, wAt_kept (hR.2.2 b f hf').2 (ho b hq)⟩
theorem wRel.push {G : wG} {h : wH} {U : State} {H H1 : Heap} {e : wE} (hR : wRel G h U H) (hz : H1.size = h.2 + 1) (ho : ∀ q, q < h.2 → H1[q]? = H[q]?) (hn : wAt G.2.1 U H1 h.2 e) : wRel G (va_up h.1 h.2 (some e), h.2 + 1) U H1 := by
  refine ⟨hz, Nat.le_succ_of_le hR.2.1, fun b f hf => ?_⟩
  by_cases hq : b = h.2
  · subst hq
    have : some e = some f := by simpa [va_up] using hf
    cases this
    exact ⟨hR.2.1, hn⟩
  · have hf' : h.1 b = some f := by simpa [va_up, hq] using hf
    have hl := wAt_lt (hR.2.2 b f hf').2
    exact ⟨(hR.2.2 b f hf').1, wAt_kept (hR.2.2 b f hf').2 (ho b (by rw [← hR.1]; exact hl))⟩
/-- what the tables say of a class -/
def wCk (C : String) (T : u_T) (N : Nat) : Prop := (∀ w ∈ u_ws C T N, w ∈ wTb) ∧ (∃ ty0 : Nat → FieldType, ∀ k, k < N → parseFieldDescriptor (T k).2.2.1 = some (ty0 k)) ∧ (∀ a, a < N → ∀ b, b < N → a ≠ b → (T a).2.1 ≠ (T b).2.1)
/-- the pool index of class own names the field kf of the class ci, of this type, final or not -/
def wFl (own : String) (index ci kf : Nat) (ty : FieldType) (fin : Bool) : Prop := ∃ (C : String) (T : u_T) (N : Nat), wCl[ci]? = some (C, T, N) ∧ kf < N ∧ wCk C T N ∧ (T kf).1 = C ∧ Cond.fieldLink own index C (T kf).2.1 (T kf).2.2.1 ∈ wTb ∧ parseFieldDescriptor (T kf).2.2.1 = some ty ∧ (T kf).2.2.2 = fin
section WHp
variable {G : wG} {M : wM} {cc : ByteArray} {X : wX} {Z : State → Prop} {pc : Nat} {lv : List (Option Value)} {st : List Value} {h : wH} {k n : Nat}
theorem ww_get {a ci kf index : Nat} {V : Nat → Value} {ty : FieldType} {fin : Bool} (hd : decode cc pc = .ok (.getfield index, 3)) (L : wFl M.1.cls index ci kf ty fin) (ha : h.1 a = some (.inr (ci, V))) (kk : WW G M cc X Z (pc + 3) lv (V kf :: st) h k n) : WW G M cc X Z pc lv (.ref a :: st) h k n := by
  obtain ⟨p, e, R, s, m, args, below, meth, c⟩ := X
  intro O H locs ls hR hS hl
  have O' := O
  obtain ⟨hx, hb, hml, hr, hown, hts, hlk, hnm, hK, hroom, hB, hE, hSt⟩ := O
  obtain ⟨C, T, N, hc, hk, hCk, hT, hlink, -, -⟩ := L
  obtain ⟨-, r, h1, cell, q1, q2, q3, q4⟩ := hR.2.2 a _ ha
  have hr' : r = (C, T, N) := Option.some.inj (h1.symm.trans hc)
  subst hr'
  obtain ⟨hSl, hfc, kC, hkC, hkind⟩ := hK.1 ci _ hc
  obtain ⟨cf, kf', fi, f, hi, hsl⟩ := hSl kf hk
  have hi2 := hi
  rw [hT] at hi2
  refine W.getf hx hb hown (hts _ hlink) hi2 (u_facts hfc hkC (u_lays hts hCk.1 hk) hi).1 q1 (by rw [q3]; exact fun h => by cases h) (v := V kf) ?_ rfl rfl hd (kk O' H locs ls hR hS hl)
  rw [hsl, q4 kf hk]
theorem w_apart {s : State} {args : Array Value} {D : va_G} {C : String} {T : u_T} {N ci : Nat} (hts : ∀ w ∈ wTb, w.before args s = true) (hCk : wCk C T N) (hK : va_K D wCl [] s) (hc : wCl[ci]? = some (C, T, N)) : ∀ x y, x < N → y < N → x ≠ y → (D.2 ci) x ≠ (D.2 ci) y := by
  obtain ⟨h1, ⟨ty0, h2⟩, h3⟩ := hCk
  exact va_apart (own := C) hts h1 ty0 h2 h3 hK hc
theorem ww_put {a ci kf index : Nat} {V : Nat → Value} {ty : FieldType} {v : Value} (hd : decode cc pc = .ok (.putfield index, 3)) (L : wFl M.1.cls index ci kf ty false) (hn : narrow ty v = v) (hfit : fits ty v = true) (ha : h.1 a = some (.inr (ci, V))) (kk : WW G M cc X Z (pc + 3) lv st (va_up h.1 a (some (.inr (ci, updV V kf v))), h.2) k n) : WW G M cc X Z pc lv (v :: .ref a :: st) h k n := by
  obtain ⟨p, e, R, s, m, args, below, meth, c⟩ := X
  intro O H locs ls hR hS hl
  have O' := O
  obtain ⟨hx, hb, hml, hr, hown, hts, hlk, hnm, hK, hroom, hB, hE, hSt⟩ := O
  obtain ⟨C, T, N, hc, hk, hCk, hT, hlink, hdsc, hfin⟩ := L
  have hap := w_apart hts hCk hK hc
  obtain ⟨hBa, r, h1, cell, q1, q2, q3, q4⟩ := hR.2.2 a _ ha
  have hr' : r = (C, T, N) := Option.some.inj (h1.symm.trans hc)
  subst hr'
  obtain ⟨hSl, hfc, kC, hkC, hkind⟩ := hK.1 ci _ hc
  obtain ⟨cf, kf', fi, f, hi, hsl⟩ := hSl kf hk
  have hlay := hts _ (hCk.1 _ (u_in_lay hk))
  unfold u_lay at hlay
  rw [if_neg (by rw [hfin]; decide)] at hlay
  have hst := (u_facts hfc hkC (u_lays hts hCk.1 hk) hi).1
  have h6 := u_store hfc hkC hkind hlay hi hdsc hn hfit
  have hi2 := hi
  rw [hT] at hi2
  refine W.putK hx hb (f := f) ⟨hown, hts _ hlink, ⟨_, _, _, hi2⟩, hst⟩ (by rw [q2]; exact h6) q1 q3 (by rw [hsl]; exact k2_hasslot (q4 kf hk)) rfl rfl hd fun H' e1 e2 e3 => ?_
  rw [hsl] at e1 ⊢
  exact kk O' H' _ ls (hR.put hBa e2 e3 ⟨_, hc, _, e1, q2, q3, t_set q4 hap hk v⟩) (hS.put e2 e3 hBa) hl
theorem ww_putF {a ci kf index : Nat} {V : Nat → Value} {ty : FieldType} {v : Value} {C : String} {T : u_T} {N : Nat} (hd : decode cc pc = .ok (.putfield index, 3)) (hC : wCl[ci]? = some (C, T, N)) (hCo : C = M.1.cls) (L : wFl M.1.cls index ci kf ty true) (hin2 : M.1.name = "<init>") (hn : narrow ty v = v) (hfit : fits ty v = true) (ha : h.1 a = some (.inr (ci, V))) (kk : WW G M cc X Z (pc + 3) lv st (va_up h.1 a (some (.inr (ci, updV V kf v))), h.2) k n) : WW G M cc X Z pc lv (v :: .ref a :: st) h k n := by
  obtain ⟨p, e, R, s, m, args, below, meth, c⟩ := X
  intro O H locs ls hR hS hl
  have O' := O
  obtain ⟨hx, hb, hml, hr, hown, hts, hlk, hnm, hK, hroom, hB, hE, hSt⟩ := O
  obtain ⟨C', T', N', hc, hk, hCk, hT, hlink, hdsc, hfin⟩ := L
  have hq : (C', T', N') = (C, T, N) := Option.some.inj (hc.symm.trans hC)
  cases hq
  have hap := w_apart hts hCk hK hc
  obtain ⟨hBa, r, h1, cell, q1, q2, q3, q4⟩ := hR.2.2 a _ ha
  have hr' : r = (C, T, N) := Option.some.inj (h1.symm.trans hc)
  subst hr'
  obtain ⟨hSl, hfc, kC, hkC, hkind⟩ := hK.1 ci _ hc
  obtain ⟨cf, kf', fi, f, hi, hsl⟩ := hSl kf hk
  have hlay := hts _ (hCk.1 _ (u_in_lay hk))
  unfold u_lay at hlay
  rw [if_pos hfin] at hlay
  have hst := (u_facts hfc hkC (u_lays hts hCk.1 hk) hi).1
  have hcf : m.cls = cf := by
    obtain ⟨_, _, c', _, _, _, -, -, hf', -, -, -, hown2, -⟩ := Cond.laysFinal_spec hlay
    have e1 : c' = cf := by have := hi.symm.trans hf'; simp at this; exact this.1.symm
    rw [hT, hCo] at hown2
    rw [← e1]; exact Option.some.inj (hown.symm.trans hown2)
  have h6 := u_fits hfc hkC hkind (Or.inr hlay) hi hdsc hn hfit
  have hi2 := hi
  rw [hT] at hi2
  refine W.putFinK hx hb hown (hts _ hlink) hi2 hst hcf (hnm.trans hin2) (by rw [q2]; exact h6) q1 q3 (by rw [hsl]; exact k2_hasslot (q4 kf hk)) rfl rfl hd fun H' e1 e2 e3 => ?_
  rw [hsl] at e1 ⊢
  exact kk O' H' _ ls (hR.put hBa e2 e3 ⟨_, hc, _, e1, q2, q3, t_set q4 hap hk v⟩) (hS.put e2 e3 hBa) hl
end WHp
theorem w_ix {i : Int32} {j nn : Nat} (hi : i = nI j) (hj : j < nn) (hb : nn < 2 ^ 31) : vp_in i nn ∧ i.toNatClampNeg = j := by
  subst hi
  exact ⟨vp_in_nI hj hb, nI_clamp (Nat.lt_trans hj hb)⟩
section WArr
variable {G : wG} {M : wM} {cc : ByteArray} {X : wX} {Z : State → Prop} {pc : Nat} {lv : List (Option Value)} {st : List Value} {h : wH} {k n : Nat}
theorem ww_iald {a j nn : Nat} {i : Int32} {f : Nat → Int32} (hd : decode cc pc = .ok (.iaload, 1)) (ha : h.1 a = some (.inl (.int, nn, .inl f))) (hi : i = nI j) (hj : j < nn) (hb31 : nn < 2 ^ 31) (kk : WW G M cc X Z (pc + 1) lv (.int (f j) :: st) h k n) : WW G M cc X Z pc lv (.int i :: .ref a :: st) h k n := by
  obtain ⟨p, e, R, s, m, args, below, meth, c⟩ := X
  intro O H locs ls hR hS hl
  obtain ⟨hv, hcl⟩ := w_ix hi hj hb31
  obtain ⟨-, cA, q1, q2, q3⟩ := hR.2.2 a _ ha
  refine W.iald (v := .int (f j)) O.1 O.2.1 q1 (q2 nn (fun q => .int (f q))) (fun q => by cases q) (by show ¬ (i < 0 ∨ (arrV _ _ _).slots.size ≤ _); rw [arrV_size]; exact hv) (by show (arrV _ _ _).slots[_]? = _; rw [hcl, arrV_read _ _ hj]) rfl rfl hd (kk O H locs ls hR hS hl)
theorem ww_bald {a j nn : Nat} {i : Int32} {f : Nat → Int32} (hd : decode cc pc = .ok (.baload, 1)) (ha : h.1 a = some (.inl (.byte, nn, .inl f))) (hi : i = nI j) (hj : j < nn) (hb31 : nn < 2 ^ 31) (kk : WW G M cc X Z (pc + 1) lv (.int (f j) :: st) h k n) : WW G M cc X Z pc lv (.int i :: .ref a :: st) h k n := by
  obtain ⟨p, e, R, s, m, args, below, meth, c⟩ := X
  intro O H locs ls hR hS hl
  obtain ⟨hv, hcl⟩ := w_ix hi hj hb31
  obtain ⟨-, cA, q1, q2, q3⟩ := hR.2.2 a _ ha
  refine W.bald (v := .int (f j)) O.1 O.2.1 q1 (q2 nn (fun q => .int (f q))) (fun q => by cases q) (by show ¬ (i < 0 ∨ (arrV _ _ _).slots.size ≤ _); rw [arrV_size]; exact hv) (by show (arrV _ _ _).slots[_]? = _; rw [hcl, arrV_read _ _ hj]) rfl rfl hd (kk O H locs ls hR hS hl)
theorem ww_zald {a j nn : Nat} {i : Int32} {f : Nat → Int32} (hd : decode cc pc = .ok (.baload, 1)) (ha : h.1 a = some (.inl (.boolean, nn, .inl f))) (hi : i = nI j) (hj : j < nn) (hb31 : nn < 2 ^ 31) (kk : WW G M cc X Z (pc + 1) lv (.int (f j) :: st) h k n) : WW G M cc X Z pc lv (.int i :: .ref a :: st) h k n := by
  obtain ⟨p, e, R, s, m, args, below, meth, c⟩ := X
  intro O H locs ls hR hS hl
  obtain ⟨hv, hcl⟩ := w_ix hi hj hb31
  obtain ⟨-, cA, q1, q2, q3⟩ := hR.2.2 a _ ha
  refine W.zald (v := .int (f j)) O.1 O.2.1 q1 (q2 nn (fun q => .int (f q))) (fun q => by cases q) (by show ¬ (i < 0 ∨ (arrV _ _ _).slots.size ≤ _); rw [arrV_size]; exact hv) (by show (arrV _ _ _).slots[_]? = _; rw [hcl, arrV_read _ _ hj]) rfl rfl hd (kk O H locs ls hR hS hl)
theorem ww_lald {a j nn : Nat} {i : Int32} {f : Nat → Int64} (hd : decode cc pc = .ok (.laload, 1)) (ha : h.1 a = some (.inl (.long, nn, .inr (.inl f)))) (hi : i = nI j) (hj : j < nn) (hb31 : nn < 2 ^ 31) (kk : WW G M cc X Z (pc + 1) lv (.long (f j) :: st) h k n) : WW G M cc X Z pc lv (.int i :: .ref a :: st) h k n := by
  obtain ⟨p, e, R, s, m, args, below, meth, c⟩ := X
  intro O H locs ls hR hS hl
  obtain ⟨hv, hcl⟩ := w_ix hi hj hb31
  obtain ⟨-, cA, q1, q2, q3⟩ := hR.2.2 a _ ha
  refine W.lald (v := .long (f j)) O.1 O.2.1 q1 (q2 nn (fun q => .long (f q))) (fun q => by cases q) (by show ¬ (i < 0 ∨ (arrV _ _ _).slots.size ≤ _); rw [arrV_size]; exact hv) (by show (arrV _ _ _).slots[_]? = _; rw [hcl, arrV_read _ _ hj]) rfl rfl hd (kk O H locs ls hR hS hl)
theorem ww_aald {a j nn : Nat} {i : Int32} {Cn : String} {f : Nat → Option Nat} (hd : decode cc pc = .ok (.aaload, 1)) (ha : h.1 a = some (.inl (.object Cn, nn, .inr (.inr (.inr (.inr f)))))) (hi : i = nI j) (hj : j < nn) (hb31 : nn < 2 ^ 31) (kk : WW G M cc X Z (pc + 1) lv (va_rf (f j) :: st) h k n) : WW G M cc X Z pc lv (.int i :: .ref a :: st) h k n := by
  obtain ⟨p, e, R, s, m, args, below, meth, c⟩ := X
  intro O H locs ls hR hS hl
  obtain ⟨hv, hcl⟩ := w_ix hi hj hb31
  obtain ⟨-, cA, q1, q2, q3⟩ := hR.2.2 a _ ha
  refine W.aald (v := va_rf (f j)) (ty := .object Cn) O.1 O.2.1 q1 (q2 nn (fun q => va_rf (f q))) rfl (fun q => by cases q) (by show ¬ (i < 0 ∨ (arrV _ _ _).slots.size ≤ _); rw [arrV_size]; exact hv) (by show (arrV _ _ _).slots[_]? = _; rw [hcl, arrV_read _ _ hj]) rfl rfl hd (kk O H locs ls hR hS hl)
theorem ww_iast {a j nn : Nat} {i : Int32} {x : Int32} {f : Nat → Int32} (hd : decode cc pc = .ok (.iastore, 1)) (ha : h.1 a = some (.inl (.int, nn, .inl f))) (hi : i = nI j) (hj : j < nn) (hb31 : nn < 2 ^ 31) (kk : WW G M cc X Z (pc + 1) lv st (va_up h.1 a (some (.inl (.int, nn, .inl (upd f j x)))), h.2) k n) : WW G M cc X Z pc lv (.int x :: .int i :: .ref a :: st) h k n := by
  obtain ⟨p, e, R, s, m, args, below, meth, c⟩ := X
  intro O H locs ls hR hS hl
  obtain ⟨hv, hcl⟩ := w_ix hi hj hb31
  obtain ⟨hBa, cA, q1, q2, q3⟩ := hR.2.2 a _ ha
  refine W.iast O.1 O.2.1 q1 (q2 nn (fun q => .int (f q))) (fun q => by cases q) (by show ¬ (i < 0 ∨ (arrV _ _ _).slots.size ≤ _); rw [arrV_size]; exact hv) rfl rfl hd fun H1 e1 z oq => ?_
  refine kk O H1 _ ls (hR.put hBa z oq ⟨cA, ?_, q2, q3⟩) (hS.put z oq hBa) hl
  rw [e1, vp_cell_i, vp_cell_i, arrV_store, hcl]
  congr 2
  funext q
  by_cases hq : q = j
  · subst hq
    simp [updV, upd]
    try rfl
  · simp [updV, upd, hq]
theorem ww_bast {a j nn : Nat} {i : Int32} {x : Int32} {f : Nat → Int32} (hd : decode cc pc = .ok (.bastore, 1)) (ha : h.1 a = some (.inl (.byte, nn, .inl f))) (hi : i = nI j) (hj : j < nn) (hb31 : nn < 2 ^ 31) (kk : WW G M cc X Z (pc + 1) lv st (va_up h.1 a (some (.inl (.byte, nn, .inl (upd f j (vp_nar .byte x))))), h.2) k n) : WW G M cc X Z pc lv (.int x :: .int i :: .ref a :: st) h k n := by
  obtain ⟨p, e, R, s, m, args, below, meth, c⟩ := X
  intro O H locs ls hR hS hl
  obtain ⟨hv, hcl⟩ := w_ix hi hj hb31
  obtain ⟨hBa, cA, q1, q2, q3⟩ := hR.2.2 a _ ha
  refine W.bast O.1 O.2.1 q1 (q2 nn (fun q => .int (f q))) (fun q => by cases q) (by show ¬ (i < 0 ∨ (arrV _ _ _).slots.size ≤ _); rw [arrV_size]; exact hv) rfl rfl hd fun H1 e1 z oq => ?_
  refine kk O H1 _ ls (hR.put hBa z oq ⟨cA, ?_, q2, q3⟩) (hS.put z oq hBa) hl
  rw [e1, vp_cell_i, vp_cell_i, arrV_store, hcl]
  congr 2
  funext q
  by_cases hq : q = j
  · subst hq
    simp [updV, upd, vp_nar]
    try rfl
  · simp [updV, upd, vp_nar, hq]
theorem ww_zast {a j nn : Nat} {i : Int32} {x : Int32} {f : Nat → Int32} (hd : decode cc pc = .ok (.bastore, 1)) (ha : h.1 a = some (.inl (.boolean, nn, .inl f))) (hi : i = nI j) (hj : j < nn) (hb31 : nn < 2 ^ 31) (kk : WW G M cc X Z (pc + 1) lv st (va_up h.1 a (some (.inl (.boolean, nn, .inl (upd f j (vp_nar .boolean x))))), h.2) k n) : WW G M cc X Z pc lv (.int x :: .int i :: .ref a :: st) h k n := by
  obtain ⟨p, e, R, s, m, args, below, meth, c⟩ := X
  intro O H locs ls hR hS hl
  obtain ⟨hv, hcl⟩ := w_ix hi hj hb31
  obtain ⟨hBa, cA, q1, q2, q3⟩ := hR.2.2 a _ ha
  refine W.zast O.1 O.2.1 q1 (q2 nn (fun q => .int (f q))) (fun q => by cases q) (by show ¬ (i < 0 ∨ (arrV _ _ _).slots.size ≤ _); rw [arrV_size]; exact hv) rfl rfl hd fun H1 e1 z oq => ?_
  refine kk O H1 _ ls (hR.put hBa z oq ⟨cA, ?_, q2, q3⟩) (hS.put z oq hBa) hl
  rw [e1, vp_cell_i, vp_cell_i, arrV_store, hcl]
  congr 2
  funext q
  by_cases hq : q = j
  · subst hq
    simp [updV, upd, vp_nar]
    try rfl
  · simp [updV, upd, vp_nar, hq]
theorem ww_last {a j nn : Nat} {i : Int32} {x : Int64} {f : Nat → Int64} (hd : decode cc pc = .ok (.lastore, 1)) (ha : h.1 a = some (.inl (.long, nn, .inr (.inl f)))) (hi : i = nI j) (hj : j < nn) (hb31 : nn < 2 ^ 31) (kk : WW G M cc X Z (pc + 1) lv st (va_up h.1 a (some (.inl (.long, nn, .inr (.inl (vp_updL f j x))))), h.2) k n) : WW G M cc X Z pc lv (.long x :: .int i :: .ref a :: st) h k n := by
  obtain ⟨p, e, R, s, m, args, below, meth, c⟩ := X
  intro O H locs ls hR hS hl
  obtain ⟨hv, hcl⟩ := w_ix hi hj hb31
  obtain ⟨hBa, cA, q1, q2, q3⟩ := hR.2.2 a _ ha
  refine W.last O.1 O.2.1 q1 (q2 nn (fun q => .long (f q))) (fun q => by cases q) (by show ¬ (i < 0 ∨ (arrV _ _ _).slots.size ≤ _); rw [arrV_size]; exact hv) rfl rfl hd fun H1 e1 z oq => ?_
  refine kk O H1 _ ls (hR.put hBa z oq ⟨cA, ?_, q2, q3⟩) (hS.put z oq hBa) hl
  rw [e1, vp_cell_l, vp_cell_l, arrV_store, hcl]
  congr 2
  funext q
  by_cases hq : q = j
  · subst hq
    simp [updV, vp_updL]
    try rfl
  · simp [updV, vp_updL, hq]
theorem ww_alen {a : Nat} {ty : FieldType} {arr : vp_A} {v : Int32} (hd : decode cc pc = .ok (.arraylength, 1)) (ha : h.1 a = some (.inl (ty, arr))) (hv : Int32.ofNat arr.1 = v) (kk : WW G M cc X Z (pc + 1) lv (.int v :: st) h k n) : WW G M cc X Z pc lv (.ref a :: st) h k n := by
  obtain ⟨p, e, R, s, m, args, below, meth, c⟩ := X
  intro O H locs ls hR hS hl
  obtain ⟨hBa, cA, q1, q2, q3⟩ := hR.2.2 a _ ha
  subst hv
  exact va_alen (D := G.2.1) (cl := wCl) (tys := [(cA, ty)]) (ws := [(a, .inl (cA, arr))]) O.1 O.2.1 ⟨O.2.2.2.2.2.2.2.2.1.1, fun j q hq => by
    have : j = 0 := by have := (List.getElem?_eq_some_iff.mp hq).1; simp at this; omega
    subst this; cases hq; exact ⟨q2, q3⟩⟩ (fun j q hq => by
    have : j = 0 := by have := (List.getElem?_eq_some_iff.mp hq).1; simp at this; omega
    subst this; cases hq; exact q1) 0 0 rfl rfl rfl hd (kk O H locs ls hR hS hl)
theorem ww_newa {atype : ArrayType} {ty : FieldType} {len : Int32} {N' : Nat} {a0 : vp_A} (hd : decode cc pc = .ok (.newarray atype, 2)) (hty : newarray.typeOf atype = ty) (hty2 : ∀ Cn, ty ≠ .object Cn) (hw : Cond.arrayClass ty ∈ wTb) (ha : ∀ cA : ClassId, vp_cell cA a0 = arrV cA N' (fun _ => defaultValue ty)) (hn0 : ¬ len < 0) (hN : len.toNatClampNeg = N') (hbytes : N' * componentBytes ty ≤ 536870912) (hk : k + 1 ≤ M.2.2.2.2.2.1) (hns : n + N' ≤ M.2.2.2.2.2.2) (kk : WW G M cc X Z (pc + 2) lv (.ref h.2 :: st) (va_up h.1 h.2 (some (.inl (ty, a0))), h.2 + 1) (k + 1) (n + N')) : WW G M cc X Z pc lv (.int len :: st) h k n := by
  obtain ⟨p, e, R, s, m, args, below, meth, c⟩ := X
  intro O H locs ls hR hS hl
  have O' := O
  obtain ⟨hx, hb, hml, hr, hown, hts, hlk, hnm, hK, ⟨hf, hlo, hrc, hrs⟩, hB, hE, hSt⟩ := O
  subst hty
  refine va_newaK hx hb (hts _ hw) rfl hd rfl hn0 hN hbytes (by rw [hrc]; exact hk) (by rw [hrs]; exact hns) hR.1 fun H1 cA e1 z1 o1 hAr hNm => ?_
  refine kk O' H1 locs ls (hR.push z1 o1 ⟨cA, ?_, hAr, ?_⟩) ⟨Nat.le_trans hS.1 (by rw [hR.1, z1]; omega), fun q h1 h2 => (o1 q (by rw [← hR.1]; exact Nat.lt_of_lt_of_le h1 hS.1)).trans (hS.2.1 q h1 h2), hS.2.2⟩ hl
  · rw [e1, ha]
  · cases atype <;> exact hNm
def wNw (own : String) (index ci : Nat) (ty0 : Nat → FieldType) (N : Nat) : Prop := ∃ (Cn : String) (T : u_T), wCl[ci]? = some (Cn, T, N) ∧ wCk Cn T N ∧ (∀ k, k < N → parseFieldDescriptor (T k).2.2.1 = some (ty0 k)) ∧ Cond.classLink own index Cn ∈ wTb ∧ Cond.instantiable Cn N ∈ wTb ∧ Cond.initialized Cn ∈ wTb
theorem ww_new {index ci N : Nat} {ty0 : Nat → FieldType} (hd : decode cc pc = .ok (.new index, 3)) (L : wNw M.1.cls index ci ty0 N) (hk : k + 1 ≤ M.2.2.2.2.2.1) (hns : n + N ≤ M.2.2.2.2.2.2) (kk : WW G M cc X Z (pc + 3) lv (.ref h.2 :: st) (va_up h.1 h.2 (some (.inr (ci, fun j => defaultValue (ty0 j)))), h.2 + 1) (k + 1) (n + N)) : WW G M cc X Z pc lv st h k n := by
  obtain ⟨p, e, R, s, m, args, below, meth, c⟩ := X
  intro O H locs ls hR hS hl
  have O' := O
  obtain ⟨hx, hb, hml, hr, hown, hts, hlk, hnm, hK, ⟨hf, hlo, hrc, hrs⟩, hB, hE, hSt⟩ := O
  obtain ⟨Cn, T, hc, hCk, hty, w1, w2, w3⟩ := L
  have hKn := hK.1 ci _ hc
  refine W.newcK hx hb hown (hts _ w1) (hts _ w2) (hts _ w3) rfl hd (by rw [hrc]; exact hk) (by rw [hrs]; exact hns) hKn.2.1 hR.1 fun H1 kC hkC e1 z1 o1 => ?_
  exact kk O' H1 locs ls (hR.push z1 o1 ⟨_, hc, u_born ty0 hts hCk.1 hKn hkC e1 hty⟩) ⟨Nat.le_trans hS.1 (by rw [hR.1, z1]; omega), fun q h1 h2 => (o1 q (by rw [← hR.1]; exact Nat.lt_of_lt_of_le h1 hS.1)).trans (hS.2.1 q h1 h2), hS.2.2⟩ hl
end WArr
end
section
/-! Returns, calls, a contract out of a walk. -/
def wZ (G : wG) (M : wM) (X : wX) (Q : Option Value → wH → Prop) : State → Prop := match X with
  | (_, _, _, s, _, args, below, _, _) => MQ below (wQc G Q) args s M.2.2.2.2.2.1 M.2.2.2.2.2.2 (wA G)
section WRet
variable {G : wG} {M : wM} {cc : ByteArray} {X : wX} {Z : State → Prop} {Q : Option Value → wH → Prop} {pc : Nat} {lv : List (Option Value)} {st : List Value} {h : wH} {k n : Nat}
theorem w_post {s t : State} {H : Heap} {locs : List Loc} {args : Array Value} {v : Option Value} (hq : Q v h) (hR : wRel G h s H) (hS : va_S (wA G) s.heap H locs) (ht : t.heap = H) (hW : s.WarmedH t.vm) : wQc G Q args s (.returned v) t :=
  ⟨v, h, rfl, hq, by rw [ht]; exact hR.moved hW.alike, hS.F ht⟩
theorem ww_iret {v : Int32} (hd : decode cc pc = .ok (.ireturn, 1)) (hret : M.2.2.2.1 = some .int) (hq : Q (some (.int v)) h) (hk : k ≤ M.2.2.2.2.2.1) (hn : n ≤ M.2.2.2.2.2.2) : WW G M cc X (wZ G M X Q) pc lv [.int v] h k n := by
  obtain ⟨p, e, R, s, m, args, below, meth, c⟩ := X
  intro O H locs ls hR hS hl
  obtain ⟨hx, hb, hml, hr, hown, hts, hlk, hnm, hK, hroom, hB, hE, hSt⟩ := O
  refine W.widen hk hn ?_
  exact W.iret hx hb (hr.trans hret) (fun t ht hW => w_post hq hR hS ht hW) hS.2.2 hd
theorem w_nb {v : Int32} (h : v = 0 ∨ v = 1) : narrow .boolean (.int v) = .int v := by
  rcases h with h | h <;> subst h <;> rfl
theorem w_fb {v : Int32} (h : v = 0 ∨ v = 1) : fits .boolean (.int v) = true := by
  rcases h with h | h <;> subst h <;> decide
theorem ww_zret {v : Int32} (hd : decode cc pc = .ok (.ireturn, 1)) (hret : M.2.2.2.1 = some .boolean) (hz : v = 0 ∨ v = 1) (hq : Q (some (.int v)) h) (hk : k ≤ M.2.2.2.2.2.1) (hn : n ≤ M.2.2.2.2.2.2) : WW G M cc X (wZ G M X Q) pc lv [.int v] h k n := by
  obtain ⟨p, e, R, s, m, args, below, meth, c⟩ := X
  intro O H locs ls hR hS hl
  obtain ⟨hx, hb, hml, hr, hown, hts, hlk, hnm, hK, hroom, hB, hE, hSt⟩ := O
  refine W.widen hk hn ?_
  exact W.zret hx hb (hr.trans hret) (w_nb hz) (fun t ht hW => w_post hq hR hS ht hW) hS.2.2 hd
theorem ww_vret (hd : decode cc pc = .ok (.return_, 1)) (hret : M.2.2.2.1 = none) (hq : Q none h) (hk : k ≤ M.2.2.2.2.2.1) (hn : n ≤ M.2.2.2.2.2.2) : WW G M cc X (wZ G M X Q) pc lv [] h k n := by
  obtain ⟨p, e, R, s, m, args, below, meth, c⟩ := X
  intro O H locs ls hR hS hl
  obtain ⟨hx, hb, hml, hr, hown, hts, hlk, hnm, hK, hroom, hB, hE, hSt⟩ := O
  refine W.widen hk hn ?_
  exact W.vret hx hb (hr.trans hret) (fun t ht hW => w_post hq hR hS ht hW) hS.2.2 hd
theorem ww_aret {v : Value} {Cn : String} (hd : decode cc pc = .ok (.areturn, 1)) (hret : M.2.2.2.1 = some (.object Cn)) (hv : v = .null ∨ ∃ a, v = .ref a) (hq : Q (some v) h) (hk : k ≤ M.2.2.2.2.2.1) (hn : n ≤ M.2.2.2.2.2.2) : WW G M cc X (wZ G M X Q) pc lv [v] h k n := by
  obtain ⟨p, e, R, s, m, args, below, meth, c⟩ := X
  intro O H locs ls hR hS hl
  obtain ⟨hx, hb, hml, hr, hown, hts, hlk, hnm, hK, hroom, hB, hE, hSt⟩ := O
  refine W.widen hk hn ?_
  exact W.aret hx hb (hr.trans hret) (Or.inl ⟨_, rfl⟩) hv (fun t ht hW => w_post hq hR hS ht hW) hS.2.2 hd
end WRet
theorem Sat.of {G : wG} {y : MethodName} {cc : ByteArray} {maxL lev mc ms : Nat} {ret : Option FieldType} {av : List Value} {h : wH} {Q : Option Value → wH → Prop} (hy : plainName y.cls = true) (lv0 : List (Option Value)) (hlv : wl 0 lv0 = lv_args 0 av) (hlen : Nat.ble (lg_sl av).length maxL = true) (body : ∀ X : wX, WW G (y, cc, maxL, ret, lev, mc, ms) cc X (wZ G (y, cc, maxL, ret, lev, mc, ms) X Q) 0 lv0 [] h 0 0) : Sat G (y, cc, maxL, ret, lev, mc, ms) av h Q := by
  refine Met.ofW (cc := cc) (maxL := maxL) (ret := ret) hy rfl ?_
  intro p e s m args below meth c s₁ B hml hv
  obtain ⟨rfl, hR, hK, hE, hSt⟩ := hv
  have hts0 := atoms_spec (ws := wWs (y, cc, maxL, ret, lev, mc, ms)) B.pre
  have hl := lv_entry av (n := maxL) (Nat.le_of_ble_eq_true hlen)
  rw [lg_entry_eq]
  generalize (lg_sl av ++ List.replicate (maxL - (lg_sl av).length) Slot.unset).toArray = ls at hl ⊢
  rw [← hlv] at hl
  exact body (p, e, _, s, m, av.toArray, below, meth, c) ⟨B.exec, B.bytes, hml, B.returns, findClass_of_methodNamed B.named, fun w hw => hts0 w (List.mem_cons_of_mem _ hw), B.notSynchronized, (name_of_methodNamed B.named B.method).1, hK, ⟨Nat.le_refl _, Nat.le_refl _, rfl, rfl⟩, by rw [hR.1]; exact hR.2.1, hE, hSt⟩ s.heap [] ls hR va_S.rf hl
theorem Sat.mono {G : wG} {M : wM} {av : List Value} {h : wH} {Q Q' : Option Value → wH → Prop} (hs : Sat G M av h Q) (hq : ∀ v h', Q v h' → Q' v h') : Sat G M av h Q' := by
  intro p e
  intro a1 a2 a3 s m args below a4 a5 a6 a7
  obtain ⟨k, o, b1, b2, b3, ⟨v, h', c1, c2, c3⟩, b5⟩ := hs p e a1 a2 a3 s m args below a4 a5 a6 a7
  exact ⟨k, o, b1, b2, b3, ⟨v, h', c1, hq v h' c2, c3⟩, b5⟩
theorem tbl_good : wTb.all goodWord = true := List.all_eq_true.mpr fun w hw => (List.mem_filter.mp hw).2
theorem wGood {M : wM} (hc : Cond.code M.1 M.2.1 M.2.2.1 M.2.2.2.1 ∈ wTb) : GoodIn wTb (wWs M) := by
  intro w hw
  have hm : w ∈ wTb := by
    rcases List.mem_cons.mp hw with h | h
    · rw [h]; exact hc
    · exact h
  exact ⟨hm, good_of_word (List.all_eq_true.mp tbl_good w hm)⟩
/-- the words of a call: the pool index of class own names the method M of na parameters -/
def wCb (own : String) (index : Nat) (M : wM) (na : Nat) : Prop := Cond.methodLink own index M.1 ∈ wTb ∧ Cond.initialized M.1.cls ∈ wTb ∧ Cond.code M.1 M.2.1 M.2.2.1 M.2.2.2.1 ∈ wTb ∧ (M.1.cls ≠ "java/lang/invoke/MethodHandle" ∧ M.1.cls ≠ "java/lang/invoke/VarHandle" ∧ (parseMethodDescriptor M.1.desc).map (fun d => d.parameters.length) = some na)
def wCv (own : String) (index : Nat) (M : wM) (na : Nat) : Prop := wCb own index M na ∧ Cond.instanceMethod M.1 ∈ wTb ∧ Cond.selects M.1.cls M.1 M.1 ∈ wTb
def wCs (own : String) (index : Nat) (M : wM) (na : Nat) : Prop := wCb own index M na ∧ Cond.static M.1 ∈ wTb
def wCi (own : String) (index : Nat) (M : wM) (na : Nat) : Prop := wCb own index M na ∧ M.1.name = "<init>" ∧ Cond.instanceMethod M.1 ∈ wTb ∧ M.2.2.2.1 = none
theorem w_blind {G : wG} {h : wH} {av : List Value} : FrameBlind (va_Pc av (fun U => wRel G h U U.heap ∧ va_K G.2.1 wCl [] U ∧ G.2.2.2 U ∧ wStab G)) := by
  intro a U g mk q
  exact ⟨q.1, wRel.moved (U := U) (U2 := U.calling g mk a) (Vm.Alike.refl U.vm) q.2.1, va_K.moved (u := U) (U := U.calling g mk a) (Vm.Alike.refl U.vm) q.2.2.1, q.2.2.2.2 U (U.calling g mk a) (Vm.Alike.refl U.vm) (fun _ _ => rfl) q.2.2.2.1, q.2.2.2.2⟩
theorem w_callB {G : wG} {M Mc : wM} {own : String} {index na : Nat} {R : Room} {s : State} {args : Array Value} (hts : ∀ w ∈ wTb, w.before args s = true) (L : wCb own index Mc na) (hlev : Mc.2.2.2.2.1 + 1 ≤ M.2.2.2.2.1) (hmx : Mc.2.2.1 ≤ 15) (hf : M.2.2.2.2.1 ≤ R.frames) (hlo : 34 * M.2.2.2.2.1 ≤ R.locals) : CallB R s args own index Mc.1 Mc.2.1 Mc.2.2.1 Mc.2.2.2.1 (wWs Mc) (wRm Mc.2.2.2.2.1 Mc.2.2.2.2.2.1 Mc.2.2.2.2.2.2) Mc.2.2.2.2.2.1 Mc.2.2.2.2.2.2 na :=
  callB_of na hts (wGood L.2.2.1) rfl rfl rfl (hts _ L.2.1) (hts _ L.1) L.2.2.2 ⟨by show Mc.2.2.2.2.1 + 1 ≤ _; omega, by show 8 + (Mc.2.2.1 + 11) + 34 * Mc.2.2.2.2.1 ≤ _; omega⟩
theorem w_keep {G : wG} {s U : State} {H : Heap} {locs : List Loc} (hSt : wStab G) (hE : G.2.2.2 s) (hB : G.2.2.1 ≤ s.heap.size) (hS : va_S (wA G) s.heap H locs) (hU : U.heap = H) (hvm : s.vm.Alike U.vm) : G.2.2.2 U := hSt s U hvm (fun q hq => by rw [hU]; exact hS.2.1 q (Nat.lt_of_lt_of_le hq hB) (Nat.not_le.mpr hq)) hE
section WCall
variable {G : wG} {M Mc : wM} {cc : ByteArray} {X : wX} {Z : State → Prop} {Q : Option Value → wH → Prop} {pc : Nat} {lv : List (Option Value)} {st st0 As : List Value} {h : wH} {k n index na : Nat}
theorem w_after {p : Program} {e : Env} {R : Room} {s : State} {m : MethodId} {args : Array Value} {below : List Frame} {meth : Method} {c : Code} {H : Heap} {locs : List Loc} {ls : Array Slot} {a : Array Value} (O : wOk G M cc p R s m args meth c) (hR : wRel G h s H) (hS : va_S (wA G) s.heap H locs) (hl : lv_has ls M.2.2.1 (wl 0 lv))
    (hr : va_Run p G.1 e R s m args below meth c H locs k n Mc.2.2.2.2.2.1 Mc.2.2.2.2.2.2 (F0 m pc ls st0) st (wQc G Q a) (wA G))
    (kk : ∀ v h', Q v h' → WW G M cc (p, e, R, s, m, args, below, meth, c) Z (pc + 3) lv (v.toList ++ st) h' (k + Mc.2.2.2.2.2.1) (n + Mc.2.2.2.2.2.2)) : W p G.1 e R s m args below meth c H locs k n Z (F0 m pc ls st0) := by
  intro T hT Xs
  obtain ⟨v, st₀, t, T', L, h0, X', hL, e1, e2, ⟨v', h', hv, hq, hrel, hF⟩, go⟩ := hr T hT Xs
  cases hv
  have hal : s.vm.Alike t.vm := by rw [← e2]; exact X'.warmed.alike
  have hz : H.size ≤ t.heap.size := by rw [← h0]; exact hF.1
  obtain ⟨t2, a1, b1⟩ := kk v h' hq O T'.heap (locs ++ L) ls (by rw [e1]; exact hrel.moved hal.symm) ⟨by rw [e1]; exact Nat.le_trans hS.1 hz, fun q h1 h2 => by
    rw [e1, hF.2 q (by rw [h0]; exact Nat.lt_of_lt_of_le h1 hS.1) h2, h0]
    exact hS.2.1 q h1 h2, fun q hq => by
      rcases List.mem_append.mp hq with h | h
      · exact hS.2.2 q h
      · exact hL q h⟩ hl T' rfl X'
  exact ⟨t2, go t2 a1, b1⟩
theorem ww_callV {b ci : Nat} {V : Nat → Value} {r : vw_C} (hd : decode cc pc = .ok (.invokevirtual index, 3)) (L : wCv M.1.cls index Mc na) (ha : h.1 b = some (.inr (ci, V))) (hci : wCl[ci]? = some r) (hcl : r.1 = Mc.1.cls) (hs : Sat G Mc (.ref b :: As) h Q) (hst : st0 = As.reverse ++ .ref b :: st) (hna : As.length = na) (hlev : Nat.ble (Mc.2.2.2.2.1 + 1) M.2.2.2.2.1 = true) (hmx : Nat.ble Mc.2.2.1 15 = true) (hro : Nat.ble (st.map fun v => v.category).sum 8 = true) (hk : k + Mc.2.2.2.2.2.1 ≤ M.2.2.2.2.2.1) (hn : n + Mc.2.2.2.2.2.2 ≤ M.2.2.2.2.2.2)
    (kk : ∀ v h', Q v h' → WW G M cc X Z (pc + 3) lv (v.toList ++ st) h' (k + Mc.2.2.2.2.2.1) (n + Mc.2.2.2.2.2.2)) : WW G M cc X Z pc lv st0 h k n := by
  obtain ⟨p, e, R, s, m, args, below, meth, c⟩ := X
  intro O H locs ls hR hS hl
  have O' := O
  obtain ⟨hx, hb, hml, hr, hown, hts, hlk, hnm, hK, ⟨hf, hlo, hrc, hrs⟩, hB, hE, hSt⟩ := O
  obtain ⟨hBa, r', h1, cell, q1, q2, q3, q4⟩ := hR.2.2 b _ ha
  have hrr : r' = r := Option.some.inj (h1.symm.trans hci)
  subst hrr
  refine w_after O' hR hS hl (va_runV (As := As) (rest := st) (nL := M.2.2.1) (own := M.1.cls) (Ts := wTb) (C := Mc.1.cls) (index := index) (n := na) ⟨hx, hb, hml, hown, hts⟩ hs ⟨w_callB (G := G) (M := M) hts L.1 (Nat.le_of_ble_eq_true hlev) (Nat.le_of_ble_eq_true hmx) hf hlo, hts _ L.2.1, hts _ L.2.2⟩ ⟨w_blind, ⟨cell, q1, by rw [q3]; rfl, by rw [q2, ← hcl]; exact (hK.1 ci _ hci).2.1⟩, fun U hU hW => ⟨rfl, by rw [hU]; exact hR.moved hW.alike, va_K.moved hW.alike hK, w_keep hSt hE hB hS hU hW.alike, hSt⟩⟩ rfl hna hl.1 hst (lv_room (Nat.le_of_ble_eq_true hro)) hd ⟨by rw [hrc]; exact hk, by rw [hrs]; exact hn⟩) kk
theorem ww_callS (hd : decode cc pc = .ok (.invokestatic index, 3)) (L : wCs M.1.cls index Mc na) (hs : Sat G Mc As h Q) (hst : st0 = As.reverse ++ st) (hna : As.length = na) (hlev : Nat.ble (Mc.2.2.2.2.1 + 1) M.2.2.2.2.1 = true) (hmx : Nat.ble Mc.2.2.1 15 = true) (hro : Nat.ble (st.map fun v => v.category).sum 8 = true) (hk : k + Mc.2.2.2.2.2.1 ≤ M.2.2.2.2.2.1) (hn : n + Mc.2.2.2.2.2.2 ≤ M.2.2.2.2.2.2)
    (kk : ∀ v h', Q v h' → WW G M cc X Z (pc + 3) lv (v.toList ++ st) h' (k + Mc.2.2.2.2.2.1) (n + Mc.2.2.2.2.2.2)) : WW G M cc X Z pc lv st0 h k n := by
  obtain ⟨p, e, R, s, m, args, below, meth, c⟩ := X
  intro O H locs ls hR hS hl
  have O' := O
  obtain ⟨hx, hb, hml, hr, hown, hts, hlk, hnm, hK, ⟨hf, hlo, hrc, hrs⟩, hB, hE, hSt⟩ := O
  refine w_after O' hR hS hl (va_runS (As := As) (rest := st) (nL := M.2.2.1) (own := M.1.cls) (Ts := wTb) (index := index) (n := na) ⟨hx, hb, hml, hown, hts⟩ hs ⟨w_callB (G := G) (M := M) hts L.1 (Nat.le_of_ble_eq_true hlev) (Nat.le_of_ble_eq_true hmx) hf hlo, hts _ L.2⟩ ⟨w_blind, fun U hU hW => ⟨rfl, by rw [hU]; exact hR.moved hW.alike, va_K.moved hW.alike hK, w_keep hSt hE hB hS hU hW.alike, hSt⟩⟩ rfl hna hl.1 hst (lv_room (Nat.le_of_ble_eq_true hro)) hd ⟨by rw [hrc]; exact hk, by rw [hrs]; exact hn⟩) kk
theorem ww_callI {b : Nat} (hd : decode cc pc = .ok (.invokespecial index, 3)) (L : wCi M.1.cls index Mc na) (hs : Sat G Mc (.ref b :: As) h Q) (hst : st0 = As.reverse ++ .ref b :: st) (hna : As.length = na) (hlev : Nat.ble (Mc.2.2.2.2.1 + 1) M.2.2.2.2.1 = true) (hmx : Nat.ble Mc.2.2.1 15 = true) (hro : Nat.ble (st.map fun v => v.category).sum 8 = true) (hk : k + Mc.2.2.2.2.2.1 ≤ M.2.2.2.2.2.1) (hn : n + Mc.2.2.2.2.2.2 ≤ M.2.2.2.2.2.2)
    (kk : ∀ v h', Q v h' → WW G M cc X Z (pc + 3) lv (v.toList ++ st) h' (k + Mc.2.2.2.2.2.1) (n + Mc.2.2.2.2.2.2)) : WW G M cc X Z pc lv st0 h k n := by
  obtain ⟨p, e, R, s, m, args, below, meth, c⟩ := X
  intro O H locs ls hR hS hl
  have O' := O
  obtain ⟨hx, hb, hml, hr, hown, hts, hlk, hnm, hK, ⟨hf, hlo, hrc, hrs⟩, hB, hE, hSt⟩ := O
  obtain ⟨L0, L1, L2, L3⟩ := L
  have hcb := w_callB (G := G) (M := M) (R := R) (s := s) (args := args) hts L0 (Nat.le_of_ble_eq_true hlev) (Nat.le_of_ble_eq_true hmx) hf hlo
  rw [L3] at hcb
  refine w_after O' hR hS hl (va_runI (As := As) (rest := st) (nL := M.2.2.1) (own := M.1.cls) (Ts := wTb) (index := index) (n := na) ⟨hx, hb, hml, hown, hts⟩ hs ⟨hcb, L1, hts _ L2⟩ ⟨w_blind, fun U hU hW => ⟨rfl, by rw [hU]; exact hR.moved hW.alike, va_K.moved hW.alike hK, w_keep hSt hE hB hS hU hW.alike, hSt⟩⟩ rfl hna hl.1 hst (lv_room (Nat.le_of_ble_eq_true hro)) hd ⟨by rw [hrc]; exact hk, by rw [hrs]; exact hn⟩) kk
theorem ww_objInit {a : Nat} (hd : decode cc pc = .ok (.invokespecial index, 3)) (L : Cond.methodLink M.1.cls index Lib.objectInit ∈ wTb ∧ Cond.instanceMethod Lib.objectInit ∈ wTb ∧ Cond.code Lib.objectInit ⟨#[0xb1]⟩ 1 none ∈ wTb) (hlev : Nat.ble 1 M.2.2.2.2.1 = true) (hro : Nat.ble (st.map fun v => v.category).sum 8 = true) (kk : WW G M cc X Z (pc + 3) lv st h k n) : WW G M cc X Z pc lv (.ref a :: st) h k n := by
  obtain ⟨p, e, R, s, m, args, below, meth, c⟩ := X
  intro O H locs ls hR hS hl
  have O' := O
  obtain ⟨hx, hb, hml, hr, hown, hts, hlk, hnm, hK, ⟨hf, hlo, hrc, hrs⟩, hB, hE, hSt⟩ := O
  have hlev := Nat.le_of_ble_eq_true hlev
  have hro := Nat.le_of_ble_eq_true hro
  refine W.objInit hx hb hown (hts _ L.1) (hts _ L.2.1) (hts _ L.2.2) rfl (by rw [hml]; exact hl.1) rfl hd (by omega) ?_ (kk O' H locs ls hR hS hl)
  have h0 := lv_room (m := m) (pc := pc) (ls := ls) (rest := Value.ref a :: st) hro
  omega
end WCall
/-- deterministic: this answer, this heap -/
def Det (v : Option Value) (h : wH) : Option Value → wH → Prop := fun v' h' => v' = v ∧ h' = h
section WSw
variable {G : wG} {M : wM} {cc : ByteArray} {X : wX} {Z : State → Prop} {pc : Nat} {lv : List (Option Value)} {st : List Value} {h : wH} {k n : Nat}
theorem ww_table {dflt lo hi : Int} {offs : Array Int} {len : Nat} {x : Int32} (ts : List Nat) (td : Nat) (hd : decode cc pc = .ok (.tableswitch dflt lo hi offs, len)) (hdf : (pc : Int) + dflt = (td : Int)) (hhi : hi = lo + ts.length - 1) (hts : ∀ j, j < ts.length → (offs[j]?).map (fun o => (pc : Int) + o) = (ts[j]?).map (fun t => (t : Int)))
    (kt : ∀ (j t : Nat), ts[j]? = some t → x.toInt = lo + (j : Int) → WW G M cc X Z t lv st h k n) (kd : (x.toInt < lo ∨ hi < x.toInt) → WW G M cc X Z td lv st h k n) : WW G M cc X Z pc lv (.int x :: st) h k n := by
  obtain ⟨p, e, R, s, m, args, below, meth, c⟩ := X
  intro O H locs ls hR hS hl
  by_cases h1 : x.toInt < lo
  · exact lv_tableOut O.1 O.2.1 hd (Or.inl h1) hdf (kd (Or.inl h1) O H locs ls hR hS hl)
  · by_cases h2 : hi < x.toInt
    · exact lv_tableOut O.1 O.2.1 hd (Or.inr h2) hdf (kd (Or.inr h2) O H locs ls hR hS hl)
    · have hj : (x.toInt - lo).toNat < ts.length := by rw [hhi] at h2; omega
      have h3 := hts _ hj
      obtain ⟨t, ht⟩ : ∃ t, ts[(x.toInt - lo).toNat]? = some t := ⟨_, List.getElem?_eq_getElem hj⟩
      rw [ht] at h3
      cases ho : offs[(x.toInt - lo).toNat]? with
      | none => rw [ho] at h3; cases h3
      | some off =>
        rw [ho] at h3
        exact lv_tableIn O.1 O.2.1 hd h1 h2 ho (Option.some.inj h3) (kt _ t ht (by omega) O H locs ls hR hS hl)
theorem ww_lookup {dflt : Int} {ps : Array (Int × Int)} {len : Nat} {x : Int32} (hd : decode cc pc = .ok (.lookupswitch dflt ps, len)) (hp : (ps.toList.zip (ps.toList.drop 1)).all (fun (a, next) => a.1 < next.1) = true) (kk : ∀ tgt : Nat, (pc : Int) + Op.lookupswitch.offset ps.toList dflt x.toInt = (tgt : Int) → WW G M cc X Z tgt lv st h k n) (tgt : Nat) (ht : (pc : Int) + Op.lookupswitch.offset ps.toList dflt x.toInt = (tgt : Int)) : WW G M cc X Z pc lv (.int x :: st) h k n := by
  obtain ⟨p, e, R, s, m, args, below, meth, c⟩ := X
  intro O H locs ls hR hS hl
  exact lv_lookup O.1 O.2.1 hd hp rfl ht (kk tgt ht O H locs ls hR hS hl)
end WSw
end
section
theorem wTb_mem {w : Cond} (i : Nat) (h : lw_tbl[i]? = some w) (hg : goodWord w = true) : w ∈ wTb := List.mem_filter.mpr ⟨List.mem_of_getElem? h, hg⟩
def wInTb (ws : List Cond) : Bool := ws.all fun w => decide (w ∈ lw_tbl) && goodWord w
theorem wInTb_of {ws : List Cond} (h : wInTb ws = true) : ∀ w ∈ ws, w ∈ wTb := fun w hw => by
  have := List.all_eq_true.mp h w hw
  simp only [Bool.and_eq_true, decide_eq_true_eq] at this
  exact List.mem_filter.mpr this
set_option maxRecDepth 20000 in
theorem ck0 : wCk RX0 TX0 12 := ⟨wInTb_of (by decide +kernel), ⟨tyX0, tyX0_ok⟩, nmX0⟩
set_option maxRecDepth 20000 in
theorem ck1 : wCk RX2 TX2 7 := ⟨wInTb_of (by decide +kernel), ⟨tyX2, tyX2_ok⟩, nmX2⟩
set_option maxRecDepth 20000 in
theorem ck2 : wCk RX3 TX3 14 := ⟨wInTb_of (by decide +kernel), ⟨tyX3, tyX3_ok⟩, nmX3⟩
set_option maxRecDepth 20000 in
theorem ck3 : wCk RX4 TX4 7 := ⟨wInTb_of (by decide +kernel), ⟨tyX4, tyX4_ok⟩, nmX4⟩
set_option maxRecDepth 20000 in
theorem ck4 : wCk RX5 TX5 7 := ⟨wInTb_of (by decide +kernel), ⟨tyX5, tyX5_ok⟩, nmX5⟩
set_option maxRecDepth 20000 in
theorem ck5 : wCk RX6 TX6 10 := ⟨wInTb_of (by decide +kernel), ⟨tyX6, tyX6_ok⟩, nmX6⟩
set_option maxRecDepth 20000 in
theorem ck6 : wCk RX7 TX7 7 := ⟨wInTb_of (by decide +kernel), ⟨tyX7, tyX7_ok⟩, nmX7⟩
set_option maxRecDepth 20000 in
theorem ck7 : wCk RX8 TX8 10 := ⟨wInTb_of (by decide +kernel), ⟨tyX8, tyX8_ok⟩, nmX8⟩
set_option maxRecDepth 20000 in
theorem ck8 : wCk RX9 TX9 72 := ⟨wInTb_of (by decide +kernel), ⟨tyX9, tyX9_ok⟩, nmX9⟩
theorem fX8_10 : wFl RX8 10 7 0 (.object "TaskHouse$Reader") true := ⟨RX8, TX8, 10, rfl, by decide, ck7, rfl, (wTb_mem 404 (by decide +kernel) rfl), by decide +kernel, rfl⟩
theorem fX8_19 : wFl RX8 19 7 1 (.object "TaskHouse$Persons") true := ⟨RX8, TX8, 10, rfl, by decide, ck7, rfl, (wTb_mem 405 (by decide +kernel) rfl), by decide +kernel, rfl⟩
theorem fX8_26 : wFl RX8 26 7 2 (.object "TaskHouse$Tasks") true := ⟨RX8, TX8, 10, rfl, by decide, ck7, rfl, (wTb_mem 406 (by decide +kernel) rfl), by decide +kernel, rfl⟩
theorem fX8_33 : wFl RX8 33 7 3 (.object "TaskHouse$Walk") true := ⟨RX8, TX8, 10, rfl, by decide, ck7, rfl, (wTb_mem 407 (by decide +kernel) rfl), by decide +kernel, rfl⟩
theorem fX8_39 : wFl RX8 39 7 4 (.array (.object "TaskHouse$Run")) true := ⟨RX8, TX8, 10, rfl, by decide, ck7, rfl, (wTb_mem 408 (by decide +kernel) rfl), by decide +kernel, rfl⟩
theorem fX8_43 : wFl RX8 43 7 5 .int false := ⟨RX8, TX8, 10, rfl, by decide, ck7, rfl, (wTb_mem 409 (by decide +kernel) rfl), by decide +kernel, rfl⟩
theorem fX8_47 : wFl RX8 47 7 6 (.object "TaskHouse$Business") false := ⟨RX8, TX8, 10, rfl, by decide, ck7, rfl, (wTb_mem 410 (by decide +kernel) rfl), by decide +kernel, rfl⟩
theorem fX8_51 : wFl RX8 51 7 7 .int false := ⟨RX8, TX8, 10, rfl, by decide, ck7, rfl, (wTb_mem 411 (by decide +kernel) rfl), by decide +kernel, rfl⟩
theorem fX8_54 : wFl RX8 54 7 8 .int false := ⟨RX8, TX8, 10, rfl, by decide, ck7, rfl, (wTb_mem 412 (by decide +kernel) rfl), by decide +kernel, rfl⟩
theorem fX8_57 : wFl RX8 57 7 9 .int false := ⟨RX8, TX8, 10, rfl, by decide, ck7, rfl, (wTb_mem 413 (by decide +kernel) rfl), by decide +kernel, rfl⟩
theorem fX8_60 : wFl RX8 60 2 0 (.object "TaskHouse$Tape") true := ⟨RX3, TX3, 14, rfl, by decide, ck2, rfl, (wTb_mem 241 (by decide +kernel) rfl), by decide +kernel, rfl⟩
theorem fX8_64 : wFl RX8 64 4 1 .int false := ⟨RX5, TX5, 7, rfl, by decide, ck4, rfl, (wTb_mem 163 (by decide +kernel) rfl), by decide +kernel, rfl⟩
theorem fX8_77 : wFl RX8 77 2 1 .int false := ⟨RX3, TX3, 14, rfl, by decide, ck2, rfl, (wTb_mem 243 (by decide +kernel) rfl), by decide +kernel, rfl⟩
theorem fX8_80 : wFl RX8 80 2 2 .int false := ⟨RX3, TX3, 14, rfl, by decide, ck2, rfl, (wTb_mem 245 (by decide +kernel) rfl), by decide +kernel, rfl⟩
theorem fX8_83 : wFl RX8 83 0 0 .int false := ⟨RX0, TX0, 12, rfl, by decide, ck0, rfl, (wTb_mem 196 (by decide +kernel) rfl), by decide +kernel, rfl⟩
theorem fX8_96 : wFl RX8 96 1 5 (.array .int) true := ⟨RX2, TX2, 7, rfl, by decide, ck1, rfl, (wTb_mem 304 (by decide +kernel) rfl), by decide +kernel, rfl⟩
theorem fX8_100 : wFl RX8 100 1 6 (.array .boolean) true := ⟨RX2, TX2, 7, rfl, by decide, ck1, rfl, (wTb_mem 306 (by decide +kernel) rfl), by decide +kernel, rfl⟩
theorem fX8_107 : wFl RX8 107 1 3 (.array .int) true := ⟨RX2, TX2, 7, rfl, by decide, ck1, rfl, (wTb_mem 300 (by decide +kernel) rfl), by decide +kernel, rfl⟩
theorem fX8_121 : wFl RX8 121 6 3 .int false := ⟨RX7, TX7, 7, rfl, by decide, ck6, rfl, (wTb_mem 382 (by decide +kernel) rfl), by decide +kernel, rfl⟩
theorem fX8_138 : wFl RX8 138 3 2 (.array .int) true := ⟨RX4, TX4, 7, rfl, by decide, ck3, rfl, (wTb_mem 709 (by decide +kernel) rfl), by decide +kernel, rfl⟩
theorem fX8_141 : wFl RX8 141 3 5 .boolean false := ⟨RX4, TX4, 7, rfl, by decide, ck3, rfl, (wTb_mem 714 (by decide +kernel) rfl), by decide +kernel, rfl⟩
theorem fX8_145 : wFl RX8 145 3 6 .int false := ⟨RX4, TX4, 7, rfl, by decide, ck3, rfl, (wTb_mem 716 (by decide +kernel) rfl), by decide +kernel, rfl⟩
theorem fX8_149 : wFl RX8 149 5 1 (.array .int) true := ⟨RX6, TX6, 10, rfl, by decide, ck5, rfl, (wTb_mem 331 (by decide +kernel) rfl), by decide +kernel, rfl⟩
theorem fX8_151 : wFl RX8 151 5 2 (.array .int) true := ⟨RX6, TX6, 10, rfl, by decide, ck5, rfl, (wTb_mem 333 (by decide +kernel) rfl), by decide +kernel, rfl⟩
theorem fX8_154 : wFl RX8 154 5 3 (.array .int) true := ⟨RX6, TX6, 10, rfl, by decide, ck5, rfl, (wTb_mem 335 (by decide +kernel) rfl), by decide +kernel, rfl⟩
theorem fX8_157 : wFl RX8 157 5 4 (.array .int) true := ⟨RX6, TX6, 10, rfl, by decide, ck5, rfl, (wTb_mem 337 (by decide +kernel) rfl), by decide +kernel, rfl⟩
theorem fX8_160 : wFl RX8 160 5 5 (.array .int) true := ⟨RX6, TX6, 10, rfl, by decide, ck5, rfl, (wTb_mem 339 (by decide +kernel) rfl), by decide +kernel, rfl⟩
theorem fX8_163 : wFl RX8 163 5 6 (.array .int) true := ⟨RX6, TX6, 10, rfl, by decide, ck5, rfl, (wTb_mem 341 (by decide +kernel) rfl), by decide +kernel, rfl⟩
theorem fX8_166 : wFl RX8 166 5 7 (.array .int) true := ⟨RX6, TX6, 10, rfl, by decide, ck5, rfl, (wTb_mem 343 (by decide +kernel) rfl), by decide +kernel, rfl⟩
theorem fX8_169 : wFl RX8 169 5 8 (.array .int) true := ⟨RX6, TX6, 10, rfl, by decide, ck5, rfl, (wTb_mem 345 (by decide +kernel) rfl), by decide +kernel, rfl⟩
theorem fX8_202 : wFl RX8 202 3 1 (.object "TaskHouse$Business") true := ⟨RX4, TX4, 7, rfl, by decide, ck3, rfl, (wTb_mem 706 (by decide +kernel) rfl), by decide +kernel, rfl⟩
theorem fX8_212 : wFl RX8 212 5 0 .int false := ⟨RX6, TX6, 10, rfl, by decide, ck5, rfl, (wTb_mem 329 (by decide +kernel) rfl), by decide +kernel, rfl⟩
theorem fX8_218 : wFl RX8 218 5 9 (.array .int) true := ⟨RX6, TX6, 10, rfl, by decide, ck5, rfl, (wTb_mem 347 (by decide +kernel) rfl), by decide +kernel, rfl⟩
theorem fX8_221 : wFl RX8 221 1 0 .int false := ⟨RX2, TX2, 7, rfl, by decide, ck1, rfl, (wTb_mem 294 (by decide +kernel) rfl), by decide +kernel, rfl⟩
theorem fX8_222 : wFl RX8 222 1 1 (.array .int) true := ⟨RX2, TX2, 7, rfl, by decide, ck1, rfl, (wTb_mem 296 (by decide +kernel) rfl), by decide +kernel, rfl⟩
theorem fX8_223 : wFl RX8 223 1 2 (.array .int) true := ⟨RX2, TX2, 7, rfl, by decide, ck1, rfl, (wTb_mem 298 (by decide +kernel) rfl), by decide +kernel, rfl⟩
theorem fX8_226 : wFl RX8 226 1 4 (.array .int) true := ⟨RX2, TX2, 7, rfl, by decide, ck1, rfl, (wTb_mem 302 (by decide +kernel) rfl), by decide +kernel, rfl⟩
theorem fX8_234 : wFl RX8 234 0 1 .int false := ⟨RX0, TX0, 12, rfl, by decide, ck0, rfl, (wTb_mem 199 (by decide +kernel) rfl), by decide +kernel, rfl⟩
theorem fX8_255 : wFl RX8 255 6 2 (.array .int) true := ⟨RX7, TX7, 7, rfl, by decide, ck6, rfl, (wTb_mem 380 (by decide +kernel) rfl), by decide +kernel, rfl⟩
theorem fX8_261 : wFl RX8 261 3 0 .int true := ⟨RX4, TX4, 7, rfl, by decide, ck3, rfl, (wTb_mem 704 (by decide +kernel) rfl), by decide +kernel, rfl⟩
theorem fX0_9 : wFl RX0 9 0 0 .int false := ⟨RX0, TX0, 12, rfl, by decide, ck0, rfl, (wTb_mem 195 (by decide +kernel) rfl), by decide +kernel, rfl⟩
theorem fX0_15 : wFl RX0 15 0 1 .int false := ⟨RX0, TX0, 12, rfl, by decide, ck0, rfl, (wTb_mem 198 (by decide +kernel) rfl), by decide +kernel, rfl⟩
theorem fX0_18 : wFl RX0 18 0 2 .int false := ⟨RX0, TX0, 12, rfl, by decide, ck0, rfl, (wTb_mem 200 (by decide +kernel) rfl), by decide +kernel, rfl⟩
theorem fX0_21 : wFl RX0 21 0 3 .int false := ⟨RX0, TX0, 12, rfl, by decide, ck0, rfl, (wTb_mem 201 (by decide +kernel) rfl), by decide +kernel, rfl⟩
theorem fX0_24 : wFl RX0 24 0 4 (.array .int) true := ⟨RX0, TX0, 12, rfl, by decide, ck0, rfl, (wTb_mem 203 (by decide +kernel) rfl), by decide +kernel, rfl⟩
theorem fX0_28 : wFl RX0 28 0 5 (.array .int) true := ⟨RX0, TX0, 12, rfl, by decide, ck0, rfl, (wTb_mem 205 (by decide +kernel) rfl), by decide +kernel, rfl⟩
theorem fX0_31 : wFl RX0 31 0 6 (.array .int) true := ⟨RX0, TX0, 12, rfl, by decide, ck0, rfl, (wTb_mem 207 (by decide +kernel) rfl), by decide +kernel, rfl⟩
theorem fX0_34 : wFl RX0 34 0 7 (.array .int) true := ⟨RX0, TX0, 12, rfl, by decide, ck0, rfl, (wTb_mem 209 (by decide +kernel) rfl), by decide +kernel, rfl⟩
theorem fX0_37 : wFl RX0 37 0 8 (.array .int) true := ⟨RX0, TX0, 12, rfl, by decide, ck0, rfl, (wTb_mem 211 (by decide +kernel) rfl), by decide +kernel, rfl⟩
theorem fX0_40 : wFl RX0 40 0 9 (.array .int) true := ⟨RX0, TX0, 12, rfl, by decide, ck0, rfl, (wTb_mem 212 (by decide +kernel) rfl), by decide +kernel, rfl⟩
theorem fX0_43 : wFl RX0 43 0 10 (.array .int) true := ⟨RX0, TX0, 12, rfl, by decide, ck0, rfl, (wTb_mem 213 (by decide +kernel) rfl), by decide +kernel, rfl⟩
theorem fX0_46 : wFl RX0 46 0 11 (.array .int) true := ⟨RX0, TX0, 12, rfl, by decide, ck0, rfl, (wTb_mem 214 (by decide +kernel) rfl), by decide +kernel, rfl⟩
theorem fX2_9 : wFl RX2 9 1 0 .int false := ⟨RX2, TX2, 7, rfl, by decide, ck1, rfl, (wTb_mem 293 (by decide +kernel) rfl), by decide +kernel, rfl⟩
theorem fX2_15 : wFl RX2 15 1 1 (.array .int) true := ⟨RX2, TX2, 7, rfl, by decide, ck1, rfl, (wTb_mem 295 (by decide +kernel) rfl), by decide +kernel, rfl⟩
theorem fX2_19 : wFl RX2 19 1 2 (.array .int) true := ⟨RX2, TX2, 7, rfl, by decide, ck1, rfl, (wTb_mem 297 (by decide +kernel) rfl), by decide +kernel, rfl⟩
theorem fX2_22 : wFl RX2 22 1 3 (.array .int) true := ⟨RX2, TX2, 7, rfl, by decide, ck1, rfl, (wTb_mem 299 (by decide +kernel) rfl), by decide +kernel, rfl⟩
theorem fX2_25 : wFl RX2 25 1 4 (.array .int) true := ⟨RX2, TX2, 7, rfl, by decide, ck1, rfl, (wTb_mem 301 (by decide +kernel) rfl), by decide +kernel, rfl⟩
theorem fX2_28 : wFl RX2 28 1 5 (.array .int) true := ⟨RX2, TX2, 7, rfl, by decide, ck1, rfl, (wTb_mem 303 (by decide +kernel) rfl), by decide +kernel, rfl⟩
theorem fX2_31 : wFl RX2 31 1 6 (.array .boolean) true := ⟨RX2, TX2, 7, rfl, by decide, ck1, rfl, (wTb_mem 305 (by decide +kernel) rfl), by decide +kernel, rfl⟩
theorem fX3_12 : wFl RX3 12 2 0 (.object "TaskHouse$Tape") true := ⟨RX3, TX3, 14, rfl, by decide, ck2, rfl, (wTb_mem 240 (by decide +kernel) rfl), by decide +kernel, rfl⟩
theorem fX3_18 : wFl RX3 18 2 1 .int false := ⟨RX3, TX3, 14, rfl, by decide, ck2, rfl, (wTb_mem 242 (by decide +kernel) rfl), by decide +kernel, rfl⟩
theorem fX3_22 : wFl RX3 22 2 2 .int false := ⟨RX3, TX3, 14, rfl, by decide, ck2, rfl, (wTb_mem 244 (by decide +kernel) rfl), by decide +kernel, rfl⟩
theorem fX3_28 : wFl RX3 28 2 3 (.object "TaskHouse$Business") false := ⟨RX3, TX3, 14, rfl, by decide, ck2, rfl, (wTb_mem 246 (by decide +kernel) rfl), by decide +kernel, rfl⟩
theorem fX3_32 : wFl RX3 32 2 4 .boolean false := ⟨RX3, TX3, 14, rfl, by decide, ck2, rfl, (wTb_mem 247 (by decide +kernel) rfl), by decide +kernel, rfl⟩
theorem fX3_36 : wFl RX3 36 2 5 .int false := ⟨RX3, TX3, 14, rfl, by decide, ck2, rfl, (wTb_mem 248 (by decide +kernel) rfl), by decide +kernel, rfl⟩
theorem fX3_39 : wFl RX3 39 2 6 (.array .int) true := ⟨RX3, TX3, 14, rfl, by decide, ck2, rfl, (wTb_mem 249 (by decide +kernel) rfl), by decide +kernel, rfl⟩
theorem fX3_43 : wFl RX3 43 2 7 .int false := ⟨RX3, TX3, 14, rfl, by decide, ck2, rfl, (wTb_mem 250 (by decide +kernel) rfl), by decide +kernel, rfl⟩
theorem fX3_46 : wFl RX3 46 2 8 (.array .int) true := ⟨RX3, TX3, 14, rfl, by decide, ck2, rfl, (wTb_mem 251 (by decide +kernel) rfl), by decide +kernel, rfl⟩
theorem fX3_49 : wFl RX3 49 2 9 (.array .int) true := ⟨RX3, TX3, 14, rfl, by decide, ck2, rfl, (wTb_mem 252 (by decide +kernel) rfl), by decide +kernel, rfl⟩
theorem fX3_52 : wFl RX3 52 2 10 (.array .int) true := ⟨RX3, TX3, 14, rfl, by decide, ck2, rfl, (wTb_mem 253 (by decide +kernel) rfl), by decide +kernel, rfl⟩
theorem fX3_55 : wFl RX3 55 2 11 (.array .boolean) true := ⟨RX3, TX3, 14, rfl, by decide, ck2, rfl, (wTb_mem 254 (by decide +kernel) rfl), by decide +kernel, rfl⟩
theorem fX3_59 : wFl RX3 59 2 12 (.array .boolean) true := ⟨RX3, TX3, 14, rfl, by decide, ck2, rfl, (wTb_mem 255 (by decide +kernel) rfl), by decide +kernel, rfl⟩
theorem fX3_62 : wFl RX3 62 2 13 (.array .boolean) true := ⟨RX3, TX3, 14, rfl, by decide, ck2, rfl, (wTb_mem 256 (by decide +kernel) rfl), by decide +kernel, rfl⟩
theorem fX3_68 : wFl RX3 68 4 2 .int false := ⟨RX5, TX5, 7, rfl, by decide, ck4, rfl, (wTb_mem 165 (by decide +kernel) rfl), by decide +kernel, rfl⟩
theorem fX3_87 : wFl RX3 87 4 3 .int false := ⟨RX5, TX5, 7, rfl, by decide, ck4, rfl, (wTb_mem 167 (by decide +kernel) rfl), by decide +kernel, rfl⟩
theorem fX3_94 : wFl RX3 94 0 0 .int false := ⟨RX0, TX0, 12, rfl, by decide, ck0, rfl, (wTb_mem 197 (by decide +kernel) rfl), by decide +kernel, rfl⟩
theorem fX3_117 : wFl RX3 117 0 3 .int false := ⟨RX0, TX0, 12, rfl, by decide, ck0, rfl, (wTb_mem 202 (by decide +kernel) rfl), by decide +kernel, rfl⟩
theorem fX3_148 : wFl RX3 148 4 4 .int false := ⟨RX5, TX5, 7, rfl, by decide, ck4, rfl, (wTb_mem 169 (by decide +kernel) rfl), by decide +kernel, rfl⟩
theorem fX4_9 : wFl RX4 9 3 0 .int true := ⟨RX4, TX4, 7, rfl, by decide, ck3, rfl, (wTb_mem 703 (by decide +kernel) rfl), by decide +kernel, rfl⟩
theorem fX4_15 : wFl RX4 15 3 1 (.object "TaskHouse$Business") true := ⟨RX4, TX4, 7, rfl, by decide, ck3, rfl, (wTb_mem 705 (by decide +kernel) rfl), by decide +kernel, rfl⟩
theorem fX4_19 : wFl RX4 19 3 2 (.array .int) true := ⟨RX4, TX4, 7, rfl, by decide, ck3, rfl, (wTb_mem 707 (by decide +kernel) rfl), by decide +kernel, rfl⟩
theorem fX4_23 : wFl RX4 23 3 3 (.array .int) true := ⟨RX4, TX4, 7, rfl, by decide, ck3, rfl, (wTb_mem 710 (by decide +kernel) rfl), by decide +kernel, rfl⟩
theorem fX4_26 : wFl RX4 26 3 4 (.array .int) true := ⟨RX4, TX4, 7, rfl, by decide, ck3, rfl, (wTb_mem 712 (by decide +kernel) rfl), by decide +kernel, rfl⟩
theorem fX4_29 : wFl RX4 29 3 5 .boolean false := ⟨RX4, TX4, 7, rfl, by decide, ck3, rfl, (wTb_mem 713 (by decide +kernel) rfl), by decide +kernel, rfl⟩
theorem fX4_33 : wFl RX4 33 3 6 .int false := ⟨RX4, TX4, 7, rfl, by decide, ck3, rfl, (wTb_mem 715 (by decide +kernel) rfl), by decide +kernel, rfl⟩
theorem fX4_36 : wFl RX4 36 6 0 (.array .int) true := ⟨RX7, TX7, 7, rfl, by decide, ck6, rfl, (wTb_mem 376 (by decide +kernel) rfl), by decide +kernel, rfl⟩
theorem fX4_45 : wFl RX4 45 6 1 (.array .int) true := ⟨RX7, TX7, 7, rfl, by decide, ck6, rfl, (wTb_mem 378 (by decide +kernel) rfl), by decide +kernel, rfl⟩
theorem fX4_46 : wFl RX4 46 6 4 .boolean false := ⟨RX7, TX7, 7, rfl, by decide, ck6, rfl, (wTb_mem 384 (by decide +kernel) rfl), by decide +kernel, rfl⟩
theorem fX5_9 : wFl RX5 9 4 0 (.array .byte) true := ⟨RX5, TX5, 7, rfl, by decide, ck4, rfl, (wTb_mem 161 (by decide +kernel) rfl), by decide +kernel, rfl⟩
theorem fX5_15 : wFl RX5 15 4 1 .int false := ⟨RX5, TX5, 7, rfl, by decide, ck4, rfl, (wTb_mem 162 (by decide +kernel) rfl), by decide +kernel, rfl⟩
theorem fX5_19 : wFl RX5 19 4 2 .int false := ⟨RX5, TX5, 7, rfl, by decide, ck4, rfl, (wTb_mem 164 (by decide +kernel) rfl), by decide +kernel, rfl⟩
theorem fX5_22 : wFl RX5 22 4 3 .int false := ⟨RX5, TX5, 7, rfl, by decide, ck4, rfl, (wTb_mem 166 (by decide +kernel) rfl), by decide +kernel, rfl⟩
theorem fX5_25 : wFl RX5 25 4 4 .int false := ⟨RX5, TX5, 7, rfl, by decide, ck4, rfl, (wTb_mem 168 (by decide +kernel) rfl), by decide +kernel, rfl⟩
theorem fX5_28 : wFl RX5 28 4 5 .int false := ⟨RX5, TX5, 7, rfl, by decide, ck4, rfl, (wTb_mem 170 (by decide +kernel) rfl), by decide +kernel, rfl⟩
theorem fX5_31 : wFl RX5 31 4 6 (.array .int) true := ⟨RX5, TX5, 7, rfl, by decide, ck4, rfl, (wTb_mem 171 (by decide +kernel) rfl), by decide +kernel, rfl⟩
theorem fX6_9 : wFl RX6 9 5 0 .int false := ⟨RX6, TX6, 10, rfl, by decide, ck5, rfl, (wTb_mem 328 (by decide +kernel) rfl), by decide +kernel, rfl⟩
theorem fX6_15 : wFl RX6 15 5 1 (.array .int) true := ⟨RX6, TX6, 10, rfl, by decide, ck5, rfl, (wTb_mem 330 (by decide +kernel) rfl), by decide +kernel, rfl⟩
theorem fX6_19 : wFl RX6 19 5 2 (.array .int) true := ⟨RX6, TX6, 10, rfl, by decide, ck5, rfl, (wTb_mem 332 (by decide +kernel) rfl), by decide +kernel, rfl⟩
theorem fX6_22 : wFl RX6 22 5 3 (.array .int) true := ⟨RX6, TX6, 10, rfl, by decide, ck5, rfl, (wTb_mem 334 (by decide +kernel) rfl), by decide +kernel, rfl⟩
theorem fX6_25 : wFl RX6 25 5 4 (.array .int) true := ⟨RX6, TX6, 10, rfl, by decide, ck5, rfl, (wTb_mem 336 (by decide +kernel) rfl), by decide +kernel, rfl⟩
theorem fX6_28 : wFl RX6 28 5 5 (.array .int) true := ⟨RX6, TX6, 10, rfl, by decide, ck5, rfl, (wTb_mem 338 (by decide +kernel) rfl), by decide +kernel, rfl⟩
theorem fX6_31 : wFl RX6 31 5 6 (.array .int) true := ⟨RX6, TX6, 10, rfl, by decide, ck5, rfl, (wTb_mem 340 (by decide +kernel) rfl), by decide +kernel, rfl⟩
theorem fX6_34 : wFl RX6 34 5 7 (.array .int) true := ⟨RX6, TX6, 10, rfl, by decide, ck5, rfl, (wTb_mem 342 (by decide +kernel) rfl), by decide +kernel, rfl⟩
theorem fX6_37 : wFl RX6 37 5 8 (.array .int) true := ⟨RX6, TX6, 10, rfl, by decide, ck5, rfl, (wTb_mem 344 (by decide +kernel) rfl), by decide +kernel, rfl⟩
theorem fX6_40 : wFl RX6 40 5 9 (.array .int) true := ⟨RX6, TX6, 10, rfl, by decide, ck5, rfl, (wTb_mem 346 (by decide +kernel) rfl), by decide +kernel, rfl⟩
theorem fX7_9 : wFl RX7 9 6 0 (.array .int) true := ⟨RX7, TX7, 7, rfl, by decide, ck6, rfl, (wTb_mem 375 (by decide +kernel) rfl), by decide +kernel, rfl⟩
theorem fX7_15 : wFl RX7 15 6 1 (.array .int) true := ⟨RX7, TX7, 7, rfl, by decide, ck6, rfl, (wTb_mem 377 (by decide +kernel) rfl), by decide +kernel, rfl⟩
theorem fX7_18 : wFl RX7 18 6 2 (.array .int) true := ⟨RX7, TX7, 7, rfl, by decide, ck6, rfl, (wTb_mem 379 (by decide +kernel) rfl), by decide +kernel, rfl⟩
theorem fX7_21 : wFl RX7 21 6 3 .int false := ⟨RX7, TX7, 7, rfl, by decide, ck6, rfl, (wTb_mem 381 (by decide +kernel) rfl), by decide +kernel, rfl⟩
theorem fX7_25 : wFl RX7 25 6 4 .boolean false := ⟨RX7, TX7, 7, rfl, by decide, ck6, rfl, (wTb_mem 383 (by decide +kernel) rfl), by decide +kernel, rfl⟩
theorem fX7_29 : wFl RX7 29 6 5 (.array .int) true := ⟨RX7, TX7, 7, rfl, by decide, ck6, rfl, (wTb_mem 385 (by decide +kernel) rfl), by decide +kernel, rfl⟩
theorem fX7_32 : wFl RX7 32 6 6 .int false := ⟨RX7, TX7, 7, rfl, by decide, ck6, rfl, (wTb_mem 386 (by decide +kernel) rfl), by decide +kernel, rfl⟩
theorem fX7_38 : wFl RX7 38 3 2 (.array .int) true := ⟨RX4, TX4, 7, rfl, by decide, ck3, rfl, (wTb_mem 708 (by decide +kernel) rfl), by decide +kernel, rfl⟩
theorem fX7_47 : wFl RX7 47 3 3 (.array .int) true := ⟨RX4, TX4, 7, rfl, by decide, ck3, rfl, (wTb_mem 711 (by decide +kernel) rfl), by decide +kernel, rfl⟩
theorem fX7_62 : wFl RX7 62 0 5 (.array .int) true := ⟨RX0, TX0, 12, rfl, by decide, ck0, rfl, (wTb_mem 206 (by decide +kernel) rfl), by decide +kernel, rfl⟩
theorem fX7_65 : wFl RX7 65 0 6 (.array .int) true := ⟨RX0, TX0, 12, rfl, by decide, ck0, rfl, (wTb_mem 208 (by decide +kernel) rfl), by decide +kernel, rfl⟩
theorem fX7_68 : wFl RX7 68 0 7 (.array .int) true := ⟨RX0, TX0, 12, rfl, by decide, ck0, rfl, (wTb_mem 210 (by decide +kernel) rfl), by decide +kernel, rfl⟩
theorem fX7_71 : wFl RX7 71 0 4 (.array .int) true := ⟨RX0, TX0, 12, rfl, by decide, ck0, rfl, (wTb_mem 204 (by decide +kernel) rfl), by decide +kernel, rfl⟩
theorem fX9_7 : wFl RX9 7 8 0 (.array .byte) true := ⟨RX9, TX9, 72, rfl, by decide, ck8, rfl, (wTb_mem 901 (by decide +kernel) rfl), by decide +kernel, rfl⟩
theorem fX9_13 : wFl RX9 13 8 9 .int false := ⟨RX9, TX9, 72, rfl, by decide, ck8, rfl, (wTb_mem 910 (by decide +kernel) rfl), by decide +kernel, rfl⟩
theorem fX9_17 : wFl RX9 17 8 10 .int false := ⟨RX9, TX9, 72, rfl, by decide, ck8, rfl, (wTb_mem 911 (by decide +kernel) rfl), by decide +kernel, rfl⟩
theorem fX9_20 : wFl RX9 20 8 15 (.array .int) true := ⟨RX9, TX9, 72, rfl, by decide, ck8, rfl, (wTb_mem 916 (by decide +kernel) rfl), by decide +kernel, rfl⟩
theorem fX9_24 : wFl RX9 24 8 16 (.array .int) true := ⟨RX9, TX9, 72, rfl, by decide, ck8, rfl, (wTb_mem 917 (by decide +kernel) rfl), by decide +kernel, rfl⟩
theorem fX9_27 : wFl RX9 27 8 17 (.array .int) true := ⟨RX9, TX9, 72, rfl, by decide, ck8, rfl, (wTb_mem 918 (by decide +kernel) rfl), by decide +kernel, rfl⟩
theorem fX9_30 : wFl RX9 30 8 18 (.array .int) true := ⟨RX9, TX9, 72, rfl, by decide, ck8, rfl, (wTb_mem 919 (by decide +kernel) rfl), by decide +kernel, rfl⟩
theorem fX9_33 : wFl RX9 33 8 19 (.array .long) true := ⟨RX9, TX9, 72, rfl, by decide, ck8, rfl, (wTb_mem 920 (by decide +kernel) rfl), by decide +kernel, rfl⟩
theorem fX9_37 : wFl RX9 37 8 20 (.array .int) true := ⟨RX9, TX9, 72, rfl, by decide, ck8, rfl, (wTb_mem 921 (by decide +kernel) rfl), by decide +kernel, rfl⟩
theorem fX9_40 : wFl RX9 40 8 21 (.array .int) true := ⟨RX9, TX9, 72, rfl, by decide, ck8, rfl, (wTb_mem 922 (by decide +kernel) rfl), by decide +kernel, rfl⟩
theorem fX9_43 : wFl RX9 43 8 22 (.array .int) true := ⟨RX9, TX9, 72, rfl, by decide, ck8, rfl, (wTb_mem 923 (by decide +kernel) rfl), by decide +kernel, rfl⟩
theorem fX9_46 : wFl RX9 46 8 23 .int false := ⟨RX9, TX9, 72, rfl, by decide, ck8, rfl, (wTb_mem 924 (by decide +kernel) rfl), by decide +kernel, rfl⟩
theorem fX9_49 : wFl RX9 49 8 26 (.array .int) true := ⟨RX9, TX9, 72, rfl, by decide, ck8, rfl, (wTb_mem 927 (by decide +kernel) rfl), by decide +kernel, rfl⟩
theorem fX9_52 : wFl RX9 52 8 27 (.array .int) true := ⟨RX9, TX9, 72, rfl, by decide, ck8, rfl, (wTb_mem 928 (by decide +kernel) rfl), by decide +kernel, rfl⟩
theorem fX9_55 : wFl RX9 55 8 28 (.array .int) true := ⟨RX9, TX9, 72, rfl, by decide, ck8, rfl, (wTb_mem 929 (by decide +kernel) rfl), by decide +kernel, rfl⟩
theorem fX9_58 : wFl RX9 58 8 29 (.array .int) true := ⟨RX9, TX9, 72, rfl, by decide, ck8, rfl, (wTb_mem 930 (by decide +kernel) rfl), by decide +kernel, rfl⟩
theorem fX9_61 : wFl RX9 61 8 30 (.array .int) true := ⟨RX9, TX9, 72, rfl, by decide, ck8, rfl, (wTb_mem 931 (by decide +kernel) rfl), by decide +kernel, rfl⟩
theorem fX9_64 : wFl RX9 64 8 31 (.array .int) true := ⟨RX9, TX9, 72, rfl, by decide, ck8, rfl, (wTb_mem 932 (by decide +kernel) rfl), by decide +kernel, rfl⟩
theorem fX9_67 : wFl RX9 67 8 32 (.array .int) true := ⟨RX9, TX9, 72, rfl, by decide, ck8, rfl, (wTb_mem 933 (by decide +kernel) rfl), by decide +kernel, rfl⟩
theorem fX9_70 : wFl RX9 70 8 34 (.array .int) true := ⟨RX9, TX9, 72, rfl, by decide, ck8, rfl, (wTb_mem 935 (by decide +kernel) rfl), by decide +kernel, rfl⟩
theorem fX9_73 : wFl RX9 73 8 35 (.array .int) true := ⟨RX9, TX9, 72, rfl, by decide, ck8, rfl, (wTb_mem 936 (by decide +kernel) rfl), by decide +kernel, rfl⟩
theorem fX9_76 : wFl RX9 76 8 36 (.array .int) true := ⟨RX9, TX9, 72, rfl, by decide, ck8, rfl, (wTb_mem 937 (by decide +kernel) rfl), by decide +kernel, rfl⟩
theorem fX9_79 : wFl RX9 79 8 37 (.array .int) true := ⟨RX9, TX9, 72, rfl, by decide, ck8, rfl, (wTb_mem 938 (by decide +kernel) rfl), by decide +kernel, rfl⟩
theorem fX9_82 : wFl RX9 82 8 38 (.array .boolean) true := ⟨RX9, TX9, 72, rfl, by decide, ck8, rfl, (wTb_mem 939 (by decide +kernel) rfl), by decide +kernel, rfl⟩
theorem fX9_86 : wFl RX9 86 8 39 (.array .boolean) true := ⟨RX9, TX9, 72, rfl, by decide, ck8, rfl, (wTb_mem 940 (by decide +kernel) rfl), by decide +kernel, rfl⟩
theorem fX9_89 : wFl RX9 89 8 41 (.array .int) true := ⟨RX9, TX9, 72, rfl, by decide, ck8, rfl, (wTb_mem 942 (by decide +kernel) rfl), by decide +kernel, rfl⟩
theorem fX9_92 : wFl RX9 92 8 42 (.array .int) true := ⟨RX9, TX9, 72, rfl, by decide, ck8, rfl, (wTb_mem 943 (by decide +kernel) rfl), by decide +kernel, rfl⟩
theorem fX9_95 : wFl RX9 95 8 43 (.array .int) true := ⟨RX9, TX9, 72, rfl, by decide, ck8, rfl, (wTb_mem 944 (by decide +kernel) rfl), by decide +kernel, rfl⟩
theorem fX9_98 : wFl RX9 98 8 44 (.array .int) true := ⟨RX9, TX9, 72, rfl, by decide, ck8, rfl, (wTb_mem 945 (by decide +kernel) rfl), by decide +kernel, rfl⟩
theorem fX9_101 : wFl RX9 101 8 45 (.array .int) true := ⟨RX9, TX9, 72, rfl, by decide, ck8, rfl, (wTb_mem 946 (by decide +kernel) rfl), by decide +kernel, rfl⟩
theorem fX9_104 : wFl RX9 104 8 46 (.array .int) true := ⟨RX9, TX9, 72, rfl, by decide, ck8, rfl, (wTb_mem 947 (by decide +kernel) rfl), by decide +kernel, rfl⟩
theorem fX9_107 : wFl RX9 107 8 47 (.array .int) true := ⟨RX9, TX9, 72, rfl, by decide, ck8, rfl, (wTb_mem 948 (by decide +kernel) rfl), by decide +kernel, rfl⟩
theorem fX9_110 : wFl RX9 110 8 48 (.array .int) true := ⟨RX9, TX9, 72, rfl, by decide, ck8, rfl, (wTb_mem 949 (by decide +kernel) rfl), by decide +kernel, rfl⟩
theorem fX9_113 : wFl RX9 113 8 49 (.array .int) true := ⟨RX9, TX9, 72, rfl, by decide, ck8, rfl, (wTb_mem 950 (by decide +kernel) rfl), by decide +kernel, rfl⟩
theorem fX9_116 : wFl RX9 116 8 50 (.array .int) true := ⟨RX9, TX9, 72, rfl, by decide, ck8, rfl, (wTb_mem 951 (by decide +kernel) rfl), by decide +kernel, rfl⟩
theorem fX9_119 : wFl RX9 119 8 51 (.array .boolean) true := ⟨RX9, TX9, 72, rfl, by decide, ck8, rfl, (wTb_mem 952 (by decide +kernel) rfl), by decide +kernel, rfl⟩
theorem fX9_122 : wFl RX9 122 8 52 (.array .int) true := ⟨RX9, TX9, 72, rfl, by decide, ck8, rfl, (wTb_mem 953 (by decide +kernel) rfl), by decide +kernel, rfl⟩
theorem fX9_125 : wFl RX9 125 8 53 (.array .int) true := ⟨RX9, TX9, 72, rfl, by decide, ck8, rfl, (wTb_mem 954 (by decide +kernel) rfl), by decide +kernel, rfl⟩
theorem fX9_128 : wFl RX9 128 8 56 (.array .int) true := ⟨RX9, TX9, 72, rfl, by decide, ck8, rfl, (wTb_mem 957 (by decide +kernel) rfl), by decide +kernel, rfl⟩
theorem fX9_131 : wFl RX9 131 8 57 (.array .int) true := ⟨RX9, TX9, 72, rfl, by decide, ck8, rfl, (wTb_mem 958 (by decide +kernel) rfl), by decide +kernel, rfl⟩
theorem fX9_134 : wFl RX9 134 8 58 (.array .int) true := ⟨RX9, TX9, 72, rfl, by decide, ck8, rfl, (wTb_mem 959 (by decide +kernel) rfl), by decide +kernel, rfl⟩
theorem fX9_137 : wFl RX9 137 8 59 (.array .int) true := ⟨RX9, TX9, 72, rfl, by decide, ck8, rfl, (wTb_mem 960 (by decide +kernel) rfl), by decide +kernel, rfl⟩
theorem fX9_140 : wFl RX9 140 8 60 (.array .int) true := ⟨RX9, TX9, 72, rfl, by decide, ck8, rfl, (wTb_mem 961 (by decide +kernel) rfl), by decide +kernel, rfl⟩
theorem fX9_143 : wFl RX9 143 8 61 (.array .int) true := ⟨RX9, TX9, 72, rfl, by decide, ck8, rfl, (wTb_mem 962 (by decide +kernel) rfl), by decide +kernel, rfl⟩
theorem fX9_146 : wFl RX9 146 8 62 (.array .int) true := ⟨RX9, TX9, 72, rfl, by decide, ck8, rfl, (wTb_mem 963 (by decide +kernel) rfl), by decide +kernel, rfl⟩
theorem fX9_149 : wFl RX9 149 8 63 (.array .int) true := ⟨RX9, TX9, 72, rfl, by decide, ck8, rfl, (wTb_mem 964 (by decide +kernel) rfl), by decide +kernel, rfl⟩
theorem fX9_152 : wFl RX9 152 8 65 (.array .int) true := ⟨RX9, TX9, 72, rfl, by decide, ck8, rfl, (wTb_mem 966 (by decide +kernel) rfl), by decide +kernel, rfl⟩
theorem fX9_155 : wFl RX9 155 8 66 (.array .int) true := ⟨RX9, TX9, 72, rfl, by decide, ck8, rfl, (wTb_mem 967 (by decide +kernel) rfl), by decide +kernel, rfl⟩
theorem fX9_158 : wFl RX9 158 8 67 (.array .int) true := ⟨RX9, TX9, 72, rfl, by decide, ck8, rfl, (wTb_mem 968 (by decide +kernel) rfl), by decide +kernel, rfl⟩
theorem fX9_161 : wFl RX9 161 8 68 (.array .boolean) true := ⟨RX9, TX9, 72, rfl, by decide, ck8, rfl, (wTb_mem 969 (by decide +kernel) rfl), by decide +kernel, rfl⟩
theorem fX9_164 : wFl RX9 164 8 69 (.array .int) true := ⟨RX9, TX9, 72, rfl, by decide, ck8, rfl, (wTb_mem 970 (by decide +kernel) rfl), by decide +kernel, rfl⟩
theorem fX9_167 : wFl RX9 167 8 70 (.array .int) true := ⟨RX9, TX9, 72, rfl, by decide, ck8, rfl, (wTb_mem 971 (by decide +kernel) rfl), by decide +kernel, rfl⟩
theorem fX9_170 : wFl RX9 170 8 1 .int false := ⟨RX9, TX9, 72, rfl, by decide, ck8, rfl, (wTb_mem 902 (by decide +kernel) rfl), by decide +kernel, rfl⟩
theorem fX9_181 : wFl RX9 181 8 7 .int false := ⟨RX9, TX9, 72, rfl, by decide, ck8, rfl, (wTb_mem 908 (by decide +kernel) rfl), by decide +kernel, rfl⟩
theorem fX9_184 : wFl RX9 184 8 3 .int false := ⟨RX9, TX9, 72, rfl, by decide, ck8, rfl, (wTb_mem 904 (by decide +kernel) rfl), by decide +kernel, rfl⟩
theorem fX9_187 : wFl RX9 187 8 8 .int false := ⟨RX9, TX9, 72, rfl, by decide, ck8, rfl, (wTb_mem 909 (by decide +kernel) rfl), by decide +kernel, rfl⟩
theorem fX9_190 : wFl RX9 190 8 2 .int false := ⟨RX9, TX9, 72, rfl, by decide, ck8, rfl, (wTb_mem 903 (by decide +kernel) rfl), by decide +kernel, rfl⟩
theorem fX9_193 : wFl RX9 193 8 5 .long false := ⟨RX9, TX9, 72, rfl, by decide, ck8, rfl, (wTb_mem 906 (by decide +kernel) rfl), by decide +kernel, rfl⟩
theorem fX9_197 : wFl RX9 197 8 4 .int false := ⟨RX9, TX9, 72, rfl, by decide, ck8, rfl, (wTb_mem 905 (by decide +kernel) rfl), by decide +kernel, rfl⟩
theorem fX9_204 : wFl RX9 204 8 6 .int false := ⟨RX9, TX9, 72, rfl, by decide, ck8, rfl, (wTb_mem 907 (by decide +kernel) rfl), by decide +kernel, rfl⟩
theorem fX9_244 : wFl RX9 244 8 14 .int false := ⟨RX9, TX9, 72, rfl, by decide, ck8, rfl, (wTb_mem 915 (by decide +kernel) rfl), by decide +kernel, rfl⟩
theorem fX9_251 : wFl RX9 251 8 33 .int false := ⟨RX9, TX9, 72, rfl, by decide, ck8, rfl, (wTb_mem 934 (by decide +kernel) rfl), by decide +kernel, rfl⟩
theorem fX9_254 : wFl RX9 254 8 12 .int false := ⟨RX9, TX9, 72, rfl, by decide, ck8, rfl, (wTb_mem 913 (by decide +kernel) rfl), by decide +kernel, rfl⟩
theorem fX9_277 : wFl RX9 277 8 11 .int false := ⟨RX9, TX9, 72, rfl, by decide, ck8, rfl, (wTb_mem 912 (by decide +kernel) rfl), by decide +kernel, rfl⟩
theorem fX9_286 : wFl RX9 286 8 13 .int false := ⟨RX9, TX9, 72, rfl, by decide, ck8, rfl, (wTb_mem 914 (by decide +kernel) rfl), by decide +kernel, rfl⟩
theorem fX9_302 : wFl RX9 302 8 24 .int false := ⟨RX9, TX9, 72, rfl, by decide, ck8, rfl, (wTb_mem 925 (by decide +kernel) rfl), by decide +kernel, rfl⟩
theorem fX9_305 : wFl RX9 305 8 25 .int false := ⟨RX9, TX9, 72, rfl, by decide, ck8, rfl, (wTb_mem 926 (by decide +kernel) rfl), by decide +kernel, rfl⟩
theorem fX9_308 : wFl RX9 308 8 64 .int false := ⟨RX9, TX9, 72, rfl, by decide, ck8, rfl, (wTb_mem 965 (by decide +kernel) rfl), by decide +kernel, rfl⟩
theorem fX9_311 : wFl RX9 311 8 55 .int false := ⟨RX9, TX9, 72, rfl, by decide, ck8, rfl, (wTb_mem 956 (by decide +kernel) rfl), by decide +kernel, rfl⟩
theorem fX9_321 : wFl RX9 321 8 54 .int false := ⟨RX9, TX9, 72, rfl, by decide, ck8, rfl, (wTb_mem 955 (by decide +kernel) rfl), by decide +kernel, rfl⟩
theorem fX9_339 : wFl RX9 339 8 40 .int false := ⟨RX9, TX9, 72, rfl, by decide, ck8, rfl, (wTb_mem 941 (by decide +kernel) rfl), by decide +kernel, rfl⟩
theorem fX9_365 : wFl RX9 365 8 71 .int false := ⟨RX9, TX9, 72, rfl, by decide, ck8, rfl, (wTb_mem 972 (by decide +kernel) rfl), by decide +kernel, rfl⟩
abbrev mX0_init : wM := (yX0_init, cX0_init, 1, none, 1, 8, 644)
abbrev mX0_clear : wM := (yX0_clear, cX0_clear, 1, none, 0, 0, 0)
abbrev mX0_add : wM := (yX0_add, cX0_add, 6, (some .int), 0, 0, 0)
abbrev mX0_addDo : wM := (yX0_addDo, cX0_addDo, 5, none, 1, 0, 0)
abbrev mX0_addFork : wM := (yX0_addFork, cX0_addFork, 2, (some .int), 1, 0, 0)
abbrev mX0_aim : wM := (yX0_aim, cX0_aim, 3, none, 1, 0, 0)
abbrev mX0_subjectAt : wM := (yX0_subjectAt, cX0_subjectAt, 2, (some .int), 1, 0, 0)
abbrev mX0_hasOrder : wM := (yX0_hasOrder, cX0_hasOrder, 2, (some .boolean), 0, 0, 0)
abbrev mX0_roleOf : wM := (yX0_roleOf, cX0_roleOf, 2, (some .int), 1, 0, 0)
abbrev mX0_hoursOf : wM := (yX0_hoursOf, cX0_hoursOf, 2, (some .int), 1, 0, 0)
abbrev mX0_eyesOf : wM := (yX0_eyesOf, cX0_eyesOf, 2, (some .int), 1, 0, 0)
abbrev mX0_placeBehind : wM := (yX0_placeBehind, cX0_placeBehind, 2, (some .int), 1, 0, 0)
abbrev mX0_hasDo : wM := (yX0_hasDo, cX0_hasDo, 2, (some .boolean), 0, 0, 0)
abbrev mX1_endOfWorkingHour : wM := (yX1_endOfWorkingHour, cX1_endOfWorkingHour, 5, (some .int), 2, 0, 0)
abbrev mX1_workingHoursBefore : wM := (yX1_workingHoursBefore, cX1_workingHoursBefore, 5, (some .int), 1, 0, 0)
abbrev mX2_init : wM := (yX2_init, cX2_init, 1, none, 1, 6, 48)
abbrev mX2_has : wM := (yX2_has, cX2_has, 2, (some .boolean), 0, 0, 0)
abbrev mX2_add : wM := (yX2_add, cX2_add, 4, (some .int), 0, 0, 0)
abbrev mX2_standInFor : wM := (yX2_standInFor, cX2_standInFor, 4, (some .int), 1, 0, 0)
abbrev mX2_rolesServed : wM := (yX2_rolesServed, cX2_rolesServed, 4, (some .int), 2, 0, 0)
abbrev mX2_hasRoom : wM := (yX2_hasRoom, cX2_hasRoom, 2, (some .boolean), 1, 0, 0)
abbrev mX2_dropClaim : wM := (yX2_dropClaim, cX2_dropClaim, 2, none, 1, 0, 0)
abbrev mX2_countFinished : wM := (yX2_countFinished, cX2_countFinished, 2, none, 1, 0, 0)
abbrev mX3_init : wM := (yX3_init, cX3_init, 1, none, 8, 19, 1037)
abbrev mX3_read : wM := (yX3_read, cX3_read, 2, (some (.object "TaskHouse$Business")), 5, 9, 656)
abbrev mX3_begin : wM := (yX3_begin, cX3_begin, 1, none, 3, 0, 0)
abbrev mX3_fail : wM := (yX3_fail, cX3_fail, 2, none, 0, 0, 0)
abbrev mX3_readStep : wM := (yX3_readStep, cX3_readStep, 3, none, 4, 0, 0)
abbrev mX3_readDo : wM := (yX3_readDo, cX3_readDo, 4, none, 3, 0, 0)
abbrev mX3_readSet : wM := (yX3_readSet, cX3_readSet, 3, none, 3, 0, 0)
abbrev mX3_readTest : wM := (yX3_readTest, cX3_readTest, 3, (some .int), 3, 0, 0)
abbrev mX3_readNewName : wM := (yX3_readNewName, cX3_readNewName, 1, none, 2, 0, 0)
abbrev mX3_readEyes : wM := (yX3_readEyes, cX3_readEyes, 2, (some .int), 2, 0, 0)
abbrev mX3_doNamed : wM := (yX3_doNamed, cX3_doNamed, 3, (some .int), 0, 0, 0)
abbrev mX3_readField : wM := (yX3_readField, cX3_readField, 2, (some .int), 2, 0, 0)
abbrev mX3_readNumber : wM := (yX3_readNumber, cX3_readNumber, 4, (some .int), 2, 0, 0)
abbrev mX3_need : wM := (yX3_need, cX3_need, 2, none, 2, 0, 0)
abbrev mX3_hold : wM := (yX3_hold, cX3_hold, 2, none, 0, 0, 0)
abbrev mX3_openSteps : wM := (yX3_openSteps, cX3_openSteps, 3, none, 3, 0, 0)
abbrev mX3_closeSteps : wM := (yX3_closeSteps, cX3_closeSteps, 2, none, 4, 0, 0)
abbrev mX3_closeAgain : wM := (yX3_closeAgain, cX3_closeAgain, 2, none, 2, 0, 0)
abbrev mX3_turnToSecond : wM := (yX3_turnToSecond, cX3_turnToSecond, 2, none, 3, 0, 0)
abbrev mX3_closeSecond : wM := (yX3_closeSecond, cX3_closeSecond, 3, none, 2, 0, 0)
abbrev mX4_init : wM := (yX4_init, cX4_init, 4, none, 1, 3, 84)
abbrev mX4_lastDoerOf : wM := (yX4_lastDoerOf, cX4_lastDoerOf, 2, (some .int), 0, 0, 0)
abbrev mX4_noteDoer : wM := (yX4_noteDoer, cX4_noteDoer, 3, none, 0, 0, 0)
abbrev mX4_take : wM := (yX4_take, cX4_take, 2, none, 1, 0, 0)
abbrev mX5_init : wM := (yX5_init, cX5_init, 1, none, 7, 2, 309)
abbrev mX5_addFour : wM := (yX5_addFour, cX5_addFour, 3, none, 0, 0, 0)
abbrev mX5_rewind : wM := (yX5_rewind, cX5_rewind, 1, none, 2, 0, 0)
abbrev mX5_take : wM := (yX5_take, cX5_take, 1, none, 1, 0, 0)
abbrev mX5_isTaskName : wM := (yX5_isTaskName, cX5_isTaskName, 1, (some .boolean), 1, 0, 0)
abbrev mX5_letters : wM := (yX5_letters, cX5_letters, 1, (some .int), 0, 0, 0)
abbrev mX5_kindOfKey : wM := (yX5_kindOfKey, cX5_kindOfKey, 3, (some .int), 0, 0, 0)
abbrev mX5_byteAt : wM := (yX5_byteAt, cX5_byteAt, 2, (some .int), 0, 0, 0)
abbrev mX5_keyOf : wM := (yX5_keyOf, cX5_keyOf, 3, (some .int), 6, 0, 0)
abbrev mX5_withLetter : wM := (yX5_withLetter, cX5_withLetter, 2, (some .int), 0, 0, 0)
abbrev mX5_signKind : wM := (yX5_signKind, cX5_signKind, 1, (some .int), 0, 0, 0)
abbrev mX5_isBlank : wM := (yX5_isBlank, cX5_isBlank, 1, (some .boolean), 0, 0, 0)
abbrev mX5_isLetter : wM := (yX5_isLetter, cX5_isLetter, 1, (some .boolean), 0, 0, 0)
abbrev mX5_isDigit : wM := (yX5_isDigit, cX5_isDigit, 1, (some .boolean), 0, 0, 0)
abbrev mX6_init : wM := (yX6_init, cX6_init, 1, none, 1, 9, 1800)
abbrev mX6_has : wM := (yX6_has, cX6_has, 2, (some .boolean), 0, 0, 0)
abbrev mX6_isIn : wM := (yX6_isIn, cX6_isIn, 3, (some .boolean), 1, 0, 0)
abbrev mX6_hasRoomFor : wM := (yX6_hasRoomFor, cX6_hasRoomFor, 2, (some .boolean), 0, 0, 0)
abbrev mX6_add : wM := (yX6_add, cX6_add, 7, none, 3, 0, 0)
abbrev mX6_putByDue : wM := (yX6_putByDue, cX6_putByDue, 3, none, 2, 0, 0)
abbrev mX6_isDueBehind : wM := (yX6_isDueBehind, cX6_isDueBehind, 3, (some .boolean), 1, 0, 0)
abbrev mX6_give : wM := (yX6_give, cX6_give, 3, none, 1, 0, 0)
abbrev mX6_reopen : wM := (yX6_reopen, cX6_reopen, 2, none, 1, 0, 0)
abbrev mX6_reopenAllOf : wM := (yX6_reopenAllOf, cX6_reopenAllOf, 3, none, 2, 0, 0)
abbrev mX6_finish : wM := (yX6_finish, cX6_finish, 3, none, 1, 0, 0)
abbrev mX7_init : wM := (yX7_init, cX7_init, 1, none, 1, 4, 124)
abbrev mX7_startAnew : wM := (yX7_startAnew, cX7_startAnew, 2, none, 1, 0, 0)
abbrev mX7_startFrom : wM := (yX7_startFrom, cX7_startFrom, 2, none, 1, 0, 0)
abbrev mX7_forgetWhatCame : wM := (yX7_forgetWhatCame, cX7_forgetWhatCame, 1, none, 0, 0, 0)
abbrev mX7_put : wM := (yX7_put, cX7_put, 3, none, 0, 0, 0)
abbrev mX7_go : wM := (yX7_go, cX7_go, 5, none, 2, 0, 0)
abbrev mX7_follow : wM := (yX7_follow, cX7_follow, 6, (some .int), 1, 0, 0)
abbrev mX7_nextSecondWay : wM := (yX7_nextSecondWay, cX7_nextSecondWay, 1, (some .int), 0, 0, 0)
abbrev mX7_comeTo : wM := (yX7_comeTo, cX7_comeTo, 2, none, 0, 0, 0)
abbrev mX7_isBelow : wM := (yX7_isBelow, cX7_isBelow, 3, (some .boolean), 0, 0, 0)
abbrev mX7_fork : wM := (yX7_fork, cX7_fork, 3, none, 0, 0, 0)
abbrev mX7_endsLastWay : wM := (yX7_endsLastWay, cX7_endsLastWay, 2, (some .boolean), 0, 0, 0)
abbrev mX8_init : wM := (yX8_init, cX8_init, 1, none, 9, 43, 3055)
abbrev mX8_feed : wM := (yX8_feed, cX8_feed, 7, (some .int), 1, 0, 0)
abbrev mX8_end : wM := (yX8_end, cX8_end, 3, (some .int), 0, 0, 0)
abbrev mX8_business : wM := (yX8_business, cX8_business, 2, (some .int), 6, 9, 656)
abbrev mX8_fault : wM := (yX8_fault, cX8_fault, 2, (some .int), 0, 0, 0)
abbrev mX8_person : wM := (yX8_person, cX8_person, 3, (some .int), 1, 0, 0)
abbrev mX8_deputy : wM := (yX8_deputy, cX8_deputy, 3, (some .boolean), 1, 0, 0)
abbrev mX8_away : wM := (yX8_away, cX8_away, 3, (some .boolean), 3, 0, 0)
abbrev mX8_stands : wM := (yX8_stands, cX8_stands, 2, (some .int), 2, 0, 0)
abbrev mX8_hour : wM := (yX8_hour, cX8_hour, 2, (some .boolean), 0, 0, 0)
abbrev mX8_run : wM := (yX8_run, cX8_run, 3, (some .int), 5, 4, 91)
abbrev mX8_runOf : wM := (yX8_runOf, cX8_runOf, 4, (some .int), 1, 0, 0)
abbrev mX8_task : wM := (yX8_task, cX8_task, 3, (some .int), 1, 0, 0)
abbrev mX8_may : wM := (yX8_may, cX8_may, 3, (some .int), 3, 0, 0)
abbrev mX8_claim : wM := (yX8_claim, cX8_claim, 3, (some .int), 3, 0, 0)
abbrev mX8_giveBack : wM := (yX8_giveBack, cX8_giveBack, 2, (some .boolean), 2, 0, 0)
abbrev mX8_done : wM := (yX8_done, cX8_done, 5, (some .int), 5, 0, 0)
abbrev mX8_list : wM := (yX8_list, cX8_list, 5, (some .int), 4, 0, 0)
abbrev mX8_listed : wM := (yX8_listed, cX8_listed, 7, (some .int), 4, 0, 0)
abbrev mX8_offer : wM := (yX8_offer, cX8_offer, 5, (some .int), 3, 0, 0)
abbrev mX8_late : wM := (yX8_late, cX8_late, 3, (some .int), 0, 0, 0)
abbrev mX8_personOf : wM := (yX8_personOf, cX8_personOf, 3, (some .int), 1, 0, 0)
abbrev mX8_due : wM := (yX8_due, cX8_due, 3, (some .int), 3, 0, 0)
abbrev mX8_about : wM := (yX8_about, cX8_about, 2, (some .int), 0, 0, 0)
abbrev mX8_runAt : wM := (yX8_runAt, cX8_runAt, 2, (some (.object "TaskHouse$Run")), 0, 0, 0)
abbrev mX8_isListed : wM := (yX8_isListed, cX8_isListed, 4, (some .boolean), 3, 0, 0)
abbrev mX8_isAllowed : wM := (yX8_isAllowed, cX8_isAllowed, 5, (some .boolean), 2, 0, 0)
abbrev mX8_finishTask : wM := (yX8_finishTask, cX8_finishTask, 4, none, 2, 0, 0)
abbrev mX8_keepWalk : wM := (yX8_keepWalk, cX8_keepWalk, 5, none, 4, 0, 0)
abbrev mX9_init : wM := (yX9_init, cX9_init, 1, none, 1, 49, 11884)
abbrev mX9_in : wM := (yX9_in, cX9_in, 6, (some .boolean), 0, 0, 0)
abbrev mX9_put : wM := (yX9_put, cX9_put, 2, none, 0, 0, 0)
abbrev mX9_feed : wM := (yX9_feed, cX9_feed, 6, (some .int), 1, 0, 0)
abbrev mX9_end : wM := (yX9_end, cX9_end, 2, (some .int), 1, 0, 0)
abbrev mX9_isWell : wM := (yX9_isWell, cX9_isWell, 1, (some .boolean), 0, 0, 0)
abbrev mX9_fails : wM := (yX9_fails, cX9_fails, 2, none, 0, 0, 0)
abbrev mX9_wordOf : wM := (yX9_wordOf, cX9_wordOf, 1, (some .int), 0, 0, 0)
abbrev mX9_next : wM := (yX9_next, cX9_next, 4, none, 1, 0, 0)
abbrev mX9_isSign : wM := (yX9_isSign, cX9_isSign, 2, (some .boolean), 1, 0, 0)
abbrev mX9_isWord : wM := (yX9_isWord, cX9_isWord, 2, (some .boolean), 1, 0, 0)
abbrev mX9_takes : wM := (yX9_takes, cX9_takes, 3, none, 2, 0, 0)
abbrev mX9_takesWord : wM := (yX9_takesWord, cX9_takesWord, 3, none, 2, 0, 0)
abbrev mX9_number : wM := (yX9_number, cX9_number, 5, (some .int), 2, 0, 0)
abbrev mX9_fieldOf : wM := (yX9_fieldOf, cX9_fieldOf, 3, (some .int), 2, 0, 0)
abbrev mX9_emits : wM := (yX9_emits, cX9_emits, 5, (some .int), 0, 0, 0)
abbrev mX9_opens : wM := (yX9_opens, cX9_opens, 6, none, 3, 0, 0)
abbrev mX9_doNamed : wM := (yX9_doNamed, cX9_doNamed, 5, (some .int), 0, 0, 0)
abbrev mX9_aDo : wM := (yX9_aDo, cX9_aDo, 4, none, 3, 0, 0)
abbrev mX9_step : wM := (yX9_step, cX9_step, 7, none, 4, 0, 0)
abbrev mX9_closes : wM := (yX9_closes, cX9_closes, 6, none, 4, 0, 0)
abbrev mX9_business : wM := (yX9_business, cX9_business, 2, (some .int), 5, 0, 0)
abbrev mX9_holds : wM := (yX9_holds, cX9_holds, 2, none, 0, 0, 0)
abbrev mX9_fault : wM := (yX9_fault, cX9_fault, 2, (some .int), 0, 0, 0)
abbrev mX9_isPerson : wM := (yX9_isPerson, cX9_isPerson, 2, (some .boolean), 1, 0, 0)
abbrev mX9_isTask : wM := (yX9_isTask, cX9_isTask, 2, (some .boolean), 1, 0, 0)
abbrev mX9_person : wM := (yX9_person, cX9_person, 3, (some .int), 1, 0, 0)
abbrev mX9_deputy : wM := (yX9_deputy, cX9_deputy, 3, (some .boolean), 2, 0, 0)
abbrev mX9_away : wM := (yX9_away, cX9_away, 4, (some .boolean), 2, 0, 0)
abbrev mX9_stands : wM := (yX9_stands, cX9_stands, 4, (some .int), 2, 0, 0)
abbrev mX9_hour : wM := (yX9_hour, cX9_hour, 2, (some .boolean), 1, 0, 0)
abbrev mX9_isWorking : wM := (yX9_isWorking, cX9_isWorking, 1, (some .boolean), 0, 0, 0)
abbrev mX9_behind : wM := (yX9_behind, cX9_behind, 4, (some .int), 1, 0, 0)
abbrev mX9_due : wM := (yX9_due, cX9_due, 3, (some .int), 2, 0, 0)
abbrev mX9_goes : wM := (yX9_goes, cX9_goes, 8, (some .boolean), 3, 0, 0)
abbrev mX9_comes : wM := (yX9_comes, cX9_comes, 4, none, 2, 0, 0)
abbrev mX9_run : wM := (yX9_run, cX9_run, 3, (some .int), 4, 0, 0)
abbrev mX9_runOf : wM := (yX9_runOf, cX9_runOf, 5, (some .int), 1, 0, 0)
abbrev mX9_task : wM := (yX9_task, cX9_task, 3, (some .int), 2, 0, 0)
abbrev mX9_didLast : wM := (yX9_didLast, cX9_didLast, 6, (some .int), 0, 0, 0)
abbrev mX9_mayDo : wM := (yX9_mayDo, cX9_mayDo, 8, (some .boolean), 3, 0, 0)
abbrev mX9_may : wM := (yX9_may, cX9_may, 3, (some .int), 4, 0, 0)
abbrev mX9_claims : wM := (yX9_claims, cX9_claims, 4, (some .int), 0, 0, 0)
abbrev mX9_claim : wM := (yX9_claim, cX9_claim, 3, (some .int), 4, 0, 0)
abbrev mX9_giveBack : wM := (yX9_giveBack, cX9_giveBack, 2, (some .boolean), 2, 0, 0)
abbrev mX9_done : wM := (yX9_done, cX9_done, 7, (some .int), 4, 0, 0)
abbrev mX9_isListed : wM := (yX9_isListed, cX9_isListed, 3, (some .boolean), 4, 0, 0)
abbrev mX9_list : wM := (yX9_list, cX9_list, 4, (some .int), 5, 0, 0)
abbrev mX9_listed : wM := (yX9_listed, cX9_listed, 7, (some .int), 5, 0, 0)
abbrev mX9_offer : wM := (yX9_offer, cX9_offer, 5, (some .int), 4, 0, 0)
abbrev mX9_late : wM := (yX9_late, cX9_late, 3, (some .int), 0, 0, 0)
abbrev mX9_personOf : wM := (yX9_personOf, cX9_personOf, 5, (some .int), 2, 0, 0)
abbrev mX9_about : wM := (yX9_about, cX9_about, 2, (some .int), 0, 0, 0)
abbrev mL : wM := (yL_law, cL_law, 4, some .boolean, 11, 600000, 7302249)
theorem kX0_49 : wCv RX0 49 mX0_add 4 := ⟨⟨(wTb_mem 575 (by decide +kernel) rfl), (wTb_mem 69 (by decide +kernel) rfl), (wTb_mem 514 (by decide +kernel) rfl), by decide +kernel, by decide +kernel, by decide +kernel⟩, (wTb_mem 512 (by decide +kernel) rfl), (wTb_mem 513 (by decide +kernel) rfl)⟩
theorem kX0_53 : wCv RX0 53 mX0_hasOrder 1 := ⟨⟨(wTb_mem 519 (by decide +kernel) rfl), (wTb_mem 69 (by decide +kernel) rfl), (wTb_mem 522 (by decide +kernel) rfl), by decide +kernel, by decide +kernel, by decide +kernel⟩, (wTb_mem 520 (by decide +kernel) rfl), (wTb_mem 521 (by decide +kernel) rfl)⟩
theorem kX0_57 : wCv RX0 57 mX0_hasDo 1 := ⟨⟨(wTb_mem 747 (by decide +kernel) rfl), (wTb_mem 69 (by decide +kernel) rfl), (wTb_mem 750 (by decide +kernel) rfl), by decide +kernel, by decide +kernel, by decide +kernel⟩, (wTb_mem 749 (by decide +kernel) rfl), (wTb_mem 29 (by decide +kernel) rfl)⟩
theorem kX1_9 : wCs RX1 9 mX1_workingHoursBefore 1 := ⟨⟨(wTb_mem 754 (by decide +kernel) rfl), (wTb_mem 77 (by decide +kernel) rfl), (wTb_mem 756 (by decide +kernel) rfl), by decide +kernel, by decide +kernel, by decide +kernel⟩, (wTb_mem 755 (by decide +kernel) rfl)⟩
theorem kX2_35 : wCv RX2 35 mX2_has 1 := ⟨⟨(wTb_mem 644 (by decide +kernel) rfl), (wTb_mem 70 (by decide +kernel) rfl), (wTb_mem 615 (by decide +kernel) rfl), by decide +kernel, by decide +kernel, by decide +kernel⟩, (wTb_mem 613 (by decide +kernel) rfl), (wTb_mem 614 (by decide +kernel) rfl)⟩
theorem kX2_39 : wCv RX2 39 mX2_standInFor 1 := ⟨⟨(wTb_mem 798 (by decide +kernel) rfl), (wTb_mem 70 (by decide +kernel) rfl), (wTb_mem 643 (by decide +kernel) rfl), by decide +kernel, by decide +kernel, by decide +kernel⟩, (wTb_mem 641 (by decide +kernel) rfl), (wTb_mem 642 (by decide +kernel) rfl)⟩
theorem kX3_11 : wCi RX3 11 mX5_init 0 := ⟨⟨(wTb_mem 94 (by decide +kernel) rfl), (wTb_mem 64 (by decide +kernel) rfl), (wTb_mem 96 (by decide +kernel) rfl), by decide +kernel, by decide +kernel, by decide +kernel⟩, rfl, (wTb_mem 95 (by decide +kernel) rfl), rfl⟩
theorem kX3_27 : wCi RX3 27 mX0_init 0 := ⟨⟨(wTb_mem 191 (by decide +kernel) rfl), (wTb_mem 69 (by decide +kernel) rfl), (wTb_mem 193 (by decide +kernel) rfl), by decide +kernel, by decide +kernel, by decide +kernel⟩, rfl, (wTb_mem 192 (by decide +kernel) rfl), rfl⟩
theorem kX3_65 : wCv RX3 65 mX3_begin 0 := ⟨⟨(wTb_mem 455 (by decide +kernel) rfl), (wTb_mem 63 (by decide +kernel) rfl), (wTb_mem 458 (by decide +kernel) rfl), by decide +kernel, by decide +kernel, by decide +kernel⟩, (wTb_mem 457 (by decide +kernel) rfl), (wTb_mem 0 (by decide +kernel) rfl)⟩
theorem kX3_71 : wCv RX3 71 mX3_closeSteps 0 := ⟨⟨(wTb_mem 498 (by decide +kernel) rfl), (wTb_mem 63 (by decide +kernel) rfl), (wTb_mem 501 (by decide +kernel) rfl), by decide +kernel, by decide +kernel, by decide +kernel⟩, (wTb_mem 500 (by decide +kernel) rfl), (wTb_mem 4 (by decide +kernel) rfl)⟩
theorem kX3_74 : wCv RX3 74 mX0_add 4 := ⟨⟨(wTb_mem 511 (by decide +kernel) rfl), (wTb_mem 69 (by decide +kernel) rfl), (wTb_mem 514 (by decide +kernel) rfl), by decide +kernel, by decide +kernel, by decide +kernel⟩, (wTb_mem 512 (by decide +kernel) rfl), (wTb_mem 513 (by decide +kernel) rfl)⟩
theorem kX3_78 : wCv RX3 78 mX3_readStep 0 := ⟨⟨(wTb_mem 543 (by decide +kernel) rfl), (wTb_mem 63 (by decide +kernel) rfl), (wTb_mem 546 (by decide +kernel) rfl), by decide +kernel, by decide +kernel, by decide +kernel⟩, (wTb_mem 545 (by decide +kernel) rfl), (wTb_mem 11 (by decide +kernel) rfl)⟩
theorem kX3_81 : wCv RX3 81 mX0_clear 0 := ⟨⟨(wTb_mem 459 (by decide +kernel) rfl), (wTb_mem 69 (by decide +kernel) rfl), (wTb_mem 462 (by decide +kernel) rfl), by decide +kernel, by decide +kernel, by decide +kernel⟩, (wTb_mem 460 (by decide +kernel) rfl), (wTb_mem 461 (by decide +kernel) rfl)⟩
theorem kX3_84 : wCv RX3 84 mX5_rewind 0 := ⟨⟨(wTb_mem 463 (by decide +kernel) rfl), (wTb_mem 64 (by decide +kernel) rfl), (wTb_mem 466 (by decide +kernel) rfl), by decide +kernel, by decide +kernel, by decide +kernel⟩, (wTb_mem 464 (by decide +kernel) rfl), (wTb_mem 465 (by decide +kernel) rfl)⟩
theorem kX3_90 : wCv RX3 90 mX3_fail 1 := ⟨⟨(wTb_mem 506 (by decide +kernel) rfl), (wTb_mem 63 (by decide +kernel) rfl), (wTb_mem 509 (by decide +kernel) rfl), by decide +kernel, by decide +kernel, by decide +kernel⟩, (wTb_mem 508 (by decide +kernel) rfl), (wTb_mem 6 (by decide +kernel) rfl)⟩
theorem kX3_97 : wCv RX3 97 mX5_take 0 := ⟨⟨(wTb_mem 510 (by decide +kernel) rfl), (wTb_mem 64 (by decide +kernel) rfl), (wTb_mem 470 (by decide +kernel) rfl), by decide +kernel, by decide +kernel, by decide +kernel⟩, (wTb_mem 468 (by decide +kernel) rfl), (wTb_mem 469 (by decide +kernel) rfl)⟩
theorem kX3_100 : wCv RX3 100 mX3_readDo 0 := ⟨⟨(wTb_mem 547 (by decide +kernel) rfl), (wTb_mem 63 (by decide +kernel) rfl), (wTb_mem 550 (by decide +kernel) rfl), by decide +kernel, by decide +kernel, by decide +kernel⟩, (wTb_mem 549 (by decide +kernel) rfl), (wTb_mem 12 (by decide +kernel) rfl)⟩
theorem kX3_103 : wCv RX3 103 mX3_readSet 0 := ⟨⟨(wTb_mem 576 (by decide +kernel) rfl), (wTb_mem 63 (by decide +kernel) rfl), (wTb_mem 579 (by decide +kernel) rfl), by decide +kernel, by decide +kernel, by decide +kernel⟩, (wTb_mem 578 (by decide +kernel) rfl), (wTb_mem 17 (by decide +kernel) rfl)⟩
theorem kX3_106 : wCv RX3 106 mX0_addFork 0 := ⟨⟨(wTb_mem 584 (by decide +kernel) rfl), (wTb_mem 69 (by decide +kernel) rfl), (wTb_mem 587 (by decide +kernel) rfl), by decide +kernel, by decide +kernel, by decide +kernel⟩, (wTb_mem 585 (by decide +kernel) rfl), (wTb_mem 586 (by decide +kernel) rfl)⟩
theorem kX3_110 : wCv RX3 110 mX3_openSteps 2 := ⟨⟨(wTb_mem 588 (by decide +kernel) rfl), (wTb_mem 63 (by decide +kernel) rfl), (wTb_mem 591 (by decide +kernel) rfl), by decide +kernel, by decide +kernel, by decide +kernel⟩, (wTb_mem 590 (by decide +kernel) rfl), (wTb_mem 19 (by decide +kernel) rfl)⟩
theorem kX3_114 : wCv RX3 114 mX3_readTest 0 := ⟨⟨(wTb_mem 592 (by decide +kernel) rfl), (wTb_mem 63 (by decide +kernel) rfl), (wTb_mem 595 (by decide +kernel) rfl), by decide +kernel, by decide +kernel, by decide +kernel⟩, (wTb_mem 594 (by decide +kernel) rfl), (wTb_mem 20 (by decide +kernel) rfl)⟩
theorem kX3_120 : wCv RX3 120 mX3_readNewName 0 := ⟨⟨(wTb_mem 551 (by decide +kernel) rfl), (wTb_mem 63 (by decide +kernel) rfl), (wTb_mem 554 (by decide +kernel) rfl), by decide +kernel, by decide +kernel, by decide +kernel⟩, (wTb_mem 553 (by decide +kernel) rfl), (wTb_mem 13 (by decide +kernel) rfl)⟩
theorem kX3_123 : wCv RX3 123 mX3_need 1 := ⟨⟨(wTb_mem 539 (by decide +kernel) rfl), (wTb_mem 63 (by decide +kernel) rfl), (wTb_mem 542 (by decide +kernel) rfl), by decide +kernel, by decide +kernel, by decide +kernel⟩, (wTb_mem 541 (by decide +kernel) rfl), (wTb_mem 10 (by decide +kernel) rfl)⟩
theorem kX3_126 : wCv RX3 126 mX3_readNumber 2 := ⟨⟨(wTb_mem 563 (by decide +kernel) rfl), (wTb_mem 63 (by decide +kernel) rfl), (wTb_mem 566 (by decide +kernel) rfl), by decide +kernel, by decide +kernel, by decide +kernel⟩, (wTb_mem 565 (by decide +kernel) rfl), (wTb_mem 15 (by decide +kernel) rfl)⟩
theorem kX3_130 : wCv RX3 130 mX3_readEyes 0 := ⟨⟨(wTb_mem 567 (by decide +kernel) rfl), (wTb_mem 63 (by decide +kernel) rfl), (wTb_mem 570 (by decide +kernel) rfl), by decide +kernel, by decide +kernel, by decide +kernel⟩, (wTb_mem 569 (by decide +kernel) rfl), (wTb_mem 16 (by decide +kernel) rfl)⟩
theorem kX3_133 : wCv RX3 133 mX0_addDo 3 := ⟨⟨(wTb_mem 571 (by decide +kernel) rfl), (wTb_mem 69 (by decide +kernel) rfl), (wTb_mem 574 (by decide +kernel) rfl), by decide +kernel, by decide +kernel, by decide +kernel⟩, (wTb_mem 572 (by decide +kernel) rfl), (wTb_mem 573 (by decide +kernel) rfl)⟩
theorem kX3_137 : wCv RX3 137 mX3_hold 1 := ⟨⟨(wTb_mem 523 (by decide +kernel) rfl), (wTb_mem 63 (by decide +kernel) rfl), (wTb_mem 526 (by decide +kernel) rfl), by decide +kernel, by decide +kernel, by decide +kernel⟩, (wTb_mem 525 (by decide +kernel) rfl), (wTb_mem 7 (by decide +kernel) rfl)⟩
theorem kX3_141 : wCv RX3 141 mX3_readField 0 := ⟨⟨(wTb_mem 580 (by decide +kernel) rfl), (wTb_mem 63 (by decide +kernel) rfl), (wTb_mem 583 (by decide +kernel) rfl), by decide +kernel, by decide +kernel, by decide +kernel⟩, (wTb_mem 582 (by decide +kernel) rfl), (wTb_mem 18 (by decide +kernel) rfl)⟩
theorem kX3_144 : wCv RX3 144 mX5_isTaskName 0 := ⟨⟨(wTb_mem 555 (by decide +kernel) rfl), (wTb_mem 64 (by decide +kernel) rfl), (wTb_mem 558 (by decide +kernel) rfl), by decide +kernel, by decide +kernel, by decide +kernel⟩, (wTb_mem 556 (by decide +kernel) rfl), (wTb_mem 557 (by decide +kernel) rfl)⟩
theorem kX3_151 : wCv RX3 151 mX3_doNamed 1 := ⟨⟨(wTb_mem 559 (by decide +kernel) rfl), (wTb_mem 63 (by decide +kernel) rfl), (wTb_mem 562 (by decide +kernel) rfl), by decide +kernel, by decide +kernel, by decide +kernel⟩, (wTb_mem 561 (by decide +kernel) rfl), (wTb_mem 14 (by decide +kernel) rfl)⟩
theorem kX3_155 : wCv RX3 155 mX3_closeAgain 1 := ⟨⟨(wTb_mem 502 (by decide +kernel) rfl), (wTb_mem 63 (by decide +kernel) rfl), (wTb_mem 505 (by decide +kernel) rfl), by decide +kernel, by decide +kernel, by decide +kernel⟩, (wTb_mem 504 (by decide +kernel) rfl), (wTb_mem 5 (by decide +kernel) rfl)⟩
theorem kX3_158 : wCv RX3 158 mX3_closeSecond 1 := ⟨⟨(wTb_mem 527 (by decide +kernel) rfl), (wTb_mem 63 (by decide +kernel) rfl), (wTb_mem 530 (by decide +kernel) rfl), by decide +kernel, by decide +kernel, by decide +kernel⟩, (wTb_mem 529 (by decide +kernel) rfl), (wTb_mem 8 (by decide +kernel) rfl)⟩
theorem kX3_161 : wCv RX3 161 mX3_turnToSecond 1 := ⟨⟨(wTb_mem 535 (by decide +kernel) rfl), (wTb_mem 63 (by decide +kernel) rfl), (wTb_mem 538 (by decide +kernel) rfl), by decide +kernel, by decide +kernel, by decide +kernel⟩, (wTb_mem 537 (by decide +kernel) rfl), (wTb_mem 9 (by decide +kernel) rfl)⟩
theorem kX3_164 : wCv RX3 164 mX0_aim 2 := ⟨⟨(wTb_mem 515 (by decide +kernel) rfl), (wTb_mem 69 (by decide +kernel) rfl), (wTb_mem 518 (by decide +kernel) rfl), by decide +kernel, by decide +kernel, by decide +kernel⟩, (wTb_mem 516 (by decide +kernel) rfl), (wTb_mem 517 (by decide +kernel) rfl)⟩
theorem kX3_167 : wCv RX3 167 mX0_subjectAt 1 := ⟨⟨(wTb_mem 531 (by decide +kernel) rfl), (wTb_mem 69 (by decide +kernel) rfl), (wTb_mem 534 (by decide +kernel) rfl), by decide +kernel, by decide +kernel, by decide +kernel⟩, (wTb_mem 532 (by decide +kernel) rfl), (wTb_mem 533 (by decide +kernel) rfl)⟩
theorem kX5_37 : wCs RX5 37 mX5_keyOf 1 := ⟨⟨(wTb_mem 99 (by decide +kernel) rfl), (wTb_mem 64 (by decide +kernel) rfl), (wTb_mem 101 (by decide +kernel) rfl), by decide +kernel, by decide +kernel, by decide +kernel⟩, (wTb_mem 100 (by decide +kernel) rfl)⟩
theorem kX5_57 : wCv RX5 57 mX5_take 0 := ⟨⟨(wTb_mem 467 (by decide +kernel) rfl), (wTb_mem 64 (by decide +kernel) rfl), (wTb_mem 470 (by decide +kernel) rfl), by decide +kernel, by decide +kernel, by decide +kernel⟩, (wTb_mem 468 (by decide +kernel) rfl), (wTb_mem 469 (by decide +kernel) rfl)⟩
theorem kX5_60 : wCv RX5 60 mX5_byteAt 1 := ⟨⟨(wTb_mem 471 (by decide +kernel) rfl), (wTb_mem 64 (by decide +kernel) rfl), (wTb_mem 474 (by decide +kernel) rfl), by decide +kernel, by decide +kernel, by decide +kernel⟩, (wTb_mem 473 (by decide +kernel) rfl), (wTb_mem 1 (by decide +kernel) rfl)⟩
theorem kX5_64 : wCs RX5 64 mX5_isBlank 1 := ⟨⟨(wTb_mem 475 (by decide +kernel) rfl), (wTb_mem 64 (by decide +kernel) rfl), (wTb_mem 477 (by decide +kernel) rfl), by decide +kernel, by decide +kernel, by decide +kernel⟩, (wTb_mem 476 (by decide +kernel) rfl)⟩
theorem kX5_68 : wCs RX5 68 mX5_isLetter 1 := ⟨⟨(wTb_mem 478 (by decide +kernel) rfl), (wTb_mem 64 (by decide +kernel) rfl), (wTb_mem 480 (by decide +kernel) rfl), by decide +kernel, by decide +kernel, by decide +kernel⟩, (wTb_mem 479 (by decide +kernel) rfl)⟩
theorem kX5_71 : wCs RX5 71 mX5_withLetter 2 := ⟨⟨(wTb_mem 150 (by decide +kernel) rfl), (wTb_mem 64 (by decide +kernel) rfl), (wTb_mem 152 (by decide +kernel) rfl), by decide +kernel, by decide +kernel, by decide +kernel⟩, (wTb_mem 151 (by decide +kernel) rfl)⟩
theorem kX5_75 : wCv RX5 75 mX5_letters 0 := ⟨⟨(wTb_mem 481 (by decide +kernel) rfl), (wTb_mem 64 (by decide +kernel) rfl), (wTb_mem 484 (by decide +kernel) rfl), by decide +kernel, by decide +kernel, by decide +kernel⟩, (wTb_mem 483 (by decide +kernel) rfl), (wTb_mem 2 (by decide +kernel) rfl)⟩
theorem kX5_79 : wCv RX5 79 mX5_kindOfKey 1 := ⟨⟨(wTb_mem 485 (by decide +kernel) rfl), (wTb_mem 64 (by decide +kernel) rfl), (wTb_mem 488 (by decide +kernel) rfl), by decide +kernel, by decide +kernel, by decide +kernel⟩, (wTb_mem 487 (by decide +kernel) rfl), (wTb_mem 3 (by decide +kernel) rfl)⟩
theorem kX5_82 : wCs RX5 82 mX5_isDigit 1 := ⟨⟨(wTb_mem 489 (by decide +kernel) rfl), (wTb_mem 64 (by decide +kernel) rfl), (wTb_mem 491 (by decide +kernel) rfl), by decide +kernel, by decide +kernel, by decide +kernel⟩, (wTb_mem 490 (by decide +kernel) rfl)⟩
theorem kX5_90 : wCs RX5 90 mX5_signKind 1 := ⟨⟨(wTb_mem 495 (by decide +kernel) rfl), (wTb_mem 64 (by decide +kernel) rfl), (wTb_mem 497 (by decide +kernel) rfl), by decide +kernel, by decide +kernel, by decide +kernel⟩, (wTb_mem 496 (by decide +kernel) rfl)⟩
theorem kX6_43 : wCv RX6 43 mX6_has 1 := ⟨⟨(wTb_mem 628 (by decide +kernel) rfl), (wTb_mem 71 (by decide +kernel) rfl), (wTb_mem 631 (by decide +kernel) rfl), by decide +kernel, by decide +kernel, by decide +kernel⟩, (wTb_mem 629 (by decide +kernel) rfl), (wTb_mem 630 (by decide +kernel) rfl)⟩
theorem kX6_47 : wCv RX6 47 mX6_putByDue 1 := ⟨⟨(wTb_mem 769 (by decide +kernel) rfl), (wTb_mem 71 (by decide +kernel) rfl), (wTb_mem 772 (by decide +kernel) rfl), by decide +kernel, by decide +kernel, by decide +kernel⟩, (wTb_mem 771 (by decide +kernel) rfl), (wTb_mem 30 (by decide +kernel) rfl)⟩
theorem kX6_51 : wCv RX6 51 mX6_isDueBehind 2 := ⟨⟨(wTb_mem 773 (by decide +kernel) rfl), (wTb_mem 71 (by decide +kernel) rfl), (wTb_mem 776 (by decide +kernel) rfl), by decide +kernel, by decide +kernel, by decide +kernel⟩, (wTb_mem 775 (by decide +kernel) rfl), (wTb_mem 31 (by decide +kernel) rfl)⟩
theorem kX6_55 : wCv RX6 55 mX6_isIn 2 := ⟨⟨(wTb_mem 624 (by decide +kernel) rfl), (wTb_mem 71 (by decide +kernel) rfl), (wTb_mem 627 (by decide +kernel) rfl), by decide +kernel, by decide +kernel, by decide +kernel⟩, (wTb_mem 625 (by decide +kernel) rfl), (wTb_mem 626 (by decide +kernel) rfl)⟩
theorem kX6_58 : wCv RX6 58 mX6_reopen 1 := ⟨⟨(wTb_mem 632 (by decide +kernel) rfl), (wTb_mem 71 (by decide +kernel) rfl), (wTb_mem 635 (by decide +kernel) rfl), by decide +kernel, by decide +kernel, by decide +kernel⟩, (wTb_mem 633 (by decide +kernel) rfl), (wTb_mem 634 (by decide +kernel) rfl)⟩
theorem kX7_35 : wCv RX7 35 mX7_forgetWhatCame 0 := ⟨⟨(wTb_mem 657 (by decide +kernel) rfl), (wTb_mem 72 (by decide +kernel) rfl), (wTb_mem 660 (by decide +kernel) rfl), by decide +kernel, by decide +kernel, by decide +kernel⟩, (wTb_mem 659 (by decide +kernel) rfl), (wTb_mem 21 (by decide +kernel) rfl)⟩
theorem kX7_48 : wCv RX7 48 mX7_follow 2 := ⟨⟨(wTb_mem 665 (by decide +kernel) rfl), (wTb_mem 72 (by decide +kernel) rfl), (wTb_mem 668 (by decide +kernel) rfl), by decide +kernel, by decide +kernel, by decide +kernel⟩, (wTb_mem 667 (by decide +kernel) rfl), (wTb_mem 22 (by decide +kernel) rfl)⟩
theorem kX7_52 : wCv RX7 52 mX7_nextSecondWay 0 := ⟨⟨(wTb_mem 690 (by decide +kernel) rfl), (wTb_mem 72 (by decide +kernel) rfl), (wTb_mem 693 (by decide +kernel) rfl), by decide +kernel, by decide +kernel, by decide +kernel⟩, (wTb_mem 692 (by decide +kernel) rfl), (wTb_mem 27 (by decide +kernel) rfl)⟩
theorem kX7_56 : wCv RX7 56 mX0_hasOrder 1 := ⟨⟨(wTb_mem 669 (by decide +kernel) rfl), (wTb_mem 69 (by decide +kernel) rfl), (wTb_mem 522 (by decide +kernel) rfl), by decide +kernel, by decide +kernel, by decide +kernel⟩, (wTb_mem 520 (by decide +kernel) rfl), (wTb_mem 521 (by decide +kernel) rfl)⟩
theorem kX7_74 : wCv RX7 74 mX7_comeTo 1 := ⟨⟨(wTb_mem 670 (by decide +kernel) rfl), (wTb_mem 72 (by decide +kernel) rfl), (wTb_mem 673 (by decide +kernel) rfl), by decide +kernel, by decide +kernel, by decide +kernel⟩, (wTb_mem 672 (by decide +kernel) rfl), (wTb_mem 23 (by decide +kernel) rfl)⟩
theorem kX7_78 : wCv RX7 78 mX7_put 2 := ⟨⟨(wTb_mem 674 (by decide +kernel) rfl), (wTb_mem 72 (by decide +kernel) rfl), (wTb_mem 677 (by decide +kernel) rfl), by decide +kernel, by decide +kernel, by decide +kernel⟩, (wTb_mem 675 (by decide +kernel) rfl), (wTb_mem 676 (by decide +kernel) rfl)⟩
theorem kX7_82 : wCv RX7 82 mX7_isBelow 2 := ⟨⟨(wTb_mem 678 (by decide +kernel) rfl), (wTb_mem 72 (by decide +kernel) rfl), (wTb_mem 681 (by decide +kernel) rfl), by decide +kernel, by decide +kernel, by decide +kernel⟩, (wTb_mem 680 (by decide +kernel) rfl), (wTb_mem 24 (by decide +kernel) rfl)⟩
theorem kX7_86 : wCv RX7 86 mX7_fork 2 := ⟨⟨(wTb_mem 682 (by decide +kernel) rfl), (wTb_mem 72 (by decide +kernel) rfl), (wTb_mem 685 (by decide +kernel) rfl), by decide +kernel, by decide +kernel, by decide +kernel⟩, (wTb_mem 684 (by decide +kernel) rfl), (wTb_mem 25 (by decide +kernel) rfl)⟩
theorem kX7_89 : wCv RX7 89 mX7_endsLastWay 1 := ⟨⟨(wTb_mem 686 (by decide +kernel) rfl), (wTb_mem 72 (by decide +kernel) rfl), (wTb_mem 689 (by decide +kernel) rfl), by decide +kernel, by decide +kernel, by decide +kernel⟩, (wTb_mem 688 (by decide +kernel) rfl), (wTb_mem 26 (by decide +kernel) rfl)⟩
theorem kX8_9 : wCi RX8 9 mX3_init 0 := ⟨⟨(wTb_mem 88 (by decide +kernel) rfl), (wTb_mem 63 (by decide +kernel) rfl), (wTb_mem 90 (by decide +kernel) rfl), by decide +kernel, by decide +kernel, by decide +kernel⟩, rfl, (wTb_mem 89 (by decide +kernel) rfl), rfl⟩
theorem kX8_18 : wCi RX8 18 mX2_init 0 := ⟨⟨(wTb_mem 289 (by decide +kernel) rfl), (wTb_mem 70 (by decide +kernel) rfl), (wTb_mem 291 (by decide +kernel) rfl), by decide +kernel, by decide +kernel, by decide +kernel⟩, rfl, (wTb_mem 290 (by decide +kernel) rfl), rfl⟩
theorem kX8_25 : wCi RX8 25 mX6_init 0 := ⟨⟨(wTb_mem 324 (by decide +kernel) rfl), (wTb_mem 71 (by decide +kernel) rfl), (wTb_mem 326 (by decide +kernel) rfl), by decide +kernel, by decide +kernel, by decide +kernel⟩, rfl, (wTb_mem 325 (by decide +kernel) rfl), rfl⟩
theorem kX8_32 : wCi RX8 32 mX7_init 0 := ⟨⟨(wTb_mem 371 (by decide +kernel) rfl), (wTb_mem 72 (by decide +kernel) rfl), (wTb_mem 373 (by decide +kernel) rfl), by decide +kernel, by decide +kernel, by decide +kernel⟩, rfl, (wTb_mem 372 (by decide +kernel) rfl), rfl⟩
theorem kX8_69 : wCv RX8 69 mX5_addFour 1 := ⟨⟨(wTb_mem 439 (by decide +kernel) rfl), (wTb_mem 64 (by decide +kernel) rfl), (wTb_mem 442 (by decide +kernel) rfl), by decide +kernel, by decide +kernel, by decide +kernel⟩, (wTb_mem 440 (by decide +kernel) rfl), (wTb_mem 441 (by decide +kernel) rfl)⟩
theorem kX8_73 : wCv RX8 73 mX3_read 0 := ⟨⟨(wTb_mem 451 (by decide +kernel) rfl), (wTb_mem 63 (by decide +kernel) rfl), (wTb_mem 454 (by decide +kernel) rfl), by decide +kernel, by decide +kernel, by decide +kernel⟩, (wTb_mem 452 (by decide +kernel) rfl), (wTb_mem 453 (by decide +kernel) rfl)⟩
theorem kX8_88 : wCv RX8 88 mX2_add 2 := ⟨⟨(wTb_mem 604 (by decide +kernel) rfl), (wTb_mem 70 (by decide +kernel) rfl), (wTb_mem 607 (by decide +kernel) rfl), by decide +kernel, by decide +kernel, by decide +kernel⟩, (wTb_mem 605 (by decide +kernel) rfl), (wTb_mem 606 (by decide +kernel) rfl)⟩
theorem kX8_92 : wCv RX8 92 mX2_has 1 := ⟨⟨(wTb_mem 612 (by decide +kernel) rfl), (wTb_mem 70 (by decide +kernel) rfl), (wTb_mem 615 (by decide +kernel) rfl), by decide +kernel, by decide +kernel, by decide +kernel⟩, (wTb_mem 613 (by decide +kernel) rfl), (wTb_mem 614 (by decide +kernel) rfl)⟩
theorem kX8_104 : wCv RX8 104 mX6_reopenAllOf 1 := ⟨⟨(wTb_mem 620 (by decide +kernel) rfl), (wTb_mem 71 (by decide +kernel) rfl), (wTb_mem 623 (by decide +kernel) rfl), by decide +kernel, by decide +kernel, by decide +kernel⟩, (wTb_mem 621 (by decide +kernel) rfl), (wTb_mem 622 (by decide +kernel) rfl)⟩
theorem kX8_110 : wCv RX8 110 mX2_standInFor 1 := ⟨⟨(wTb_mem 640 (by decide +kernel) rfl), (wTb_mem 70 (by decide +kernel) rfl), (wTb_mem 643 (by decide +kernel) rfl), by decide +kernel, by decide +kernel, by decide +kernel⟩, (wTb_mem 641 (by decide +kernel) rfl), (wTb_mem 642 (by decide +kernel) rfl)⟩
theorem kX8_114 : wCv RX8 114 mX7_startAnew 0 := ⟨⟨(wTb_mem 653 (by decide +kernel) rfl), (wTb_mem 72 (by decide +kernel) rfl), (wTb_mem 656 (by decide +kernel) rfl), by decide +kernel, by decide +kernel, by decide +kernel⟩, (wTb_mem 654 (by decide +kernel) rfl), (wTb_mem 655 (by decide +kernel) rfl)⟩
theorem kX8_117 : wCv RX8 117 mX7_go 2 := ⟨⟨(wTb_mem 661 (by decide +kernel) rfl), (wTb_mem 72 (by decide +kernel) rfl), (wTb_mem 664 (by decide +kernel) rfl), by decide +kernel, by decide +kernel, by decide +kernel⟩, (wTb_mem 662 (by decide +kernel) rfl), (wTb_mem 663 (by decide +kernel) rfl)⟩
theorem kX8_124 : wCv RX8 124 mX6_hasRoomFor 1 := ⟨⟨(wTb_mem 694 (by decide +kernel) rfl), (wTb_mem 71 (by decide +kernel) rfl), (wTb_mem 697 (by decide +kernel) rfl), by decide +kernel, by decide +kernel, by decide +kernel⟩, (wTb_mem 695 (by decide +kernel) rfl), (wTb_mem 696 (by decide +kernel) rfl)⟩
theorem kX8_127 : wCi RX8 127 mX4_init 2 := ⟨⟨(wTb_mem 699 (by decide +kernel) rfl), (wTb_mem 75 (by decide +kernel) rfl), (wTb_mem 701 (by decide +kernel) rfl), by decide +kernel, by decide +kernel, by decide +kernel⟩, rfl, (wTb_mem 700 (by decide +kernel) rfl), rfl⟩
theorem kX8_130 : wCv RX8 130 mX8_keepWalk 1 := ⟨⟨(wTb_mem 732 (by decide +kernel) rfl), (wTb_mem 62 (by decide +kernel) rfl), (wTb_mem 735 (by decide +kernel) rfl), by decide +kernel, by decide +kernel, by decide +kernel⟩, (wTb_mem 734 (by decide +kernel) rfl), (wTb_mem 28 (by decide +kernel) rfl)⟩
theorem kX8_134 : wCv RX8 134 mX8_runAt 1 := ⟨⟨(wTb_mem 781 (by decide +kernel) rfl), (wTb_mem 62 (by decide +kernel) rfl), (wTb_mem 784 (by decide +kernel) rfl), by decide +kernel, by decide +kernel, by decide +kernel⟩, (wTb_mem 783 (by decide +kernel) rfl), (wTb_mem 32 (by decide +kernel) rfl)⟩
theorem kX8_148 : wCv RX8 148 mX6_has 1 := ⟨⟨(wTb_mem 789 (by decide +kernel) rfl), (wTb_mem 71 (by decide +kernel) rfl), (wTb_mem 631 (by decide +kernel) rfl), by decide +kernel, by decide +kernel, by decide +kernel⟩, (wTb_mem 629 (by decide +kernel) rfl), (wTb_mem 630 (by decide +kernel) rfl)⟩
theorem kX8_172 : wCv RX8 172 mX2_rolesServed 1 := ⟨⟨(wTb_mem 794 (by decide +kernel) rfl), (wTb_mem 70 (by decide +kernel) rfl), (wTb_mem 797 (by decide +kernel) rfl), by decide +kernel, by decide +kernel, by decide +kernel⟩, (wTb_mem 795 (by decide +kernel) rfl), (wTb_mem 796 (by decide +kernel) rfl)⟩
theorem kX8_175 : wCv RX8 175 mX8_isAllowed 3 := ⟨⟨(wTb_mem 799 (by decide +kernel) rfl), (wTb_mem 62 (by decide +kernel) rfl), (wTb_mem 802 (by decide +kernel) rfl), by decide +kernel, by decide +kernel, by decide +kernel⟩, (wTb_mem 801 (by decide +kernel) rfl), (wTb_mem 33 (by decide +kernel) rfl)⟩
theorem kX8_179 : wCv RX8 179 mX6_isIn 2 := ⟨⟨(wTb_mem 815 (by decide +kernel) rfl), (wTb_mem 71 (by decide +kernel) rfl), (wTb_mem 627 (by decide +kernel) rfl), by decide +kernel, by decide +kernel, by decide +kernel⟩, (wTb_mem 625 (by decide +kernel) rfl), (wTb_mem 626 (by decide +kernel) rfl)⟩
theorem kX8_183 : wCv RX8 183 mX2_hasRoom 1 := ⟨⟨(wTb_mem 816 (by decide +kernel) rfl), (wTb_mem 70 (by decide +kernel) rfl), (wTb_mem 819 (by decide +kernel) rfl), by decide +kernel, by decide +kernel, by decide +kernel⟩, (wTb_mem 817 (by decide +kernel) rfl), (wTb_mem 818 (by decide +kernel) rfl)⟩
theorem kX8_186 : wCv RX8 186 mX6_give 2 := ⟨⟨(wTb_mem 820 (by decide +kernel) rfl), (wTb_mem 71 (by decide +kernel) rfl), (wTb_mem 823 (by decide +kernel) rfl), by decide +kernel, by decide +kernel, by decide +kernel⟩, (wTb_mem 821 (by decide +kernel) rfl), (wTb_mem 822 (by decide +kernel) rfl)⟩
theorem kX8_190 : wCv RX8 190 mX2_dropClaim 1 := ⟨⟨(wTb_mem 828 (by decide +kernel) rfl), (wTb_mem 70 (by decide +kernel) rfl), (wTb_mem 831 (by decide +kernel) rfl), by decide +kernel, by decide +kernel, by decide +kernel⟩, (wTb_mem 829 (by decide +kernel) rfl), (wTb_mem 830 (by decide +kernel) rfl)⟩
theorem kX8_193 : wCv RX8 193 mX6_reopen 1 := ⟨⟨(wTb_mem 832 (by decide +kernel) rfl), (wTb_mem 71 (by decide +kernel) rfl), (wTb_mem 635 (by decide +kernel) rfl), by decide +kernel, by decide +kernel, by decide +kernel⟩, (wTb_mem 633 (by decide +kernel) rfl), (wTb_mem 634 (by decide +kernel) rfl)⟩
theorem kX8_196 : wCv RX8 196 mX7_startFrom 1 := ⟨⟨(wTb_mem 837 (by decide +kernel) rfl), (wTb_mem 72 (by decide +kernel) rfl), (wTb_mem 840 (by decide +kernel) rfl), by decide +kernel, by decide +kernel, by decide +kernel⟩, (wTb_mem 838 (by decide +kernel) rfl), (wTb_mem 839 (by decide +kernel) rfl)⟩
theorem kX8_199 : wCv RX8 199 mX7_put 2 := ⟨⟨(wTb_mem 842 (by decide +kernel) rfl), (wTb_mem 72 (by decide +kernel) rfl), (wTb_mem 677 (by decide +kernel) rfl), by decide +kernel, by decide +kernel, by decide +kernel⟩, (wTb_mem 675 (by decide +kernel) rfl), (wTb_mem 676 (by decide +kernel) rfl)⟩
theorem kX8_205 : wCv RX8 205 mX0_placeBehind 1 := ⟨⟨(wTb_mem 843 (by decide +kernel) rfl), (wTb_mem 69 (by decide +kernel) rfl), (wTb_mem 846 (by decide +kernel) rfl), by decide +kernel, by decide +kernel, by decide +kernel⟩, (wTb_mem 844 (by decide +kernel) rfl), (wTb_mem 845 (by decide +kernel) rfl)⟩
theorem kX8_208 : wCv RX8 208 mX8_finishTask 2 := ⟨⟨(wTb_mem 847 (by decide +kernel) rfl), (wTb_mem 62 (by decide +kernel) rfl), (wTb_mem 850 (by decide +kernel) rfl), by decide +kernel, by decide +kernel, by decide +kernel⟩, (wTb_mem 849 (by decide +kernel) rfl), (wTb_mem 34 (by decide +kernel) rfl)⟩
theorem kX8_215 : wCv RX8 215 mX8_isListed 3 := ⟨⟨(wTb_mem 867 (by decide +kernel) rfl), (wTb_mem 62 (by decide +kernel) rfl), (wTb_mem 870 (by decide +kernel) rfl), by decide +kernel, by decide +kernel, by decide +kernel⟩, (wTb_mem 869 (by decide +kernel) rfl), (wTb_mem 35 (by decide +kernel) rfl)⟩
theorem kX8_229 : wCs RX8 229 mX1_endOfWorkingHour 2 := ⟨⟨(wTb_mem 751 (by decide +kernel) rfl), (wTb_mem 77 (by decide +kernel) rfl), (wTb_mem 753 (by decide +kernel) rfl), by decide +kernel, by decide +kernel, by decide +kernel⟩, (wTb_mem 752 (by decide +kernel) rfl)⟩
theorem kX8_236 : wCv RX8 236 mX0_eyesOf 1 := ⟨⟨(wTb_mem 803 (by decide +kernel) rfl), (wTb_mem 69 (by decide +kernel) rfl), (wTb_mem 806 (by decide +kernel) rfl), by decide +kernel, by decide +kernel, by decide +kernel⟩, (wTb_mem 804 (by decide +kernel) rfl), (wTb_mem 805 (by decide +kernel) rfl)⟩
theorem kX8_239 : wCv RX8 239 mX4_lastDoerOf 1 := ⟨⟨(wTb_mem 807 (by decide +kernel) rfl), (wTb_mem 75 (by decide +kernel) rfl), (wTb_mem 810 (by decide +kernel) rfl), by decide +kernel, by decide +kernel, by decide +kernel⟩, (wTb_mem 808 (by decide +kernel) rfl), (wTb_mem 809 (by decide +kernel) rfl)⟩
theorem kX8_242 : wCv RX8 242 mX6_finish 2 := ⟨⟨(wTb_mem 851 (by decide +kernel) rfl), (wTb_mem 71 (by decide +kernel) rfl), (wTb_mem 854 (by decide +kernel) rfl), by decide +kernel, by decide +kernel, by decide +kernel⟩, (wTb_mem 852 (by decide +kernel) rfl), (wTb_mem 853 (by decide +kernel) rfl)⟩
theorem kX8_245 : wCv RX8 245 mX2_countFinished 1 := ⟨⟨(wTb_mem 855 (by decide +kernel) rfl), (wTb_mem 70 (by decide +kernel) rfl), (wTb_mem 858 (by decide +kernel) rfl), by decide +kernel, by decide +kernel, by decide +kernel⟩, (wTb_mem 856 (by decide +kernel) rfl), (wTb_mem 857 (by decide +kernel) rfl)⟩
theorem kX8_248 : wCv RX8 248 mX4_noteDoer 2 := ⟨⟨(wTb_mem 859 (by decide +kernel) rfl), (wTb_mem 75 (by decide +kernel) rfl), (wTb_mem 862 (by decide +kernel) rfl), by decide +kernel, by decide +kernel, by decide +kernel⟩, (wTb_mem 860 (by decide +kernel) rfl), (wTb_mem 861 (by decide +kernel) rfl)⟩
theorem kX8_251 : wCv RX8 251 mX4_take 1 := ⟨⟨(wTb_mem 736 (by decide +kernel) rfl), (wTb_mem 75 (by decide +kernel) rfl), (wTb_mem 739 (by decide +kernel) rfl), by decide +kernel, by decide +kernel, by decide +kernel⟩, (wTb_mem 737 (by decide +kernel) rfl), (wTb_mem 738 (by decide +kernel) rfl)⟩
theorem kX8_258 : wCv RX8 258 mX0_hoursOf 1 := ⟨⟨(wTb_mem 743 (by decide +kernel) rfl), (wTb_mem 69 (by decide +kernel) rfl), (wTb_mem 746 (by decide +kernel) rfl), by decide +kernel, by decide +kernel, by decide +kernel⟩, (wTb_mem 744 (by decide +kernel) rfl), (wTb_mem 745 (by decide +kernel) rfl)⟩
theorem kX8_264 : wCv RX8 264 mX0_roleOf 1 := ⟨⟨(wTb_mem 761 (by decide +kernel) rfl), (wTb_mem 69 (by decide +kernel) rfl), (wTb_mem 764 (by decide +kernel) rfl), by decide +kernel, by decide +kernel, by decide +kernel⟩, (wTb_mem 762 (by decide +kernel) rfl), (wTb_mem 763 (by decide +kernel) rfl)⟩
theorem kX8_267 : wCv RX8 267 mX6_add 5 := ⟨⟨(wTb_mem 765 (by decide +kernel) rfl), (wTb_mem 71 (by decide +kernel) rfl), (wTb_mem 768 (by decide +kernel) rfl), by decide +kernel, by decide +kernel, by decide +kernel⟩, (wTb_mem 766 (by decide +kernel) rfl), (wTb_mem 767 (by decide +kernel) rfl)⟩
theorem kX9_173 : wCv RX9 173 mX9_put 1 := ⟨⟨(wTb_mem 1123 (by decide +kernel) rfl), (wTb_mem 73 (by decide +kernel) rfl), (wTb_mem 1126 (by decide +kernel) rfl), by decide +kernel, by decide +kernel, by decide +kernel⟩, (wTb_mem 1125 (by decide +kernel) rfl), (wTb_mem 36 (by decide +kernel) rfl)⟩
theorem kX9_177 : wCs RX9 177 mX9_in 3 := ⟨⟨(wTb_mem 1131 (by decide +kernel) rfl), (wTb_mem 73 (by decide +kernel) rfl), (wTb_mem 1133 (by decide +kernel) rfl), by decide +kernel, by decide +kernel, by decide +kernel⟩, (wTb_mem 1132 (by decide +kernel) rfl)⟩
theorem kX9_211 : wCs RX9 211 mX9_wordOf 1 := ⟨⟨(wTb_mem 1146 (by decide +kernel) rfl), (wTb_mem 73 (by decide +kernel) rfl), (wTb_mem 1148 (by decide +kernel) rfl), by decide +kernel, by decide +kernel, by decide +kernel⟩, (wTb_mem 1147 (by decide +kernel) rfl)⟩
theorem kX9_225 : wCv RX9 225 mX9_isWell 0 := ⟨⟨(wTb_mem 1154 (by decide +kernel) rfl), (wTb_mem 73 (by decide +kernel) rfl), (wTb_mem 1157 (by decide +kernel) rfl), by decide +kernel, by decide +kernel, by decide +kernel⟩, (wTb_mem 1156 (by decide +kernel) rfl), (wTb_mem 38 (by decide +kernel) rfl)⟩
theorem kX9_229 : wCv RX9 229 mX9_isSign 1 := ⟨⟨(wTb_mem 1158 (by decide +kernel) rfl), (wTb_mem 73 (by decide +kernel) rfl), (wTb_mem 1161 (by decide +kernel) rfl), by decide +kernel, by decide +kernel, by decide +kernel⟩, (wTb_mem 1160 (by decide +kernel) rfl), (wTb_mem 39 (by decide +kernel) rfl)⟩
theorem kX9_233 : wCv RX9 233 mX9_next 1 := ⟨⟨(wTb_mem 1138 (by decide +kernel) rfl), (wTb_mem 73 (by decide +kernel) rfl), (wTb_mem 1141 (by decide +kernel) rfl), by decide +kernel, by decide +kernel, by decide +kernel⟩, (wTb_mem 1140 (by decide +kernel) rfl), (wTb_mem 37 (by decide +kernel) rfl)⟩
theorem kX9_236 : wCv RX9 236 mX9_fails 1 := ⟨⟨(wTb_mem 1166 (by decide +kernel) rfl), (wTb_mem 73 (by decide +kernel) rfl), (wTb_mem 1169 (by decide +kernel) rfl), by decide +kernel, by decide +kernel, by decide +kernel⟩, (wTb_mem 1168 (by decide +kernel) rfl), (wTb_mem 41 (by decide +kernel) rfl)⟩
theorem kX9_239 : wCv RX9 239 mX9_isWord 1 := ⟨⟨(wTb_mem 1186 (by decide +kernel) rfl), (wTb_mem 73 (by decide +kernel) rfl), (wTb_mem 1189 (by decide +kernel) rfl), by decide +kernel, by decide +kernel, by decide +kernel⟩, (wTb_mem 1188 (by decide +kernel) rfl), (wTb_mem 46 (by decide +kernel) rfl)⟩
theorem kX9_247 : wCv RX9 247 mX9_takes 2 := ⟨⟨(wTb_mem 1178 (by decide +kernel) rfl), (wTb_mem 73 (by decide +kernel) rfl), (wTb_mem 1181 (by decide +kernel) rfl), by decide +kernel, by decide +kernel, by decide +kernel⟩, (wTb_mem 1180 (by decide +kernel) rfl), (wTb_mem 44 (by decide +kernel) rfl)⟩
theorem kX9_257 : wCv RX9 257 mX9_doNamed 1 := ⟨⟨(wTb_mem 1202 (by decide +kernel) rfl), (wTb_mem 73 (by decide +kernel) rfl), (wTb_mem 1205 (by decide +kernel) rfl), by decide +kernel, by decide +kernel, by decide +kernel⟩, (wTb_mem 1204 (by decide +kernel) rfl), (wTb_mem 49 (by decide +kernel) rfl)⟩
theorem kX9_261 : wCv RX9 261 mX9_takesWord 2 := ⟨⟨(wTb_mem 1182 (by decide +kernel) rfl), (wTb_mem 73 (by decide +kernel) rfl), (wTb_mem 1185 (by decide +kernel) rfl), by decide +kernel, by decide +kernel, by decide +kernel⟩, (wTb_mem 1184 (by decide +kernel) rfl), (wTb_mem 45 (by decide +kernel) rfl)⟩
theorem kX9_264 : wCv RX9 264 mX9_number 3 := ⟨⟨(wTb_mem 1206 (by decide +kernel) rfl), (wTb_mem 73 (by decide +kernel) rfl), (wTb_mem 1209 (by decide +kernel) rfl), by decide +kernel, by decide +kernel, by decide +kernel⟩, (wTb_mem 1208 (by decide +kernel) rfl), (wTb_mem 50 (by decide +kernel) rfl)⟩
theorem kX9_268 : wCv RX9 268 mX9_emits 3 := ⟨⟨(wTb_mem 1170 (by decide +kernel) rfl), (wTb_mem 73 (by decide +kernel) rfl), (wTb_mem 1173 (by decide +kernel) rfl), by decide +kernel, by decide +kernel, by decide +kernel⟩, (wTb_mem 1172 (by decide +kernel) rfl), (wTb_mem 42 (by decide +kernel) rfl)⟩
theorem kX9_280 : wCv RX9 280 mX9_aDo 1 := ⟨⟨(wTb_mem 1198 (by decide +kernel) rfl), (wTb_mem 73 (by decide +kernel) rfl), (wTb_mem 1201 (by decide +kernel) rfl), by decide +kernel, by decide +kernel, by decide +kernel⟩, (wTb_mem 1200 (by decide +kernel) rfl), (wTb_mem 48 (by decide +kernel) rfl)⟩
theorem kX9_283 : wCv RX9 283 mX9_fieldOf 1 := ⟨⟨(wTb_mem 1210 (by decide +kernel) rfl), (wTb_mem 73 (by decide +kernel) rfl), (wTb_mem 1213 (by decide +kernel) rfl), by decide +kernel, by decide +kernel, by decide +kernel⟩, (wTb_mem 1212 (by decide +kernel) rfl), (wTb_mem 51 (by decide +kernel) rfl)⟩
theorem kX9_289 : wCv RX9 289 mX9_opens 5 := ⟨⟨(wTb_mem 1174 (by decide +kernel) rfl), (wTb_mem 73 (by decide +kernel) rfl), (wTb_mem 1177 (by decide +kernel) rfl), by decide +kernel, by decide +kernel, by decide +kernel⟩, (wTb_mem 1176 (by decide +kernel) rfl), (wTb_mem 43 (by decide +kernel) rfl)⟩
theorem kX9_293 : wCv RX9 293 mX9_closes 1 := ⟨⟨(wTb_mem 1162 (by decide +kernel) rfl), (wTb_mem 73 (by decide +kernel) rfl), (wTb_mem 1165 (by decide +kernel) rfl), by decide +kernel, by decide +kernel, by decide +kernel⟩, (wTb_mem 1164 (by decide +kernel) rfl), (wTb_mem 40 (by decide +kernel) rfl)⟩
theorem kX9_296 : wCv RX9 296 mX9_step 1 := ⟨⟨(wTb_mem 1190 (by decide +kernel) rfl), (wTb_mem 73 (by decide +kernel) rfl), (wTb_mem 1193 (by decide +kernel) rfl), by decide +kernel, by decide +kernel, by decide +kernel⟩, (wTb_mem 1192 (by decide +kernel) rfl), (wTb_mem 47 (by decide +kernel) rfl)⟩
theorem kX9_299 : wCv RX9 299 mX9_holds 0 := ⟨⟨(wTb_mem 1214 (by decide +kernel) rfl), (wTb_mem 73 (by decide +kernel) rfl), (wTb_mem 1217 (by decide +kernel) rfl), by decide +kernel, by decide +kernel, by decide +kernel⟩, (wTb_mem 1216 (by decide +kernel) rfl), (wTb_mem 52 (by decide +kernel) rfl)⟩
theorem kX9_318 : wCv RX9 318 mX9_isPerson 1 := ⟨⟨(wTb_mem 1232 (by decide +kernel) rfl), (wTb_mem 73 (by decide +kernel) rfl), (wTb_mem 1235 (by decide +kernel) rfl), by decide +kernel, by decide +kernel, by decide +kernel⟩, (wTb_mem 1234 (by decide +kernel) rfl), (wTb_mem 53 (by decide +kernel) rfl)⟩
theorem kX9_326 : wCs RX9 326 mX9_isWorking 1 := ⟨⟨(wTb_mem 1257 (by decide +kernel) rfl), (wTb_mem 73 (by decide +kernel) rfl), (wTb_mem 1259 (by decide +kernel) rfl), by decide +kernel, by decide +kernel, by decide +kernel⟩, (wTb_mem 1258 (by decide +kernel) rfl)⟩
theorem kX9_331 : wCs RX9 331 mX9_behind 2 := ⟨⟨(wTb_mem 1254 (by decide +kernel) rfl), (wTb_mem 73 (by decide +kernel) rfl), (wTb_mem 1256 (by decide +kernel) rfl), by decide +kernel, by decide +kernel, by decide +kernel⟩, (wTb_mem 1255 (by decide +kernel) rfl)⟩
theorem kX9_335 : wCv RX9 335 mX9_comes 3 := ⟨⟨(wTb_mem 1268 (by decide +kernel) rfl), (wTb_mem 73 (by decide +kernel) rfl), (wTb_mem 1271 (by decide +kernel) rfl), by decide +kernel, by decide +kernel, by decide +kernel⟩, (wTb_mem 1270 (by decide +kernel) rfl), (wTb_mem 55 (by decide +kernel) rfl)⟩
theorem kX9_342 : wCv RX9 342 mX9_goes 2 := ⟨⟨(wTb_mem 1264 (by decide +kernel) rfl), (wTb_mem 73 (by decide +kernel) rfl), (wTb_mem 1267 (by decide +kernel) rfl), by decide +kernel, by decide +kernel, by decide +kernel⟩, (wTb_mem 1266 (by decide +kernel) rfl), (wTb_mem 54 (by decide +kernel) rfl)⟩
theorem kX9_348 : wCv RX9 348 mX9_isTask 1 := ⟨⟨(wTb_mem 1281 (by decide +kernel) rfl), (wTb_mem 73 (by decide +kernel) rfl), (wTb_mem 1284 (by decide +kernel) rfl), by decide +kernel, by decide +kernel, by decide +kernel⟩, (wTb_mem 1283 (by decide +kernel) rfl), (wTb_mem 56 (by decide +kernel) rfl)⟩
theorem kX9_351 : wCv RX9 351 mX9_stands 1 := ⟨⟨(wTb_mem 1293 (by decide +kernel) rfl), (wTb_mem 73 (by decide +kernel) rfl), (wTb_mem 1243 (by decide +kernel) rfl), by decide +kernel, by decide +kernel, by decide +kernel⟩, (wTb_mem 1241 (by decide +kernel) rfl), (wTb_mem 1242 (by decide +kernel) rfl)⟩
theorem kX9_354 : wCv RX9 354 mX9_didLast 2 := ⟨⟨(wTb_mem 1294 (by decide +kernel) rfl), (wTb_mem 73 (by decide +kernel) rfl), (wTb_mem 1297 (by decide +kernel) rfl), by decide +kernel, by decide +kernel, by decide +kernel⟩, (wTb_mem 1296 (by decide +kernel) rfl), (wTb_mem 58 (by decide +kernel) rfl)⟩
theorem kX9_357 : wCv RX9 357 mX9_mayDo 2 := ⟨⟨(wTb_mem 1289 (by decide +kernel) rfl), (wTb_mem 73 (by decide +kernel) rfl), (wTb_mem 1292 (by decide +kernel) rfl), by decide +kernel, by decide +kernel, by decide +kernel⟩, (wTb_mem 1291 (by decide +kernel) rfl), (wTb_mem 57 (by decide +kernel) rfl)⟩
theorem kX9_360 : wCv RX9 360 mX9_claims 1 := ⟨⟨(wTb_mem 1302 (by decide +kernel) rfl), (wTb_mem 73 (by decide +kernel) rfl), (wTb_mem 1305 (by decide +kernel) rfl), by decide +kernel, by decide +kernel, by decide +kernel⟩, (wTb_mem 1304 (by decide +kernel) rfl), (wTb_mem 59 (by decide +kernel) rfl)⟩
theorem kX9_368 : wCv RX9 368 mX9_isListed 2 := ⟨⟨(wTb_mem 1319 (by decide +kernel) rfl), (wTb_mem 73 (by decide +kernel) rfl), (wTb_mem 1322 (by decide +kernel) rfl), by decide +kernel, by decide +kernel, by decide +kernel⟩, (wTb_mem 1321 (by decide +kernel) rfl), (wTb_mem 60 (by decide +kernel) rfl)⟩
theorem kL_9 : wCi RL 9 mX8_init 0 := ⟨⟨(wTb_mem 80 (by decide +kernel) rfl), (wTb_mem 62 (by decide +kernel) rfl), (wTb_mem 82 (by decide +kernel) rfl), by decide +kernel, by decide +kernel, by decide +kernel⟩, rfl, (wTb_mem 81 (by decide +kernel) rfl), rfl⟩
theorem kL_12 : wCi RL 12 mX9_init 0 := ⟨⟨(wTb_mem 897 (by decide +kernel) rfl), (wTb_mem 73 (by decide +kernel) rfl), (wTb_mem 899 (by decide +kernel) rfl), by decide +kernel, by decide +kernel, by decide +kernel⟩, rfl, (wTb_mem 898 (by decide +kernel) rfl), rfl⟩
theorem kL_13 : wCv RL 13 mX8_feed 5 := ⟨⟨(wTb_mem 435 (by decide +kernel) rfl), (wTb_mem 62 (by decide +kernel) rfl), (wTb_mem 438 (by decide +kernel) rfl), by decide +kernel, by decide +kernel, by decide +kernel⟩, (wTb_mem 436 (by decide +kernel) rfl), (wTb_mem 437 (by decide +kernel) rfl)⟩
theorem kL_17 : wCv RL 17 mX9_feed 5 := ⟨⟨(wTb_mem 1119 (by decide +kernel) rfl), (wTb_mem 73 (by decide +kernel) rfl), (wTb_mem 1122 (by decide +kernel) rfl), by decide +kernel, by decide +kernel, by decide +kernel⟩, (wTb_mem 1120 (by decide +kernel) rfl), (wTb_mem 1121 (by decide +kernel) rfl)⟩
theorem kL_18 : wCv RL 18 mX8_end 1 := ⟨⟨(wTb_mem 443 (by decide +kernel) rfl), (wTb_mem 62 (by decide +kernel) rfl), (wTb_mem 446 (by decide +kernel) rfl), by decide +kernel, by decide +kernel, by decide +kernel⟩, (wTb_mem 444 (by decide +kernel) rfl), (wTb_mem 445 (by decide +kernel) rfl)⟩
theorem kL_22 : wCv RL 22 mX9_end 1 := ⟨⟨(wTb_mem 1127 (by decide +kernel) rfl), (wTb_mem 73 (by decide +kernel) rfl), (wTb_mem 1130 (by decide +kernel) rfl), by decide +kernel, by decide +kernel, by decide +kernel⟩, (wTb_mem 1128 (by decide +kernel) rfl), (wTb_mem 1129 (by decide +kernel) rfl)⟩
theorem kL_23 : wCv RL 23 mX8_business 0 := ⟨⟨(wTb_mem 447 (by decide +kernel) rfl), (wTb_mem 62 (by decide +kernel) rfl), (wTb_mem 450 (by decide +kernel) rfl), by decide +kernel, by decide +kernel, by decide +kernel⟩, (wTb_mem 448 (by decide +kernel) rfl), (wTb_mem 449 (by decide +kernel) rfl)⟩
theorem kL_27 : wCv RL 27 mX9_business 0 := ⟨⟨(wTb_mem 1134 (by decide +kernel) rfl), (wTb_mem 73 (by decide +kernel) rfl), (wTb_mem 1137 (by decide +kernel) rfl), by decide +kernel, by decide +kernel, by decide +kernel⟩, (wTb_mem 1135 (by decide +kernel) rfl), (wTb_mem 1136 (by decide +kernel) rfl)⟩
theorem kL_28 : wCv RL 28 mX8_fault 1 := ⟨⟨(wTb_mem 596 (by decide +kernel) rfl), (wTb_mem 62 (by decide +kernel) rfl), (wTb_mem 599 (by decide +kernel) rfl), by decide +kernel, by decide +kernel, by decide +kernel⟩, (wTb_mem 597 (by decide +kernel) rfl), (wTb_mem 598 (by decide +kernel) rfl)⟩
theorem kL_31 : wCv RL 31 mX9_fault 1 := ⟨⟨(wTb_mem 1218 (by decide +kernel) rfl), (wTb_mem 73 (by decide +kernel) rfl), (wTb_mem 1221 (by decide +kernel) rfl), by decide +kernel, by decide +kernel, by decide +kernel⟩, (wTb_mem 1219 (by decide +kernel) rfl), (wTb_mem 1220 (by decide +kernel) rfl)⟩
theorem kL_32 : wCv RL 32 mX8_person 2 := ⟨⟨(wTb_mem 600 (by decide +kernel) rfl), (wTb_mem 62 (by decide +kernel) rfl), (wTb_mem 603 (by decide +kernel) rfl), by decide +kernel, by decide +kernel, by decide +kernel⟩, (wTb_mem 601 (by decide +kernel) rfl), (wTb_mem 602 (by decide +kernel) rfl)⟩
theorem kL_36 : wCv RL 36 mX9_person 2 := ⟨⟨(wTb_mem 1222 (by decide +kernel) rfl), (wTb_mem 73 (by decide +kernel) rfl), (wTb_mem 1225 (by decide +kernel) rfl), by decide +kernel, by decide +kernel, by decide +kernel⟩, (wTb_mem 1223 (by decide +kernel) rfl), (wTb_mem 1224 (by decide +kernel) rfl)⟩
theorem kL_37 : wCv RL 37 mX8_deputy 2 := ⟨⟨(wTb_mem 608 (by decide +kernel) rfl), (wTb_mem 62 (by decide +kernel) rfl), (wTb_mem 611 (by decide +kernel) rfl), by decide +kernel, by decide +kernel, by decide +kernel⟩, (wTb_mem 609 (by decide +kernel) rfl), (wTb_mem 610 (by decide +kernel) rfl)⟩
theorem kL_41 : wCv RL 41 mX9_deputy 2 := ⟨⟨(wTb_mem 1228 (by decide +kernel) rfl), (wTb_mem 73 (by decide +kernel) rfl), (wTb_mem 1231 (by decide +kernel) rfl), by decide +kernel, by decide +kernel, by decide +kernel⟩, (wTb_mem 1229 (by decide +kernel) rfl), (wTb_mem 1230 (by decide +kernel) rfl)⟩
theorem kL_42 : wCv RL 42 mX8_away 2 := ⟨⟨(wTb_mem 616 (by decide +kernel) rfl), (wTb_mem 62 (by decide +kernel) rfl), (wTb_mem 619 (by decide +kernel) rfl), by decide +kernel, by decide +kernel, by decide +kernel⟩, (wTb_mem 617 (by decide +kernel) rfl), (wTb_mem 618 (by decide +kernel) rfl)⟩
theorem kL_46 : wCv RL 46 mX9_away 2 := ⟨⟨(wTb_mem 1236 (by decide +kernel) rfl), (wTb_mem 73 (by decide +kernel) rfl), (wTb_mem 1239 (by decide +kernel) rfl), by decide +kernel, by decide +kernel, by decide +kernel⟩, (wTb_mem 1237 (by decide +kernel) rfl), (wTb_mem 1238 (by decide +kernel) rfl)⟩
theorem kL_47 : wCv RL 47 mX8_stands 1 := ⟨⟨(wTb_mem 636 (by decide +kernel) rfl), (wTb_mem 62 (by decide +kernel) rfl), (wTb_mem 639 (by decide +kernel) rfl), by decide +kernel, by decide +kernel, by decide +kernel⟩, (wTb_mem 637 (by decide +kernel) rfl), (wTb_mem 638 (by decide +kernel) rfl)⟩
theorem kL_50 : wCv RL 50 mX9_stands 1 := ⟨⟨(wTb_mem 1240 (by decide +kernel) rfl), (wTb_mem 73 (by decide +kernel) rfl), (wTb_mem 1243 (by decide +kernel) rfl), by decide +kernel, by decide +kernel, by decide +kernel⟩, (wTb_mem 1241 (by decide +kernel) rfl), (wTb_mem 1242 (by decide +kernel) rfl)⟩
theorem kL_51 : wCv RL 51 mX8_hour 1 := ⟨⟨(wTb_mem 645 (by decide +kernel) rfl), (wTb_mem 62 (by decide +kernel) rfl), (wTb_mem 648 (by decide +kernel) rfl), by decide +kernel, by decide +kernel, by decide +kernel⟩, (wTb_mem 646 (by decide +kernel) rfl), (wTb_mem 647 (by decide +kernel) rfl)⟩
theorem kL_55 : wCv RL 55 mX9_hour 1 := ⟨⟨(wTb_mem 1244 (by decide +kernel) rfl), (wTb_mem 73 (by decide +kernel) rfl), (wTb_mem 1247 (by decide +kernel) rfl), by decide +kernel, by decide +kernel, by decide +kernel⟩, (wTb_mem 1245 (by decide +kernel) rfl), (wTb_mem 1246 (by decide +kernel) rfl)⟩
theorem kL_56 : wCv RL 56 mX8_run 0 := ⟨⟨(wTb_mem 649 (by decide +kernel) rfl), (wTb_mem 62 (by decide +kernel) rfl), (wTb_mem 652 (by decide +kernel) rfl), by decide +kernel, by decide +kernel, by decide +kernel⟩, (wTb_mem 650 (by decide +kernel) rfl), (wTb_mem 651 (by decide +kernel) rfl)⟩
theorem kL_59 : wCv RL 59 mX9_run 0 := ⟨⟨(wTb_mem 1260 (by decide +kernel) rfl), (wTb_mem 73 (by decide +kernel) rfl), (wTb_mem 1263 (by decide +kernel) rfl), by decide +kernel, by decide +kernel, by decide +kernel⟩, (wTb_mem 1261 (by decide +kernel) rfl), (wTb_mem 1262 (by decide +kernel) rfl)⟩
theorem kL_60 : wCv RL 60 mX8_runOf 2 := ⟨⟨(wTb_mem 777 (by decide +kernel) rfl), (wTb_mem 62 (by decide +kernel) rfl), (wTb_mem 780 (by decide +kernel) rfl), by decide +kernel, by decide +kernel, by decide +kernel⟩, (wTb_mem 778 (by decide +kernel) rfl), (wTb_mem 779 (by decide +kernel) rfl)⟩
theorem kL_63 : wCv RL 63 mX9_runOf 2 := ⟨⟨(wTb_mem 1272 (by decide +kernel) rfl), (wTb_mem 73 (by decide +kernel) rfl), (wTb_mem 1275 (by decide +kernel) rfl), by decide +kernel, by decide +kernel, by decide +kernel⟩, (wTb_mem 1273 (by decide +kernel) rfl), (wTb_mem 1274 (by decide +kernel) rfl)⟩
theorem kL_64 : wCv RL 64 mX8_task 2 := ⟨⟨(wTb_mem 785 (by decide +kernel) rfl), (wTb_mem 62 (by decide +kernel) rfl), (wTb_mem 788 (by decide +kernel) rfl), by decide +kernel, by decide +kernel, by decide +kernel⟩, (wTb_mem 786 (by decide +kernel) rfl), (wTb_mem 787 (by decide +kernel) rfl)⟩
theorem kL_67 : wCv RL 67 mX9_task 2 := ⟨⟨(wTb_mem 1277 (by decide +kernel) rfl), (wTb_mem 73 (by decide +kernel) rfl), (wTb_mem 1280 (by decide +kernel) rfl), by decide +kernel, by decide +kernel, by decide +kernel⟩, (wTb_mem 1278 (by decide +kernel) rfl), (wTb_mem 1279 (by decide +kernel) rfl)⟩
theorem kL_68 : wCv RL 68 mX8_may 2 := ⟨⟨(wTb_mem 790 (by decide +kernel) rfl), (wTb_mem 62 (by decide +kernel) rfl), (wTb_mem 793 (by decide +kernel) rfl), by decide +kernel, by decide +kernel, by decide +kernel⟩, (wTb_mem 791 (by decide +kernel) rfl), (wTb_mem 792 (by decide +kernel) rfl)⟩
theorem kL_71 : wCv RL 71 mX9_may 2 := ⟨⟨(wTb_mem 1285 (by decide +kernel) rfl), (wTb_mem 73 (by decide +kernel) rfl), (wTb_mem 1288 (by decide +kernel) rfl), by decide +kernel, by decide +kernel, by decide +kernel⟩, (wTb_mem 1286 (by decide +kernel) rfl), (wTb_mem 1287 (by decide +kernel) rfl)⟩
theorem kL_72 : wCv RL 72 mX8_claim 2 := ⟨⟨(wTb_mem 811 (by decide +kernel) rfl), (wTb_mem 62 (by decide +kernel) rfl), (wTb_mem 814 (by decide +kernel) rfl), by decide +kernel, by decide +kernel, by decide +kernel⟩, (wTb_mem 812 (by decide +kernel) rfl), (wTb_mem 813 (by decide +kernel) rfl)⟩
theorem kL_75 : wCv RL 75 mX9_claim 2 := ⟨⟨(wTb_mem 1298 (by decide +kernel) rfl), (wTb_mem 73 (by decide +kernel) rfl), (wTb_mem 1301 (by decide +kernel) rfl), by decide +kernel, by decide +kernel, by decide +kernel⟩, (wTb_mem 1299 (by decide +kernel) rfl), (wTb_mem 1300 (by decide +kernel) rfl)⟩
theorem kL_76 : wCv RL 76 mX8_giveBack 1 := ⟨⟨(wTb_mem 824 (by decide +kernel) rfl), (wTb_mem 62 (by decide +kernel) rfl), (wTb_mem 827 (by decide +kernel) rfl), by decide +kernel, by decide +kernel, by decide +kernel⟩, (wTb_mem 825 (by decide +kernel) rfl), (wTb_mem 826 (by decide +kernel) rfl)⟩
theorem kL_79 : wCv RL 79 mX9_giveBack 1 := ⟨⟨(wTb_mem 1306 (by decide +kernel) rfl), (wTb_mem 73 (by decide +kernel) rfl), (wTb_mem 1309 (by decide +kernel) rfl), by decide +kernel, by decide +kernel, by decide +kernel⟩, (wTb_mem 1307 (by decide +kernel) rfl), (wTb_mem 1308 (by decide +kernel) rfl)⟩
theorem kL_80 : wCv RL 80 mX8_done 3 := ⟨⟨(wTb_mem 833 (by decide +kernel) rfl), (wTb_mem 62 (by decide +kernel) rfl), (wTb_mem 836 (by decide +kernel) rfl), by decide +kernel, by decide +kernel, by decide +kernel⟩, (wTb_mem 834 (by decide +kernel) rfl), (wTb_mem 835 (by decide +kernel) rfl)⟩
theorem kL_84 : wCv RL 84 mX9_done 3 := ⟨⟨(wTb_mem 1310 (by decide +kernel) rfl), (wTb_mem 73 (by decide +kernel) rfl), (wTb_mem 1313 (by decide +kernel) rfl), by decide +kernel, by decide +kernel, by decide +kernel⟩, (wTb_mem 1311 (by decide +kernel) rfl), (wTb_mem 1312 (by decide +kernel) rfl)⟩
theorem kL_85 : wCv RL 85 mX8_list 1 := ⟨⟨(wTb_mem 863 (by decide +kernel) rfl), (wTb_mem 62 (by decide +kernel) rfl), (wTb_mem 866 (by decide +kernel) rfl), by decide +kernel, by decide +kernel, by decide +kernel⟩, (wTb_mem 864 (by decide +kernel) rfl), (wTb_mem 865 (by decide +kernel) rfl)⟩
theorem kL_88 : wCv RL 88 mX9_list 1 := ⟨⟨(wTb_mem 1315 (by decide +kernel) rfl), (wTb_mem 73 (by decide +kernel) rfl), (wTb_mem 1318 (by decide +kernel) rfl), by decide +kernel, by decide +kernel, by decide +kernel⟩, (wTb_mem 1316 (by decide +kernel) rfl), (wTb_mem 1317 (by decide +kernel) rfl)⟩
theorem kL_89 : wCv RL 89 mX8_listed 2 := ⟨⟨(wTb_mem 871 (by decide +kernel) rfl), (wTb_mem 62 (by decide +kernel) rfl), (wTb_mem 874 (by decide +kernel) rfl), by decide +kernel, by decide +kernel, by decide +kernel⟩, (wTb_mem 872 (by decide +kernel) rfl), (wTb_mem 873 (by decide +kernel) rfl)⟩
theorem kL_92 : wCv RL 92 mX9_listed 2 := ⟨⟨(wTb_mem 1323 (by decide +kernel) rfl), (wTb_mem 73 (by decide +kernel) rfl), (wTb_mem 1326 (by decide +kernel) rfl), by decide +kernel, by decide +kernel, by decide +kernel⟩, (wTb_mem 1324 (by decide +kernel) rfl), (wTb_mem 1325 (by decide +kernel) rfl)⟩
theorem kL_93 : wCv RL 93 mX8_offer 1 := ⟨⟨(wTb_mem 875 (by decide +kernel) rfl), (wTb_mem 62 (by decide +kernel) rfl), (wTb_mem 878 (by decide +kernel) rfl), by decide +kernel, by decide +kernel, by decide +kernel⟩, (wTb_mem 876 (by decide +kernel) rfl), (wTb_mem 877 (by decide +kernel) rfl)⟩
theorem kL_96 : wCv RL 96 mX9_offer 1 := ⟨⟨(wTb_mem 1327 (by decide +kernel) rfl), (wTb_mem 73 (by decide +kernel) rfl), (wTb_mem 1330 (by decide +kernel) rfl), by decide +kernel, by decide +kernel, by decide +kernel⟩, (wTb_mem 1328 (by decide +kernel) rfl), (wTb_mem 1329 (by decide +kernel) rfl)⟩
theorem kL_97 : wCv RL 97 mX8_late 0 := ⟨⟨(wTb_mem 879 (by decide +kernel) rfl), (wTb_mem 62 (by decide +kernel) rfl), (wTb_mem 882 (by decide +kernel) rfl), by decide +kernel, by decide +kernel, by decide +kernel⟩, (wTb_mem 880 (by decide +kernel) rfl), (wTb_mem 881 (by decide +kernel) rfl)⟩
theorem kL_100 : wCv RL 100 mX9_late 0 := ⟨⟨(wTb_mem 1331 (by decide +kernel) rfl), (wTb_mem 73 (by decide +kernel) rfl), (wTb_mem 1334 (by decide +kernel) rfl), by decide +kernel, by decide +kernel, by decide +kernel⟩, (wTb_mem 1332 (by decide +kernel) rfl), (wTb_mem 1333 (by decide +kernel) rfl)⟩
theorem kL_101 : wCv RL 101 mX8_personOf 2 := ⟨⟨(wTb_mem 883 (by decide +kernel) rfl), (wTb_mem 62 (by decide +kernel) rfl), (wTb_mem 886 (by decide +kernel) rfl), by decide +kernel, by decide +kernel, by decide +kernel⟩, (wTb_mem 884 (by decide +kernel) rfl), (wTb_mem 885 (by decide +kernel) rfl)⟩
theorem kL_104 : wCv RL 104 mX9_personOf 2 := ⟨⟨(wTb_mem 1335 (by decide +kernel) rfl), (wTb_mem 73 (by decide +kernel) rfl), (wTb_mem 1338 (by decide +kernel) rfl), by decide +kernel, by decide +kernel, by decide +kernel⟩, (wTb_mem 1336 (by decide +kernel) rfl), (wTb_mem 1337 (by decide +kernel) rfl)⟩
theorem kL_105 : wCv RL 105 mX8_due 2 := ⟨⟨(wTb_mem 887 (by decide +kernel) rfl), (wTb_mem 62 (by decide +kernel) rfl), (wTb_mem 890 (by decide +kernel) rfl), by decide +kernel, by decide +kernel, by decide +kernel⟩, (wTb_mem 888 (by decide +kernel) rfl), (wTb_mem 889 (by decide +kernel) rfl)⟩
theorem kL_108 : wCv RL 108 mX9_due 2 := ⟨⟨(wTb_mem 1249 (by decide +kernel) rfl), (wTb_mem 73 (by decide +kernel) rfl), (wTb_mem 1252 (by decide +kernel) rfl), by decide +kernel, by decide +kernel, by decide +kernel⟩, (wTb_mem 1250 (by decide +kernel) rfl), (wTb_mem 1251 (by decide +kernel) rfl)⟩
theorem kL_109 : wCv RL 109 mX8_about 1 := ⟨⟨(wTb_mem 891 (by decide +kernel) rfl), (wTb_mem 62 (by decide +kernel) rfl), (wTb_mem 894 (by decide +kernel) rfl), by decide +kernel, by decide +kernel, by decide +kernel⟩, (wTb_mem 892 (by decide +kernel) rfl), (wTb_mem 893 (by decide +kernel) rfl)⟩
theorem kL_112 : wCv RL 112 mX9_about 1 := ⟨⟨(wTb_mem 1339 (by decide +kernel) rfl), (wTb_mem 73 (by decide +kernel) rfl), (wTb_mem 1342 (by decide +kernel) rfl), by decide +kernel, by decide +kernel, by decide +kernel⟩, (wTb_mem 1340 (by decide +kernel) rfl), (wTb_mem 1341 (by decide +kernel) rfl)⟩
theorem nL_7 : wNw RL 7 7 tyX8 10 := ⟨RX8, TX8, rfl, ck7, tyX8_ok, (wTb_mem 78 (by decide +kernel) rfl), (wTb_mem 79 (by decide +kernel) rfl), (wTb_mem 62 (by decide +kernel) rfl)⟩
theorem nX8_7 : wNw RX8 7 2 tyX3 14 := ⟨RX3, TX3, rfl, ck2, tyX3_ok, (wTb_mem 86 (by decide +kernel) rfl), (wTb_mem 87 (by decide +kernel) rfl), (wTb_mem 63 (by decide +kernel) rfl)⟩
theorem nX3_9 : wNw RX3 9 4 tyX5 7 := ⟨RX5, TX5, rfl, ck4, tyX5_ok, (wTb_mem 92 (by decide +kernel) rfl), (wTb_mem 93 (by decide +kernel) rfl), (wTb_mem 64 (by decide +kernel) rfl)⟩
theorem ac_byte : Cond.arrayClass .byte ∈ wTb := (wTb_mem 187 (by decide +kernel) rfl)
theorem ac_int : Cond.arrayClass .int ∈ wTb := (wTb_mem 188 (by decide +kernel) rfl)
theorem nX3_25 : wNw RX3 25 0 tyX0 12 := ⟨RX0, TX0, rfl, ck0, tyX0_ok, (wTb_mem 189 (by decide +kernel) rfl), (wTb_mem 190 (by decide +kernel) rfl), (wTb_mem 69 (by decide +kernel) rfl)⟩
theorem ac_boolean : Cond.arrayClass .boolean ∈ wTb := (wTb_mem 286 (by decide +kernel) rfl)
theorem nX8_16 : wNw RX8 16 1 tyX2 7 := ⟨RX2, TX2, rfl, ck1, tyX2_ok, (wTb_mem 287 (by decide +kernel) rfl), (wTb_mem 288 (by decide +kernel) rfl), (wTb_mem 70 (by decide +kernel) rfl)⟩
theorem nX8_23 : wNw RX8 23 5 tyX6 10 := ⟨RX6, TX6, rfl, ck5, tyX6_ok, (wTb_mem 322 (by decide +kernel) rfl), (wTb_mem 323 (by decide +kernel) rfl), (wTb_mem 71 (by decide +kernel) rfl)⟩
theorem nX8_30 : wNw RX8 30 6 tyX7 7 := ⟨RX7, TX7, rfl, ck6, tyX7_ok, (wTb_mem 369 (by decide +kernel) rfl), (wTb_mem 370 (by decide +kernel) rfl), (wTb_mem 72 (by decide +kernel) rfl)⟩
theorem nX8_37 : wNw RX8 37 3 tyX4 7 := ⟨RX4, TX4, rfl, ck3, tyX4_ok, (wTb_mem 402 (by decide +kernel) rfl), (wTb_mem 698 (by decide +kernel) rfl), (wTb_mem 75 (by decide +kernel) rfl)⟩
theorem nL_10 : wNw RL 10 8 tyX9 72 := ⟨RX9, TX9, rfl, ck8, tyX9_ok, (wTb_mem 895 (by decide +kernel) rfl), (wTb_mem 896 (by decide +kernel) rfl), (wTb_mem 73 (by decide +kernel) rfl)⟩
theorem ac_long : Cond.arrayClass .long ∈ wTb := (wTb_mem 1118 (by decide +kernel) rfl)
theorem qX9_200 : Cond.constantLong RX9 200 (97) ∈ wTb := (wTb_mem 1142 (by decide +kernel) rfl)
theorem qX9_202 : Cond.constantLong RX9 202 (122) ∈ wTb := (wTb_mem 1143 (by decide +kernel) rfl)
theorem qX9_207 : Cond.constantLong RX9 207 (32) ∈ wTb := (wTb_mem 1144 (by decide +kernel) rfl)
theorem qX9_209 : Cond.constantLong RX9 209 (96) ∈ wTb := (wTb_mem 1145 (by decide +kernel) rfl)
theorem qX9_215 : Cond.constantLong RX9 215 (48) ∈ wTb := (wTb_mem 1149 (by decide +kernel) rfl)
theorem qX9_217 : Cond.constantLong RX9 217 (57) ∈ wTb := (wTb_mem 1150 (by decide +kernel) rfl)
theorem qX9_219 : Cond.constantLong RX9 219 (9999) ∈ wTb := (wTb_mem 1151 (by decide +kernel) rfl)
theorem qX9_221 : Cond.constantLong RX9 221 (10000) ∈ wTb := (wTb_mem 1152 (by decide +kernel) rfl)
theorem qX9_223 : Cond.constantLong RX9 223 (10) ∈ wTb := (wTb_mem 1153 (by decide +kernel) rfl)
theorem qX9_271 : Cond.constantLong RX9 271 (8) ∈ wTb := (wTb_mem 1194 (by decide +kernel) rfl)
theorem qX9_242 : Cond.constantLong RX9 242 (4) ∈ wTb := (wTb_mem 1195 (by decide +kernel) rfl)
theorem qX9_273 : Cond.constantLong RX9 273 (5) ∈ wTb := (wTb_mem 1196 (by decide +kernel) rfl)
theorem qX9_275 : Cond.constantLong RX9 275 (7) ∈ wTb := (wTb_mem 1197 (by decide +kernel) rfl)
theorem qX9_314 : Cond.constantLong RX9 314 (63) ∈ wTb := (wTb_mem 1226 (by decide +kernel) rfl)
theorem qX9_316 : Cond.constantLong RX9 316 (9) ∈ wTb := (wTb_mem 1227 (by decide +kernel) rfl)
theorem qX9_324 : Cond.constantLong RX9 324 (20000) ∈ wTb := (wTb_mem 1248 (by decide +kernel) rfl)
theorem qX9_329 : Cond.constantLong RX9 329 (99) ∈ wTb := (wTb_mem 1253 (by decide +kernel) rfl)
theorem qX9_346 : Cond.constantLong RX9 346 (3) ∈ wTb := (wTb_mem 1276 (by decide +kernel) rfl)
theorem qX9_363 : Cond.constantLong RX9 363 (-1) ∈ wTb := (wTb_mem 1314 (by decide +kernel) rfl)
theorem oX8_1 : Cond.methodLink RX8 1 Lib.objectInit ∈ wTb ∧ Cond.instanceMethod Lib.objectInit ∈ wTb ∧ Cond.code Lib.objectInit ⟨#[0xb1]⟩ 1 none ∈ wTb := ⟨(wTb_mem 83 (by decide +kernel) rfl), (wTb_mem 84 (by decide +kernel) rfl), (wTb_mem 85 (by decide +kernel) rfl)⟩
theorem oX3_3 : Cond.methodLink RX3 3 Lib.objectInit ∈ wTb ∧ Cond.instanceMethod Lib.objectInit ∈ wTb ∧ Cond.code Lib.objectInit ⟨#[0xb1]⟩ 1 none ∈ wTb := ⟨(wTb_mem 91 (by decide +kernel) rfl), (wTb_mem 84 (by decide +kernel) rfl), (wTb_mem 85 (by decide +kernel) rfl)⟩
theorem oX5_3 : Cond.methodLink RX5 3 Lib.objectInit ∈ wTb ∧ Cond.instanceMethod Lib.objectInit ∈ wTb ∧ Cond.code Lib.objectInit ⟨#[0xb1]⟩ 1 none ∈ wTb := ⟨(wTb_mem 97 (by decide +kernel) rfl), (wTb_mem 84 (by decide +kernel) rfl), (wTb_mem 85 (by decide +kernel) rfl)⟩
theorem oX0_3 : Cond.methodLink RX0 3 Lib.objectInit ∈ wTb ∧ Cond.instanceMethod Lib.objectInit ∈ wTb ∧ Cond.code Lib.objectInit ⟨#[0xb1]⟩ 1 none ∈ wTb := ⟨(wTb_mem 194 (by decide +kernel) rfl), (wTb_mem 84 (by decide +kernel) rfl), (wTb_mem 85 (by decide +kernel) rfl)⟩
theorem oX2_3 : Cond.methodLink RX2 3 Lib.objectInit ∈ wTb ∧ Cond.instanceMethod Lib.objectInit ∈ wTb ∧ Cond.code Lib.objectInit ⟨#[0xb1]⟩ 1 none ∈ wTb := ⟨(wTb_mem 292 (by decide +kernel) rfl), (wTb_mem 84 (by decide +kernel) rfl), (wTb_mem 85 (by decide +kernel) rfl)⟩
theorem oX6_3 : Cond.methodLink RX6 3 Lib.objectInit ∈ wTb ∧ Cond.instanceMethod Lib.objectInit ∈ wTb ∧ Cond.code Lib.objectInit ⟨#[0xb1]⟩ 1 none ∈ wTb := ⟨(wTb_mem 327 (by decide +kernel) rfl), (wTb_mem 84 (by decide +kernel) rfl), (wTb_mem 85 (by decide +kernel) rfl)⟩
theorem oX7_3 : Cond.methodLink RX7 3 Lib.objectInit ∈ wTb ∧ Cond.instanceMethod Lib.objectInit ∈ wTb ∧ Cond.code Lib.objectInit ⟨#[0xb1]⟩ 1 none ∈ wTb := ⟨(wTb_mem 374 (by decide +kernel) rfl), (wTb_mem 84 (by decide +kernel) rfl), (wTb_mem 85 (by decide +kernel) rfl)⟩
theorem oX4_3 : Cond.methodLink RX4 3 Lib.objectInit ∈ wTb ∧ Cond.instanceMethod Lib.objectInit ∈ wTb ∧ Cond.code Lib.objectInit ⟨#[0xb1]⟩ 1 none ∈ wTb := ⟨(wTb_mem 702 (by decide +kernel) rfl), (wTb_mem 84 (by decide +kernel) rfl), (wTb_mem 85 (by decide +kernel) rfl)⟩
theorem oX9_1 : Cond.methodLink RX9 1 Lib.objectInit ∈ wTb ∧ Cond.instanceMethod Lib.objectInit ∈ wTb ∧ Cond.code Lib.objectInit ⟨#[0xb1]⟩ 1 none ∈ wTb := ⟨(wTb_mem 900 (by decide +kernel) rfl), (wTb_mem 84 (by decide +kernel) rfl), (wTb_mem 85 (by decide +kernel) rfl)⟩
end
section
/-! The reference: one object of 72 fields and its 49 arrays behind it. F: its int fields by number; tl: told; R: its int, byte and boolean arrays by their field's number; NL: newName. -/
def mPos : Nat → Option (Nat × Nat × FieldType) := fun k => match k with
  | 0 => some (0, 300, .byte)
  | 15 => some (1, 200, .int)
  | 16 => some (2, 200, .int)
  | 17 => some (3, 200, .int)
  | 18 => some (4, 200, .int)
  | 19 => some (5, 40, .long)
  | 20 => some (6, 40, .int)
  | 21 => some (7, 40, .int)
  | 22 => some (8, 40, .int)
  | 26 => some (9, 200, .int)
  | 27 => some (10, 200, .int)
  | 28 => some (11, 200, .int)
  | 29 => some (12, 200, .int)
  | 30 => some (13, 40, .int)
  | 31 => some (14, 40, .int)
  | 32 => some (15, 40, .int)
  | 34 => some (16, 6, .int)
  | 35 => some (17, 6, .int)
  | 36 => some (18, 6, .int)
  | 37 => some (19, 6, .int)
  | 38 => some (20, 6, .boolean)
  | 39 => some (21, 6, .boolean)
  | 41 => some (22, 8, .int)
  | 42 => some (23, 1600, .int)
  | 43 => some (24, 1600, .int)
  | 44 => some (25, 1600, .int)
  | 45 => some (26, 1600, .int)
  | 46 => some (27, 320, .int)
  | 47 => some (28, 320, .int)
  | 48 => some (29, 320, .int)
  | 49 => some (30, 32, .int)
  | 50 => some (31, 320, .int)
  | 51 => some (32, 8, .boolean)
  | 52 => some (33, 4, .int)
  | 53 => some (34, 40, .int)
  | 56 => some (35, 200, .int)
  | 57 => some (36, 200, .int)
  | 58 => some (37, 200, .int)
  | 59 => some (38, 200, .int)
  | 60 => some (39, 200, .int)
  | 61 => some (40, 200, .int)
  | 62 => some (41, 200, .int)
  | 63 => some (42, 200, .int)
  | 65 => some (43, 8, .int)
  | 66 => some (44, 8, .int)
  | 67 => some (45, 8, .int)
  | 68 => some (46, 8, .boolean)
  | 69 => some (47, 64, .int)
  | 70 => some (48, 200, .int)
  | _ => none
def mFl : List Nat := [0, 15, 16, 17, 18, 19, 20, 21, 22, 26, 27, 28, 29, 30, 31, 32, 34, 35, 36, 37, 38, 39, 41, 42, 43, 44, 45, 46, 47, 48, 49, 50, 51, 52, 53, 56, 57, 58, 59, 60, 61, 62, 63, 65, 66, 67, 68, 69, 70]
def mAd (m kf : Nat) : Nat := m + 1 + ((mPos kf).map (fun q => q.1)).getD 0
def mV (m : Nat) (F : Nat → Int32) (tl : Int64) : Nat → Value := fun k => match mPos k with
  | some _ => .ref (mAd m k)
  | none => if k = 5 then .long tl else .int (F k)
def mE (kf : Nat) (R : Nat → Nat → Int32) (NL : Nat → Int64) : Option wE := (mPos kf).map fun q => .inl (q.2.2, q.2.1, if kf = 19 then .inr (.inl NL) else .inl (R kf))
def mh (m : Nat) (F : Nat → Int32) (tl : Int64) (R : Nat → Nat → Int32) (NL : Nat → Int64) (h0 : Nat → Option wE) : Nat → Option wE := fun a =>
  if a = m then some (.inr (8, mV m F tl)) else if m < a ∧ a < m + 50 then mE (mFl.getD (a - m - 1) 0) R NL else h0 a
theorem mFl_pos : ∀ j, j < 49 → (mPos (mFl.getD j 0)).map (fun q => q.1) = some j := by decide +kernel
theorem mPos_fl : ∀ kf, kf < 72 → ∀ q, mPos kf = some q → q.1 < 49 ∧ mFl.getD q.1 0 = kf := by decide +kernel
theorem mPos_lt {kf : Nat} {q : Nat × Nat × FieldType} (h : mPos kf = some q) : kf < 72 := by
  unfold mPos at h
  split at h <;> first | omega | cases h
theorem mAd_in {kf : Nat} {q : Nat × Nat × FieldType} (m : Nat) (h : mPos kf = some q) : m < mAd m kf ∧ mAd m kf < m + 50 ∧ mFl.getD (mAd m kf - m - 1) 0 = kf := by
  obtain ⟨h1, h2⟩ := mPos_fl kf (mPos_lt h) q h
  have e : mAd m kf = m + 1 + q.1 := by simp [mAd, h]
  refine ⟨by omega, by omega, ?_⟩
  rw [show mAd m kf - m - 1 = q.1 by omega]
  exact h2
theorem mAd_inj {m a kf : Nat} (h1 : m < a) (h2 : a < m + 50) (h3 : mFl.getD (a - m - 1) 0 = kf) : a = mAd m kf := by
  have h := mFl_pos (a - m - 1) (by omega)
  rw [h3] at h
  simp only [mAd, h]
  simp
  omega
section MM
variable {m : Nat} {F : Nat → Int32} {tl : Int64} {R : Nat → Nat → Int32} {NL : Nat → Int64} {h0 : Nat → Option wE}
theorem mh_obj : mh m F tl R NL h0 m = some (.inr (8, mV m F tl)) := by simp [mh]
theorem mh_arr {kf : Nat} {q : Nat × Nat × FieldType} (h : mPos kf = some q) : mh m F tl R NL h0 (mAd m kf) = mE kf R NL := by
  obtain ⟨h1, h2, h3⟩ := mAd_in m h
  simp only [mh]
  rw [if_neg (by omega), if_pos ⟨h1, h2⟩, h3]
theorem mV_i {kf : Nat} (h : mPos kf = none) (h5 : (kf == 5) = false) : mV m F tl kf = .int (F kf) := by
  have : kf ≠ 5 := by intro q; rw [q] at h5; simp at h5
  simp [mV, h, this]
theorem mV_put {kf : Nat} (h : mPos kf = none) (h5 : (kf == 5) = false) (v : Int32) : updV (mV m F tl) kf (.int v) = mV m (upd F kf v) tl := by
  have h5 : kf ≠ 5 := by intro q; rw [q] at h5; simp at h5
  funext k
  by_cases hk : k = kf
  · subst hk
    simp [updV, mV, h, h5, upd]
  · simp [updV, mV, hk, upd]
theorem mV_putl (v : Int64) : updV (mV m F tl) 5 (.long v) = mV m F v := by
  funext k
  by_cases hk : k = 5
  · subst hk
    simp [updV, mV, mPos]
  · simp [updV, mV, hk]
theorem mh_puto (F' : Nat → Int32) (tl' : Int64) : va_up (mh m F tl R NL h0) m (some (.inr (8, mV m F' tl'))) = mh m F' tl' R NL h0 := by
  funext a
  by_cases ha : a = m
  · subst ha
    simp [va_up, mh]
  · simp [va_up, mh, ha]
theorem mE_ne {kf kg : Nat} (R : Nat → Nat → Int32) (g : Nat → Int32) (h : kg ≠ kf) : mE kg (va_up R kf g) NL = mE kg R NL := by
  simp [mE, va_up, h]
theorem mh_puta {kf : Nat} {q : Nat × Nat × FieldType} (h : mPos kf = some q) (h19 : (kf == 19) = false) (g : Nat → Int32) : va_up (mh m F tl R NL h0) (mAd m kf) (some (.inl (q.2.2, q.2.1, .inl g))) = mh m F tl (va_up R kf g) NL h0 := by
  have h19 : kf ≠ 19 := by intro q; rw [q] at h19; simp at h19
  obtain ⟨h1, h2, h3⟩ := mAd_in m h
  funext a
  by_cases ha : a = mAd m kf
  · subst ha
    rw [mh_arr h]
    simp [va_up, mE, h, h19]
  · by_cases hm : a = m
    · subst hm
      simp [va_up, mh, ha]
    · simp only [va_up, if_neg ha, mh, if_neg hm]
      by_cases hb : m < a ∧ a < m + 50
      · rw [if_pos hb, if_pos hb, mE_ne R g (fun e => ha (mAd_inj hb.1 hb.2 e))]
      · rw [if_neg hb, if_neg hb]
theorem mh_putl (g : Nat → Int64) : va_up (mh m F tl R NL h0) (mAd m 19) (some (.inl (.long, 40, .inr (.inl g)))) = mh m F tl R g h0 := by
  have h : mPos 19 = some (5, 40, .long) := rfl
  obtain ⟨h1, h2, h3⟩ := mAd_in m h
  funext a
  by_cases ha : a = mAd m 19
  · subst ha
    rw [mh_arr h]
    simp [va_up, mE, h]
  · by_cases hm : a = m
    · subst hm
      simp [va_up, mh, ha]
    · simp only [va_up, if_neg ha, mh, if_neg hm]
      by_cases hb : m < a ∧ a < m + 50
      · have hne : mFl.getD (a - m - 1) 0 ≠ 19 := fun e => ha (mAd_inj hb.1 hb.2 e)
        rw [if_pos hb, if_pos hb]
        simp only [mE, if_neg hne]
      · rw [if_neg hb, if_neg hb]
variable {G : wG} {M Mc : wM} {cc : ByteArray} {X : wX} {Z : State → Prop} {pc : Nat} {lv : List (Option Value)} {st st0 As : List Value} {k n sz index na : Nat}
theorem mm_geti {kf : Nat} {ty : FieldType} {fin : Bool} (hd : decode cc pc = .ok (.getfield index, 3)) (L : wFl M.1.cls index 8 kf ty fin) (h : mPos kf = none) (h5 : (kf == 5) = false) (kk : WW G M cc X Z (pc + 3) lv (.int (F kf) :: st) (mh m F tl R NL h0, sz) k n) : WW G M cc X Z pc lv (.ref m :: st) (mh m F tl R NL h0, sz) k n :=
  ww_get hd L mh_obj (by rw [mV_i h h5]; exact kk)
theorem mm_getl {ty : FieldType} {fin : Bool} (hd : decode cc pc = .ok (.getfield index, 3)) (L : wFl M.1.cls index 8 5 ty fin) (kk : WW G M cc X Z (pc + 3) lv (.long tl :: st) (mh m F tl R NL h0, sz) k n) : WW G M cc X Z pc lv (.ref m :: st) (mh m F tl R NL h0, sz) k n :=
  ww_get hd L mh_obj kk
theorem mm_getr {kf : Nat} {ty : FieldType} {fin : Bool} {q : Nat × Nat × FieldType} (hd : decode cc pc = .ok (.getfield index, 3)) (L : wFl M.1.cls index 8 kf ty fin) (h : mPos kf = some q) (kk : WW G M cc X Z (pc + 3) lv (.ref (mAd m kf) :: st) (mh m F tl R NL h0, sz) k n) : WW G M cc X Z pc lv (.ref m :: st) (mh m F tl R NL h0, sz) k n :=
  ww_get hd L mh_obj (by
    have : mV m F tl kf = .ref (mAd m kf) := by simp [mV, h]
    rw [this]; exact kk)
theorem mm_puti {kf : Nat} {v : Int32} (hd : decode cc pc = .ok (.putfield index, 3)) (L : wFl M.1.cls index 8 kf .int false) (h : mPos kf = none) (h5 : (kf == 5) = false) (kk : WW G M cc X Z (pc + 3) lv st (mh m (upd F kf v) tl R NL h0, sz) k n) : WW G M cc X Z pc lv (.int v :: .ref m :: st) (mh m F tl R NL h0, sz) k n :=
  ww_put hd L rfl rfl mh_obj (by dsimp only; rw [mV_put h h5, mh_puto]; exact kk)
theorem mm_putl {v : Int64} (hd : decode cc pc = .ok (.putfield index, 3)) (L : wFl M.1.cls index 8 5 .long false) (kk : WW G M cc X Z (pc + 3) lv st (mh m F v R NL h0, sz) k n) : WW G M cc X Z pc lv (.long v :: .ref m :: st) (mh m F tl R NL h0, sz) k n :=
  ww_put hd L rfl rfl mh_obj (by dsimp only; rw [mV_putl, mh_puto]; exact kk)
theorem mm_iald {kf j p0 nn : Nat} {i : Int32} (hd : decode cc pc = .ok (.iaload, 1)) (h : mPos kf = some (p0, nn, .int)) (hi : i = nI j) (hj : j < nn) (hnn : Nat.blt nn 2147483648 = true) (h19 : (kf == 19) = false) (kk : WW G M cc X Z (pc + 1) lv (.int (R kf j) :: st) (mh m F tl R NL h0, sz) k n) : WW G M cc X Z pc lv (.int i :: .ref (mAd m kf) :: st) (mh m F tl R NL h0, sz) k n := by
  have h19 : kf ≠ 19 := by intro q; rw [q] at h19; simp at h19
  exact ww_iald hd ((mh_arr h).trans (by simp [mE, h, h19])) hi hj (Nat.blt_eq.mp hnn) kk
theorem mm_bald {kf j p0 nn : Nat} {i : Int32} (hd : decode cc pc = .ok (.baload, 1)) (h : mPos kf = some (p0, nn, .byte)) (hi : i = nI j) (hj : j < nn) (hnn : Nat.blt nn 2147483648 = true) (h19 : (kf == 19) = false) (kk : WW G M cc X Z (pc + 1) lv (.int (R kf j) :: st) (mh m F tl R NL h0, sz) k n) : WW G M cc X Z pc lv (.int i :: .ref (mAd m kf) :: st) (mh m F tl R NL h0, sz) k n := by
  have h19 : kf ≠ 19 := by intro q; rw [q] at h19; simp at h19
  exact ww_bald hd ((mh_arr h).trans (by simp [mE, h, h19])) hi hj (Nat.blt_eq.mp hnn) kk
theorem mm_zald {kf j p0 nn : Nat} {i : Int32} (hd : decode cc pc = .ok (.baload, 1)) (h : mPos kf = some (p0, nn, .boolean)) (hi : i = nI j) (hj : j < nn) (hnn : Nat.blt nn 2147483648 = true) (h19 : (kf == 19) = false) (kk : WW G M cc X Z (pc + 1) lv (.int (R kf j) :: st) (mh m F tl R NL h0, sz) k n) : WW G M cc X Z pc lv (.int i :: .ref (mAd m kf) :: st) (mh m F tl R NL h0, sz) k n := by
  have h19 : kf ≠ 19 := by intro q; rw [q] at h19; simp at h19
  exact ww_zald hd ((mh_arr h).trans (by simp [mE, h, h19])) hi hj (Nat.blt_eq.mp hnn) kk
theorem mm_lald {j : Nat} {i : Int32} (hd : decode cc pc = .ok (.laload, 1)) (hi : i = nI j) (hj : j < 40) (kk : WW G M cc X Z (pc + 1) lv (.long (NL j) :: st) (mh m F tl R NL h0, sz) k n) : WW G M cc X Z pc lv (.int i :: .ref (mAd m 19) :: st) (mh m F tl R NL h0, sz) k n :=
  ww_lald hd ((mh_arr (q := (5, 40, .long)) rfl).trans rfl) hi hj (by decide) kk
theorem mm_iast {kf j p0 nn : Nat} {i x : Int32} (hd : decode cc pc = .ok (.iastore, 1)) (h : mPos kf = some (p0, nn, .int)) (hi : i = nI j) (hj : j < nn) (hnn : Nat.blt nn 2147483648 = true) (h19 : (kf == 19) = false) (kk : WW G M cc X Z (pc + 1) lv st (mh m F tl (va_up R kf (upd (R kf) j x)) NL h0, sz) k n) : WW G M cc X Z pc lv (.int x :: .int i :: .ref (mAd m kf) :: st) (mh m F tl R NL h0, sz) k n := by
  have h19' : kf ≠ 19 := by intro q; rw [q] at h19; simp at h19
  refine ww_iast (f := R kf) hd ((mh_arr h).trans (by simp [mE, h, h19'])) hi hj (Nat.blt_eq.mp hnn) ?_
  have e := mh_puta (m := m) (F := F) (tl := tl) (R := R) (NL := NL) (h0 := h0) h h19 (upd (R kf) j x)
  dsimp only at e ⊢
  rw [e]
  exact kk
theorem mm_bast {kf j p0 nn : Nat} {i x : Int32} (hd : decode cc pc = .ok (.bastore, 1)) (h : mPos kf = some (p0, nn, .byte)) (hi : i = nI j) (hj : j < nn) (hnn : Nat.blt nn 2147483648 = true) (h19 : (kf == 19) = false) (kk : WW G M cc X Z (pc + 1) lv st (mh m F tl (va_up R kf (upd (R kf) j (vp_nar .byte x))) NL h0, sz) k n) : WW G M cc X Z pc lv (.int x :: .int i :: .ref (mAd m kf) :: st) (mh m F tl R NL h0, sz) k n := by
  have h19' : kf ≠ 19 := by intro q; rw [q] at h19; simp at h19
  refine ww_bast (f := R kf) hd ((mh_arr h).trans (by simp [mE, h, h19'])) hi hj (Nat.blt_eq.mp hnn) ?_
  have e := mh_puta (m := m) (F := F) (tl := tl) (R := R) (NL := NL) (h0 := h0) h h19 (upd (R kf) j (vp_nar .byte x))
  dsimp only at e ⊢
  rw [e]
  exact kk
theorem mm_zast {kf j p0 nn : Nat} {i x : Int32} (hd : decode cc pc = .ok (.bastore, 1)) (h : mPos kf = some (p0, nn, .boolean)) (hi : i = nI j) (hj : j < nn) (hnn : Nat.blt nn 2147483648 = true) (h19 : (kf == 19) = false) (kk : WW G M cc X Z (pc + 1) lv st (mh m F tl (va_up R kf (upd (R kf) j (vp_nar .boolean x))) NL h0, sz) k n) : WW G M cc X Z pc lv (.int x :: .int i :: .ref (mAd m kf) :: st) (mh m F tl R NL h0, sz) k n := by
  have h19' : kf ≠ 19 := by intro q; rw [q] at h19; simp at h19
  refine ww_zast (f := R kf) hd ((mh_arr h).trans (by simp [mE, h, h19'])) hi hj (Nat.blt_eq.mp hnn) ?_
  have e := mh_puta (m := m) (F := F) (tl := tl) (R := R) (NL := NL) (h0 := h0) h h19 (upd (R kf) j (vp_nar .boolean x))
  dsimp only at e ⊢
  rw [e]
  exact kk
theorem mm_last {j : Nat} {i : Int32} {x : Int64} (hd : decode cc pc = .ok (.lastore, 1)) (hi : i = nI j) (hj : j < 40) (kk : WW G M cc X Z (pc + 1) lv st (mh m F tl R (vp_updL NL j x) h0, sz) k n) : WW G M cc X Z pc lv (.long x :: .int i :: .ref (mAd m 19) :: st) (mh m F tl R NL h0, sz) k n := by
  refine ww_last (f := NL) hd ((mh_arr (q := (5, 40, .long)) rfl).trans rfl) hi hj (by decide) ?_
  dsimp only
  rw [mh_putl]
  exact kk
theorem mm_call {Q : Option Value → wH → Prop} (hd : decode cc pc = .ok (.invokevirtual index, 3)) (L : wCv M.1.cls index Mc na) (hcl : Mc.1.cls = RX9) (hs : Sat G Mc (.ref m :: As) (mh m F tl R NL h0, sz) Q) (hst : st0 = As.reverse ++ .ref m :: st) (hna : As.length = na) (hlev : Nat.ble (Mc.2.2.2.2.1 + 1) M.2.2.2.2.1 = true) (hmx : Nat.ble Mc.2.2.1 15 = true) (hro : Nat.ble (st.map fun v => v.category).sum 8 = true) (hz : Mc.2.2.2.2.2 = (0, 0)) (hk : k ≤ M.2.2.2.2.2.1) (hn : n ≤ M.2.2.2.2.2.2) (kk : ∀ v h', Q v h' → WW G M cc X Z (pc + 3) lv (v.toList ++ st) h' k n) : WW G M cc X Z pc lv st0 (mh m F tl R NL h0, sz) k n :=
  ww_callV hd L mh_obj rfl hcl.symm hs hst hna hlev hmx hro (by rw [hz]; exact hk) (by rw [hz]; exact hn) (by rw [hz]; exact kk)
theorem mm_call0 {h' : wH} (hd : decode cc pc = .ok (.invokevirtual index, 3)) (L : wCv M.1.cls index Mc na) (hcl : Mc.1.cls = RX9) (hs : Sat G Mc (.ref m :: As) (mh m F tl R NL h0, sz) (Det none h')) (hst : st0 = As.reverse ++ .ref m :: st) (hna : As.length = na) (hlev : Nat.ble (Mc.2.2.2.2.1 + 1) M.2.2.2.2.1 = true) (hmx : Nat.ble Mc.2.2.1 15 = true) (hro : Nat.ble (st.map fun v => v.category).sum 8 = true) (hz : Mc.2.2.2.2.2 = (0, 0)) (hk : k ≤ M.2.2.2.2.2.1) (hn : n ≤ M.2.2.2.2.2.2) (kk : WW G M cc X Z (pc + 3) lv st h' k n) : WW G M cc X Z pc lv st0 (mh m F tl R NL h0, sz) k n :=
  mm_call hd L hcl hs hst hna hlev hmx hro hz hk hn (fun v h2 q => by obtain ⟨q1, q2⟩ := q; subst q1; subst q2; exact kk)
theorem mm_call1 {h' : wH} {v : Value} (hd : decode cc pc = .ok (.invokevirtual index, 3)) (L : wCv M.1.cls index Mc na) (hcl : Mc.1.cls = RX9) (hs : Sat G Mc (.ref m :: As) (mh m F tl R NL h0, sz) (Det (some v) h')) (hst : st0 = As.reverse ++ .ref m :: st) (hna : As.length = na) (hlev : Nat.ble (Mc.2.2.2.2.1 + 1) M.2.2.2.2.1 = true) (hmx : Nat.ble Mc.2.2.1 15 = true) (hro : Nat.ble (st.map fun v => v.category).sum 8 = true) (hz : Mc.2.2.2.2.2 = (0, 0)) (hk : k ≤ M.2.2.2.2.2.1) (hn : n ≤ M.2.2.2.2.2.2) (kk : WW G M cc X Z (pc + 3) lv (v :: st) h' k n) : WW G M cc X Z pc lv st0 (mh m F tl R NL h0, sz) k n :=
  mm_call hd L hcl hs hst hna hlev hmx hro hz hk hn (fun v2 h2 q => by obtain ⟨q1, q2⟩ := q; subst q1; subst q2; exact kk)
theorem ww_calls1 {h h' : wH} {v : Value} (hd : decode cc pc = .ok (.invokestatic index, 3)) (L : wCs M.1.cls index Mc na) (hs : Sat G Mc As h (Det (some v) h')) (hst : st0 = As.reverse ++ st) (hna : As.length = na) (hlev : Nat.ble (Mc.2.2.2.2.1 + 1) M.2.2.2.2.1 = true) (hmx : Nat.ble Mc.2.2.1 15 = true) (hro : Nat.ble (st.map fun v => v.category).sum 8 = true) (hz : Mc.2.2.2.2.2 = (0, 0)) (hk : k ≤ M.2.2.2.2.2.1) (hn : n ≤ M.2.2.2.2.2.2) (kk : WW G M cc X Z (pc + 3) lv (v :: st) h' k n) : WW G M cc X Z pc lv st0 h k n :=
  ww_callS hd L hs hst hna hlev hmx hro (by rw [hz]; exact hk) (by rw [hz]; exact hn) (fun v2 h2 q => by obtain ⟨q1, q2⟩ := q; subst q1; subst q2; rw [hz]; exact kk)
end MM
end
section
theorem lgc_lt (x y : Int64) : lg_cmp x y < 0 ↔ x < y := by
  unfold lg_cmp
  by_cases h1 : x > y
  · rw [if_pos h1]
    exact ⟨fun h => absurd h (by decide), fun h => absurd h (Int64.lt_asymm h1)⟩
  · rw [if_neg h1]
    by_cases h2 : x = y
    · rw [if_pos h2]
      exact ⟨fun h => absurd h (by decide), fun h => absurd h (by rw [h2]; exact Int64.lt_irrefl)⟩
    · rw [if_neg h2]
      refine ⟨fun _ => ?_, fun _ => by decide⟩
      rcases Int64.lt_or_lt_of_ne h2 with q | q
      · exact q
      · exact absurd q h1
theorem lgc_gt (x y : Int64) : 0 < lg_cmp x y ↔ y < x := by
  unfold lg_cmp
  by_cases h1 : x > y
  · rw [if_pos h1]
    exact ⟨fun _ => h1, fun _ => by decide⟩
  · rw [if_neg h1]
    refine ⟨fun h => ?_, fun h => absurd h h1⟩
    by_cases h2 : x = y
    · rw [if_pos h2] at h; exact absurd h (by decide)
    · rw [if_neg h2] at h; exact absurd h (by decide)
theorem lgc_eq (x y : Int64) : lg_cmp x y = 0 ↔ x = y := by
  unfold lg_cmp
  by_cases h1 : x > y
  · rw [if_pos h1]
    refine ⟨fun h => absurd h (by decide), fun h => absurd h1 (by rw [h]; exact Int64.lt_irrefl)⟩
  · rw [if_neg h1]
    by_cases h2 : x = y
    · rw [if_pos h2]; exact ⟨fun _ => h2, fun _ => rfl⟩
    · rw [if_neg h2]; exact ⟨fun h => absurd h (by decide), fun h => absurd h h2⟩
theorem w_up_self {α : Type} (f : Nat → α) (k : Nat) (v : α) : va_up f k v k = v := by simp [va_up]
theorem w_up_up {α : Type} (f : Nat → α) (k : Nat) (v w : α) : va_up (va_up f k v) k w = va_up f k w := bx_uu f k v w
theorem w_upd_upd (f : Nat → Int32) (k : Nat) (v w : Int32) : upd (upd f k v) k w = upd f k w := by
  funext j
  by_cases h : j = k <;> simp [upd, h]
theorem w_upd_self (f : Nat → Int32) (k : Nat) (v : Int32) : upd f k v k = v := by simp [upd]
theorem w_up_id {α : Type} (f : Nat → α) (k : Nat) : va_up f k (f k) = f := by
  funext j
  by_cases h : j = k <;> simp [va_up, h]
def wb (b : Bool) : Int32 := if b = true then 1 else 0
theorem wb_eq0 {b : Bool} : wb b = 0 ↔ b = false := by cases b <;> simp [wb]
theorem wb_ne0 {b : Bool} : ¬ wb b = 0 ↔ b = true := by cases b <;> simp [wb]
theorem wb_nt {b : Bool} (h : b = false) : ¬ b = true := by rw [h]; decide
theorem wb_01 (b : Bool) : wb b = 0 ∨ wb b = 1 := by cases b <;> simp [wb]
/-- x is a place of a row of n -/
def wIn (x : Int32) (n : Nat) : Bool := decide (0 ≤ x.toInt ∧ x.toInt < n)
theorem in_c {x : Int32} {lo hi : Int64} {a b : Int} (ha : lo.toInt = a) (hb : hi.toInt = b) : decide (lo ≤ x.toInt64 ∧ x.toInt64 ≤ hi) = decide (a ≤ x.toInt ∧ x.toInt ≤ b) := by
  simp only [Int64.le_iff_toInt_le, Int32.toInt_toInt64, ha, hb]
theorem in_ix {x y : Int32} {c : Nat} (hc : y = nI c) (h : c < 2 ^ 30) : decide ((0 : Int64) ≤ x.toInt64 ∧ x.toInt64 ≤ (y - 1).toInt64) = wIn x c := by
  have e : (y - 1).toInt64.toInt = (c : Int) - 1 := by
    rw [Int32.toInt_toInt64, hc]
    exact pk_sub_toInt (a := c) (b := 1) h (by decide)
  rw [in_c (a := 0) (b := (c : Int) - 1) rfl e]
  unfold wIn
  congr 1
  apply propext
  constructor <;> intro q <;> omega
theorem in_ix1 {x y : Int32} {c : Nat} (hc : y = nI c) (h : c < 2 ^ 30) (_ : 0 = 0) : decide ((0 : Int64) ≤ x.toInt64 ∧ x.toInt64 ≤ y.toInt64) = wIn x (c + 1) := by
  have e : y.toInt64.toInt = (c : Int) := by
    rw [Int32.toInt_toInt64, hc]
    exact nI_toInt (by omega)
  rw [in_c (a := 0) (b := (c : Int)) rfl e]
  unfold wIn
  congr 1
  apply propext
  constructor <;> intro q <;> omega
theorem wIn_iff {x : Int32} {n : Nat} (hn : n < 2 ^ 31) : wIn x n = true ↔ ∃ j, j < n ∧ x = nI j := by
  unfold wIn
  rw [decide_eq_true_iff]
  constructor
  · intro h
    obtain ⟨j, h1, h2⟩ := vp_in_of (vp_in_iff.mpr h) hn
    exact ⟨j, h1, h2⟩
  · rintro ⟨j, h1, rfl⟩
    rw [nI_toInt (by omega)]
    omega
theorem wIn_nI {j n : Nat} (h : j < n) (hn : n < 2 ^ 31) : wIn (nI j) n = true := (wIn_iff hn).mpr ⟨j, h, rfl⟩

section M1
variable {G : wG} {m : Nat} {F : Nat → Int32} {tl : Int64} {R : Nat → Nat → Int32} {NL : Nat → Int64} {h0 : Nat → Option wE} {sz : Nat}

set_option maxHeartbeats 4000000 in
theorem c9_in {v lo hi : Int64} {h : wH} : Sat G mX9_in [.long v, .long lo, .long hi] h (Det (some (.int (wb (decide (lo ≤ v ∧ v ≤ hi))))) h) := by
  refine Sat.of (by decide) [some (.long v), none, some (.long lo), none, some (.long hi), none] rfl rfl (fun X => ?_)
  refine ww_lload_n dX9_in_0 rfl rfl ?_
  refine ww_lload_n dX9_in_1 rfl rfl ?_
  refine ww_lcmp dX9_in_2 ?_
  refine ww_if_lt (tgt := 17) dX9_in_3 (by decide) (fun c3 => ?_) (fun c3 => ?_)
  · refine ww_iconst (v := 0) dX9_in_17 (by decide) ?_
    exact ww_zret dX9_in_18 rfl (Or.inl rfl) ⟨by rw [show decide (lo ≤ v ∧ v ≤ hi) = false from decide_eq_false (fun q => Int64.not_lt.mpr q.1 ((lgc_lt _ _).mp c3))]; rfl, rfl⟩ (Nat.zero_le _) (Nat.zero_le _)
  · refine ww_lload_n dX9_in_6 rfl rfl ?_
    refine ww_lload dX9_in_7 rfl ?_
    refine ww_lcmp dX9_in_9 ?_
    refine ww_if_gt (tgt := 17) dX9_in_10 (by decide) (fun c10 => ?_) (fun c10 => ?_)
    · refine ww_iconst (v := 0) dX9_in_17 (by decide) ?_
      exact ww_zret dX9_in_18 rfl (Or.inl rfl) ⟨by rw [show decide (lo ≤ v ∧ v ≤ hi) = false from decide_eq_false (fun q => Int64.not_lt.mpr q.2 ((lgc_gt _ _).mp c10))]; rfl, rfl⟩ (Nat.zero_le _) (Nat.zero_le _)
    · refine ww_iconst (v := 1) dX9_in_13 (by decide) ?_
      refine ww_goto (tgt := 18) dX9_in_14 (by decide) ?_
      exact ww_zret dX9_in_18 rfl (Or.inr rfl) ⟨by rw [show decide (lo ≤ v ∧ v ≤ hi) = true from decide_eq_true ⟨Int64.not_lt.mp (fun q => c3 ((lgc_lt _ _).mpr q)), Int64.not_lt.mp (fun q => c10 ((lgc_gt _ _).mpr q))⟩]; rfl, rfl⟩ (Nat.zero_le _) (Nat.zero_le _)
def put4 (g : Nat → Int32) (c : Nat) (x : Int32) : Nat → Int32 := upd (upd (upd (upd g c (x >>> ((24 : Int32) &&& 31)).toInt8.toInt32) (c + 1) (x >>> ((16 : Int32) &&& 31)).toInt8.toInt32) (c + 2) (x >>> ((8 : Int32) &&& 31)).toInt8.toInt32) (c + 3) x.toInt8.toInt32
set_option maxHeartbeats 4000000 in
theorem c9_put {x : Int32} {c : Nat} (hc : F 1 = nI c) (hc2 : c + 4 ≤ 300) : Sat G mX9_put [.ref m, .int x] (mh m F tl R NL h0, sz) (Det none (mh m (upd F 1 (nI (c + 4))) tl (va_up R 0 (put4 (R 0) c x)) NL h0, sz)) := by
  refine Sat.of (by decide) [some (.ref m), some (.int x)] rfl rfl (fun X => ?_)
  refine ww_aload_n dX9_put_0 rfl rfl ?_
  refine mm_getr dX9_put_1 fX9_7 rfl ?_
  refine ww_aload_n dX9_put_4 rfl rfl ?_
  refine mm_geti dX9_put_5 fX9_170 rfl rfl ?_
  refine ww_iload_n dX9_put_8 rfl rfl ?_
  refine ww_bipush (v := 24) dX9_put_9 (by decide) ?_
  refine ww_ishr dX9_put_11 ?_
  refine ww_i2b dX9_put_12 ?_
  refine mm_bast dX9_put_13 rfl hc (by omega) rfl rfl ?_
  refine ww_aload_n dX9_put_14 rfl rfl ?_
  refine mm_getr dX9_put_15 fX9_7 rfl ?_
  refine ww_aload_n dX9_put_18 rfl rfl ?_
  refine mm_geti dX9_put_19 fX9_170 rfl rfl ?_
  refine ww_iconst (v := 1) dX9_put_22 (by decide) ?_
  refine ww_iadd dX9_put_23 ?_
  refine ww_iload_n dX9_put_24 rfl rfl ?_
  refine ww_bipush (v := 16) dX9_put_25 (by decide) ?_
  refine ww_ishr dX9_put_27 ?_
  refine ww_i2b dX9_put_28 ?_
  refine mm_bast dX9_put_29 rfl (show _ = nI (c + 1) by rw [hc]; first | rfl | exact nI_add _ _) (by omega) rfl rfl ?_
  refine ww_aload_n dX9_put_30 rfl rfl ?_
  refine mm_getr dX9_put_31 fX9_7 rfl ?_
  refine ww_aload_n dX9_put_34 rfl rfl ?_
  refine mm_geti dX9_put_35 fX9_170 rfl rfl ?_
  refine ww_iconst (v := 2) dX9_put_38 (by decide) ?_
  refine ww_iadd dX9_put_39 ?_
  refine ww_iload_n dX9_put_40 rfl rfl ?_
  refine ww_bipush (v := 8) dX9_put_41 (by decide) ?_
  refine ww_ishr dX9_put_43 ?_
  refine ww_i2b dX9_put_44 ?_
  refine mm_bast dX9_put_45 rfl (show _ = nI (c + 2) by rw [hc]; first | rfl | exact nI_add _ _) (by omega) rfl rfl ?_
  refine ww_aload_n dX9_put_46 rfl rfl ?_
  refine mm_getr dX9_put_47 fX9_7 rfl ?_
  refine ww_aload_n dX9_put_50 rfl rfl ?_
  refine mm_geti dX9_put_51 fX9_170 rfl rfl ?_
  refine ww_iconst (v := 3) dX9_put_54 (by decide) ?_
  refine ww_iadd dX9_put_55 ?_
  refine ww_iload_n dX9_put_56 rfl rfl ?_
  refine ww_i2b dX9_put_57 ?_
  refine mm_bast dX9_put_58 rfl (show _ = nI (c + 3) by rw [hc]; first | rfl | exact nI_add _ _) (by omega) rfl rfl ?_
  refine ww_aload_n dX9_put_59 rfl rfl ?_
  refine ww_dup dX9_put_60 rfl ?_
  refine mm_geti dX9_put_61 fX9_170 rfl rfl ?_
  refine ww_iconst (v := 4) dX9_put_64 (by decide) ?_
  refine ww_iadd dX9_put_65 ?_
  refine mm_puti dX9_put_66 fX9_170 rfl rfl ?_
  exact ww_vret dX9_put_69 rfl ⟨rfl, by simp only [w_up_self, w_up_up, pk_vb, put4]; rw [hc, show nI c + 4 = nI (c + 4) from nI_add _ _]⟩ (Nat.zero_le _) (Nat.zero_le _)
set_option maxHeartbeats 4000000 in
theorem c9_isWell  : Sat G mX9_isWell [.ref m] (mh m F tl R NL h0, sz) (Det (some (.int (if F 7 = 0 then 1 else 0))) (mh m F tl R NL h0, sz)) := by
  refine Sat.of (by decide) [some (.ref m)] rfl rfl (fun X => ?_)
  refine ww_aload_n dX9_isWell_0 rfl rfl ?_
  refine mm_geti dX9_isWell_1 fX9_181 rfl rfl ?_
  refine ww_if_ne (tgt := 11) dX9_isWell_4 (by decide) (fun c4 => ?_) (fun c4 => ?_)
  · refine ww_iconst (v := 0) dX9_isWell_11 (by decide) ?_
    exact ww_zret dX9_isWell_12 rfl (Or.inl rfl) ⟨by rw [if_neg c4], rfl⟩ (Nat.zero_le _) (Nat.zero_le _)
  · refine ww_iconst (v := 1) dX9_isWell_7 (by decide) ?_
    refine ww_goto (tgt := 12) dX9_isWell_8 (by decide) ?_
    exact ww_zret dX9_isWell_12 rfl (Or.inr rfl) ⟨by rw [if_pos c4], rfl⟩ (Nat.zero_le _) (Nat.zero_le _)
set_option maxHeartbeats 4000000 in
theorem c9_fails {f : Int32} : Sat G mX9_fails [.ref m, .int f] (mh m F tl R NL h0, sz) (Det none (mh m (if F 7 = 0 then upd (upd F 7 f) 8 (F 3) else F) tl R NL h0, sz)) := by
  refine Sat.of (by decide) [some (.ref m), some (.int f)] rfl rfl (fun X => ?_)
  refine ww_aload_n dX9_fails_0 rfl rfl ?_
  refine mm_geti dX9_fails_1 fX9_181 rfl rfl ?_
  refine ww_if_ne (tgt := 20) dX9_fails_4 (by decide) (fun c4 => ?_) (fun c4 => ?_)
  · exact ww_vret dX9_fails_20 rfl ⟨rfl, by rw [if_neg c4]⟩ (Nat.zero_le _) (Nat.zero_le _)
  · refine ww_aload_n dX9_fails_7 rfl rfl ?_
    refine ww_iload_n dX9_fails_8 rfl rfl ?_
    refine mm_puti dX9_fails_9 fX9_181 rfl rfl ?_
    refine ww_aload_n dX9_fails_12 rfl rfl ?_
    refine ww_aload_n dX9_fails_13 rfl rfl ?_
    refine mm_geti dX9_fails_14 fX9_184 rfl rfl ?_
    refine mm_puti dX9_fails_17 fX9_187 rfl rfl ?_
    exact ww_vret dX9_fails_20 rfl ⟨rfl, by rw [if_pos c4]; rfl⟩ (Nat.zero_le _) (Nat.zero_le _)
def fed (g : Nat → Int32) (c : Nat) (a b d e f : Int32) : Nat → Int32 := put4 (put4 (put4 (put4 (put4 g c a) (c + 4) b) (c + 8) d) (c + 12) e) (c + 16) f
set_option maxHeartbeats 4000000 in
theorem c9_feed {a b d e f : Int32} {c : Nat} (hc : F 1 = nI c) (hc2 : c + 20 ≤ 300) : Sat G mX9_feed [.ref m, .int a, .int b, .int d, .int e, .int f] (mh m F tl R NL h0, sz) (Det (some (.int (nI (c + 20)))) (mh m (upd F 1 (nI (c + 20))) tl (va_up R 0 (fed (R 0) c a b d e f)) NL h0, sz)) := by
  refine Sat.of (by decide) [some (.ref m), some (.int a), some (.int b), some (.int d), some (.int e), some (.int f)] rfl rfl (fun X => ?_)
  refine ww_aload_n dX9_feed_0 rfl rfl ?_
  refine mm_geti dX9_feed_1 fX9_170 rfl rfl ?_
  refine ww_bipush (v := 20) dX9_feed_4 (by decide) ?_
  refine ww_iadd dX9_feed_6 ?_
  refine ww_sipush (v := 300) dX9_feed_7 (by decide) ?_
  refine ww_icmp_le (tgt := 15) dX9_feed_10 (by decide) (fun c10 => ?_) (fun c10 => ?_)
  · refine ww_aload_n dX9_feed_15 rfl rfl ?_
    refine ww_iload_n dX9_feed_16 rfl rfl ?_
    refine mm_call0 dX9_feed_17 kX9_173 rfl (c9_put (c := c) hc (by omega)) rfl rfl rfl rfl rfl rfl (Nat.zero_le _) (Nat.zero_le _) ?_
    refine ww_aload_n dX9_feed_20 rfl rfl ?_
    refine ww_iload_n dX9_feed_21 rfl rfl ?_
    refine mm_call0 dX9_feed_22 kX9_173 rfl (c9_put (c := c + 4) rfl (by omega)) rfl rfl rfl rfl rfl rfl (Nat.zero_le _) (Nat.zero_le _) ?_
    refine ww_aload_n dX9_feed_25 rfl rfl ?_
    refine ww_iload_n dX9_feed_26 rfl rfl ?_
    refine mm_call0 dX9_feed_27 kX9_173 rfl (c9_put (c := c + 8) rfl (by omega)) rfl rfl rfl rfl rfl rfl (Nat.zero_le _) (Nat.zero_le _) ?_
    refine ww_aload_n dX9_feed_30 rfl rfl ?_
    refine ww_iload dX9_feed_31 rfl ?_
    refine mm_call0 dX9_feed_33 kX9_173 rfl (c9_put (c := c + 12) rfl (by omega)) rfl rfl rfl rfl rfl rfl (Nat.zero_le _) (Nat.zero_le _) ?_
    refine ww_aload_n dX9_feed_36 rfl rfl ?_
    refine ww_iload dX9_feed_37 rfl ?_
    refine mm_call0 dX9_feed_39 kX9_173 rfl (c9_put (c := c + 16) rfl (by omega)) rfl rfl rfl rfl rfl rfl (Nat.zero_le _) (Nat.zero_le _) ?_
    refine ww_aload_n dX9_feed_42 rfl rfl ?_
    refine mm_geti dX9_feed_43 fX9_170 rfl rfl ?_
    exact ww_iret dX9_feed_46 rfl ⟨rfl, by simp only [w_up_self, w_up_up, w_upd_upd, fed]⟩ (Nat.zero_le _) (Nat.zero_le _)
  · exact absurd c10 (fun q => q (by rw [hc, show nI c + 20 = nI (c + 20) from nI_add _ _]; exact nI_le (by omega) (by decide)))
set_option maxHeartbeats 4000000 in
theorem c9_feed0 {a b d e f : Int32} {c : Nat} (hc : F 1 = nI c) (hc2 : 300 < c + 20) (hc3 : c ≤ 300) : Sat G mX9_feed [.ref m, .int a, .int b, .int d, .int e, .int f] (mh m F tl R NL h0, sz) (Det (some (.int (-1))) (mh m F tl R NL h0, sz)) := by
  refine Sat.of (by decide) [some (.ref m), some (.int a), some (.int b), some (.int d), some (.int e), some (.int f)] rfl rfl (fun X => ?_)
  refine ww_aload_n dX9_feed_0 rfl rfl ?_
  refine mm_geti dX9_feed_1 fX9_170 rfl rfl ?_
  refine ww_bipush (v := 20) dX9_feed_4 (by decide) ?_
  refine ww_iadd dX9_feed_6 ?_
  refine ww_sipush (v := 300) dX9_feed_7 (by decide) ?_
  refine ww_icmp_le (tgt := 15) dX9_feed_10 (by decide) (fun c10 => ?_) (fun c10 => ?_)
  · exact absurd c10 (fun q => absurd ((nI_leI (a := c + 20) (b := 300) (by omega) (by decide)).mp (by rw [hc, show nI c + 20 = nI (c + 20) from nI_add _ _] at q; exact q)) (by omega))
  · refine ww_iconst (v := -1) dX9_feed_13 (by decide) ?_
    exact ww_iret dX9_feed_14 rfl ⟨rfl, rfl⟩ (Nat.zero_le _) (Nat.zero_le _)
set_option maxHeartbeats 4000000 in
theorem c9_end {x : Int32} {c : Nat} (hc : F 1 = nI c) (hc2 : c ≤ 300) : Sat G mX9_end [.ref m, .int x] (mh m F tl R NL h0, sz) (Det (some (.int (if wIn x (c + 1) = true then x else -1))) (if wIn x (c + 1) = true then (mh m (upd F 1 x) tl R NL h0, sz) else (mh m F tl R NL h0, sz))) := by
  refine Sat.of (by decide) [some (.ref m), some (.int x)] rfl rfl (fun X => ?_)
  refine ww_iload_n dX9_end_0 rfl rfl ?_
  refine ww_i2l dX9_end_1 ?_
  refine ww_lconst (v := 0) dX9_end_2 (by decide) ?_
  refine ww_aload_n dX9_end_3 rfl rfl ?_
  refine mm_geti dX9_end_4 fX9_170 rfl rfl ?_
  refine ww_i2l dX9_end_7 ?_
  refine ww_calls1 dX9_end_8 kX9_177 c9_in rfl rfl rfl rfl rfl rfl (Nat.zero_le _) (Nat.zero_le _) ?_
  refine ww_if_ne (tgt := 16) dX9_end_11 (by decide) (fun c11 => ?_) (fun c11 => ?_)
  · refine ww_aload_n dX9_end_16 rfl rfl ?_
    refine ww_iload_n dX9_end_17 rfl rfl ?_
    refine mm_puti dX9_end_18 fX9_170 rfl rfl ?_
    refine ww_iload_n dX9_end_21 rfl rfl ?_
    exact ww_iret dX9_end_22 rfl ⟨by rw [in_ix1 hc (by omega) (by omega)] at c11; rw [if_pos (wb_ne0.mp c11)], by rw [in_ix1 hc (by omega) (by omega)] at c11; rw [if_pos (wb_ne0.mp c11)]⟩ (Nat.zero_le _) (Nat.zero_le _)
  · refine ww_iconst (v := -1) dX9_end_14 (by decide) ?_
    exact ww_iret dX9_end_15 rfl ⟨by rw [in_ix1 hc (by omega) (by omega)] at c11; rw [if_neg (wb_nt (wb_eq0.mp c11))], by rw [in_ix1 hc (by omega) (by omega)] at c11; rw [if_neg (wb_nt (wb_eq0.mp c11))]⟩ (Nat.zero_le _) (Nat.zero_le _)
set_option maxHeartbeats 4000000 in
theorem c9_fault {x : Int32} : Sat G mX9_fault [.ref m, .int x] (mh m F tl R NL h0, sz) (Det (some (.int (if x = 0 then F 9 else if x = 1 then F 10 else -1))) (mh m F tl R NL h0, sz)) := by
  refine Sat.of (by decide) [some (.ref m), some (.int x)] rfl rfl (fun X => ?_)
  refine ww_iload_n dX9_fault_0 rfl rfl ?_
  refine ww_if_ne (tgt := 11) dX9_fault_1 (by decide) (fun c1 => ?_) (fun c1 => ?_)
  · refine ww_iload_n dX9_fault_11 rfl rfl ?_
    refine ww_iconst (v := 1) dX9_fault_12 (by decide) ?_
    refine ww_icmp_ne (tgt := 23) dX9_fault_13 (by decide) (fun c13 => ?_) (fun c13 => ?_)
    · refine ww_iconst (v := -1) dX9_fault_23 (by decide) ?_
      exact ww_iret dX9_fault_24 rfl ⟨by rw [if_neg c1, if_neg c13], rfl⟩ (Nat.zero_le _) (Nat.zero_le _)
    · refine ww_aload_n dX9_fault_16 rfl rfl ?_
      refine mm_geti dX9_fault_17 fX9_17 rfl rfl ?_
      refine ww_goto (tgt := 24) dX9_fault_20 (by decide) ?_
      exact ww_iret dX9_fault_24 rfl ⟨by rw [if_neg c1, if_pos c13], rfl⟩ (Nat.zero_le _) (Nat.zero_le _)
  · refine ww_aload_n dX9_fault_4 rfl rfl ?_
    refine mm_geti dX9_fault_5 fX9_13 rfl rfl ?_
    refine ww_goto (tgt := 24) dX9_fault_8 (by decide) ?_
    exact ww_iret dX9_fault_24 rfl ⟨by rw [if_pos c1], rfl⟩ (Nat.zero_le _) (Nat.zero_le _)
set_option maxHeartbeats 4000000 in
theorem c9_isPerson {x : Int32} {c : Nat} (hc : F 64 = nI c) (hc2 : c ≤ 1000) : Sat G mX9_isPerson [.ref m, .int x] (mh m F tl R NL h0, sz) (Det (some (.int (wb (wIn x c)))) (mh m F tl R NL h0, sz)) := by
  refine Sat.of (by decide) [some (.ref m), some (.int x)] rfl rfl (fun X => ?_)
  refine ww_iload_n dX9_isPerson_0 rfl rfl ?_
  refine ww_i2l dX9_isPerson_1 ?_
  refine ww_lconst (v := 0) dX9_isPerson_2 (by decide) ?_
  refine ww_aload_n dX9_isPerson_3 rfl rfl ?_
  refine mm_geti dX9_isPerson_4 fX9_308 rfl rfl ?_
  refine ww_iconst (v := 1) dX9_isPerson_7 (by decide) ?_
  refine ww_isub dX9_isPerson_8 ?_
  refine ww_i2l dX9_isPerson_9 ?_
  refine ww_calls1 dX9_isPerson_10 kX9_177 c9_in rfl rfl rfl rfl rfl rfl (Nat.zero_le _) (Nat.zero_le _) ?_
  exact ww_zret dX9_isPerson_13 rfl (wb_01 _) ⟨by rw [in_ix hc (by omega)], rfl⟩ (Nat.zero_le _) (Nat.zero_le _)
set_option maxHeartbeats 4000000 in
theorem c9_isTask {x : Int32} {c : Nat} (hc : F 55 = nI c) (hc2 : c ≤ 1000) : Sat G mX9_isTask [.ref m, .int x] (mh m F tl R NL h0, sz) (Det (some (.int (wb (wIn x c)))) (mh m F tl R NL h0, sz)) := by
  refine Sat.of (by decide) [some (.ref m), some (.int x)] rfl rfl (fun X => ?_)
  refine ww_iload_n dX9_isTask_0 rfl rfl ?_
  refine ww_i2l dX9_isTask_1 ?_
  refine ww_lconst (v := 0) dX9_isTask_2 (by decide) ?_
  refine ww_aload_n dX9_isTask_3 rfl rfl ?_
  refine mm_geti dX9_isTask_4 fX9_311 rfl rfl ?_
  refine ww_iconst (v := 1) dX9_isTask_7 (by decide) ?_
  refine ww_isub dX9_isTask_8 ?_
  refine ww_i2l dX9_isTask_9 ?_
  refine ww_calls1 dX9_isTask_10 kX9_177 c9_in rfl rfl rfl rfl rfl rfl (Nat.zero_le _) (Nat.zero_le _) ?_
  exact ww_zret dX9_isTask_13 rfl (wb_01 _) ⟨by rw [in_ix hc (by omega)], rfl⟩ (Nat.zero_le _) (Nat.zero_le _)
end M1
end
section
def inR (x : Int32) (a b : Int) : Bool := decide (a ≤ x.toInt ∧ x.toInt ≤ b)
def cntB (P : Nat → Bool) : Nat → Nat
  | 0 => 0
  | n + 1 => cntB P n + (if P n = true then 1 else 0)
theorem cntB_t {P : Nat → Bool} {t : Nat} (h : P t = true) : cntB P (t + 1) = cntB P t + 1 := by simp [cntB, h]
theorem cntB_f {P : Nat → Bool} {t : Nat} (h : P t = false) : cntB P (t + 1) = cntB P t := by simp [cntB, h]
theorem cntB_le (P : Nat → Bool) : ∀ n, cntB P n ≤ n
  | 0 => Nat.le_refl 0
  | n + 1 => by
    have := cntB_le P n
    simp only [cntB]
    split <;> omega
def anyB (P : Nat → Bool) : Nat → Bool
  | 0 => false
  | n + 1 => anyB P n || P n
theorem w_inc {x : Int32} {t : Nat} (h : x = nI t) : x + Int32.ofInt 1 = nI (t + 1) := by rw [h]; exact nI_1 t
theorem w_add0 (x : Int32) : x + 0 = x := Int32.add_zero x
theorem w_le {x y : Int32} {a b : Nat} (hx : x = nI a) (hy : y = nI b) (ha : a < 2 ^ 31) (hb : b < 2 ^ 31) : x ≤ y ↔ a ≤ b := by rw [hx, hy]; exact nI_leI ha hb
section M2
variable {G : wG} {m : Nat} {F : Nat → Int32} {tl : Int64} {R : Nat → Nat → Int32} {NL : Nat → Int64} {h0 : Nat → Option wE} {sz : Nat}

set_option maxHeartbeats 4000000 in
theorem c9_person0 {x y : Int32} {c : Nat} (hc : F 64 = nI c) (hc2 : c ≤ 8) (hno : (inR x 0 63 && inR y 1 9 && decide (c < 8)) = false) : Sat G mX9_person [.ref m, .int x, .int y] (mh m F tl R NL h0, sz) (Det (some (.int (-1))) (mh m F tl R NL h0, sz)) := by
  refine Sat.of (by decide) [some (.ref m), some (.int x), some (.int y)] rfl rfl (fun X => ?_)
  refine ww_iload_n dX9_person_0 rfl rfl ?_
  refine ww_i2l dX9_person_1 ?_
  refine ww_lconst (v := 0) dX9_person_2 (by decide) ?_
  refine ww_ldc2 dX9_person_3 qX9_314 ?_
  refine ww_calls1 dX9_person_6 kX9_177 c9_in rfl rfl rfl rfl rfl rfl (Nat.zero_le _) (Nat.zero_le _) ?_
  refine ww_if_eq (tgt := 33) dX9_person_9 (by decide) (fun c9 => ?_) (fun c9 => ?_)
  · refine ww_iconst (v := -1) dX9_person_33 (by decide) ?_
    exact ww_iret dX9_person_34 rfl ⟨rfl, rfl⟩ (Nat.zero_le _) (Nat.zero_le _)
  · refine ww_iload_n dX9_person_12 rfl rfl ?_
    refine ww_i2l dX9_person_13 ?_
    refine ww_lconst (v := 1) dX9_person_14 (by decide) ?_
    refine ww_ldc2 dX9_person_15 qX9_316 ?_
    refine ww_calls1 dX9_person_18 kX9_177 c9_in rfl rfl rfl rfl rfl rfl (Nat.zero_le _) (Nat.zero_le _) ?_
    refine ww_if_eq (tgt := 33) dX9_person_21 (by decide) (fun c21 => ?_) (fun c21 => ?_)
    · refine ww_iconst (v := -1) dX9_person_33 (by decide) ?_
      exact ww_iret dX9_person_34 rfl ⟨rfl, rfl⟩ (Nat.zero_le _) (Nat.zero_le _)
    · refine ww_aload_n dX9_person_24 rfl rfl ?_
      refine mm_geti dX9_person_25 fX9_308 rfl rfl ?_
      refine ww_bipush (v := 8) dX9_person_28 (by decide) ?_
      refine ww_icmp_ne (tgt := 35) dX9_person_30 (by decide) (fun c30 => ?_) (fun c30 => ?_)
      · exact absurd hno (by rw [wb_ne0.mp (by rw [in_c (a := 0) (b := 63) rfl rfl] at c9; exact c9 : ¬ wb (inR x 0 63) = 0), wb_ne0.mp (by rw [in_c (a := 1) (b := 9) rfl rfl] at c21; exact c21 : ¬ wb (inR y 1 9) = 0), decide_eq_true (show c < 8 by rcases Nat.lt_or_ge c 8 with q | q; exact q; exact absurd (by rw [hc, show c = 8 by omega]; rfl) c30)]; decide)
      · refine ww_iconst (v := -1) dX9_person_33 (by decide) ?_
        exact ww_iret dX9_person_34 rfl ⟨rfl, rfl⟩ (Nat.zero_le _) (Nat.zero_le _)
set_option maxHeartbeats 4000000 in
theorem c9_person {x y : Int32} {c : Nat} (hc : F 64 = nI c) (hc2 : c < 8) (hx : inR x 0 63 = true) (hy : inR y 1 9 = true) : Sat G mX9_person [.ref m, .int x, .int y] (mh m F tl R NL h0, sz) (Det (some (.int (nI c))) (mh m (upd F 64 (nI (c + 1))) tl (va_up (va_up (va_up (va_up R 65 (upd (R 65) c x)) 66 (upd (R 66) c y)) 67 (upd (R 67) c (-1))) 68 (upd (R 68) c 0)) NL h0, sz)) := by
  refine Sat.of (by decide) [some (.ref m), some (.int x), some (.int y)] rfl rfl (fun X => ?_)
  refine ww_iload_n dX9_person_0 rfl rfl ?_
  refine ww_i2l dX9_person_1 ?_
  refine ww_lconst (v := 0) dX9_person_2 (by decide) ?_
  refine ww_ldc2 dX9_person_3 qX9_314 ?_
  refine ww_calls1 dX9_person_6 kX9_177 c9_in rfl rfl rfl rfl rfl rfl (Nat.zero_le _) (Nat.zero_le _) ?_
  refine ww_if_eq (tgt := 33) dX9_person_9 (by decide) (fun c9 => ?_) (fun c9 => ?_)
  · exact absurd c9 (by rw [in_c (a := 0) (b := 63) rfl rfl]; exact wb_ne0.mpr hx)
  · refine ww_iload_n dX9_person_12 rfl rfl ?_
    refine ww_i2l dX9_person_13 ?_
    refine ww_lconst (v := 1) dX9_person_14 (by decide) ?_
    refine ww_ldc2 dX9_person_15 qX9_316 ?_
    refine ww_calls1 dX9_person_18 kX9_177 c9_in rfl rfl rfl rfl rfl rfl (Nat.zero_le _) (Nat.zero_le _) ?_
    refine ww_if_eq (tgt := 33) dX9_person_21 (by decide) (fun c21 => ?_) (fun c21 => ?_)
    · exact absurd c21 (by rw [in_c (a := 1) (b := 9) rfl rfl]; exact wb_ne0.mpr hy)
    · refine ww_aload_n dX9_person_24 rfl rfl ?_
      refine mm_geti dX9_person_25 fX9_308 rfl rfl ?_
      refine ww_bipush (v := 8) dX9_person_28 (by decide) ?_
      refine ww_icmp_ne (tgt := 35) dX9_person_30 (by decide) (fun c30 => ?_) (fun c30 => ?_)
      · refine ww_aload_n dX9_person_35 rfl rfl ?_
        refine mm_getr dX9_person_36 fX9_152 rfl ?_
        refine ww_aload_n dX9_person_39 rfl rfl ?_
        refine mm_geti dX9_person_40 fX9_308 rfl rfl ?_
        refine ww_iload_n dX9_person_43 rfl rfl ?_
        refine mm_iast dX9_person_44 rfl hc (by omega) rfl rfl ?_
        refine ww_aload_n dX9_person_45 rfl rfl ?_
        refine mm_getr dX9_person_46 fX9_155 rfl ?_
        refine ww_aload_n dX9_person_49 rfl rfl ?_
        refine mm_geti dX9_person_50 fX9_308 rfl rfl ?_
        refine ww_iload_n dX9_person_53 rfl rfl ?_
        refine mm_iast dX9_person_54 rfl hc (by omega) rfl rfl ?_
        refine ww_aload_n dX9_person_55 rfl rfl ?_
        refine mm_getr dX9_person_56 fX9_158 rfl ?_
        refine ww_aload_n dX9_person_59 rfl rfl ?_
        refine mm_geti dX9_person_60 fX9_308 rfl rfl ?_
        refine ww_iconst (v := -1) dX9_person_63 (by decide) ?_
        refine mm_iast dX9_person_64 rfl hc (by omega) rfl rfl ?_
        refine ww_aload_n dX9_person_65 rfl rfl ?_
        refine mm_getr dX9_person_66 fX9_161 rfl ?_
        refine ww_aload_n dX9_person_69 rfl rfl ?_
        refine mm_geti dX9_person_70 fX9_308 rfl rfl ?_
        refine ww_iconst (v := 0) dX9_person_73 (by decide) ?_
        refine mm_zast dX9_person_74 rfl hc (by omega) rfl rfl ?_
        refine ww_aload_n dX9_person_75 rfl rfl ?_
        refine ww_dup dX9_person_76 rfl ?_
        refine mm_geti dX9_person_77 fX9_308 rfl rfl ?_
        refine ww_iconst (v := 1) dX9_person_80 (by decide) ?_
        refine ww_iadd dX9_person_81 ?_
        refine mm_puti dX9_person_82 fX9_308 rfl rfl ?_
        refine ww_aload_n dX9_person_85 rfl rfl ?_
        refine mm_geti dX9_person_86 fX9_308 rfl rfl ?_
        refine ww_iconst (v := 1) dX9_person_89 (by decide) ?_
        refine ww_isub dX9_person_90 ?_
        exact ww_iret dX9_person_91 rfl ⟨by simp only [w_upd_self, hc]; rw [nI_1, nI_pred], by simp only [hc]; rw [nI_1]; rfl⟩ (Nat.zero_le _) (Nat.zero_le _)
      · exact absurd c30 (by rw [hc]; exact fun q => absurd ((nI_eq (a := c) (b := 8) (by omega) (by decide)).mp q) (by omega))
set_option maxHeartbeats 4000000 in
theorem c9_deputy0 {x y : Int32} {c : Nat} (hc : F 64 = nI c) (hc2 : c ≤ 8) (hno : wIn x c = false) : Sat G mX9_deputy [.ref m, .int x, .int y] (mh m F tl R NL h0, sz) (Det (some (.int 0)) (mh m F tl R NL h0, sz)) := by
  refine Sat.of (by decide) [some (.ref m), some (.int x), some (.int y)] rfl rfl (fun X => ?_)
  refine ww_aload_n dX9_deputy_0 rfl rfl ?_
  refine ww_iload_n dX9_deputy_1 rfl rfl ?_
  refine mm_call1 dX9_deputy_2 kX9_318 rfl (c9_isPerson hc (by omega)) rfl rfl rfl rfl rfl rfl (Nat.zero_le _) (Nat.zero_le _) ?_
  refine ww_if_eq (tgt := 26) dX9_deputy_5 (by decide) (fun c5 => ?_) (fun c5 => ?_)
  · refine ww_iconst (v := 0) dX9_deputy_26 (by decide) ?_
    exact ww_zret dX9_deputy_27 rfl (Or.inl rfl) ⟨rfl, rfl⟩ (Nat.zero_le _) (Nat.zero_le _)
  · exact absurd c5 (fun q => q (wb_eq0.mpr hno))
set_option maxHeartbeats 4000000 in
theorem c9_deputy {x y : Int32} {c p : Nat} (hc : F 64 = nI c) (hc2 : c ≤ 8) (hp : x = nI p) (hpc : p < c) : Sat G mX9_deputy [.ref m, .int x, .int y] (mh m F tl R NL h0, sz) (Det (some (.int (if ¬ y = x ∧ (y = -1 ∨ wIn y c = true) then 1 else 0))) (if ¬ y = x ∧ (y = -1 ∨ wIn y c = true) then (mh m F tl (va_up R 67 (upd (R 67) p y)) NL h0, sz) else (mh m F tl R NL h0, sz))) := by
  refine Sat.of (by decide) [some (.ref m), some (.int x), some (.int y)] rfl rfl (fun X => ?_)
  refine ww_aload_n dX9_deputy_0 rfl rfl ?_
  refine ww_iload_n dX9_deputy_1 rfl rfl ?_
  refine mm_call1 dX9_deputy_2 kX9_318 rfl (c9_isPerson hc (by omega)) rfl rfl rfl rfl rfl rfl (Nat.zero_le _) (Nat.zero_le _) ?_
  refine ww_if_eq (tgt := 26) dX9_deputy_5 (by decide) (fun c5 => ?_) (fun c5 => ?_)
  · exact absurd c5 (by rw [hp, wIn_nI hpc (by omega)]; decide)
  · refine ww_iload_n dX9_deputy_8 rfl rfl ?_
    refine ww_iload_n dX9_deputy_9 rfl rfl ?_
    refine ww_icmp_eq (tgt := 26) dX9_deputy_10 (by decide) (fun c10 => ?_) (fun c10 => ?_)
    · refine ww_iconst (v := 0) dX9_deputy_26 (by decide) ?_
      exact ww_zret dX9_deputy_27 rfl (Or.inl rfl) ⟨by rw [if_neg (fun q => q.1 c10)], by rw [if_neg (fun q => q.1 c10)]⟩ (Nat.zero_le _) (Nat.zero_le _)
    · refine ww_iload_n dX9_deputy_13 rfl rfl ?_
      refine ww_iconst (v := -1) dX9_deputy_14 (by decide) ?_
      refine ww_icmp_eq (tgt := 28) dX9_deputy_15 (by decide) (fun c15 => ?_) (fun c15 => ?_)
      · refine ww_aload_n dX9_deputy_28 rfl rfl ?_
        refine mm_getr dX9_deputy_29 fX9_158 rfl ?_
        refine ww_iload_n dX9_deputy_32 rfl rfl ?_
        refine ww_iload_n dX9_deputy_33 rfl rfl ?_
        refine mm_iast dX9_deputy_34 rfl hp (by omega) rfl rfl ?_
        refine ww_iconst (v := 1) dX9_deputy_35 (by decide) ?_
        exact ww_zret dX9_deputy_36 rfl (Or.inr rfl) ⟨by rw [if_pos ⟨c10, Or.inl c15⟩], by rw [if_pos ⟨c10, Or.inl c15⟩]⟩ (Nat.zero_le _) (Nat.zero_le _)
      · refine ww_aload_n dX9_deputy_18 rfl rfl ?_
        refine ww_iload_n dX9_deputy_19 rfl rfl ?_
        refine mm_call1 dX9_deputy_20 kX9_318 rfl (c9_isPerson hc (by omega)) rfl rfl rfl rfl rfl rfl (Nat.zero_le _) (Nat.zero_le _) ?_
        refine ww_if_ne (tgt := 28) dX9_deputy_23 (by decide) (fun c23 => ?_) (fun c23 => ?_)
        · refine ww_aload_n dX9_deputy_28 rfl rfl ?_
          refine mm_getr dX9_deputy_29 fX9_158 rfl ?_
          refine ww_iload_n dX9_deputy_32 rfl rfl ?_
          refine ww_iload_n dX9_deputy_33 rfl rfl ?_
          refine mm_iast dX9_deputy_34 rfl hp (by omega) rfl rfl ?_
          refine ww_iconst (v := 1) dX9_deputy_35 (by decide) ?_
          exact ww_zret dX9_deputy_36 rfl (Or.inr rfl) ⟨by rw [if_pos ⟨c10, Or.inr (wb_ne0.mp c23)⟩], by rw [if_pos ⟨c10, Or.inr (wb_ne0.mp c23)⟩]⟩ (Nat.zero_le _) (Nat.zero_le _)
        · refine ww_iconst (v := 0) dX9_deputy_26 (by decide) ?_
          exact ww_zret dX9_deputy_27 rfl (Or.inl rfl) ⟨by rw [if_neg (fun q => q.2.elim c15 (wb_nt (wb_eq0.mp c23)))], by rw [if_neg (fun q => q.2.elim c15 (wb_nt (wb_eq0.mp c23)))]⟩ (Nat.zero_le _) (Nat.zero_le _)
set_option maxHeartbeats 4000000 in
theorem c9_hour {x : Int32} : Sat G mX9_hour [.ref m, .int x] (mh m F tl R NL h0, sz) (Det (some (.int (if decide ((F 54).toInt ≤ x.toInt ∧ x.toInt ≤ 20000) = true then 1 else 0))) (if decide ((F 54).toInt ≤ x.toInt ∧ x.toInt ≤ 20000) = true then (mh m (upd F 54 x) tl R NL h0, sz) else (mh m F tl R NL h0, sz))) := by
  refine Sat.of (by decide) [some (.ref m), some (.int x)] rfl rfl (fun X => ?_)
  refine ww_iload_n dX9_hour_0 rfl rfl ?_
  refine ww_i2l dX9_hour_1 ?_
  refine ww_aload_n dX9_hour_2 rfl rfl ?_
  refine mm_geti dX9_hour_3 fX9_321 rfl rfl ?_
  refine ww_i2l dX9_hour_6 ?_
  refine ww_ldc2 dX9_hour_7 qX9_324 ?_
  refine ww_calls1 dX9_hour_10 kX9_177 c9_in rfl rfl rfl rfl rfl rfl (Nat.zero_le _) (Nat.zero_le _) ?_
  refine ww_if_ne (tgt := 18) dX9_hour_13 (by decide) (fun c13 => ?_) (fun c13 => ?_)
  · refine ww_aload_n dX9_hour_18 rfl rfl ?_
    refine ww_iload_n dX9_hour_19 rfl rfl ?_
    refine mm_puti dX9_hour_20 fX9_321 rfl rfl ?_
    refine ww_iconst (v := 1) dX9_hour_23 (by decide) ?_
    exact ww_zret dX9_hour_24 rfl (Or.inr rfl) ⟨by rw [in_c (a := (F 54).toInt) (b := 20000) (Int32.toInt_toInt64 _) rfl] at c13; rw [if_pos (wb_ne0.mp c13)], by rw [in_c (a := (F 54).toInt) (b := 20000) (Int32.toInt_toInt64 _) rfl] at c13; rw [if_pos (wb_ne0.mp c13)]⟩ (Nat.zero_le _) (Nat.zero_le _)
  · refine ww_iconst (v := 0) dX9_hour_16 (by decide) ?_
    exact ww_zret dX9_hour_17 rfl (Or.inl rfl) ⟨by rw [in_c (a := (F 54).toInt) (b := 20000) (Int32.toInt_toInt64 _) rfl] at c13; rw [if_neg (wb_nt (wb_eq0.mp c13))], by rw [in_c (a := (F 54).toInt) (b := 20000) (Int32.toInt_toInt64 _) rfl] at c13; rw [if_neg (wb_nt (wb_eq0.mp c13))]⟩ (Nat.zero_le _) (Nat.zero_le _)
theorem w_lit {x : Int32} {j n : Nat} (h : x.toInt = 0 + (j : Int)) (hj : j = n) (hn : n < 2 ^ 31 := by decide) : x = nI n := by
  subst hj
  apply Int32.toInt_inj.mp
  rw [nI_toInt hn]
  omega
def aboutM (F : Nat → Int32) (x : Int32) : Int32 := if x = nI 0 then F 23 else if x = nI 1 then (if F 23 < 0 then -1 else F 24) else if x = nI 2 then F 64 else if x = nI 3 then F 54 else if x = nI 4 then F 40 else if x = nI 5 then F 55 else if x = nI 6 then F 1 else -1
theorem ab_1 : aboutM F (nI 1) = if F 23 < 0 then -1 else F 24 := rfl
theorem w_nlit {x : Int32} {lo hi : Int} {n : Nat} (h : x.toInt < lo ∨ hi < x.toInt) (h1 : lo ≤ n) (h2 : (n : Int) ≤ hi) (hn : n < 2 ^ 31 := by decide) : ¬ x = nI n := by
  intro e
  rw [e, nI_toInt hn] at h
  omega
theorem ab_out {x : Int32} (h : x.toInt < 0 ∨ 6 < x.toInt) : aboutM F x = -1 := by
  unfold aboutM
  rw [if_neg (w_nlit h (by decide) (by decide)), if_neg (w_nlit h (by decide) (by decide)), if_neg (w_nlit h (by decide) (by decide)), if_neg (w_nlit h (by decide) (by decide)), if_neg (w_nlit h (by decide) (by decide)), if_neg (w_nlit h (by decide) (by decide)), if_neg (w_nlit h (by decide) (by decide))]
set_option maxHeartbeats 4000000 in
theorem c9_about {x : Int32} : Sat G mX9_about [.ref m, .int x] (mh m F tl R NL h0, sz) (Det (some (.int (aboutM F x))) (mh m F tl R NL h0, sz)) := by
  refine Sat.of (by decide) [some (.ref m), some (.int x)] rfl rfl (fun X => ?_)
  refine ww_iload_n dX9_about_0 rfl rfl ?_
  refine ww_table [44, 49, 65, 70, 75, 80, 85] 90 dX9_about_1 (by decide) (by decide) (by decide) (fun j1 t1 ht1 c1 => ?_) (fun c1 => ?_)
  · rcases j1 with _ | _ | _ | _ | _ | _ | _ | j
    · cases ht1
      refine ww_aload_n dX9_about_44 rfl rfl ?_
      refine mm_geti dX9_about_45 fX9_46 rfl rfl ?_
      exact ww_iret dX9_about_48 rfl ⟨by rw [w_lit (n := 0) c1 (by decide)]; rfl, rfl⟩ (Nat.zero_le _) (Nat.zero_le _)
    · cases ht1
      refine ww_aload_n dX9_about_49 rfl rfl ?_
      refine mm_geti dX9_about_50 fX9_46 rfl rfl ?_
      refine ww_if_ge (tgt := 60) dX9_about_53 (by decide) (fun c53 => ?_) (fun c53 => ?_)
      · refine ww_aload_n dX9_about_60 rfl rfl ?_
        refine mm_geti dX9_about_61 fX9_302 rfl rfl ?_
        exact ww_iret dX9_about_64 rfl ⟨by rw [w_lit (n := 1) c1 (by decide), ab_1, if_neg (Int32.not_lt.mpr c53)], rfl⟩ (Nat.zero_le _) (Nat.zero_le _)
      · refine ww_iconst (v := -1) dX9_about_56 (by decide) ?_
        refine ww_goto (tgt := 64) dX9_about_57 (by decide) ?_
        exact ww_iret dX9_about_64 rfl ⟨by rw [w_lit (n := 1) c1 (by decide), ab_1, if_pos (Int32.not_le.mp c53)], rfl⟩ (Nat.zero_le _) (Nat.zero_le _)
    · cases ht1
      refine ww_aload_n dX9_about_65 rfl rfl ?_
      refine mm_geti dX9_about_66 fX9_308 rfl rfl ?_
      exact ww_iret dX9_about_69 rfl ⟨by rw [w_lit (n := 2) c1 (by decide)]; rfl, rfl⟩ (Nat.zero_le _) (Nat.zero_le _)
    · cases ht1
      refine ww_aload_n dX9_about_70 rfl rfl ?_
      refine mm_geti dX9_about_71 fX9_321 rfl rfl ?_
      exact ww_iret dX9_about_74 rfl ⟨by rw [w_lit (n := 3) c1 (by decide)]; rfl, rfl⟩ (Nat.zero_le _) (Nat.zero_le _)
    · cases ht1
      refine ww_aload_n dX9_about_75 rfl rfl ?_
      refine mm_geti dX9_about_76 fX9_339 rfl rfl ?_
      exact ww_iret dX9_about_79 rfl ⟨by rw [w_lit (n := 4) c1 (by decide)]; rfl, rfl⟩ (Nat.zero_le _) (Nat.zero_le _)
    · cases ht1
      refine ww_aload_n dX9_about_80 rfl rfl ?_
      refine mm_geti dX9_about_81 fX9_311 rfl rfl ?_
      exact ww_iret dX9_about_84 rfl ⟨by rw [w_lit (n := 5) c1 (by decide)]; rfl, rfl⟩ (Nat.zero_le _) (Nat.zero_le _)
    · cases ht1
      refine ww_aload_n dX9_about_85 rfl rfl ?_
      refine mm_geti dX9_about_86 fX9_170 rfl rfl ?_
      exact ww_iret dX9_about_89 rfl ⟨by rw [w_lit (n := 6) c1 (by decide)]; rfl, rfl⟩ (Nat.zero_le _) (Nat.zero_le _)
    · cases ht1
  · refine ww_iconst (v := -1) dX9_about_90 (by decide) ?_
    exact ww_iret dX9_about_91 rfl ⟨by rw [ab_out c1], rfl⟩ (Nat.zero_le _) (Nat.zero_le _)
def Pcl (R : Nat → Nat → Int32) (x : Int32) : Nat → Bool := fun j => decide (R 61 j = 1) && decide (R 62 j = x)
set_option maxHeartbeats 4000000 in
theorem L9_claims {x : Int32} {c : Nat} {X : wX} (hc : F 55 = nI c) (hc2 : c ≤ 200) : ∀ (n t : Nat) (x2 x3 : Int32), c - t < n → t ≤ c → x2 = nI (cntB (Pcl R x) t) → x3 = nI t → WW G mX9_claims cX9_claims X (wZ G mX9_claims X (Det (some (.int (nI (cntB (Pcl R x) c)))) (mh m F tl R NL h0, sz))) 4 [some (.ref m), some (.int x), some (.int x2), some (.int x3)] [] (mh m F tl R NL h0, sz) 0 0 := by
  intro n
  induction n with
  | zero => intro t x2 x3 hn; exact absurd hn (by omega)
  | succ n ih =>
    intro t x2 x3 hn ht i2 i3
    refine ww_iload_n dX9_claims_4 rfl rfl ?_
    refine ww_aload_n dX9_claims_5 rfl rfl ?_
    refine mm_geti dX9_claims_6 fX9_311 rfl rfl ?_
    refine ww_icmp_ge (tgt := 46) dX9_claims_9 (by decide) (fun c9 => ?_) (fun c9 => ?_)
    · have e1 := (w_le hc i3 (by omega) (by omega)).mp c9
      have e2 : t = c := by omega
      refine ww_iload_n dX9_claims_46 rfl rfl ?_
      exact ww_iret dX9_claims_47 rfl ⟨by rw [i2, e2], rfl⟩ (Nat.zero_le _) (Nat.zero_le _)
    · have e1 : t < c := by rcases Nat.lt_or_ge t c with q | q; exact q; exact absurd ((w_le hc i3 (by omega) (by omega)).mpr q) c9
      refine ww_iload_n dX9_claims_12 rfl rfl ?_
      refine ww_aload_n dX9_claims_13 rfl rfl ?_
      refine mm_getr dX9_claims_14 fX9_143 rfl ?_
      refine ww_iload_n dX9_claims_17 rfl rfl ?_
      refine mm_iald dX9_claims_18 rfl i3 (by omega) rfl rfl ?_
      refine ww_iconst (v := 1) dX9_claims_19 (by decide) ?_
      refine ww_icmp_ne (tgt := 37) dX9_claims_20 (by decide) (fun c20 => ?_) (fun c20 => ?_)
      · refine ww_iconst (v := 0) dX9_claims_37 (by decide) ?_
        refine ww_iadd dX9_claims_38 ?_
        refine ww_istore_n dX9_claims_39 rfl rfl rfl ?_
        refine ww_iinc dX9_claims_40 rfl rfl rfl rfl ?_
        refine ww_goto (tgt := 4) dX9_claims_43 (by decide) ?_
        exact ih (t + 1) _ _ (by omega) (by omega) (by rw [i2, w_add0, cntB_f (by simp [Pcl, c20])]) (w_inc i3)
      · refine ww_aload_n dX9_claims_23 rfl rfl ?_
        refine mm_getr dX9_claims_24 fX9_146 rfl ?_
        refine ww_iload_n dX9_claims_27 rfl rfl ?_
        refine mm_iald dX9_claims_28 rfl i3 (by omega) rfl rfl ?_
        refine ww_iload_n dX9_claims_29 rfl rfl ?_
        refine ww_icmp_ne (tgt := 37) dX9_claims_30 (by decide) (fun c30 => ?_) (fun c30 => ?_)
        · refine ww_iconst (v := 0) dX9_claims_37 (by decide) ?_
          refine ww_iadd dX9_claims_38 ?_
          refine ww_istore_n dX9_claims_39 rfl rfl rfl ?_
          refine ww_iinc dX9_claims_40 rfl rfl rfl rfl ?_
          refine ww_goto (tgt := 4) dX9_claims_43 (by decide) ?_
          exact ih (t + 1) _ _ (by omega) (by omega) (by rw [i2, w_add0, cntB_f (by simp [Pcl, c30])]) (w_inc i3)
        · refine ww_iconst (v := 1) dX9_claims_33 (by decide) ?_
          refine ww_goto (tgt := 38) dX9_claims_34 (by decide) ?_
          refine ww_iadd dX9_claims_38 ?_
          refine ww_istore_n dX9_claims_39 rfl rfl rfl ?_
          refine ww_iinc dX9_claims_40 rfl rfl rfl rfl ?_
          refine ww_goto (tgt := 4) dX9_claims_43 (by decide) ?_
          exact ih (t + 1) _ _ (by omega) (by omega) (by rw [i2, cntB_t (by simp [Pcl, c20, c30])]; exact nI_1 _) (w_inc i3)
set_option maxHeartbeats 4000000 in
theorem c9_claims {x : Int32} {c : Nat} (hc : F 55 = nI c) (hc2 : c ≤ 200) : Sat G mX9_claims [.ref m, .int x] (mh m F tl R NL h0, sz) (Det (some (.int (nI (cntB (Pcl R x) c)))) (mh m F tl R NL h0, sz)) := by
  refine Sat.of (by decide) [some (.ref m), some (.int x), none, none] rfl rfl (fun X => ?_)
  refine ww_iconst (v := 0) dX9_claims_0 (by decide) ?_
  refine ww_istore_n dX9_claims_1 rfl rfl rfl ?_
  refine ww_iconst (v := 0) dX9_claims_2 (by decide) ?_
  refine ww_istore_n dX9_claims_3 rfl rfl rfl ?_
  exact L9_claims hc hc2 (c + 1) 0 _ _ (by omega) (by omega) rfl rfl
def Plt (F : Nat → Int32) (R : Nat → Nat → Int32) : Nat → Bool := fun j => !decide (R 61 j = 2) && decide (R 60 j < F 54)
set_option maxHeartbeats 4000000 in
theorem L9_late {c : Nat} {X : wX} (hc : F 55 = nI c) (hc2 : c ≤ 200) : ∀ (n t : Nat) (x2 x3 : Int32), c - t < n → t ≤ c → x2 = nI (cntB (Plt F R) t) → x3 = nI t → WW G mX9_late cX9_late X (wZ G mX9_late X (Det (some (.int (nI (cntB (Plt F R) c)))) (mh m F tl R NL h0, sz))) 4 [some (.ref m), some (.int x2), some (.int x3)] [] (mh m F tl R NL h0, sz) 0 0 := by
  intro n
  induction n with
  | zero => intro t x2 x3 hn; exact absurd hn (by omega)
  | succ n ih =>
    intro t x2 x3 hn ht i2 i3
    refine ww_iload_n dX9_late_4 rfl rfl ?_
    refine ww_aload_n dX9_late_5 rfl rfl ?_
    refine mm_geti dX9_late_6 fX9_311 rfl rfl ?_
    refine ww_icmp_ge (tgt := 49) dX9_late_9 (by decide) (fun c9 => ?_) (fun c9 => ?_)
    · have e1 := (w_le hc i3 (by omega) (by omega)).mp c9
      have e2 : t = c := by omega
      refine ww_iload_n dX9_late_49 rfl rfl ?_
      exact ww_iret dX9_late_50 rfl ⟨by rw [i2, e2], rfl⟩ (Nat.zero_le _) (Nat.zero_le _)
    · have e1 : t < c := by rcases Nat.lt_or_ge t c with q | q; exact q; exact absurd ((w_le hc i3 (by omega) (by omega)).mpr q) c9
      refine ww_iload_n dX9_late_12 rfl rfl ?_
      refine ww_aload_n dX9_late_13 rfl rfl ?_
      refine mm_getr dX9_late_14 fX9_143 rfl ?_
      refine ww_iload_n dX9_late_17 rfl rfl ?_
      refine mm_iald dX9_late_18 rfl i3 (by omega) rfl rfl ?_
      refine ww_iconst (v := 2) dX9_late_19 (by decide) ?_
      refine ww_icmp_eq (tgt := 40) dX9_late_20 (by decide) (fun c20 => ?_) (fun c20 => ?_)
      · refine ww_iconst (v := 0) dX9_late_40 (by decide) ?_
        refine ww_iadd dX9_late_41 ?_
        refine ww_istore_n dX9_late_42 rfl rfl rfl ?_
        refine ww_iinc dX9_late_43 rfl rfl rfl rfl ?_
        refine ww_goto (tgt := 4) dX9_late_46 (by decide) ?_
        exact ih (t + 1) _ _ (by omega) (by omega) (by rw [i2, w_add0, cntB_f (by simp [Plt, c20])]) (w_inc i3)
      · refine ww_aload_n dX9_late_23 rfl rfl ?_
        refine mm_getr dX9_late_24 fX9_140 rfl ?_
        refine ww_iload_n dX9_late_27 rfl rfl ?_
        refine mm_iald dX9_late_28 rfl i3 (by omega) rfl rfl ?_
        refine ww_aload_n dX9_late_29 rfl rfl ?_
        refine mm_geti dX9_late_30 fX9_321 rfl rfl ?_
        refine ww_icmp_ge (tgt := 40) dX9_late_33 (by decide) (fun c33 => ?_) (fun c33 => ?_)
        · refine ww_iconst (v := 0) dX9_late_40 (by decide) ?_
          refine ww_iadd dX9_late_41 ?_
          refine ww_istore_n dX9_late_42 rfl rfl rfl ?_
          refine ww_iinc dX9_late_43 rfl rfl rfl rfl ?_
          refine ww_goto (tgt := 4) dX9_late_46 (by decide) ?_
          exact ih (t + 1) _ _ (by omega) (by omega) (by rw [i2, w_add0, cntB_f (by simp [Plt, Int32.not_lt.mpr c33])]) (w_inc i3)
        · refine ww_iconst (v := 1) dX9_late_36 (by decide) ?_
          refine ww_goto (tgt := 41) dX9_late_37 (by decide) ?_
          refine ww_iadd dX9_late_41 ?_
          refine ww_istore_n dX9_late_42 rfl rfl rfl ?_
          refine ww_iinc dX9_late_43 rfl rfl rfl rfl ?_
          refine ww_goto (tgt := 4) dX9_late_46 (by decide) ?_
          exact ih (t + 1) _ _ (by omega) (by omega) (by rw [i2, cntB_t (by simp [Plt, c20, Int32.not_le.mp c33])]; exact nI_1 _) (w_inc i3)
set_option maxHeartbeats 4000000 in
theorem c9_late {c : Nat} (hc : F 55 = nI c) (hc2 : c ≤ 200) : Sat G mX9_late [.ref m] (mh m F tl R NL h0, sz) (Det (some (.int (nI (cntB (Plt F R) c)))) (mh m F tl R NL h0, sz)) := by
  refine Sat.of (by decide) [some (.ref m), none, none] rfl rfl (fun X => ?_)
  refine ww_iconst (v := 0) dX9_late_0 (by decide) ?_
  refine ww_istore_n dX9_late_1 rfl rfl rfl ?_
  refine ww_iconst (v := 0) dX9_late_2 (by decide) ?_
  refine ww_istore_n dX9_late_3 rfl rfl rfl ?_
  exact L9_late hc hc2 (c + 1) 0 _ _ (by omega) (by omega) rfl rfl
set_option maxHeartbeats 4000000 in
theorem c9_giveBack0 {x : Int32} {c : Nat} (hc : F 55 = nI c) (hc2 : c ≤ 200) (hno : wIn x c = false) : Sat G mX9_giveBack [.ref m, .int x] (mh m F tl R NL h0, sz) (Det (some (.int 0)) (mh m F tl R NL h0, sz)) := by
  refine Sat.of (by decide) [some (.ref m), some (.int x)] rfl rfl (fun X => ?_)
  refine ww_aload_n dX9_giveBack_0 rfl rfl ?_
  refine ww_iload_n dX9_giveBack_1 rfl rfl ?_
  refine mm_call1 dX9_giveBack_2 kX9_348 rfl (c9_isTask hc (by omega)) rfl rfl rfl rfl rfl rfl (Nat.zero_le _) (Nat.zero_le _) ?_
  refine ww_if_eq (tgt := 18) dX9_giveBack_5 (by decide) (fun c5 => ?_) (fun c5 => ?_)
  · refine ww_iconst (v := 0) dX9_giveBack_18 (by decide) ?_
    exact ww_zret dX9_giveBack_19 rfl (Or.inl rfl) ⟨rfl, rfl⟩ (Nat.zero_le _) (Nat.zero_le _)
  · exact absurd c5 (fun q => q (wb_eq0.mpr hno))
set_option maxHeartbeats 4000000 in
theorem c9_giveBack {x : Int32} {c t : Nat} (hc : F 55 = nI c) (hc2 : c ≤ 200) (hp : x = nI t) (hpc : t < c) : Sat G mX9_giveBack [.ref m, .int x] (mh m F tl R NL h0, sz) (Det (some (.int (if R 61 t = 1 then 1 else 0))) (if R 61 t = 1 then (mh m F tl (va_up (va_up R 61 (upd (R 61) t 0)) 62 (upd (R 62) t (-1))) NL h0, sz) else (mh m F tl R NL h0, sz))) := by
  refine Sat.of (by decide) [some (.ref m), some (.int x)] rfl rfl (fun X => ?_)
  refine ww_aload_n dX9_giveBack_0 rfl rfl ?_
  refine ww_iload_n dX9_giveBack_1 rfl rfl ?_
  refine mm_call1 dX9_giveBack_2 kX9_348 rfl (c9_isTask hc (by omega)) rfl rfl rfl rfl rfl rfl (Nat.zero_le _) (Nat.zero_le _) ?_
  refine ww_if_eq (tgt := 18) dX9_giveBack_5 (by decide) (fun c5 => ?_) (fun c5 => ?_)
  · exact absurd c5 (by rw [hp, wIn_nI hpc (by omega)]; decide)
  · refine ww_aload_n dX9_giveBack_8 rfl rfl ?_
    refine mm_getr dX9_giveBack_9 fX9_143 rfl ?_
    refine ww_iload_n dX9_giveBack_12 rfl rfl ?_
    refine mm_iald dX9_giveBack_13 rfl hp (by omega) rfl rfl ?_
    refine ww_iconst (v := 1) dX9_giveBack_14 (by decide) ?_
    refine ww_icmp_eq (tgt := 20) dX9_giveBack_15 (by decide) (fun c15 => ?_) (fun c15 => ?_)
    · refine ww_aload_n dX9_giveBack_20 rfl rfl ?_
      refine mm_getr dX9_giveBack_21 fX9_143 rfl ?_
      refine ww_iload_n dX9_giveBack_24 rfl rfl ?_
      refine ww_iconst (v := 0) dX9_giveBack_25 (by decide) ?_
      refine mm_iast dX9_giveBack_26 rfl hp (by omega) rfl rfl ?_
      refine ww_aload_n dX9_giveBack_27 rfl rfl ?_
      refine mm_getr dX9_giveBack_28 fX9_146 rfl ?_
      refine ww_iload_n dX9_giveBack_31 rfl rfl ?_
      refine ww_iconst (v := -1) dX9_giveBack_32 (by decide) ?_
      refine mm_iast dX9_giveBack_33 rfl hp (by omega) rfl rfl ?_
      refine ww_iconst (v := 1) dX9_giveBack_34 (by decide) ?_
      exact ww_zret dX9_giveBack_35 rfl (Or.inr rfl) ⟨by rw [if_pos c15], by rw [if_pos c15]; rfl⟩ (Nat.zero_le _) (Nat.zero_le _)
    · refine ww_iconst (v := 0) dX9_giveBack_18 (by decide) ?_
      exact ww_zret dX9_giveBack_19 rfl (Or.inl rfl) ⟨by rw [if_neg c15], by rw [if_neg c15]⟩ (Nat.zero_le _) (Nat.zero_le _)
end M2
end
section
/-! the row of deputies -/
def stM (aw dp : Nat → Int32) : Nat → Int32 → Int32
  | 0, x => x
  | n + 1, x => if x < 0 then x else if aw x.toNatClampNeg = 0 then x else stM aw dp n (dp x.toNatClampNeg)
def stE (aw : Nat → Int32) (y : Int32) : Int32 := if y < 0 then y else if aw y.toNatClampNeg = 0 then y else -1
def stR (aw dp : Nat → Int32) (x : Int32) : Int32 := stE aw (stM aw dp 8 x)
def okP (c : Nat) (x : Int32) : Prop := x = -1 ∨ ∃ j, j < c ∧ x = nI j
theorem okP_pos {c : Nat} {x : Int32} (h : okP c x) (hx : ¬ x < 0) : ∃ j, j < c ∧ x = nI j := by
  rcases h with h | h
  · exact absurd (by rw [h]; decide) hx
  · exact h
theorem stM_neg {aw dp : Nat → Int32} {x : Int32} (h : x < 0) : ∀ n, stM aw dp n x = x
  | 0 => rfl
  | n + 1 => by simp [stM, h]
theorem stM_here {aw dp : Nat → Int32} {x : Int32} {j : Nat} (hx : x = nI j) (hj : j < 2 ^ 31) (h : aw j = 0) : ∀ n, stM aw dp n x = x
  | 0 => rfl
  | n + 1 => by
    subst hx
    simp [stM, nI_pos hj, nI_clamp hj, h]
theorem stM_step {aw dp : Nat → Int32} {x : Int32} {j : Nat} (hx : x = nI j) (hj : j < 2 ^ 31) (h : ¬ aw j = 0) (n : Nat) : stM aw dp (n + 1) x = stM aw dp n (dp j) := by
  subst hx
  simp [stM, nI_pos hj, nI_clamp hj, h]
/-! working hours -/
def isW (h : Nat) : Bool := decide (h / 24 % 7 < 5) && decide (9 ≤ h % 24) && decide (h % 24 ≤ 16)
def wHr (h : Nat) : Nat := h / 168 * 40 + (if h % 168 / 24 < 5 then h % 168 / 24 * 8 + (if h % 24 < 9 then 0 else if h % 24 < 17 then h % 24 - 9 else 8) else 40)
def wEn (k : Nat) : Nat := k / 40 * 168 + k % 40 / 8 * 24 + 9 + k % 8 + 1
theorem wHr_at (q d u : Nat) (hd : d < 7) (hu : u < 24) : wHr (168 * q + 24 * d + u) = 40 * q + (if d < 5 then 8 * d + (if u < 9 then 0 else if u < 17 then u - 9 else 8) else 40) := by
  unfold wHr
  rw [show (168 * q + 24 * d + u) / 168 = q by omega, show (168 * q + 24 * d + u) % 168 / 24 = d by omega, show (168 * q + 24 * d + u) % 24 = u by omega]
  (repeat' split) <;> omega
theorem w_hour (h : Nat) : ∃ q d u, d < 7 ∧ u < 24 ∧ h = 168 * q + 24 * d + u := ⟨h / 168, h % 168 / 24, h % 24, by omega, by omega, by omega⟩
theorem isW_at (q d u : Nat) (hd : d < 7) (hu : u < 24) : isW (168 * q + 24 * d + u) = true ↔ d < 5 ∧ 9 ≤ u ∧ u ≤ 16 := by
  unfold isW
  rw [show (168 * q + 24 * d + u) / 24 % 7 = d by omega, show (168 * q + 24 * d + u) % 24 = u by omega]
  simp [and_assoc]
theorem wHr_succ (h : Nat) : wHr (h + 1) = wHr h + (if isW h = true then 1 else 0) := by
  obtain ⟨q, d, u, hd, hu, rfl⟩ := w_hour h
  simp only [isW_at q d u hd hu]
  rw [wHr_at q d u hd hu]
  by_cases h1 : u + 1 < 24
  · rw [show 168 * q + 24 * d + u + 1 = 168 * q + 24 * d + (u + 1) by omega, wHr_at q d (u + 1) hd h1]
    (repeat' split) <;> omega
  · by_cases h2 : d + 1 < 7
    · rw [show 168 * q + 24 * d + u + 1 = 168 * q + 24 * (d + 1) + 0 by omega, wHr_at q (d + 1) 0 h2 (by decide)]
      (repeat' split) <;> omega
    · rw [show 168 * q + 24 * d + u + 1 = 168 * (q + 1) + 24 * 0 + 0 by omega, wHr_at (q + 1) 0 0 (by decide) (by decide)]
      (repeat' split) <;> omega
theorem wHr_mono {a b : Nat} (h : a ≤ b) : wHr a ≤ wHr b := by
  obtain ⟨d, rfl⟩ := Nat.le.dest h
  clear h
  induction d with
  | zero => exact Nat.le_refl _
  | succ d ih =>
    have := wHr_succ (a + d)
    rw [show a + (d + 1) = a + d + 1 by omega, this]
    omega
theorem wEn_eq (k : Nat) : wEn k = 168 * (k / 40) + 24 * (k % 40 / 8) + (10 + k % 8) := by unfold wEn; omega
theorem wHr_en (k : Nat) : wHr (wEn k) = k + 1 := by
  rw [wEn_eq, wHr_at _ _ _ (by omega) (by omega)]
  (repeat' split) <;> omega
theorem wHr_enp (k : Nat) : wHr (wEn k - 1) = k := by
  rw [wEn_eq, show 168 * (k / 40) + 24 * (k % 40 / 8) + (10 + k % 8) - 1 = 168 * (k / 40) + 24 * (k % 40 / 8) + (9 + k % 8) by omega, wHr_at _ _ _ (by omega) (by omega)]
  (repeat' split) <;> omega
theorem wEn_le {k h : Nat} : wEn k ≤ h ↔ k + 1 ≤ wHr h := by
  constructor
  · intro q
    rw [← wHr_en k]
    exact wHr_mono q
  · intro q
    rcases Nat.lt_or_ge h (wEn k) with r | r
    · have := wHr_mono (show h ≤ wEn k - 1 by omega)
      rw [wHr_enp] at this
      omega
    · exact r
theorem wEn_pos (k : Nat) : 10 ≤ wEn k := by unfold wEn; omega
section M3
variable {G : wG} {m : Nat} {F : Nat → Int32} {tl : Int64} {R : Nat → Nat → Int32} {NL : Nat → Int64} {h0 : Nat → Option wE} {sz : Nat}

set_option maxHeartbeats 4000000 in
theorem c9_stands0 {x : Int32} {c : Nat} (hc : F 64 = nI c) (hc2 : c ≤ 8) (hno : wIn x c = false) : Sat G mX9_stands [.ref m, .int x] (mh m F tl R NL h0, sz) (Det (some (.int (-1))) (mh m F tl R NL h0, sz)) := by
  refine Sat.of (by decide) [some (.ref m), some (.int x), none, none] rfl rfl (fun X => ?_)
  refine ww_aload_n dX9_stands_0 rfl rfl ?_
  refine ww_iload_n dX9_stands_1 rfl rfl ?_
  refine mm_call1 dX9_stands_2 kX9_318 rfl (c9_isPerson hc (by omega)) rfl rfl rfl rfl rfl rfl (Nat.zero_le _) (Nat.zero_le _) ?_
  refine ww_if_ne (tgt := 10) dX9_stands_5 (by decide) (fun c5 => ?_) (fun c5 => ?_)
  · exact absurd c5 (fun q => q (wb_eq0.mpr hno))
  · refine ww_iconst (v := -1) dX9_stands_8 (by decide) ?_
    exact ww_iret dX9_stands_9 rfl ⟨rfl, rfl⟩ (Nat.zero_le _) (Nat.zero_le _)
set_option maxHeartbeats 4000000 in
theorem L9_stands {x : Int32} {c : Nat} {X : wX} (hc2 : c ≤ 8) (hdp : ∀ q, q < c → okP c (R 67 q)) : ∀ (n k : Nat) (x2 x3 : Int32), 8 - k < n → k ≤ 8 → okP c x2 → x3 = nI k → stM (R 68) (R 67) (8 - k) x2 = stM (R 68) (R 67) 8 x → WW G mX9_stands cX9_stands X (wZ G mX9_stands X (Det (some (.int (stR (R 68) (R 67) x))) (mh m F tl R NL h0, sz))) 14 [some (.ref m), some (.int x), some (.int x2), some (.int x3)] [] (mh m F tl R NL h0, sz) 0 0 := by
  intro n
  induction n with
  | zero => intro k x2 x3 hn; exact absurd hn (by omega)
  | succ n ih =>
    intro k x2 x3 hn hk i2 i3 i4
    refine ww_iload_n dX9_stands_14 rfl rfl ?_
    refine ww_bipush (v := 8) dX9_stands_15 (by decide) ?_
    refine ww_icmp_ge (tgt := 46) dX9_stands_17 (by decide) (fun c17 => ?_) (fun c17 => ?_)
    · have hy : x2 = stM (R 68) (R 67) 8 x := by
        have := (w_le (show (8 : Int32) = nI 8 from rfl) i3 (by decide) (by omega)).mp c17
        rw [← i4, show 8 - k = 0 by omega]; rfl
      refine ww_iload_n dX9_stands_46 rfl rfl ?_
      refine ww_if_lt (tgt := 63) dX9_stands_47 (by decide) (fun c47 => ?_) (fun c47 => ?_)
      · refine ww_iload_n dX9_stands_63 rfl rfl ?_
        exact ww_iret dX9_stands_64 rfl ⟨by rw [stR, ← hy, stE, if_pos c47], rfl⟩ (Nat.zero_le _) (Nat.zero_le _)
      · obtain ⟨j2, hj2, ej2⟩ := okP_pos i2 c47
        refine ww_aload_n dX9_stands_50 rfl rfl ?_
        refine mm_getr dX9_stands_51 fX9_161 rfl ?_
        refine ww_iload_n dX9_stands_54 rfl rfl ?_
        refine mm_zald dX9_stands_55 rfl ej2 (by omega) rfl rfl ?_
        refine ww_if_eq (tgt := 63) dX9_stands_56 (by decide) (fun c56 => ?_) (fun c56 => ?_)
        · refine ww_iload_n dX9_stands_63 rfl rfl ?_
          exact ww_iret dX9_stands_64 rfl ⟨by rw [stR, ← hy, stE, if_neg c47, ej2, nI_clamp (by omega), if_pos c56], rfl⟩ (Nat.zero_le _) (Nat.zero_le _)
        · refine ww_iconst (v := -1) dX9_stands_59 (by decide) ?_
          refine ww_goto (tgt := 64) dX9_stands_60 (by decide) ?_
          exact ww_iret dX9_stands_64 rfl ⟨by rw [stR, ← hy, stE, if_neg c47, ej2, nI_clamp (by omega), if_neg c56], rfl⟩ (Nat.zero_le _) (Nat.zero_le _)
    · refine ww_iload_n dX9_stands_20 rfl rfl ?_
      refine ww_if_lt (tgt := 46) dX9_stands_21 (by decide) (fun c21 => ?_) (fun c21 => ?_)
      · have hy : x2 = stM (R 68) (R 67) 8 x := by rw [← i4, stM_neg c21]
        refine ww_iload_n dX9_stands_46 rfl rfl ?_
        refine ww_if_lt (tgt := 63) dX9_stands_47 (by decide) (fun c47 => ?_) (fun c47 => ?_)
        · refine ww_iload_n dX9_stands_63 rfl rfl ?_
          exact ww_iret dX9_stands_64 rfl ⟨by rw [stR, ← hy, stE, if_pos c47], rfl⟩ (Nat.zero_le _) (Nat.zero_le _)
        · obtain ⟨j2, hj2, ej2⟩ := okP_pos i2 c47
          refine ww_aload_n dX9_stands_50 rfl rfl ?_
          refine mm_getr dX9_stands_51 fX9_161 rfl ?_
          refine ww_iload_n dX9_stands_54 rfl rfl ?_
          refine mm_zald dX9_stands_55 rfl ej2 (by omega) rfl rfl ?_
          refine ww_if_eq (tgt := 63) dX9_stands_56 (by decide) (fun c56 => ?_) (fun c56 => ?_)
          · refine ww_iload_n dX9_stands_63 rfl rfl ?_
            exact ww_iret dX9_stands_64 rfl ⟨by rw [stR, ← hy, stE, if_neg c47, ej2, nI_clamp (by omega), if_pos c56], rfl⟩ (Nat.zero_le _) (Nat.zero_le _)
          · refine ww_iconst (v := -1) dX9_stands_59 (by decide) ?_
            refine ww_goto (tgt := 64) dX9_stands_60 (by decide) ?_
            exact ww_iret dX9_stands_64 rfl ⟨by rw [stR, ← hy, stE, if_neg c47, ej2, nI_clamp (by omega), if_neg c56], rfl⟩ (Nat.zero_le _) (Nat.zero_le _)
      · obtain ⟨j, hj, ej⟩ := okP_pos i2 c21
        refine ww_aload_n dX9_stands_24 rfl rfl ?_
        refine mm_getr dX9_stands_25 fX9_161 rfl ?_
        refine ww_iload_n dX9_stands_28 rfl rfl ?_
        refine mm_zald dX9_stands_29 rfl ej (by omega) rfl rfl ?_
        refine ww_if_eq (tgt := 46) dX9_stands_30 (by decide) (fun c30 => ?_) (fun c30 => ?_)
        · have hy : x2 = stM (R 68) (R 67) 8 x := by rw [← i4, stM_here ej (by omega) c30]
          refine ww_iload_n dX9_stands_46 rfl rfl ?_
          refine ww_if_lt (tgt := 63) dX9_stands_47 (by decide) (fun c47 => ?_) (fun c47 => ?_)
          · refine ww_iload_n dX9_stands_63 rfl rfl ?_
            exact ww_iret dX9_stands_64 rfl ⟨by rw [stR, ← hy, stE, if_pos c47], rfl⟩ (Nat.zero_le _) (Nat.zero_le _)
          · obtain ⟨j2, hj2, ej2⟩ := okP_pos i2 c47
            refine ww_aload_n dX9_stands_50 rfl rfl ?_
            refine mm_getr dX9_stands_51 fX9_161 rfl ?_
            refine ww_iload_n dX9_stands_54 rfl rfl ?_
            refine mm_zald dX9_stands_55 rfl ej2 (by omega) rfl rfl ?_
            refine ww_if_eq (tgt := 63) dX9_stands_56 (by decide) (fun c56 => ?_) (fun c56 => ?_)
            · refine ww_iload_n dX9_stands_63 rfl rfl ?_
              exact ww_iret dX9_stands_64 rfl ⟨by rw [stR, ← hy, stE, if_neg c47, ej2, nI_clamp (by omega), if_pos c56], rfl⟩ (Nat.zero_le _) (Nat.zero_le _)
            · refine ww_iconst (v := -1) dX9_stands_59 (by decide) ?_
              refine ww_goto (tgt := 64) dX9_stands_60 (by decide) ?_
              exact ww_iret dX9_stands_64 rfl ⟨by rw [stR, ← hy, stE, if_neg c47, ej2, nI_clamp (by omega), if_neg c56], rfl⟩ (Nat.zero_le _) (Nat.zero_le _)
        · have hk : k < 8 := by rcases Nat.lt_or_ge k 8 with q | q; exact q; exact absurd ((w_le (show (8 : Int32) = nI 8 from rfl) i3 (by decide) (by omega)).mpr q) c17
          refine ww_aload_n dX9_stands_33 rfl rfl ?_
          refine mm_getr dX9_stands_34 fX9_158 rfl ?_
          refine ww_iload_n dX9_stands_37 rfl rfl ?_
          refine mm_iald dX9_stands_38 rfl ej (by omega) rfl rfl ?_
          refine ww_istore_n dX9_stands_39 rfl rfl rfl ?_
          refine ww_iinc dX9_stands_40 rfl rfl rfl rfl ?_
          refine ww_goto (tgt := 14) dX9_stands_43 (by decide) ?_
          exact ih (k + 1) _ _ (by omega) (by omega) (hdp j hj) (w_inc i3) (by rw [← i4, show 8 - k = 8 - (k + 1) + 1 by omega, stM_step ej (by omega) c30])
set_option maxHeartbeats 4000000 in
theorem c9_stands {x : Int32} {c p : Nat} (hc : F 64 = nI c) (hc2 : c ≤ 8) (hdp : ∀ q, q < c → okP c (R 67 q)) (hp : x = nI p) (hpc : p < c) : Sat G mX9_stands [.ref m, .int x] (mh m F tl R NL h0, sz) (Det (some (.int (stR (R 68) (R 67) x))) (mh m F tl R NL h0, sz)) := by
  refine Sat.of (by decide) [some (.ref m), some (.int x), none, none] rfl rfl (fun X => ?_)
  refine ww_aload_n dX9_stands_0 rfl rfl ?_
  refine ww_iload_n dX9_stands_1 rfl rfl ?_
  refine mm_call1 dX9_stands_2 kX9_318 rfl (c9_isPerson hc (by omega)) rfl rfl rfl rfl rfl rfl (Nat.zero_le _) (Nat.zero_le _) ?_
  refine ww_if_ne (tgt := 10) dX9_stands_5 (by decide) (fun c5 => ?_) (fun c5 => ?_)
  · refine ww_iload_n dX9_stands_10 rfl rfl ?_
    refine ww_istore_n dX9_stands_11 rfl rfl rfl ?_
    refine ww_iconst (v := 0) dX9_stands_12 (by decide) ?_
    refine ww_istore_n dX9_stands_13 rfl rfl rfl ?_
    exact L9_stands hc2 hdp 9 0 _ _ (by omega) (by omega) (Or.inr ⟨p, hpc, hp⟩) rfl rfl
  · exact absurd c5 (by rw [hp, wIn_nI hpc (by omega)]; decide)
theorem w_dv {x : Int32} {a d : Nat} (hx : x = nI a) (ha : a < 2 ^ 31) (h0 : 0 < d) (hd : d < 2 ^ 31) : x / nI d = nI (a / d) := by rw [hx]; exact pk_div ha h0 hd
theorem w_rm {x : Int32} {a d : Nat} (hx : x = nI a) (ha : a < 2 ^ 31) (h0 : 0 < d) (hd : d < 2 ^ 31) : x - x / nI d * nI d = nI (a % d) := by rw [hx]; exact pk_rem ha h0 hd
theorem w_lt {x y : Int32} {a b : Nat} (hx : x = nI a) (hy : y = nI b) (ha : a < 2 ^ 31) (hb : b < 2 ^ 31) : x < y ↔ a < b := by rw [hx, hy]; exact nI_ltI ha hb
theorem iw1 {x : Int32} {a : Nat} (hx : x = nI a) (ha : a < 2 ^ 31) : (5 : Int32) ≤ x / 24 - x / 24 / 7 * 7 ↔ 5 ≤ a / 24 % 7 := by
  have e1 : x / 24 = nI (a / 24) := w_dv hx ha (by decide) (by decide)
  have e : x / 24 - x / 24 / 7 * 7 = nI (a / 24 % 7) := w_rm e1 (by omega) (by decide) (by decide)
  rw [e]
  exact nI_leI (a := 5) (b := a / 24 % 7) (by decide) (by omega)
theorem iw2 {x : Int32} {a : Nat} (hx : x = nI a) (ha : a < 2 ^ 31) : x - x / 24 * 24 < 9 ↔ a % 24 < 9 := by
  have e : x - x / 24 * 24 = nI (a % 24) := w_rm hx ha (by decide) (by decide)
  rw [e]
  exact nI_ltI (a := a % 24) (b := 9) (by omega) (by decide)
theorem iw3 {x : Int32} {a : Nat} (hx : x = nI a) (ha : a < 2 ^ 31) : 16 < x - x / 24 * 24 ↔ 16 < a % 24 := by
  have e : x - x / 24 * 24 = nI (a % 24) := w_rm hx ha (by decide) (by decide)
  rw [e]
  exact nI_ltI (a := 16) (b := a % 24) (by decide) (by omega)
set_option maxHeartbeats 4000000 in
theorem c9_isWorking {x : Int32} {a : Nat} {h : wH} (hx : x = nI a) (ha : a < 2 ^ 31) : Sat G mX9_isWorking [.int x] h (Det (some (.int (wb (isW a)))) h) := by
  refine Sat.of (by decide) [some (.int x)] rfl rfl (fun X => ?_)
  refine ww_iload_n dX9_isWorking_0 rfl rfl ?_
  refine ww_bipush (v := 24) dX9_isWorking_1 (by decide) ?_
  refine ww_idiv dX9_isWorking_3 (by decide) ?_
  refine ww_bipush (v := 7) dX9_isWorking_4 (by decide) ?_
  refine ww_irem dX9_isWorking_6 (by decide) ?_
  refine ww_iconst (v := 5) dX9_isWorking_7 (by decide) ?_
  refine ww_icmp_ge (tgt := 33) dX9_isWorking_8 (by decide) (fun c8 => ?_) (fun c8 => ?_)
  · refine ww_iconst (v := 0) dX9_isWorking_33 (by decide) ?_
    exact ww_zret dX9_isWorking_34 rfl (Or.inl rfl) ⟨by rw [show isW a = false by have := (iw1 hx ha).mp c8; simp [isW]; omega]; rfl, rfl⟩ (Nat.zero_le _) (Nat.zero_le _)
  · refine ww_iload_n dX9_isWorking_11 rfl rfl ?_
    refine ww_bipush (v := 24) dX9_isWorking_12 (by decide) ?_
    refine ww_irem dX9_isWorking_14 (by decide) ?_
    refine ww_bipush (v := 9) dX9_isWorking_15 (by decide) ?_
    refine ww_icmp_lt (tgt := 33) dX9_isWorking_17 (by decide) (fun c17 => ?_) (fun c17 => ?_)
    · refine ww_iconst (v := 0) dX9_isWorking_33 (by decide) ?_
      exact ww_zret dX9_isWorking_34 rfl (Or.inl rfl) ⟨by rw [show isW a = false by have := (iw2 hx ha).mp c17; simp [isW]; omega]; rfl, rfl⟩ (Nat.zero_le _) (Nat.zero_le _)
    · refine ww_iload_n dX9_isWorking_20 rfl rfl ?_
      refine ww_bipush (v := 24) dX9_isWorking_21 (by decide) ?_
      refine ww_irem dX9_isWorking_23 (by decide) ?_
      refine ww_bipush (v := 16) dX9_isWorking_24 (by decide) ?_
      refine ww_icmp_gt (tgt := 33) dX9_isWorking_26 (by decide) (fun c26 => ?_) (fun c26 => ?_)
      · refine ww_iconst (v := 0) dX9_isWorking_33 (by decide) ?_
        exact ww_zret dX9_isWorking_34 rfl (Or.inl rfl) ⟨by rw [show isW a = false by have := (iw3 hx ha).mp c26; simp [isW]; omega]; rfl, rfl⟩ (Nat.zero_le _) (Nat.zero_le _)
      · refine ww_iconst (v := 1) dX9_isWorking_29 (by decide) ?_
        refine ww_goto (tgt := 34) dX9_isWorking_30 (by decide) ?_
        exact ww_zret dX9_isWorking_34 rfl (Or.inr rfl) ⟨by rw [show isW a = true by have h1 := mt (iw1 hx ha).mpr c8; have h2 := mt (iw2 hx ha).mpr c17; have h3 := mt (iw3 hx ha).mpr c26; simp [isW]; omega]; rfl, rfl⟩ (Nat.zero_le _) (Nat.zero_le _)
theorem w_sub0 (x : Int32) : x - 0 = x := Int32.sub_zero x
set_option maxHeartbeats 4000000 in
theorem L9_behind {x0 x1 : Int32} {T : Nat} {h : wH} {X : wX} (hT : 1 ≤ T) (hE : wEn (T - 1) < 2 ^ 30) : ∀ (n a l : Nat) (x2 x3 : Int32), wEn (T - 1) + 1 - a < n → x2 = nI a → x3 = nI l → wHr a + l = T → l < 2 ^ 30 → (l = 0 → a = wEn (T - 1)) → WW G mX9_behind cX9_behind X (wZ G mX9_behind X (Det (some (.int (nI (wEn (T - 1))))) h)) 4 [some (.int x0), some (.int x1), some (.int x2), some (.int x3)] [] h 0 0 := by
  intro n
  induction n with
  | zero => intro a l x2 x3 hn; exact absurd hn (by omega)
  | succ n ih =>
    intro a l x2 x3 hn i2 i3 i4 i5 i6
    refine ww_iload_n dX9_behind_4 rfl rfl ?_
    refine ww_if_le (tgt := 29) dX9_behind_5 (by decide) (fun c5 => ?_) (fun c5 => ?_)
    · have e0 : l = 0 := by rcases Nat.eq_zero_or_pos l with q | q; exact q; exact absurd c5 (by rw [i3]; exact nI_nle q (by omega))
      refine ww_iload_n dX9_behind_29 rfl rfl ?_
      exact ww_iret dX9_behind_30 rfl ⟨by rw [i2, i6 e0], rfl⟩ (Nat.zero_le _) (Nat.zero_le _)
    · have e0 : 0 < l := by rcases Nat.eq_zero_or_pos l with q | q; exact absurd (by rw [i3, q]; decide) c5; exact q
      have e1 : a < wEn (T - 1) := by rcases Nat.lt_or_ge a (wEn (T - 1)) with q | q; exact q; have := wEn_le.mp q; omega
      refine ww_iload_n dX9_behind_8 rfl rfl ?_
      refine ww_iload_n dX9_behind_9 rfl rfl ?_
      refine ww_calls1 dX9_behind_10 kX9_326 (c9_isWorking i2 (by omega)) rfl rfl rfl rfl rfl rfl (Nat.zero_le _) (Nat.zero_le _) ?_
      refine ww_if_eq (tgt := 20) dX9_behind_13 (by decide) (fun c13 => ?_) (fun c13 => ?_)
      · refine ww_iconst (v := 0) dX9_behind_20 (by decide) ?_
        refine ww_isub dX9_behind_21 ?_
        refine ww_istore_n dX9_behind_22 rfl rfl rfl ?_
        refine ww_iinc dX9_behind_23 rfl rfl rfl rfl ?_
        refine ww_goto (tgt := 4) dX9_behind_26 (by decide) ?_
        exact ih (a + 1) l _ _ (by omega) (w_inc i2) (by rw [w_sub0]; exact i3) (by have := wHr_succ a; rw [if_neg (wb_nt (wb_eq0.mp c13))] at this; omega) (by omega) (fun q => absurd q (by omega))
      · refine ww_iconst (v := 1) dX9_behind_16 (by decide) ?_
        refine ww_goto (tgt := 21) dX9_behind_17 (by decide) ?_
        refine ww_isub dX9_behind_21 ?_
        refine ww_istore_n dX9_behind_22 rfl rfl rfl ?_
        refine ww_iinc dX9_behind_23 rfl rfl rfl rfl ?_
        refine ww_goto (tgt := 4) dX9_behind_26 (by decide) ?_
        exact ih (a + 1) (l - 1) _ _ (by omega) (w_inc i2) (by rw [i3]; exact pk_sub (a := l) (b := 1) (by omega)) (by have := wHr_succ a; rw [if_pos (wb_ne0.mp c13)] at this; omega) (by omega) (fun _ => by have := wHr_succ a; rw [if_pos (wb_ne0.mp c13)] at this; have h5 := (wEn_le (k := T - 1) (h := a)); have h6 := (wEn_le (k := T - 1) (h := a + 1)); omega)
set_option maxHeartbeats 4000000 in
theorem c9_behind {x y : Int32} {a l : Nat} {h : wH} (hx : x = nI a) (hy : y = nI l) (hl : 1 ≤ l) (hl2 : l < 2 ^ 30) (hE : wEn (wHr a + l - 1) < 2 ^ 30) : Sat G mX9_behind [.int x, .int y] h (Det (some (.int (nI (wEn (wHr a + l - 1))))) h) := by
  refine Sat.of (by decide) [some (.int x), some (.int y), none, none] rfl rfl (fun X => ?_)
  refine ww_iload_n dX9_behind_0 rfl rfl ?_
  refine ww_istore_n dX9_behind_1 rfl rfl rfl ?_
  refine ww_iload_n dX9_behind_2 rfl rfl ?_
  refine ww_istore_n dX9_behind_3 rfl rfl rfl ?_
  exact L9_behind (T := wHr a + l) (by omega) hE (wEn (wHr a + l - 1) + 2) a l _ _ (by omega) hx hy rfl (by omega) (fun q => absurd q (by omega))
theorem wEn_lt {a l : Nat} (ha : a ≤ 30000) (hl : l ≤ 1000) : wEn (wHr a + l - 1) < 2 ^ 30 := by
  have h1 : wHr a ≤ a := by
    clear ha
    induction a with
    | zero => decide
    | succ a ih => rw [wHr_succ]; split <;> omega
  unfold wEn
  omega
set_option maxHeartbeats 4000000 in
theorem c9_due0 {x y : Int32} (hno : (inR x 0 20000 && inR y 1 99) = false) : Sat G mX9_due [.ref m, .int x, .int y] (mh m F tl R NL h0, sz) (Det (some (.int (-1))) (mh m F tl R NL h0, sz)) := by
  refine Sat.of (by decide) [some (.ref m), some (.int x), some (.int y)] rfl rfl (fun X => ?_)
  refine ww_iload_n dX9_due_0 rfl rfl ?_
  refine ww_i2l dX9_due_1 ?_
  refine ww_lconst (v := 0) dX9_due_2 (by decide) ?_
  refine ww_ldc2 dX9_due_3 qX9_324 ?_
  refine ww_calls1 dX9_due_6 kX9_177 c9_in rfl rfl rfl rfl rfl rfl (Nat.zero_le _) (Nat.zero_le _) ?_
  refine ww_if_eq (tgt := 32) dX9_due_9 (by decide) (fun c9 => ?_) (fun c9 => ?_)
  · refine ww_iconst (v := -1) dX9_due_32 (by decide) ?_
    exact ww_iret dX9_due_33 rfl ⟨rfl, rfl⟩ (Nat.zero_le _) (Nat.zero_le _)
  · refine ww_iload_n dX9_due_12 rfl rfl ?_
    refine ww_i2l dX9_due_13 ?_
    refine ww_lconst (v := 1) dX9_due_14 (by decide) ?_
    refine ww_ldc2 dX9_due_15 qX9_329 ?_
    refine ww_calls1 dX9_due_18 kX9_177 c9_in rfl rfl rfl rfl rfl rfl (Nat.zero_le _) (Nat.zero_le _) ?_
    refine ww_if_eq (tgt := 32) dX9_due_21 (by decide) (fun c21 => ?_) (fun c21 => ?_)
    · refine ww_iconst (v := -1) dX9_due_32 (by decide) ?_
      exact ww_iret dX9_due_33 rfl ⟨rfl, rfl⟩ (Nat.zero_le _) (Nat.zero_le _)
    · exact absurd hno (by rw [wb_ne0.mp (by rw [in_c (a := 0) (b := 20000) rfl rfl] at c9; exact c9 : ¬ wb (inR x 0 20000) = 0), wb_ne0.mp (by rw [in_c (a := 1) (b := 99) rfl rfl] at c21; exact c21 : ¬ wb (inR y 1 99) = 0)]; decide)
set_option maxHeartbeats 4000000 in
theorem c9_due {x y : Int32} {a l : Nat} (hx : x = nI a) (hy : y = nI l) (ha : a ≤ 20000) (hl : 1 ≤ l) (hl2 : l ≤ 99) : Sat G mX9_due [.ref m, .int x, .int y] (mh m F tl R NL h0, sz) (Det (some (.int (nI (wEn (wHr a + l - 1))))) (mh m F tl R NL h0, sz)) := by
  refine Sat.of (by decide) [some (.ref m), some (.int x), some (.int y)] rfl rfl (fun X => ?_)
  refine ww_iload_n dX9_due_0 rfl rfl ?_
  refine ww_i2l dX9_due_1 ?_
  refine ww_lconst (v := 0) dX9_due_2 (by decide) ?_
  refine ww_ldc2 dX9_due_3 qX9_324 ?_
  refine ww_calls1 dX9_due_6 kX9_177 c9_in rfl rfl rfl rfl rfl rfl (Nat.zero_le _) (Nat.zero_le _) ?_
  refine ww_if_eq (tgt := 32) dX9_due_9 (by decide) (fun c9 => ?_) (fun c9 => ?_)
  · exact absurd c9 (by rw [in_c (a := 0) (b := 20000) rfl rfl, hx, nI_toInt (by omega)]; exact wb_ne0.mpr (decide_eq_true ⟨by omega, by omega⟩))
  · refine ww_iload_n dX9_due_12 rfl rfl ?_
    refine ww_i2l dX9_due_13 ?_
    refine ww_lconst (v := 1) dX9_due_14 (by decide) ?_
    refine ww_ldc2 dX9_due_15 qX9_329 ?_
    refine ww_calls1 dX9_due_18 kX9_177 c9_in rfl rfl rfl rfl rfl rfl (Nat.zero_le _) (Nat.zero_le _) ?_
    refine ww_if_eq (tgt := 32) dX9_due_21 (by decide) (fun c21 => ?_) (fun c21 => ?_)
    · exact absurd c21 (by rw [in_c (a := 1) (b := 99) rfl rfl, hy, nI_toInt (by omega)]; exact wb_ne0.mpr (decide_eq_true ⟨by omega, by omega⟩))
    · refine ww_iload_n dX9_due_24 rfl rfl ?_
      refine ww_iload_n dX9_due_25 rfl rfl ?_
      refine ww_calls1 dX9_due_26 kX9_331 (c9_behind hx hy hl (by omega) (wEn_lt (by omega) (by omega))) rfl rfl rfl rfl rfl rfl (Nat.zero_le _) (Nat.zero_le _) ?_
      refine ww_goto (tgt := 33) dX9_due_29 (by decide) ?_
      exact ww_iret dX9_due_33 rfl ⟨rfl, rfl⟩ (Nat.zero_le _) (Nat.zero_le _)
def dlM (R : Nat → Nat → Int32) (r w : Int32) : Nat → Int32 × Int32
  | 0 => (-1, -1)
  | t + 1 => if R 56 t = r ∧ R 57 t = w ∧ R 61 t = 2 ∧ (dlM R r w t).2 < R 70 t then (R 62 t, R 70 t) else dlM R r w t
set_option maxHeartbeats 4000000 in
theorem L9_didLast {x y : Int32} {c : Nat} {X : wX} (hc : F 55 = nI c) (hc2 : c ≤ 200) : ∀ (n t : Nat) (x3 x4 x5 : Int32), c - t < n → t ≤ c → x3 = (dlM R x y t).1 → x4 = (dlM R x y t).2 → x5 = nI t → WW G mX9_didLast cX9_didLast X (wZ G mX9_didLast X (Det (some (.int (dlM R x y c).1)) (mh m F tl R NL h0, sz))) 8 [some (.ref m), some (.int x), some (.int y), some (.int x3), some (.int x4), some (.int x5)] [] (mh m F tl R NL h0, sz) 0 0 := by
  intro n
  induction n with
  | zero => intro t x3 x4 x5 hn; exact absurd hn (by omega)
  | succ n ih =>
    intro t x3 x4 x5 hn ht i3 i4 i5
    refine ww_iload dX9_didLast_8 rfl ?_
    refine ww_aload_n dX9_didLast_10 rfl rfl ?_
    refine mm_geti dX9_didLast_11 fX9_311 rfl rfl ?_
    refine ww_icmp_ge (tgt := 85) dX9_didLast_14 (by decide) (fun c14 => ?_) (fun c14 => ?_)
    · have e1 := (w_le hc i5 (by omega) (by omega)).mp c14
      have e2 : t = c := by omega
      refine ww_iload_n dX9_didLast_85 rfl rfl ?_
      exact ww_iret dX9_didLast_86 rfl ⟨by rw [i3, e2], rfl⟩ (Nat.zero_le _) (Nat.zero_le _)
    · have e1 : t < c := by rcases Nat.lt_or_ge t c with q | q; exact q; exact absurd ((w_le hc i5 (by omega) (by omega)).mpr q) c14
      refine ww_aload_n dX9_didLast_17 rfl rfl ?_
      refine mm_getr dX9_didLast_18 fX9_128 rfl ?_
      refine ww_iload dX9_didLast_21 rfl ?_
      refine mm_iald dX9_didLast_23 rfl i5 (by omega) rfl rfl ?_
      refine ww_iload_n dX9_didLast_24 rfl rfl ?_
      refine ww_icmp_ne (tgt := 79) dX9_didLast_25 (by decide) (fun c25 => ?_) (fun c25 => ?_)
      · refine ww_iinc dX9_didLast_79 rfl rfl rfl rfl ?_
        refine ww_goto (tgt := 8) dX9_didLast_82 (by decide) ?_
        exact ih (t + 1) _ _ _ (by omega) (by omega) (by rw [i3, dlM, if_neg (fun q => c25 q.1)]) (by rw [i4, dlM, if_neg (fun q => c25 q.1)]) (w_inc i5)
      · refine ww_aload_n dX9_didLast_28 rfl rfl ?_
        refine mm_getr dX9_didLast_29 fX9_131 rfl ?_
        refine ww_iload dX9_didLast_32 rfl ?_
        refine mm_iald dX9_didLast_34 rfl i5 (by omega) rfl rfl ?_
        refine ww_iload_n dX9_didLast_35 rfl rfl ?_
        refine ww_icmp_ne (tgt := 79) dX9_didLast_36 (by decide) (fun c36 => ?_) (fun c36 => ?_)
        · refine ww_iinc dX9_didLast_79 rfl rfl rfl rfl ?_
          refine ww_goto (tgt := 8) dX9_didLast_82 (by decide) ?_
          exact ih (t + 1) _ _ _ (by omega) (by omega) (by rw [i3, dlM, if_neg (fun q => c36 q.2.1)]) (by rw [i4, dlM, if_neg (fun q => c36 q.2.1)]) (w_inc i5)
        · refine ww_aload_n dX9_didLast_39 rfl rfl ?_
          refine mm_getr dX9_didLast_40 fX9_143 rfl ?_
          refine ww_iload dX9_didLast_43 rfl ?_
          refine mm_iald dX9_didLast_45 rfl i5 (by omega) rfl rfl ?_
          refine ww_iconst (v := 2) dX9_didLast_46 (by decide) ?_
          refine ww_icmp_ne (tgt := 79) dX9_didLast_47 (by decide) (fun c47 => ?_) (fun c47 => ?_)
          · refine ww_iinc dX9_didLast_79 rfl rfl rfl rfl ?_
            refine ww_goto (tgt := 8) dX9_didLast_82 (by decide) ?_
            exact ih (t + 1) _ _ _ (by omega) (by omega) (by rw [i3, dlM, if_neg (fun q => c47 q.2.2.1)]) (by rw [i4, dlM, if_neg (fun q => c47 q.2.2.1)]) (w_inc i5)
          · refine ww_aload_n dX9_didLast_50 rfl rfl ?_
            refine mm_getr dX9_didLast_51 fX9_167 rfl ?_
            refine ww_iload dX9_didLast_54 rfl ?_
            refine mm_iald dX9_didLast_56 rfl i5 (by omega) rfl rfl ?_
            refine ww_iload dX9_didLast_57 rfl ?_
            refine ww_icmp_le (tgt := 79) dX9_didLast_59 (by decide) (fun c59 => ?_) (fun c59 => ?_)
            · refine ww_iinc dX9_didLast_79 rfl rfl rfl rfl ?_
              refine ww_goto (tgt := 8) dX9_didLast_82 (by decide) ?_
              exact ih (t + 1) _ _ _ (by omega) (by omega) (by rw [i3, dlM, if_neg (fun q => Int32.not_lt.mpr (by rw [← i4]; exact c59) q.2.2.2)]) (by rw [i4, dlM, if_neg (fun q => Int32.not_lt.mpr (by rw [← i4]; exact c59) q.2.2.2)]) (w_inc i5)
            · refine ww_aload_n dX9_didLast_62 rfl rfl ?_
              refine mm_getr dX9_didLast_63 fX9_167 rfl ?_
              refine ww_iload dX9_didLast_66 rfl ?_
              refine mm_iald dX9_didLast_68 rfl i5 (by omega) rfl rfl ?_
              refine ww_istore dX9_didLast_69 rfl rfl ?_
              refine ww_aload_n dX9_didLast_71 rfl rfl ?_
              refine mm_getr dX9_didLast_72 fX9_146 rfl ?_
              refine ww_iload dX9_didLast_75 rfl ?_
              refine mm_iald dX9_didLast_77 rfl i5 (by omega) rfl rfl ?_
              refine ww_istore_n dX9_didLast_78 rfl rfl rfl ?_
              refine ww_iinc dX9_didLast_79 rfl rfl rfl rfl ?_
              refine ww_goto (tgt := 8) dX9_didLast_82 (by decide) ?_
              exact ih (t + 1) _ _ _ (by omega) (by omega) (by rw [dlM, if_pos ⟨c25, c36, c47, Int32.not_le.mp (by rw [← i4]; exact c59)⟩]) (by rw [dlM, if_pos ⟨c25, c36, c47, Int32.not_le.mp (by rw [← i4]; exact c59)⟩]) (w_inc i5)
set_option maxHeartbeats 4000000 in
theorem c9_didLast {x y : Int32} {c : Nat} (hc : F 55 = nI c) (hc2 : c ≤ 200) : Sat G mX9_didLast [.ref m, .int x, .int y] (mh m F tl R NL h0, sz) (Det (some (.int (dlM R x y c).1)) (mh m F tl R NL h0, sz)) := by
  refine Sat.of (by decide) [some (.ref m), some (.int x), some (.int y), none, none, none] rfl rfl (fun X => ?_)
  refine ww_iconst (v := -1) dX9_didLast_0 (by decide) ?_
  refine ww_istore_n dX9_didLast_1 rfl rfl rfl ?_
  refine ww_iconst (v := -1) dX9_didLast_2 (by decide) ?_
  refine ww_istore dX9_didLast_3 rfl rfl ?_
  refine ww_iconst (v := 0) dX9_didLast_5 (by decide) ?_
  refine ww_istore dX9_didLast_6 rfl rfl ?_
  exact L9_didLast hc hc2 (c + 1) 0 _ _ _ (by omega) (by omega) rfl rfl rfl
end M3
end
section
def Pms (R : Nat → Nat → Int32) (x w : Int32) : Nat → Bool := fun j => decide (stR (R 68) (R 67) (nI j) = x) && decide ((R 65 j >>> (w &&& 31)) &&& 1 = 1)
def mayM (R : Nat → Nat → Int32) (np c p : Nat) (rr : Int32) (k : Nat) : Bool := decide (R 68 p = 0) && anyB (Pms R (nI p) (R 46 k)) np && (decide (R 48 k < 0) || !decide ((dlM R rr (R 48 k) c).1 = nI p))
def mayT (R : Nat → Nat → Int32) (np c p t : Nat) : Bool := mayM R np c p (R 56 t) (40 * (R 56 t).toNatClampNeg + (R 57 t).toNatClampNeg)
def tskOk (R : Nat → Nat → Int32) (t : Nat) : Prop := ∃ r d, r < 8 ∧ d < 40 ∧ R 56 t = nI r ∧ R 57 t = nI d
theorem w_40 (r d : Nat) : (40 : Int32) * nI r + nI d = nI (40 * r + d) := by rw [show (40 : Int32) = nI 40 from rfl, pk_mul, nI_add]
theorem mayT_eq {R : Nat → Nat → Int32} {np c p t r d : Nat} (hr : R 56 t = nI r) (hr8 : r < 8) (hd : R 57 t = nI d) (hd4 : d < 40) : mayT R np c p t = mayM R np c p (R 56 t) (40 * r + d) := by
  unfold mayT
  rw [hr, hd, nI_clamp (by omega), nI_clamp (by omega)]
section M4
variable {G : wG} {m : Nat} {F : Nat → Int32} {tl : Int64} {R : Nat → Nat → Int32} {NL : Nat → Int64} {h0 : Nat → Option wE} {sz : Nat}

set_option maxHeartbeats 4000000 in
theorem L9_mayDo {x y : Int32} {np c p t r d : Nat} {X : wX} (hP : F 64 = nI np) (hP2 : np ≤ 8) (hdp : ∀ q, q < np → okP np (R 67 q)) (hc : F 55 = nI c) (hc2 : c ≤ 200) (hp : x = nI p) (hr : R 56 t = nI r) (hr8 : r < 8) (hd : R 57 t = nI d) (hd4 : d < 40) (haw : R 68 p = 0) : ∀ (n q : Nat) (x6 x7 : Int32), np - q < n → q ≤ np → x6 = wb (anyB (Pms R x (R 46 (40 * r + d))) q) → x7 = nI q → WW G mX9_mayDo cX9_mayDo X (wZ G mX9_mayDo X (Det (some (.int (wb (mayT R np c p t)))) (mh m F tl R NL h0, sz))) 60 [some (.ref m), some (.int x), some (.int y), some (.int (R 56 t)), some (.int (R 46 (40 * r + d))), some (.int (R 48 (40 * r + d))), some (.int x6), some (.int x7)] [] (mh m F tl R NL h0, sz) 0 0 := by
  intro n
  induction n with
  | zero => intro q x6 x7 hn; exact absurd hn (by omega)
  | succ n ih =>
    intro q x6 x7 hn hq i6 i7
    refine ww_iload dX9_mayDo_60 rfl ?_
    refine ww_aload_n dX9_mayDo_62 rfl rfl ?_
    refine mm_geti dX9_mayDo_63 fX9_308 rfl rfl ?_
    refine ww_icmp_ge (tgt := 113) dX9_mayDo_66 (by decide) (fun c66 => ?_) (fun c66 => ?_)
    · have e1 := (w_le hP i7 (by omega) (by omega)).mp c66
      have e2 : q = np := by omega
      refine ww_iload dX9_mayDo_113 rfl ?_
      refine ww_if_eq (tgt := 138) dX9_mayDo_115 (by decide) (fun c115 => ?_) (fun c115 => ?_)
      · refine ww_iconst (v := 0) dX9_mayDo_138 (by decide) ?_
        exact ww_zret dX9_mayDo_139 rfl (Or.inl rfl) ⟨by rw [mayT_eq hr hr8 hd hd4, mayM, ← hp, show anyB (Pms R x (R 46 (40 * r + d))) np = false from wb_eq0.mp (by rw [← e2, ← i6]; exact c115)]; simp [wb], rfl⟩ (Nat.zero_le _) (Nat.zero_le _)
      · refine ww_iload dX9_mayDo_118 rfl ?_
        refine ww_if_lt (tgt := 134) dX9_mayDo_120 (by decide) (fun c120 => ?_) (fun c120 => ?_)
        · refine ww_iconst (v := 1) dX9_mayDo_134 (by decide) ?_
          refine ww_goto (tgt := 139) dX9_mayDo_135 (by decide) ?_
          exact ww_zret dX9_mayDo_139 rfl (Or.inr rfl) ⟨by rw [mayT_eq hr hr8 hd hd4, mayM, ← hp, show anyB (Pms R x (R 46 (40 * r + d))) np = true from wb_ne0.mp (by rw [← e2, ← i6]; exact c115)]; simp [wb, haw, c120], rfl⟩ (Nat.zero_le _) (Nat.zero_le _)
        · refine ww_aload_n dX9_mayDo_123 rfl rfl ?_
          refine ww_iload_n dX9_mayDo_124 rfl rfl ?_
          refine ww_iload dX9_mayDo_125 rfl ?_
          refine mm_call1 dX9_mayDo_127 kX9_354 rfl (c9_didLast hc hc2) rfl rfl rfl rfl rfl rfl (Nat.zero_le _) (Nat.zero_le _) ?_
          refine ww_iload_n dX9_mayDo_130 rfl rfl ?_
          refine ww_icmp_eq (tgt := 138) dX9_mayDo_131 (by decide) (fun c131 => ?_) (fun c131 => ?_)
          · refine ww_iconst (v := 0) dX9_mayDo_138 (by decide) ?_
            exact ww_zret dX9_mayDo_139 rfl (Or.inl rfl) ⟨by rw [mayT_eq hr hr8 hd hd4, mayM, ← hp, show anyB (Pms R x (R 46 (40 * r + d))) np = true from wb_ne0.mp (by rw [← e2, ← i6]; exact c115)]; simp [wb, c120, c131], rfl⟩ (Nat.zero_le _) (Nat.zero_le _)
          · refine ww_iconst (v := 1) dX9_mayDo_134 (by decide) ?_
            refine ww_goto (tgt := 139) dX9_mayDo_135 (by decide) ?_
            exact ww_zret dX9_mayDo_139 rfl (Or.inr rfl) ⟨by rw [mayT_eq hr hr8 hd hd4, mayM, ← hp, show anyB (Pms R x (R 46 (40 * r + d))) np = true from wb_ne0.mp (by rw [← e2, ← i6]; exact c115)]; simp [wb, haw, c120, c131], rfl⟩ (Nat.zero_le _) (Nat.zero_le _)
    · have e1 : q < np := by rcases Nat.lt_or_ge q np with z | z; exact z; exact absurd ((w_le hP i7 (by omega) (by omega)).mpr z) c66
      refine ww_iload dX9_mayDo_69 rfl ?_
      refine ww_if_ne (tgt := 100) dX9_mayDo_71 (by decide) (fun c71 => ?_) (fun c71 => ?_)
      · refine ww_iconst (v := 1) dX9_mayDo_100 (by decide) ?_
        refine ww_goto (tgt := 105) dX9_mayDo_101 (by decide) ?_
        refine ww_istore dX9_mayDo_105 rfl rfl ?_
        refine ww_iinc dX9_mayDo_107 rfl rfl rfl rfl ?_
        refine ww_goto (tgt := 60) dX9_mayDo_110 (by decide) ?_
        exact ih (q + 1) _ _ (by omega) (by omega) (by rw [show anyB (Pms R x (R 46 (40 * r + d))) (q + 1) = true by rw [anyB, show anyB (Pms R x (R 46 (40 * r + d))) q = true from wb_ne0.mp (by rw [← i6]; exact c71)]; rfl]; rfl) (w_inc i7)
      · refine ww_aload_n dX9_mayDo_74 rfl rfl ?_
        refine ww_iload dX9_mayDo_75 rfl ?_
        refine mm_call1 dX9_mayDo_77 kX9_351 rfl (c9_stands hP hP2 hdp i7 e1) rfl rfl rfl rfl rfl rfl (Nat.zero_le _) (Nat.zero_le _) ?_
        refine ww_iload_n dX9_mayDo_80 rfl rfl ?_
        refine ww_icmp_ne (tgt := 104) dX9_mayDo_81 (by decide) (fun c81 => ?_) (fun c81 => ?_)
        · refine ww_iconst (v := 0) dX9_mayDo_104 (by decide) ?_
          refine ww_istore dX9_mayDo_105 rfl rfl ?_
          refine ww_iinc dX9_mayDo_107 rfl rfl rfl rfl ?_
          refine ww_goto (tgt := 60) dX9_mayDo_110 (by decide) ?_
          exact ih (q + 1) _ _ (by omega) (by omega) (by rw [show anyB (Pms R x (R 46 (40 * r + d))) (q + 1) = false by rw [anyB, show anyB (Pms R x (R 46 (40 * r + d))) q = false from wb_eq0.mp (by rw [← i6]; exact c71)]; simp [Pms, ← i7, c81]]; rfl) (w_inc i7)
        · refine ww_aload_n dX9_mayDo_84 rfl rfl ?_
          refine mm_getr dX9_mayDo_85 fX9_152 rfl ?_
          refine ww_iload dX9_mayDo_88 rfl ?_
          refine mm_iald dX9_mayDo_90 rfl i7 (by omega) rfl rfl ?_
          refine ww_iload dX9_mayDo_91 rfl ?_
          refine ww_ishr dX9_mayDo_93 ?_
          refine ww_iconst (v := 1) dX9_mayDo_94 (by decide) ?_
          refine ww_iand dX9_mayDo_95 ?_
          refine ww_iconst (v := 1) dX9_mayDo_96 (by decide) ?_
          refine ww_icmp_ne (tgt := 104) dX9_mayDo_97 (by decide) (fun c97 => ?_) (fun c97 => ?_)
          · refine ww_iconst (v := 0) dX9_mayDo_104 (by decide) ?_
            refine ww_istore dX9_mayDo_105 rfl rfl ?_
            refine ww_iinc dX9_mayDo_107 rfl rfl rfl rfl ?_
            refine ww_goto (tgt := 60) dX9_mayDo_110 (by decide) ?_
            exact ih (q + 1) _ _ (by omega) (by omega) (by rw [show anyB (Pms R x (R 46 (40 * r + d))) (q + 1) = false by rw [anyB, show anyB (Pms R x (R 46 (40 * r + d))) q = false from wb_eq0.mp (by rw [← i6]; exact c71)]; simp [Pms, c97]]; rfl) (w_inc i7)
          · refine ww_iconst (v := 1) dX9_mayDo_100 (by decide) ?_
            refine ww_goto (tgt := 105) dX9_mayDo_101 (by decide) ?_
            refine ww_istore dX9_mayDo_105 rfl rfl ?_
            refine ww_iinc dX9_mayDo_107 rfl rfl rfl rfl ?_
            refine ww_goto (tgt := 60) dX9_mayDo_110 (by decide) ?_
            exact ih (q + 1) _ _ (by omega) (by omega) (by rw [show anyB (Pms R x (R 46 (40 * r + d))) (q + 1) = true by simp [anyB, Pms, ← i7, c81, c97]]; rfl) (w_inc i7)
set_option maxHeartbeats 4000000 in
theorem c9_mayDo {x y : Int32} {np c p t : Nat} (hP : F 64 = nI np) (hP2 : np ≤ 8) (hdp : ∀ q, q < np → okP np (R 67 q)) (hc : F 55 = nI c) (hc2 : c ≤ 200) (hp : x = nI p) (hpn : p < np) (ht : y = nI t) (htc : t < 200) (hT : tskOk R t) : Sat G mX9_mayDo [.ref m, .int x, .int y] (mh m F tl R NL h0, sz) (Det (some (.int (wb (mayT R np c p t)))) (mh m F tl R NL h0, sz)) := by
  refine Sat.of (by decide) [some (.ref m), some (.int x), some (.int y), none, none, none, none, none] rfl rfl (fun X => ?_)
  obtain ⟨r, d, hr8, hd4, hr, hd⟩ := hT
  refine ww_aload_n dX9_mayDo_0 rfl rfl ?_
  refine mm_getr dX9_mayDo_1 fX9_161 rfl ?_
  refine ww_iload_n dX9_mayDo_4 rfl rfl ?_
  refine mm_zald dX9_mayDo_5 rfl hp (by omega) rfl rfl ?_
  refine ww_if_eq (tgt := 11) dX9_mayDo_6 (by decide) (fun c6 => ?_) (fun c6 => ?_)
  · refine ww_aload_n dX9_mayDo_11 rfl rfl ?_
    refine mm_getr dX9_mayDo_12 fX9_128 rfl ?_
    refine ww_iload_n dX9_mayDo_15 rfl rfl ?_
    refine mm_iald dX9_mayDo_16 rfl ht (by omega) rfl rfl ?_
    refine ww_istore_n dX9_mayDo_17 rfl rfl rfl ?_
    refine ww_aload_n dX9_mayDo_18 rfl rfl ?_
    refine mm_getr dX9_mayDo_19 fX9_104 rfl ?_
    refine ww_bipush (v := 40) dX9_mayDo_22 (by decide) ?_
    refine ww_iload_n dX9_mayDo_24 rfl rfl ?_
    refine ww_imul dX9_mayDo_25 ?_
    refine ww_aload_n dX9_mayDo_26 rfl rfl ?_
    refine mm_getr dX9_mayDo_27 fX9_131 rfl ?_
    refine ww_iload_n dX9_mayDo_30 rfl rfl ?_
    refine mm_iald dX9_mayDo_31 rfl ht (by omega) rfl rfl ?_
    refine ww_iadd dX9_mayDo_32 ?_
    refine mm_iald dX9_mayDo_33 rfl (show _ = nI (40 * r + d) by rw [hr, hd]; exact w_40 r d) (by omega) rfl rfl ?_
    refine ww_istore dX9_mayDo_34 rfl rfl ?_
    refine ww_aload_n dX9_mayDo_36 rfl rfl ?_
    refine mm_getr dX9_mayDo_37 fX9_110 rfl ?_
    refine ww_bipush (v := 40) dX9_mayDo_40 (by decide) ?_
    refine ww_iload_n dX9_mayDo_42 rfl rfl ?_
    refine ww_imul dX9_mayDo_43 ?_
    refine ww_aload_n dX9_mayDo_44 rfl rfl ?_
    refine mm_getr dX9_mayDo_45 fX9_131 rfl ?_
    refine ww_iload_n dX9_mayDo_48 rfl rfl ?_
    refine mm_iald dX9_mayDo_49 rfl ht (by omega) rfl rfl ?_
    refine ww_iadd dX9_mayDo_50 ?_
    refine mm_iald dX9_mayDo_51 rfl (show _ = nI (40 * r + d) by rw [hr, hd]; exact w_40 r d) (by omega) rfl rfl ?_
    refine ww_istore dX9_mayDo_52 rfl rfl ?_
    refine ww_iconst (v := 0) dX9_mayDo_54 (by decide) ?_
    refine ww_istore dX9_mayDo_55 rfl rfl ?_
    refine ww_iconst (v := 0) dX9_mayDo_57 (by decide) ?_
    refine ww_istore dX9_mayDo_58 rfl rfl ?_
    exact L9_mayDo hP hP2 hdp hc hc2 hp hr hr8 hd hd4 c6 (np + 1) 0 _ _ (by omega) (by omega) rfl rfl
  · refine ww_iconst (v := 0) dX9_mayDo_9 (by decide) ?_
    exact ww_zret dX9_mayDo_10 rfl (Or.inl rfl) ⟨by rw [mayT_eq hr hr8 hd hd4, mayM, decide_eq_false c6]; rfl, rfl⟩ (Nat.zero_le _) (Nat.zero_le _)
set_option maxHeartbeats 4000000 in
theorem c9_may0 {x y : Int32} {np c : Nat} (hP : F 64 = nI np) (hP2 : np ≤ 8) (hc : F 55 = nI c) (hc2 : c ≤ 200) (hno : (wIn x np && wIn y c) = false) : Sat G mX9_may [.ref m, .int x, .int y] (mh m F tl R NL h0, sz) (Det (some (.int (-1))) (mh m F tl R NL h0, sz)) := by
  refine Sat.of (by decide) [some (.ref m), some (.int x), some (.int y)] rfl rfl (fun X => ?_)
  refine ww_aload_n dX9_may_0 rfl rfl ?_
  refine ww_iload_n dX9_may_1 rfl rfl ?_
  refine mm_call1 dX9_may_2 kX9_318 rfl (c9_isPerson hP (by omega)) rfl rfl rfl rfl rfl rfl (Nat.zero_le _) (Nat.zero_le _) ?_
  refine ww_if_eq (tgt := 16) dX9_may_5 (by decide) (fun c5 => ?_) (fun c5 => ?_)
  · refine ww_iconst (v := -1) dX9_may_16 (by decide) ?_
    refine ww_goto (tgt := 34) dX9_may_17 (by decide) ?_
    exact ww_iret dX9_may_34 rfl ⟨rfl, rfl⟩ (Nat.zero_le _) (Nat.zero_le _)
  · refine ww_aload_n dX9_may_8 rfl rfl ?_
    refine ww_iload_n dX9_may_9 rfl rfl ?_
    refine mm_call1 dX9_may_10 kX9_348 rfl (c9_isTask hc (by omega)) rfl rfl rfl rfl rfl rfl (Nat.zero_le _) (Nat.zero_le _) ?_
    refine ww_if_ne (tgt := 20) dX9_may_13 (by decide) (fun c13 => ?_) (fun c13 => ?_)
    · exact absurd hno (by rw [wb_ne0.mp c5, wb_ne0.mp c13]; decide)
    · refine ww_iconst (v := -1) dX9_may_16 (by decide) ?_
      refine ww_goto (tgt := 34) dX9_may_17 (by decide) ?_
      exact ww_iret dX9_may_34 rfl ⟨rfl, rfl⟩ (Nat.zero_le _) (Nat.zero_le _)
set_option maxHeartbeats 4000000 in
theorem c9_may {x y : Int32} {np c p t : Nat} (hP : F 64 = nI np) (hP2 : np ≤ 8) (hc : F 55 = nI c) (hc2 : c ≤ 200) (hdp : ∀ q, q < np → okP np (R 67 q)) (hp : x = nI p) (hpn : p < np) (ht : y = nI t) (htc : t < c) (hT : tskOk R t) : Sat G mX9_may [.ref m, .int x, .int y] (mh m F tl R NL h0, sz) (Det (some (.int (wb (mayT R np c p t)))) (mh m F tl R NL h0, sz)) := by
  refine Sat.of (by decide) [some (.ref m), some (.int x), some (.int y)] rfl rfl (fun X => ?_)
  refine ww_aload_n dX9_may_0 rfl rfl ?_
  refine ww_iload_n dX9_may_1 rfl rfl ?_
  refine mm_call1 dX9_may_2 kX9_318 rfl (c9_isPerson hP (by omega)) rfl rfl rfl rfl rfl rfl (Nat.zero_le _) (Nat.zero_le _) ?_
  refine ww_if_eq (tgt := 16) dX9_may_5 (by decide) (fun c5 => ?_) (fun c5 => ?_)
  · exact absurd c5 (by rw [hp, wIn_nI hpn (by omega)]; decide)
  · refine ww_aload_n dX9_may_8 rfl rfl ?_
    refine ww_iload_n dX9_may_9 rfl rfl ?_
    refine mm_call1 dX9_may_10 kX9_348 rfl (c9_isTask hc (by omega)) rfl rfl rfl rfl rfl rfl (Nat.zero_le _) (Nat.zero_le _) ?_
    refine ww_if_ne (tgt := 20) dX9_may_13 (by decide) (fun c13 => ?_) (fun c13 => ?_)
    · refine ww_aload_n dX9_may_20 rfl rfl ?_
      refine ww_iload_n dX9_may_21 rfl rfl ?_
      refine ww_iload_n dX9_may_22 rfl rfl ?_
      refine mm_call1 dX9_may_23 kX9_357 rfl (c9_mayDo hP hP2 hdp hc hc2 hp hpn ht (by omega) hT) rfl rfl rfl rfl rfl rfl (Nat.zero_le _) (Nat.zero_le _) ?_
      refine ww_if_eq (tgt := 33) dX9_may_26 (by decide) (fun c26 => ?_) (fun c26 => ?_)
      · refine ww_iconst (v := 0) dX9_may_33 (by decide) ?_
        exact ww_iret dX9_may_34 rfl ⟨by rw [wb_eq0.mp c26]; rfl, rfl⟩ (Nat.zero_le _) (Nat.zero_le _)
      · refine ww_iconst (v := 1) dX9_may_29 (by decide) ?_
        refine ww_goto (tgt := 34) dX9_may_30 (by decide) ?_
        exact ww_iret dX9_may_34 rfl ⟨by rw [wb_ne0.mp c26]; rfl, rfl⟩ (Nat.zero_le _) (Nat.zero_le _)
    · exact absurd c13 (by rw [ht, wIn_nI htc (by omega)]; decide)
def lstT (R : Nat → Nat → Int32) (np c p : Nat) : Nat → Bool := fun t => decide (R 61 t = 0) && mayT R np c p t
set_option maxHeartbeats 4000000 in
theorem c9_isListed {x y : Int32} {np c p t : Nat} (hP : F 64 = nI np) (hP2 : np ≤ 8) (hc : F 55 = nI c) (hc2 : c ≤ 200) (hdp : ∀ q, q < np → okP np (R 67 q)) (hp : x = nI p) (hpn : p < np) (ht : y = nI t) (htc : t < 200) (hT : tskOk R t) : Sat G mX9_isListed [.ref m, .int x, .int y] (mh m F tl R NL h0, sz) (Det (some (.int (wb (lstT R np c p t)))) (mh m F tl R NL h0, sz)) := by
  refine Sat.of (by decide) [some (.ref m), some (.int x), some (.int y)] rfl rfl (fun X => ?_)
  refine ww_aload_n dX9_isListed_0 rfl rfl ?_
  refine mm_getr dX9_isListed_1 fX9_143 rfl ?_
  refine ww_iload_n dX9_isListed_4 rfl rfl ?_
  refine mm_iald dX9_isListed_5 rfl ht (by omega) rfl rfl ?_
  refine ww_if_ne (tgt := 22) dX9_isListed_6 (by decide) (fun c6 => ?_) (fun c6 => ?_)
  · refine ww_iconst (v := 0) dX9_isListed_22 (by decide) ?_
    exact ww_zret dX9_isListed_23 rfl (Or.inl rfl) ⟨by rw [lstT, decide_eq_false c6]; rfl, rfl⟩ (Nat.zero_le _) (Nat.zero_le _)
  · refine ww_aload_n dX9_isListed_9 rfl rfl ?_
    refine ww_iload_n dX9_isListed_10 rfl rfl ?_
    refine ww_iload_n dX9_isListed_11 rfl rfl ?_
    refine mm_call1 dX9_isListed_12 kX9_357 rfl (c9_mayDo hP hP2 hdp hc hc2 hp hpn ht htc hT) rfl rfl rfl rfl rfl rfl (Nat.zero_le _) (Nat.zero_le _) ?_
    refine ww_if_eq (tgt := 22) dX9_isListed_15 (by decide) (fun c15 => ?_) (fun c15 => ?_)
    · refine ww_iconst (v := 0) dX9_isListed_22 (by decide) ?_
      exact ww_zret dX9_isListed_23 rfl (Or.inl rfl) ⟨by rw [lstT, wb_eq0.mp c15]; simp [wb], rfl⟩ (Nat.zero_le _) (Nat.zero_le _)
    · refine ww_iconst (v := 1) dX9_isListed_18 (by decide) ?_
      refine ww_goto (tgt := 23) dX9_isListed_19 (by decide) ?_
      exact ww_zret dX9_isListed_23 rfl (Or.inr rfl) ⟨by rw [lstT, wb_ne0.mp c15, decide_eq_true c6]; rfl, rfl⟩ (Nat.zero_le _) (Nat.zero_le _)
set_option maxHeartbeats 4000000 in
theorem L9_list {x : Int32} {np c p : Nat} {X : wX} (hP : F 64 = nI np) (hP2 : np ≤ 8) (hc : F 55 = nI c) (hc2 : c ≤ 200) (hdp : ∀ q, q < np → okP np (R 67 q)) (hp : x = nI p) (hpn : p < np) (hT : ∀ t, t < c → tskOk R t) : ∀ (n t : Nat) (x2 x3 : Int32), c - t < n → t ≤ c → x2 = nI (cntB (lstT R np c p) t) → x3 = nI t → WW G mX9_list cX9_list X (wZ G mX9_list X (Det (some (.int (nI (cntB (lstT R np c p) c)))) (mh m F tl R NL h0, sz))) 14 [some (.ref m), some (.int x), some (.int x2), some (.int x3)] [] (mh m F tl R NL h0, sz) 0 0 := by
  intro n
  induction n with
  | zero => intro t x2 x3 hn; exact absurd hn (by omega)
  | succ n ih =>
    intro t x2 x3 hn ht i2 i3
    refine ww_iload_n dX9_list_14 rfl rfl ?_
    refine ww_aload_n dX9_list_15 rfl rfl ?_
    refine mm_geti dX9_list_16 fX9_311 rfl rfl ?_
    refine ww_icmp_ge (tgt := 45) dX9_list_19 (by decide) (fun c19 => ?_) (fun c19 => ?_)
    · have e1 := (w_le hc i3 (by omega) (by omega)).mp c19
      have e2 : t = c := by omega
      refine ww_iload_n dX9_list_45 rfl rfl ?_
      exact ww_iret dX9_list_46 rfl ⟨by rw [i2, e2], rfl⟩ (Nat.zero_le _) (Nat.zero_le _)
    · have e1 : t < c := by rcases Nat.lt_or_ge t c with q | q; exact q; exact absurd ((w_le hc i3 (by omega) (by omega)).mpr q) c19
      refine ww_iload_n dX9_list_22 rfl rfl ?_
      refine ww_aload_n dX9_list_23 rfl rfl ?_
      refine ww_iload_n dX9_list_24 rfl rfl ?_
      refine ww_iload_n dX9_list_25 rfl rfl ?_
      refine mm_call1 dX9_list_26 kX9_368 rfl (c9_isListed hP hP2 hc hc2 hdp hp hpn i3 (by omega) (hT t e1)) rfl rfl rfl rfl rfl rfl (Nat.zero_le _) (Nat.zero_le _) ?_
      refine ww_if_eq (tgt := 36) dX9_list_29 (by decide) (fun c29 => ?_) (fun c29 => ?_)
      · refine ww_iconst (v := 0) dX9_list_36 (by decide) ?_
        refine ww_iadd dX9_list_37 ?_
        refine ww_istore_n dX9_list_38 rfl rfl rfl ?_
        refine ww_iinc dX9_list_39 rfl rfl rfl rfl ?_
        refine ww_goto (tgt := 14) dX9_list_42 (by decide) ?_
        exact ih (t + 1) _ _ (by omega) (by omega) (by rw [i2, w_add0, cntB_f (wb_eq0.mp c29)]) (w_inc i3)
      · refine ww_iconst (v := 1) dX9_list_32 (by decide) ?_
        refine ww_goto (tgt := 37) dX9_list_33 (by decide) ?_
        refine ww_iadd dX9_list_37 ?_
        refine ww_istore_n dX9_list_38 rfl rfl rfl ?_
        refine ww_iinc dX9_list_39 rfl rfl rfl rfl ?_
        refine ww_goto (tgt := 14) dX9_list_42 (by decide) ?_
        exact ih (t + 1) _ _ (by omega) (by omega) (by rw [i2, cntB_t (wb_ne0.mp c29)]; exact nI_1 _) (w_inc i3)
set_option maxHeartbeats 4000000 in
theorem c9_list {x : Int32} {np c p : Nat} (hP : F 64 = nI np) (hP2 : np ≤ 8) (hc : F 55 = nI c) (hc2 : c ≤ 200) (hdp : ∀ q, q < np → okP np (R 67 q)) (hp : x = nI p) (hpn : p < np) (hT : ∀ t, t < c → tskOk R t) : Sat G mX9_list [.ref m, .int x] (mh m F tl R NL h0, sz) (Det (some (.int (nI (cntB (lstT R np c p) c)))) (mh m F tl R NL h0, sz)) := by
  refine Sat.of (by decide) [some (.ref m), some (.int x), none, none] rfl rfl (fun X => ?_)
  refine ww_aload_n dX9_list_0 rfl rfl ?_
  refine ww_iload_n dX9_list_1 rfl rfl ?_
  refine mm_call1 dX9_list_2 kX9_318 rfl (c9_isPerson hP (by omega)) rfl rfl rfl rfl rfl rfl (Nat.zero_le _) (Nat.zero_le _) ?_
  refine ww_if_ne (tgt := 10) dX9_list_5 (by decide) (fun c5 => ?_) (fun c5 => ?_)
  · refine ww_iconst (v := 0) dX9_list_10 (by decide) ?_
    refine ww_istore_n dX9_list_11 rfl rfl rfl ?_
    refine ww_iconst (v := 0) dX9_list_12 (by decide) ?_
    refine ww_istore_n dX9_list_13 rfl rfl rfl ?_
    exact L9_list hP hP2 hc hc2 hdp hp hpn hT (c + 1) 0 _ _ (by omega) (by omega) rfl rfl
  · exact absurd c5 (by rw [hp, wIn_nI hpn (by omega)]; decide)
set_option maxHeartbeats 4000000 in
theorem c9_list0 {x : Int32} {np : Nat} (hP : F 64 = nI np) (hP2 : np ≤ 8) (hno : wIn x np = false) : Sat G mX9_list [.ref m, .int x] (mh m F tl R NL h0, sz) (Det (some (.int (-1))) (mh m F tl R NL h0, sz)) := by
  refine Sat.of (by decide) [some (.ref m), some (.int x), none, none] rfl rfl (fun X => ?_)
  refine ww_aload_n dX9_list_0 rfl rfl ?_
  refine ww_iload_n dX9_list_1 rfl rfl ?_
  refine mm_call1 dX9_list_2 kX9_318 rfl (c9_isPerson hP (by omega)) rfl rfl rfl rfl rfl rfl (Nat.zero_le _) (Nat.zero_le _) ?_
  refine ww_if_ne (tgt := 10) dX9_list_5 (by decide) (fun c5 => ?_) (fun c5 => ?_)
  · exact absurd c5 (fun q => q (wb_eq0.mpr hno))
  · refine ww_iconst (v := -1) dX9_list_8 (by decide) ?_
    exact ww_iret dX9_list_9 rfl ⟨rfl, rfl⟩ (Nat.zero_le _) (Nat.zero_le _)
set_option maxHeartbeats 4000000 in
theorem c9_claim {x y : Int32} {np c p t : Nat} (hP : F 64 = nI np) (hP2 : np ≤ 8) (hc : F 55 = nI c) (hc2 : c ≤ 200) (hdp : ∀ q, q < np → okP np (R 67 q)) (hp : x = nI p) (hpn : p < np) (ht : y = nI t) (htc : t < c) (hT : tskOk R t) : Sat G mX9_claim [.ref m, .int x, .int y] (mh m F tl R NL h0, sz) (Det (some (.int (if (R 61 t = 0 ∧ mayT R np c p t = true ∧ nI (cntB (Pcl R x) c) < R 66 p) then nI (cntB (Pcl (va_up (va_up R 61 (upd (R 61) t 1)) 62 (upd (R 62) t x)) x) c) else -1))) (if (R 61 t = 0 ∧ mayT R np c p t = true ∧ nI (cntB (Pcl R x) c) < R 66 p) then (mh m F tl (va_up (va_up R 61 (upd (R 61) t 1)) 62 (upd (R 62) t x)) NL h0, sz) else (mh m F tl R NL h0, sz))) := by
  refine Sat.of (by decide) [some (.ref m), some (.int x), some (.int y)] rfl rfl (fun X => ?_)
  refine ww_aload_n dX9_claim_0 rfl rfl ?_
  refine ww_iload_n dX9_claim_1 rfl rfl ?_
  refine mm_call1 dX9_claim_2 kX9_318 rfl (c9_isPerson hP (by omega)) rfl rfl rfl rfl rfl rfl (Nat.zero_le _) (Nat.zero_le _) ?_
  refine ww_if_eq (tgt := 48) dX9_claim_5 (by decide) (fun c5 => ?_) (fun c5 => ?_)
  · exact absurd c5 (by rw [hp, wIn_nI hpn (by omega)]; decide)
  · refine ww_aload_n dX9_claim_8 rfl rfl ?_
    refine ww_iload_n dX9_claim_9 rfl rfl ?_
    refine mm_call1 dX9_claim_10 kX9_348 rfl (c9_isTask hc (by omega)) rfl rfl rfl rfl rfl rfl (Nat.zero_le _) (Nat.zero_le _) ?_
    refine ww_if_eq (tgt := 48) dX9_claim_13 (by decide) (fun c13 => ?_) (fun c13 => ?_)
    · exact absurd c13 (by rw [ht, wIn_nI htc (by omega)]; decide)
    · refine ww_aload_n dX9_claim_16 rfl rfl ?_
      refine mm_getr dX9_claim_17 fX9_143 rfl ?_
      refine ww_iload_n dX9_claim_20 rfl rfl ?_
      refine mm_iald dX9_claim_21 rfl ht (by omega) rfl rfl ?_
      refine ww_if_ne (tgt := 48) dX9_claim_22 (by decide) (fun c22 => ?_) (fun c22 => ?_)
      · refine ww_iconst (v := -1) dX9_claim_48 (by decide) ?_
        exact ww_iret dX9_claim_49 rfl ⟨by rw [if_neg (fun q => c22 q.1)], by rw [if_neg (fun q => c22 q.1)]⟩ (Nat.zero_le _) (Nat.zero_le _)
      · refine ww_aload_n dX9_claim_25 rfl rfl ?_
        refine ww_iload_n dX9_claim_26 rfl rfl ?_
        refine ww_iload_n dX9_claim_27 rfl rfl ?_
        refine mm_call1 dX9_claim_28 kX9_357 rfl (c9_mayDo hP hP2 hdp hc hc2 hp hpn ht (by omega) hT) rfl rfl rfl rfl rfl rfl (Nat.zero_le _) (Nat.zero_le _) ?_
        refine ww_if_eq (tgt := 48) dX9_claim_31 (by decide) (fun c31 => ?_) (fun c31 => ?_)
        · refine ww_iconst (v := -1) dX9_claim_48 (by decide) ?_
          exact ww_iret dX9_claim_49 rfl ⟨by rw [if_neg (fun q => wb_nt (wb_eq0.mp c31) q.2.1)], by rw [if_neg (fun q => wb_nt (wb_eq0.mp c31) q.2.1)]⟩ (Nat.zero_le _) (Nat.zero_le _)
        · refine ww_aload_n dX9_claim_34 rfl rfl ?_
          refine ww_iload_n dX9_claim_35 rfl rfl ?_
          refine mm_call1 dX9_claim_36 kX9_360 rfl (c9_claims hc hc2) rfl rfl rfl rfl rfl rfl (Nat.zero_le _) (Nat.zero_le _) ?_
          refine ww_aload_n dX9_claim_39 rfl rfl ?_
          refine mm_getr dX9_claim_40 fX9_155 rfl ?_
          refine ww_iload_n dX9_claim_43 rfl rfl ?_
          refine mm_iald dX9_claim_44 rfl hp (by omega) rfl rfl ?_
          refine ww_icmp_lt (tgt := 50) dX9_claim_45 (by decide) (fun c45 => ?_) (fun c45 => ?_)
          · refine ww_aload_n dX9_claim_50 rfl rfl ?_
            refine mm_getr dX9_claim_51 fX9_143 rfl ?_
            refine ww_iload_n dX9_claim_54 rfl rfl ?_
            refine ww_iconst (v := 1) dX9_claim_55 (by decide) ?_
            refine mm_iast dX9_claim_56 rfl ht (by omega) rfl rfl ?_
            refine ww_aload_n dX9_claim_57 rfl rfl ?_
            refine mm_getr dX9_claim_58 fX9_146 rfl ?_
            refine ww_iload_n dX9_claim_61 rfl rfl ?_
            refine ww_iload_n dX9_claim_62 rfl rfl ?_
            refine mm_iast dX9_claim_63 rfl ht (by omega) rfl rfl ?_
            refine ww_aload_n dX9_claim_64 rfl rfl ?_
            refine ww_iload_n dX9_claim_65 rfl rfl ?_
            refine mm_call1 dX9_claim_66 kX9_360 rfl (c9_claims hc hc2) rfl rfl rfl rfl rfl rfl (Nat.zero_le _) (Nat.zero_le _) ?_
            exact ww_iret dX9_claim_69 rfl ⟨by rw [if_pos ⟨c22, wb_ne0.mp c31, c45⟩]; rfl, by rw [if_pos ⟨c22, wb_ne0.mp c31, c45⟩]; rfl⟩ (Nat.zero_le _) (Nat.zero_le _)
          · refine ww_iconst (v := -1) dX9_claim_48 (by decide) ?_
            exact ww_iret dX9_claim_49 rfl ⟨by rw [if_neg (fun q => c45 q.2.2)], by rw [if_neg (fun q => c45 q.2.2)]⟩ (Nat.zero_le _) (Nat.zero_le _)
set_option maxHeartbeats 4000000 in
theorem c9_claim0 {x y : Int32} {np c : Nat} (hP : F 64 = nI np) (hP2 : np ≤ 8) (hc : F 55 = nI c) (hc2 : c ≤ 200) (hno : (wIn x np && wIn y c) = false) : Sat G mX9_claim [.ref m, .int x, .int y] (mh m F tl R NL h0, sz) (Det (some (.int (-1))) (mh m F tl R NL h0, sz)) := by
  refine Sat.of (by decide) [some (.ref m), some (.int x), some (.int y)] rfl rfl (fun X => ?_)
  refine ww_aload_n dX9_claim_0 rfl rfl ?_
  refine ww_iload_n dX9_claim_1 rfl rfl ?_
  refine mm_call1 dX9_claim_2 kX9_318 rfl (c9_isPerson hP (by omega)) rfl rfl rfl rfl rfl rfl (Nat.zero_le _) (Nat.zero_le _) ?_
  refine ww_if_eq (tgt := 48) dX9_claim_5 (by decide) (fun c5 => ?_) (fun c5 => ?_)
  · refine ww_iconst (v := -1) dX9_claim_48 (by decide) ?_
    exact ww_iret dX9_claim_49 rfl ⟨rfl, rfl⟩ (Nat.zero_le _) (Nat.zero_le _)
  · refine ww_aload_n dX9_claim_8 rfl rfl ?_
    refine ww_iload_n dX9_claim_9 rfl rfl ?_
    refine mm_call1 dX9_claim_10 kX9_348 rfl (c9_isTask hc (by omega)) rfl rfl rfl rfl rfl rfl (Nat.zero_le _) (Nat.zero_le _) ?_
    refine ww_if_eq (tgt := 48) dX9_claim_13 (by decide) (fun c13 => ?_) (fun c13 => ?_)
    · refine ww_iconst (v := -1) dX9_claim_48 (by decide) ?_
      exact ww_iret dX9_claim_49 rfl ⟨rfl, rfl⟩ (Nat.zero_le _) (Nat.zero_le _)
    · exact absurd hno (by rw [wb_ne0.mp c5, wb_ne0.mp c13]; decide)
def taskM (R : Nat → Nat → Int32) (t : Nat) (x : Int32) : Int32 := if x = nI 0 then R 56 t else if x = nI 1 then R 57 t else if x = nI 2 then R 46 (40 * (R 56 t).toNatClampNeg + (R 57 t).toNatClampNeg) else if x = nI 3 then R 59 t else if x = nI 4 then R 60 t else if x = nI 5 then R 61 t else if x = nI 6 then R 62 t else if x = nI 7 then R 63 t else -1
theorem tk_2 {t : Nat} : taskM R t (nI 2) = R 46 (40 * (R 56 t).toNatClampNeg + (R 57 t).toNatClampNeg) := rfl
theorem tk_out {t : Nat} {x : Int32} (h : x.toInt < 0 ∨ 7 < x.toInt) : taskM R t x = -1 := by
  unfold taskM
  rw [if_neg (w_nlit h (by decide) (by decide)), if_neg (w_nlit h (by decide) (by decide)), if_neg (w_nlit h (by decide) (by decide)), if_neg (w_nlit h (by decide) (by decide)), if_neg (w_nlit h (by decide) (by decide)), if_neg (w_nlit h (by decide) (by decide)), if_neg (w_nlit h (by decide) (by decide)), if_neg (w_nlit h (by decide) (by decide))]
set_option maxHeartbeats 4000000 in
theorem c9_task {x y : Int32} {c t : Nat} (hc : F 55 = nI c) (hc2 : c ≤ 200) (ht : x = nI t) (htc : t < c) (hT : tskOk R t) : Sat G mX9_task [.ref m, .int x, .int y] (mh m F tl R NL h0, sz) (Det (some (.int (taskM R t y))) (mh m F tl R NL h0, sz)) := by
  refine Sat.of (by decide) [some (.ref m), some (.int x), some (.int y)] rfl rfl (fun X => ?_)
  obtain ⟨r, d, hr8, hd4, hr, hd⟩ := hT
  refine ww_aload_n dX9_task_0 rfl rfl ?_
  refine ww_iload_n dX9_task_1 rfl rfl ?_
  refine mm_call1 dX9_task_2 kX9_348 rfl (c9_isTask hc (by omega)) rfl rfl rfl rfl rfl rfl (Nat.zero_le _) (Nat.zero_le _) ?_
  refine ww_if_ne (tgt := 10) dX9_task_5 (by decide) (fun c5 => ?_) (fun c5 => ?_)
  · refine ww_iload_n dX9_task_10 rfl rfl ?_
    refine ww_table [56, 63, 70, 92, 99, 106, 113, 120] 127 dX9_task_11 (by decide) (by decide) (by decide) (fun j11 t11 ht11 c11 => ?_) (fun c11 => ?_)
    · rcases j11 with _ | _ | _ | _ | _ | _ | _ | _ | j
      · cases ht11
        refine ww_aload_n dX9_task_56 rfl rfl ?_
        refine mm_getr dX9_task_57 fX9_128 rfl ?_
        refine ww_iload_n dX9_task_60 rfl rfl ?_
        refine mm_iald dX9_task_61 rfl ht (by omega) rfl rfl ?_
        exact ww_iret dX9_task_62 rfl ⟨by rw [w_lit (n := 0) c11 (by decide)]; rfl, rfl⟩ (Nat.zero_le _) (Nat.zero_le _)
      · cases ht11
        refine ww_aload_n dX9_task_63 rfl rfl ?_
        refine mm_getr dX9_task_64 fX9_131 rfl ?_
        refine ww_iload_n dX9_task_67 rfl rfl ?_
        refine mm_iald dX9_task_68 rfl ht (by omega) rfl rfl ?_
        exact ww_iret dX9_task_69 rfl ⟨by rw [w_lit (n := 1) c11 (by decide)]; rfl, rfl⟩ (Nat.zero_le _) (Nat.zero_le _)
      · cases ht11
        refine ww_aload_n dX9_task_70 rfl rfl ?_
        refine mm_getr dX9_task_71 fX9_104 rfl ?_
        refine ww_bipush (v := 40) dX9_task_74 (by decide) ?_
        refine ww_aload_n dX9_task_76 rfl rfl ?_
        refine mm_getr dX9_task_77 fX9_128 rfl ?_
        refine ww_iload_n dX9_task_80 rfl rfl ?_
        refine mm_iald dX9_task_81 rfl ht (by omega) rfl rfl ?_
        refine ww_imul dX9_task_82 ?_
        refine ww_aload_n dX9_task_83 rfl rfl ?_
        refine mm_getr dX9_task_84 fX9_131 rfl ?_
        refine ww_iload_n dX9_task_87 rfl rfl ?_
        refine mm_iald dX9_task_88 rfl ht (by omega) rfl rfl ?_
        refine ww_iadd dX9_task_89 ?_
        refine mm_iald dX9_task_90 rfl (show _ = nI (40 * r + d) by rw [hr, hd]; exact w_40 r d) (by omega) rfl rfl ?_
        exact ww_iret dX9_task_91 rfl ⟨by rw [w_lit (n := 2) c11 (by decide), tk_2, hr, hd, nI_clamp (by omega), nI_clamp (by omega)], rfl⟩ (Nat.zero_le _) (Nat.zero_le _)
      · cases ht11
        refine ww_aload_n dX9_task_92 rfl rfl ?_
        refine mm_getr dX9_task_93 fX9_137 rfl ?_
        refine ww_iload_n dX9_task_96 rfl rfl ?_
        refine mm_iald dX9_task_97 rfl ht (by omega) rfl rfl ?_
        exact ww_iret dX9_task_98 rfl ⟨by rw [w_lit (n := 3) c11 (by decide)]; rfl, rfl⟩ (Nat.zero_le _) (Nat.zero_le _)
      · cases ht11
        refine ww_aload_n dX9_task_99 rfl rfl ?_
        refine mm_getr dX9_task_100 fX9_140 rfl ?_
        refine ww_iload_n dX9_task_103 rfl rfl ?_
        refine mm_iald dX9_task_104 rfl ht (by omega) rfl rfl ?_
        exact ww_iret dX9_task_105 rfl ⟨by rw [w_lit (n := 4) c11 (by decide)]; rfl, rfl⟩ (Nat.zero_le _) (Nat.zero_le _)
      · cases ht11
        refine ww_aload_n dX9_task_106 rfl rfl ?_
        refine mm_getr dX9_task_107 fX9_143 rfl ?_
        refine ww_iload_n dX9_task_110 rfl rfl ?_
        refine mm_iald dX9_task_111 rfl ht (by omega) rfl rfl ?_
        exact ww_iret dX9_task_112 rfl ⟨by rw [w_lit (n := 5) c11 (by decide)]; rfl, rfl⟩ (Nat.zero_le _) (Nat.zero_le _)
      · cases ht11
        refine ww_aload_n dX9_task_113 rfl rfl ?_
        refine mm_getr dX9_task_114 fX9_146 rfl ?_
        refine ww_iload_n dX9_task_117 rfl rfl ?_
        refine mm_iald dX9_task_118 rfl ht (by omega) rfl rfl ?_
        exact ww_iret dX9_task_119 rfl ⟨by rw [w_lit (n := 6) c11 (by decide)]; rfl, rfl⟩ (Nat.zero_le _) (Nat.zero_le _)
      · cases ht11
        refine ww_aload_n dX9_task_120 rfl rfl ?_
        refine mm_getr dX9_task_121 fX9_149 rfl ?_
        refine ww_iload_n dX9_task_124 rfl rfl ?_
        refine mm_iald dX9_task_125 rfl ht (by omega) rfl rfl ?_
        exact ww_iret dX9_task_126 rfl ⟨by rw [w_lit (n := 7) c11 (by decide)]; rfl, rfl⟩ (Nat.zero_le _) (Nat.zero_le _)
      · cases ht11
    · refine ww_iconst (v := -1) dX9_task_127 (by decide) ?_
      exact ww_iret dX9_task_128 rfl ⟨by rw [tk_out c11], rfl⟩ (Nat.zero_le _) (Nat.zero_le _)
  · exact absurd c5 (by rw [ht, wIn_nI htc (by omega)]; decide)
set_option maxHeartbeats 4000000 in
theorem c9_task0 {x y : Int32} {c : Nat} (hc : F 55 = nI c) (hc2 : c ≤ 200) (hno : wIn x c = false) : Sat G mX9_task [.ref m, .int x, .int y] (mh m F tl R NL h0, sz) (Det (some (.int (-1))) (mh m F tl R NL h0, sz)) := by
  refine Sat.of (by decide) [some (.ref m), some (.int x), some (.int y)] rfl rfl (fun X => ?_)
  refine ww_aload_n dX9_task_0 rfl rfl ?_
  refine ww_iload_n dX9_task_1 rfl rfl ?_
  refine mm_call1 dX9_task_2 kX9_348 rfl (c9_isTask hc (by omega)) rfl rfl rfl rfl rfl rfl (Nat.zero_le _) (Nat.zero_le _) ?_
  refine ww_if_ne (tgt := 10) dX9_task_5 (by decide) (fun c5 => ?_) (fun c5 => ?_)
  · exact absurd c5 (fun q => q (wb_eq0.mpr hno))
  · refine ww_iconst (v := -1) dX9_task_8 (by decide) ?_
    exact ww_iret dX9_task_9 rfl ⟨rfl, rfl⟩ (Nat.zero_le _) (Nat.zero_le _)
end M4
end
section
section M5
variable {G : wG} {m : Nat} {F : Nat → Int32} {tl : Int64} {R : Nat → Nat → Int32} {NL : Nat → Int64} {h0 : Nat → Option wE} {sz : Nat}

def Prn (R : Nat → Nat → Int32) (x : Int32) : Nat → Bool := fun j => decide (R 56 j = x) && !decide (R 61 j = 2)
def runM (R : Nat → Nat → Int32) (c r : Nat) (y : Int32) : Int32 := if inR y 0 3 = true then R 49 (4 * r + y.toNatClampNeg) else if y = 4 then (if R 51 r = 0 then 0 else 1) else if y = 5 then nI (cntB (Prn R (nI r)) c) else -1
theorem inR_ex {y : Int32} {b : Nat} (hb : b < 2 ^ 30) (h : inR y 0 b = true) : ∃ j, j ≤ b ∧ y = nI j := by
  have h' := of_decide_eq_true h
  obtain ⟨j, h1, h2⟩ := (wIn_iff (x := y) (n := b + 1) (by omega)).mp (decide_eq_true ⟨h'.1, by omega⟩)
  exact ⟨j, by omega, h2⟩
theorem w_4 (r d : Nat) : (4 : Int32) * nI r + nI d = nI (4 * r + d) := by rw [show (4 : Int32) = nI 4 from rfl, pk_mul, nI_add]
set_option maxHeartbeats 4000000 in
theorem L9_runOf {x y : Int32} {c r : Nat} {X : wX} (hc : F 55 = nI c) (hc2 : c ≤ 200) (hp : x = nI r) (hr8 : r < 8) : ∀ (n t : Nat) (x3 x4 : Int32), c - t < n → t ≤ c → x3 = nI (cntB (Prn R (nI r)) t) → x4 = nI t → WW G mX9_runOf cX9_runOf X (wZ G mX9_runOf X (Det (some (.int (runM R c r y))) (mh m F tl R NL h0, sz))) 23 [some (.ref m), some (.int x), some (.int y), some (.int x3), some (.int x4)] [] (mh m F tl R NL h0, sz) 0 0 := by
  intro n
  induction n with
  | zero => intro t x3 x4 hn; exact absurd hn (by omega)
  | succ n ih =>
    intro t x3 x4 hn ht i3 i4
    refine ww_iload dX9_runOf_23 rfl ?_
    refine ww_aload_n dX9_runOf_25 rfl rfl ?_
    refine mm_geti dX9_runOf_26 fX9_311 rfl rfl ?_
    refine ww_icmp_ge (tgt := 68) dX9_runOf_29 (by decide) (fun c29 => ?_) (fun c29 => ?_)
    · have e1 := (w_le hc i4 (by omega) (by omega)).mp c29
      have e2 : t = c := by omega
      refine ww_iload_n dX9_runOf_68 rfl rfl ?_
      refine ww_i2l dX9_runOf_69 ?_
      refine ww_lconst (v := 0) dX9_runOf_70 (by decide) ?_
      refine ww_ldc2 dX9_runOf_71 qX9_346 ?_
      refine ww_calls1 dX9_runOf_74 kX9_177 c9_in rfl rfl rfl rfl rfl rfl (Nat.zero_le _) (Nat.zero_le _) ?_
      refine ww_if_eq (tgt := 93) dX9_runOf_77 (by decide) (fun c77 => ?_) (fun c77 => ?_)
      · refine ww_iload_n dX9_runOf_93 rfl rfl ?_
        refine ww_iconst (v := 4) dX9_runOf_94 (by decide) ?_
        refine ww_icmp_ne (tgt := 115) dX9_runOf_95 (by decide) (fun c95 => ?_) (fun c95 => ?_)
        · refine ww_iload_n dX9_runOf_115 rfl rfl ?_
          refine ww_iconst (v := 5) dX9_runOf_116 (by decide) ?_
          refine ww_icmp_ne (tgt := 124) dX9_runOf_117 (by decide) (fun c117 => ?_) (fun c117 => ?_)
          · refine ww_iconst (v := -1) dX9_runOf_124 (by decide) ?_
            exact ww_iret dX9_runOf_125 rfl ⟨by rw [runM, if_neg (wb_nt (wb_eq0.mp (by rw [in_c (a := 0) (b := 3) rfl rfl] at c77; exact c77 : wb (inR y 0 3) = 0))), if_neg c95, if_neg c117], rfl⟩ (Nat.zero_le _) (Nat.zero_le _)
          · refine ww_iload_n dX9_runOf_120 rfl rfl ?_
            refine ww_goto (tgt := 125) dX9_runOf_121 (by decide) ?_
            exact ww_iret dX9_runOf_125 rfl ⟨by rw [runM, if_neg (wb_nt (wb_eq0.mp (by rw [in_c (a := 0) (b := 3) rfl rfl] at c77; exact c77 : wb (inR y 0 3) = 0))), if_neg c95, if_pos c117, i3, e2], rfl⟩ (Nat.zero_le _) (Nat.zero_le _)
        · refine ww_aload_n dX9_runOf_98 rfl rfl ?_
          refine mm_getr dX9_runOf_99 fX9_119 rfl ?_
          refine ww_iload_n dX9_runOf_102 rfl rfl ?_
          refine mm_zald dX9_runOf_103 rfl hp (by omega) rfl rfl ?_
          refine ww_if_eq (tgt := 111) dX9_runOf_104 (by decide) (fun c104 => ?_) (fun c104 => ?_)
          · refine ww_iconst (v := 0) dX9_runOf_111 (by decide) ?_
            refine ww_goto (tgt := 125) dX9_runOf_112 (by decide) ?_
            exact ww_iret dX9_runOf_125 rfl ⟨by rw [runM, if_neg (wb_nt (wb_eq0.mp (by rw [in_c (a := 0) (b := 3) rfl rfl] at c77; exact c77 : wb (inR y 0 3) = 0))), if_pos c95, if_pos c104], rfl⟩ (Nat.zero_le _) (Nat.zero_le _)
          · refine ww_iconst (v := 1) dX9_runOf_107 (by decide) ?_
            refine ww_goto (tgt := 125) dX9_runOf_108 (by decide) ?_
            exact ww_iret dX9_runOf_125 rfl ⟨by rw [runM, if_neg (wb_nt (wb_eq0.mp (by rw [in_c (a := 0) (b := 3) rfl rfl] at c77; exact c77 : wb (inR y 0 3) = 0))), if_pos c95, if_neg c104], rfl⟩ (Nat.zero_le _) (Nat.zero_le _)
      · have hj0 : inR y 0 3 = true := wb_ne0.mp (by rw [in_c (a := 0) (b := 3) rfl rfl] at c77; exact c77)
        obtain ⟨j, hj, ej⟩ := inR_ex (b := 3) (by omega) hj0
        refine ww_aload_n dX9_runOf_80 rfl rfl ?_
        refine mm_getr dX9_runOf_81 fX9_113 rfl ?_
        refine ww_iconst (v := 4) dX9_runOf_84 (by decide) ?_
        refine ww_iload_n dX9_runOf_85 rfl rfl ?_
        refine ww_imul dX9_runOf_86 ?_
        refine ww_iload_n dX9_runOf_87 rfl rfl ?_
        refine ww_iadd dX9_runOf_88 ?_
        refine mm_iald dX9_runOf_89 rfl (show _ = nI (4 * r + j) by rw [hp, ej]; exact w_4 r j) (by omega) rfl rfl ?_
        refine ww_goto (tgt := 125) dX9_runOf_90 (by decide) ?_
        exact ww_iret dX9_runOf_125 rfl ⟨by rw [runM, if_pos hj0, ej, nI_clamp (by omega)], rfl⟩ (Nat.zero_le _) (Nat.zero_le _)
    · have e1 : t < c := by rcases Nat.lt_or_ge t c with q | q; exact q; exact absurd ((w_le hc i4 (by omega) (by omega)).mpr q) c29
      refine ww_iload_n dX9_runOf_32 rfl rfl ?_
      refine ww_aload_n dX9_runOf_33 rfl rfl ?_
      refine mm_getr dX9_runOf_34 fX9_128 rfl ?_
      refine ww_iload dX9_runOf_37 rfl ?_
      refine mm_iald dX9_runOf_39 rfl i4 (by omega) rfl rfl ?_
      refine ww_iload_n dX9_runOf_40 rfl rfl ?_
      refine ww_icmp_ne (tgt := 59) dX9_runOf_41 (by decide) (fun c41 => ?_) (fun c41 => ?_)
      · refine ww_iconst (v := 0) dX9_runOf_59 (by decide) ?_
        refine ww_iadd dX9_runOf_60 ?_
        refine ww_istore_n dX9_runOf_61 rfl rfl rfl ?_
        refine ww_iinc dX9_runOf_62 rfl rfl rfl rfl ?_
        refine ww_goto (tgt := 23) dX9_runOf_65 (by decide) ?_
        exact ih (t + 1) _ _ (by omega) (by omega) (by rw [i3, w_add0, cntB_f (by simp [Prn, ← hp, c41])]) (w_inc i4)
      · refine ww_aload_n dX9_runOf_44 rfl rfl ?_
        refine mm_getr dX9_runOf_45 fX9_143 rfl ?_
        refine ww_iload dX9_runOf_48 rfl ?_
        refine mm_iald dX9_runOf_50 rfl i4 (by omega) rfl rfl ?_
        refine ww_iconst (v := 2) dX9_runOf_51 (by decide) ?_
        refine ww_icmp_eq (tgt := 59) dX9_runOf_52 (by decide) (fun c52 => ?_) (fun c52 => ?_)
        · refine ww_iconst (v := 0) dX9_runOf_59 (by decide) ?_
          refine ww_iadd dX9_runOf_60 ?_
          refine ww_istore_n dX9_runOf_61 rfl rfl rfl ?_
          refine ww_iinc dX9_runOf_62 rfl rfl rfl rfl ?_
          refine ww_goto (tgt := 23) dX9_runOf_65 (by decide) ?_
          exact ih (t + 1) _ _ (by omega) (by omega) (by rw [i3, w_add0, cntB_f (by simp [Prn, c52])]) (w_inc i4)
        · refine ww_iconst (v := 1) dX9_runOf_55 (by decide) ?_
          refine ww_goto (tgt := 60) dX9_runOf_56 (by decide) ?_
          refine ww_iadd dX9_runOf_60 ?_
          refine ww_istore_n dX9_runOf_61 rfl rfl rfl ?_
          refine ww_iinc dX9_runOf_62 rfl rfl rfl rfl ?_
          refine ww_goto (tgt := 23) dX9_runOf_65 (by decide) ?_
          exact ih (t + 1) _ _ (by omega) (by omega) (by rw [i3, cntB_t (by simp [Prn, ← hp, c41, c52])]; exact nI_1 _) (w_inc i4)
set_option maxHeartbeats 4000000 in
theorem c9_runOf {x y : Int32} {nr c r : Nat} (hN : F 40 = nI nr) (hN2 : nr ≤ 8) (hc : F 55 = nI c) (hc2 : c ≤ 200) (hp : x = nI r) (hrn : r < nr) : Sat G mX9_runOf [.ref m, .int x, .int y] (mh m F tl R NL h0, sz) (Det (some (.int (runM R c r y))) (mh m F tl R NL h0, sz)) := by
  refine Sat.of (by decide) [some (.ref m), some (.int x), some (.int y), none, none] rfl rfl (fun X => ?_)
  refine ww_iload_n dX9_runOf_0 rfl rfl ?_
  refine ww_i2l dX9_runOf_1 ?_
  refine ww_lconst (v := 0) dX9_runOf_2 (by decide) ?_
  refine ww_aload_n dX9_runOf_3 rfl rfl ?_
  refine mm_geti dX9_runOf_4 fX9_339 rfl rfl ?_
  refine ww_iconst (v := 1) dX9_runOf_7 (by decide) ?_
  refine ww_isub dX9_runOf_8 ?_
  refine ww_i2l dX9_runOf_9 ?_
  refine ww_calls1 dX9_runOf_10 kX9_177 c9_in rfl rfl rfl rfl rfl rfl (Nat.zero_le _) (Nat.zero_le _) ?_
  refine ww_if_ne (tgt := 18) dX9_runOf_13 (by decide) (fun c13 => ?_) (fun c13 => ?_)
  · refine ww_iconst (v := 0) dX9_runOf_18 (by decide) ?_
    refine ww_istore_n dX9_runOf_19 rfl rfl rfl ?_
    refine ww_iconst (v := 0) dX9_runOf_20 (by decide) ?_
    refine ww_istore dX9_runOf_21 rfl rfl ?_
    exact L9_runOf hc hc2 hp (by omega) (c + 1) 0 _ _ (by omega) (by omega) rfl rfl
  · exact absurd c13 (by rw [in_ix hN (by omega), hp, wIn_nI hrn (by omega)]; decide)
set_option maxHeartbeats 4000000 in
theorem c9_runOf0 {x y : Int32} {nr : Nat} (hN : F 40 = nI nr) (hN2 : nr ≤ 8) (hno : wIn x nr = false) : Sat G mX9_runOf [.ref m, .int x, .int y] (mh m F tl R NL h0, sz) (Det (some (.int (-1))) (mh m F tl R NL h0, sz)) := by
  refine Sat.of (by decide) [some (.ref m), some (.int x), some (.int y), none, none] rfl rfl (fun X => ?_)
  refine ww_iload_n dX9_runOf_0 rfl rfl ?_
  refine ww_i2l dX9_runOf_1 ?_
  refine ww_lconst (v := 0) dX9_runOf_2 (by decide) ?_
  refine ww_aload_n dX9_runOf_3 rfl rfl ?_
  refine mm_geti dX9_runOf_4 fX9_339 rfl rfl ?_
  refine ww_iconst (v := 1) dX9_runOf_7 (by decide) ?_
  refine ww_isub dX9_runOf_8 ?_
  refine ww_i2l dX9_runOf_9 ?_
  refine ww_calls1 dX9_runOf_10 kX9_177 c9_in rfl rfl rfl rfl rfl rfl (Nat.zero_le _) (Nat.zero_le _) ?_
  refine ww_if_ne (tgt := 18) dX9_runOf_13 (by decide) (fun c13 => ?_) (fun c13 => ?_)
  · exact absurd c13 (by rw [in_ix hN (by omega)]; exact fun q => q (wb_eq0.mpr hno))
  · refine ww_iconst (v := -1) dX9_runOf_16 (by decide) ?_
    exact ww_iret dX9_runOf_17 rfl ⟨rfl, rfl⟩ (Nat.zero_le _) (Nat.zero_le _)
def Pdn (R : Nat → Nat → Int32) (x : Int32) : Nat → Bool := fun j => decide (R 61 j = 2) && decide (R 62 j = x)
def psnM (R : Nat → Nat → Int32) (c p : Nat) (y : Int32) : Int32 := if y = nI 0 then R 65 p else if y = nI 1 then R 66 p else if y = nI 2 then nI (cntB (Pcl R (nI p)) c) else if y = nI 3 then (if R 68 p = 0 then 0 else 1) else if y = nI 4 then R 67 p else if y = nI 5 then nI (cntB (Pdn R (nI p)) c) else -1
theorem ps_2 {c p : Nat} : psnM R c p (nI 2) = nI (cntB (Pcl R (nI p)) c) := rfl
theorem ps_3 {c p : Nat} : psnM R c p (nI 3) = if R 68 p = 0 then 0 else 1 := rfl
theorem ps_5 {c p : Nat} : psnM R c p (nI 5) = nI (cntB (Pdn R (nI p)) c) := rfl
theorem ps_out {c p : Nat} {x : Int32} (h : x.toInt < 0 ∨ 5 < x.toInt) : psnM R c p x = -1 := by
  unfold psnM
  rw [if_neg (w_nlit h (by decide) (by decide)), if_neg (w_nlit h (by decide) (by decide)), if_neg (w_nlit h (by decide) (by decide)), if_neg (w_nlit h (by decide) (by decide)), if_neg (w_nlit h (by decide) (by decide)), if_neg (w_nlit h (by decide) (by decide))]
set_option maxHeartbeats 4000000 in
theorem L9_personOf {x y : Int32} {c p : Nat} {X : wX} (hc : F 55 = nI c) (hc2 : c ≤ 200) (hp : x = nI p) (hp8 : p < 8) : ∀ (n t : Nat) (x3 x4 : Int32), c - t < n → t ≤ c → x3 = nI (cntB (Pdn R (nI p)) t) → x4 = nI t → WW G mX9_personOf cX9_personOf X (wZ G mX9_personOf X (Det (some (.int (psnM R c p y))) (mh m F tl R NL h0, sz))) 15 [some (.ref m), some (.int x), some (.int y), some (.int x3), some (.int x4)] [] (mh m F tl R NL h0, sz) 0 0 := by
  intro n
  induction n with
  | zero => intro t x3 x4 hn; exact absurd hn (by omega)
  | succ n ih =>
    intro t x3 x4 hn ht i3 i4
    refine ww_iload dX9_personOf_15 rfl ?_
    refine ww_aload_n dX9_personOf_17 rfl rfl ?_
    refine mm_geti dX9_personOf_18 fX9_311 rfl rfl ?_
    refine ww_icmp_ge (tgt := 60) dX9_personOf_21 (by decide) (fun c21 => ?_) (fun c21 => ?_)
    · have e1 := (w_le hc i4 (by omega) (by omega)).mp c21
      have e2 : t = c := by omega
      refine ww_iload_n dX9_personOf_60 rfl rfl ?_
      refine ww_table [100, 107, 114, 120, 135, 142] 144 dX9_personOf_61 (by decide) (by decide) (by decide) (fun j61 t61 ht61 c61 => ?_) (fun c61 => ?_)
      · rcases j61 with _ | _ | _ | _ | _ | _ | j
        · cases ht61
          refine ww_aload_n dX9_personOf_100 rfl rfl ?_
          refine mm_getr dX9_personOf_101 fX9_152 rfl ?_
          refine ww_iload_n dX9_personOf_104 rfl rfl ?_
          refine mm_iald dX9_personOf_105 rfl hp (by omega) rfl rfl ?_
          exact ww_iret dX9_personOf_106 rfl ⟨by rw [w_lit (n := 0) c61 (by decide)]; rfl, rfl⟩ (Nat.zero_le _) (Nat.zero_le _)
        · cases ht61
          refine ww_aload_n dX9_personOf_107 rfl rfl ?_
          refine mm_getr dX9_personOf_108 fX9_155 rfl ?_
          refine ww_iload_n dX9_personOf_111 rfl rfl ?_
          refine mm_iald dX9_personOf_112 rfl hp (by omega) rfl rfl ?_
          exact ww_iret dX9_personOf_113 rfl ⟨by rw [w_lit (n := 1) c61 (by decide)]; rfl, rfl⟩ (Nat.zero_le _) (Nat.zero_le _)
        · cases ht61
          refine ww_aload_n dX9_personOf_114 rfl rfl ?_
          refine ww_iload_n dX9_personOf_115 rfl rfl ?_
          refine mm_call1 dX9_personOf_116 kX9_360 rfl (c9_claims hc hc2) rfl rfl rfl rfl rfl rfl (Nat.zero_le _) (Nat.zero_le _) ?_
          exact ww_iret dX9_personOf_119 rfl ⟨by rw [w_lit (n := 2) c61 (by decide), ps_2, hp], rfl⟩ (Nat.zero_le _) (Nat.zero_le _)
        · cases ht61
          refine ww_aload_n dX9_personOf_120 rfl rfl ?_
          refine mm_getr dX9_personOf_121 fX9_161 rfl ?_
          refine ww_iload_n dX9_personOf_124 rfl rfl ?_
          refine mm_zald dX9_personOf_125 rfl hp (by omega) rfl rfl ?_
          refine ww_if_eq (tgt := 133) dX9_personOf_126 (by decide) (fun c126 => ?_) (fun c126 => ?_)
          · refine ww_iconst (v := 0) dX9_personOf_133 (by decide) ?_
            exact ww_iret dX9_personOf_134 rfl ⟨by rw [w_lit (n := 3) c61 (by decide), ps_3, if_pos c126], rfl⟩ (Nat.zero_le _) (Nat.zero_le _)
          · refine ww_iconst (v := 1) dX9_personOf_129 (by decide) ?_
            refine ww_goto (tgt := 134) dX9_personOf_130 (by decide) ?_
            exact ww_iret dX9_personOf_134 rfl ⟨by rw [w_lit (n := 3) c61 (by decide), ps_3, if_neg c126], rfl⟩ (Nat.zero_le _) (Nat.zero_le _)
        · cases ht61
          refine ww_aload_n dX9_personOf_135 rfl rfl ?_
          refine mm_getr dX9_personOf_136 fX9_158 rfl ?_
          refine ww_iload_n dX9_personOf_139 rfl rfl ?_
          refine mm_iald dX9_personOf_140 rfl hp (by omega) rfl rfl ?_
          exact ww_iret dX9_personOf_141 rfl ⟨by rw [w_lit (n := 4) c61 (by decide)]; rfl, rfl⟩ (Nat.zero_le _) (Nat.zero_le _)
        · cases ht61
          refine ww_iload_n dX9_personOf_142 rfl rfl ?_
          exact ww_iret dX9_personOf_143 rfl ⟨by rw [w_lit (n := 5) c61 (by decide), ps_5, i3, e2], rfl⟩ (Nat.zero_le _) (Nat.zero_le _)
        · cases ht61
      · refine ww_iconst (v := -1) dX9_personOf_144 (by decide) ?_
        exact ww_iret dX9_personOf_145 rfl ⟨by rw [ps_out c61], rfl⟩ (Nat.zero_le _) (Nat.zero_le _)
    · have e1 : t < c := by rcases Nat.lt_or_ge t c with q | q; exact q; exact absurd ((w_le hc i4 (by omega) (by omega)).mpr q) c21
      refine ww_iload_n dX9_personOf_24 rfl rfl ?_
      refine ww_aload_n dX9_personOf_25 rfl rfl ?_
      refine mm_getr dX9_personOf_26 fX9_143 rfl ?_
      refine ww_iload dX9_personOf_29 rfl ?_
      refine mm_iald dX9_personOf_31 rfl i4 (by omega) rfl rfl ?_
      refine ww_iconst (v := 2) dX9_personOf_32 (by decide) ?_
      refine ww_icmp_ne (tgt := 51) dX9_personOf_33 (by decide) (fun c33 => ?_) (fun c33 => ?_)
      · refine ww_iconst (v := 0) dX9_personOf_51 (by decide) ?_
        refine ww_iadd dX9_personOf_52 ?_
        refine ww_istore_n dX9_personOf_53 rfl rfl rfl ?_
        refine ww_iinc dX9_personOf_54 rfl rfl rfl rfl ?_
        refine ww_goto (tgt := 15) dX9_personOf_57 (by decide) ?_
        exact ih (t + 1) _ _ (by omega) (by omega) (by rw [i3, w_add0, cntB_f (by simp [Pdn, c33])]) (w_inc i4)
      · refine ww_aload_n dX9_personOf_36 rfl rfl ?_
        refine mm_getr dX9_personOf_37 fX9_146 rfl ?_
        refine ww_iload dX9_personOf_40 rfl ?_
        refine mm_iald dX9_personOf_42 rfl i4 (by omega) rfl rfl ?_
        refine ww_iload_n dX9_personOf_43 rfl rfl ?_
        refine ww_icmp_ne (tgt := 51) dX9_personOf_44 (by decide) (fun c44 => ?_) (fun c44 => ?_)
        · refine ww_iconst (v := 0) dX9_personOf_51 (by decide) ?_
          refine ww_iadd dX9_personOf_52 ?_
          refine ww_istore_n dX9_personOf_53 rfl rfl rfl ?_
          refine ww_iinc dX9_personOf_54 rfl rfl rfl rfl ?_
          refine ww_goto (tgt := 15) dX9_personOf_57 (by decide) ?_
          exact ih (t + 1) _ _ (by omega) (by omega) (by rw [i3, w_add0, cntB_f (by simp [Pdn, ← hp, c44])]) (w_inc i4)
        · refine ww_iconst (v := 1) dX9_personOf_47 (by decide) ?_
          refine ww_goto (tgt := 52) dX9_personOf_48 (by decide) ?_
          refine ww_iadd dX9_personOf_52 ?_
          refine ww_istore_n dX9_personOf_53 rfl rfl rfl ?_
          refine ww_iinc dX9_personOf_54 rfl rfl rfl rfl ?_
          refine ww_goto (tgt := 15) dX9_personOf_57 (by decide) ?_
          exact ih (t + 1) _ _ (by omega) (by omega) (by rw [i3, cntB_t (by simp [Pdn, ← hp, c33, c44])]; exact nI_1 _) (w_inc i4)
set_option maxHeartbeats 4000000 in
theorem c9_personOf {x y : Int32} {np c p : Nat} (hP : F 64 = nI np) (hP2 : np ≤ 8) (hc : F 55 = nI c) (hc2 : c ≤ 200) (hp : x = nI p) (hpn : p < np) : Sat G mX9_personOf [.ref m, .int x, .int y] (mh m F tl R NL h0, sz) (Det (some (.int (psnM R c p y))) (mh m F tl R NL h0, sz)) := by
  refine Sat.of (by decide) [some (.ref m), some (.int x), some (.int y), none, none] rfl rfl (fun X => ?_)
  refine ww_aload_n dX9_personOf_0 rfl rfl ?_
  refine ww_iload_n dX9_personOf_1 rfl rfl ?_
  refine mm_call1 dX9_personOf_2 kX9_318 rfl (c9_isPerson hP (by omega)) rfl rfl rfl rfl rfl rfl (Nat.zero_le _) (Nat.zero_le _) ?_
  refine ww_if_ne (tgt := 10) dX9_personOf_5 (by decide) (fun c5 => ?_) (fun c5 => ?_)
  · refine ww_iconst (v := 0) dX9_personOf_10 (by decide) ?_
    refine ww_istore_n dX9_personOf_11 rfl rfl rfl ?_
    refine ww_iconst (v := 0) dX9_personOf_12 (by decide) ?_
    refine ww_istore dX9_personOf_13 rfl rfl ?_
    exact L9_personOf hc hc2 hp (by omega) (c + 1) 0 _ _ (by omega) (by omega) rfl rfl
  · exact absurd c5 (by rw [hp, wIn_nI hpn (by omega)]; decide)
set_option maxHeartbeats 4000000 in
theorem c9_personOf0 {x y : Int32} {np : Nat} (hP : F 64 = nI np) (hP2 : np ≤ 8) (hno : wIn x np = false) : Sat G mX9_personOf [.ref m, .int x, .int y] (mh m F tl R NL h0, sz) (Det (some (.int (-1))) (mh m F tl R NL h0, sz)) := by
  refine Sat.of (by decide) [some (.ref m), some (.int x), some (.int y), none, none] rfl rfl (fun X => ?_)
  refine ww_aload_n dX9_personOf_0 rfl rfl ?_
  refine ww_iload_n dX9_personOf_1 rfl rfl ?_
  refine mm_call1 dX9_personOf_2 kX9_318 rfl (c9_isPerson hP (by omega)) rfl rfl rfl rfl rfl rfl (Nat.zero_le _) (Nat.zero_le _) ?_
  refine ww_if_ne (tgt := 10) dX9_personOf_5 (by decide) (fun c5 => ?_) (fun c5 => ?_)
  · exact absurd c5 (fun q => q (wb_eq0.mpr hno))
  · refine ww_iconst (v := -1) dX9_personOf_8 (by decide) ?_
    exact ww_iret dX9_personOf_9 rfl ⟨rfl, rfl⟩ (Nat.zero_le _) (Nat.zero_le _)
def ofM (R : Nat → Nat → Int32) (np c t : Nat) : Nat → Int32
  | 0 => -1
  | q + 1 => if mayT R np c q t = true ∧ nI (cntB (Pcl R (nI q)) c) < R 66 q ∧ (ofM R np c t q < 0 ∨ nI (cntB (Pcl R (nI q)) c) < nI (cntB (Pcl R (ofM R np c t q)) c)) then nI q else ofM R np c t q
set_option maxHeartbeats 4000000 in
theorem L9_offer {x : Int32} {np c t : Nat} {X : wX} (hP : F 64 = nI np) (hP2 : np ≤ 8) (hc : F 55 = nI c) (hc2 : c ≤ 200) (hdp : ∀ q, q < np → okP np (R 67 q)) (ht : x = nI t) (htc : t < 200) (hT : tskOk R t) : ∀ (n q : Nat) (x2 x3 : Int32) (l4 : Option Value), np - q < n → q ≤ np → x2 = ofM R np c t q → x3 = nI q → WW G mX9_offer cX9_offer X (wZ G mX9_offer X (Det (some (.int (ofM R np c t np))) (mh m F tl R NL h0, sz))) 23 [some (.ref m), some (.int x), some (.int x2), some (.int x3), l4] [] (mh m F tl R NL h0, sz) 0 0 := by
  intro n
  induction n with
  | zero => intro q x2 x3 l4 hn; exact absurd hn (by omega)
  | succ n ih =>
    intro q x2 x3 l4 hn hq i2 i3
    refine ww_iload_n dX9_offer_23 rfl rfl ?_
    refine ww_aload_n dX9_offer_24 rfl rfl ?_
    refine mm_geti dX9_offer_25 fX9_308 rfl rfl ?_
    refine ww_icmp_ge (tgt := 91) dX9_offer_28 (by decide) (fun c28 => ?_) (fun c28 => ?_)
    · have e1 := (w_le hP i3 (by omega) (by omega)).mp c28
      have e2 : q = np := by omega
      refine ww_iload_n dX9_offer_91 rfl rfl ?_
      exact ww_iret dX9_offer_92 rfl ⟨by rw [i2, e2], rfl⟩ (Nat.zero_le _) (Nat.zero_le _)
    · have e1 : q < np := by rcases Nat.lt_or_ge q np with z | z; exact z; exact absurd ((w_le hP i3 (by omega) (by omega)).mpr z) c28
      refine ww_aload_n dX9_offer_31 rfl rfl ?_
      refine ww_iload_n dX9_offer_32 rfl rfl ?_
      refine ww_iload_n dX9_offer_33 rfl rfl ?_
      refine mm_call1 dX9_offer_34 kX9_357 rfl (c9_mayDo hP hP2 hdp hc hc2 i3 e1 ht htc hT) rfl rfl rfl rfl rfl rfl (Nat.zero_le _) (Nat.zero_le _) ?_
      refine ww_if_eq (tgt := 58) dX9_offer_37 (by decide) (fun c37 => ?_) (fun c37 => ?_)
      · refine ww_iconst (v := 0) dX9_offer_58 (by decide) ?_
        refine ww_istore dX9_offer_59 rfl rfl ?_
        refine ww_iload dX9_offer_61 rfl ?_
        refine ww_if_eq (tgt := 85) dX9_offer_63 (by decide) (fun c63 => ?_) (fun c63 => ?_)
        · refine ww_iinc dX9_offer_85 rfl rfl rfl rfl ?_
          refine ww_goto (tgt := 23) dX9_offer_88 (by decide) ?_
          exact ih (q + 1) _ _ _ (by omega) (by omega) (by rw [ofM, if_neg (fun z => wb_nt (wb_eq0.mp c37) z.1)]; exact i2) (w_inc i3)
        · exact absurd c63 (fun q => q rfl)
      · refine ww_aload_n dX9_offer_40 rfl rfl ?_
        refine ww_iload_n dX9_offer_41 rfl rfl ?_
        refine mm_call1 dX9_offer_42 kX9_360 rfl (c9_claims hc hc2) rfl rfl rfl rfl rfl rfl (Nat.zero_le _) (Nat.zero_le _) ?_
        refine ww_aload_n dX9_offer_45 rfl rfl ?_
        refine mm_getr dX9_offer_46 fX9_155 rfl ?_
        refine ww_iload_n dX9_offer_49 rfl rfl ?_
        refine mm_iald dX9_offer_50 rfl i3 (by omega) rfl rfl ?_
        refine ww_icmp_ge (tgt := 58) dX9_offer_51 (by decide) (fun c51 => ?_) (fun c51 => ?_)
        · refine ww_iconst (v := 0) dX9_offer_58 (by decide) ?_
          refine ww_istore dX9_offer_59 rfl rfl ?_
          refine ww_iload dX9_offer_61 rfl ?_
          refine ww_if_eq (tgt := 85) dX9_offer_63 (by decide) (fun c63 => ?_) (fun c63 => ?_)
          · refine ww_iinc dX9_offer_85 rfl rfl rfl rfl ?_
            refine ww_goto (tgt := 23) dX9_offer_88 (by decide) ?_
            exact ih (q + 1) _ _ _ (by omega) (by omega) (by rw [ofM, if_neg (fun z => Int32.not_lt.mpr c51 (by rw [i3]; exact z.2.1))]; exact i2) (w_inc i3)
          · exact absurd c63 (fun q => q rfl)
        · refine ww_iconst (v := 1) dX9_offer_54 (by decide) ?_
          refine ww_goto (tgt := 59) dX9_offer_55 (by decide) ?_
          refine ww_istore dX9_offer_59 rfl rfl ?_
          refine ww_iload dX9_offer_61 rfl ?_
          refine ww_if_eq (tgt := 85) dX9_offer_63 (by decide) (fun c63 => ?_) (fun c63 => ?_)
          · exact absurd c63 (by decide)
          · refine ww_iload_n dX9_offer_66 rfl rfl ?_
            refine ww_if_lt (tgt := 83) dX9_offer_67 (by decide) (fun c67 => ?_) (fun c67 => ?_)
            · refine ww_iload_n dX9_offer_83 rfl rfl ?_
              refine ww_istore_n dX9_offer_84 rfl rfl rfl ?_
              refine ww_iinc dX9_offer_85 rfl rfl rfl rfl ?_
              refine ww_goto (tgt := 23) dX9_offer_88 (by decide) ?_
              exact ih (q + 1) _ _ _ (by omega) (by omega) (by rw [ofM, if_pos ⟨wb_ne0.mp c37, by rw [← i3]; exact Int32.not_le.mp c51, Or.inl (by rw [← i2]; exact c67)⟩]; exact i3) (w_inc i3)
            · refine ww_aload_n dX9_offer_70 rfl rfl ?_
              refine ww_iload_n dX9_offer_71 rfl rfl ?_
              refine mm_call1 dX9_offer_72 kX9_360 rfl (c9_claims hc hc2) rfl rfl rfl rfl rfl rfl (Nat.zero_le _) (Nat.zero_le _) ?_
              refine ww_aload_n dX9_offer_75 rfl rfl ?_
              refine ww_iload_n dX9_offer_76 rfl rfl ?_
              refine mm_call1 dX9_offer_77 kX9_360 rfl (c9_claims hc hc2) rfl rfl rfl rfl rfl rfl (Nat.zero_le _) (Nat.zero_le _) ?_
              refine ww_icmp_ge (tgt := 85) dX9_offer_80 (by decide) (fun c80 => ?_) (fun c80 => ?_)
              · refine ww_iinc dX9_offer_85 rfl rfl rfl rfl ?_
                refine ww_goto (tgt := 23) dX9_offer_88 (by decide) ?_
                exact ih (q + 1) _ _ _ (by omega) (by omega) (by rw [ofM, if_neg (fun z => z.2.2.elim (by rw [← i2]; exact c67) (fun z => Int32.not_lt.mpr c80 (by rw [i2, i3]; exact z)))]; exact i2) (w_inc i3)
              · refine ww_iload_n dX9_offer_83 rfl rfl ?_
                refine ww_istore_n dX9_offer_84 rfl rfl rfl ?_
                refine ww_iinc dX9_offer_85 rfl rfl rfl rfl ?_
                refine ww_goto (tgt := 23) dX9_offer_88 (by decide) ?_
                exact ih (q + 1) _ _ _ (by omega) (by omega) (by rw [ofM, if_pos ⟨wb_ne0.mp c37, by rw [← i3]; exact Int32.not_le.mp c51, Or.inr (by rw [← i2, ← i3]; exact Int32.not_le.mp c80)⟩]; exact i3) (w_inc i3)
set_option maxHeartbeats 4000000 in
theorem c9_offer1 {x : Int32} {np c t : Nat} (hP : F 64 = nI np) (hP2 : np ≤ 8) (hc : F 55 = nI c) (hc2 : c ≤ 200) (hdp : ∀ q, q < np → okP np (R 67 q)) (ht : x = nI t) (htc : t < c) (hT : tskOk R t) (hs : R 61 t = 0) : Sat G mX9_offer [.ref m, .int x] (mh m F tl R NL h0, sz) (Det (some (.int (ofM R np c t np))) (mh m F tl R NL h0, sz)) := by
  refine Sat.of (by decide) [some (.ref m), some (.int x), none, none, none] rfl rfl (fun X => ?_)
  refine ww_aload_n dX9_offer_0 rfl rfl ?_
  refine ww_iload_n dX9_offer_1 rfl rfl ?_
  refine mm_call1 dX9_offer_2 kX9_348 rfl (c9_isTask hc (by omega)) rfl rfl rfl rfl rfl rfl (Nat.zero_le _) (Nat.zero_le _) ?_
  refine ww_if_eq (tgt := 17) dX9_offer_5 (by decide) (fun c5 => ?_) (fun c5 => ?_)
  · exact absurd c5 (by rw [ht, wIn_nI htc (by omega)]; decide)
  · refine ww_aload_n dX9_offer_8 rfl rfl ?_
    refine mm_getr dX9_offer_9 fX9_143 rfl ?_
    refine ww_iload_n dX9_offer_12 rfl rfl ?_
    refine mm_iald dX9_offer_13 rfl ht (by omega) rfl rfl ?_
    refine ww_if_eq (tgt := 19) dX9_offer_14 (by decide) (fun c14 => ?_) (fun c14 => ?_)
    · refine ww_iconst (v := -1) dX9_offer_19 (by decide) ?_
      refine ww_istore_n dX9_offer_20 rfl rfl rfl ?_
      refine ww_iconst (v := 0) dX9_offer_21 (by decide) ?_
      refine ww_istore_n dX9_offer_22 rfl rfl rfl ?_
      exact L9_offer hP hP2 hc hc2 hdp ht (by omega) hT (np + 1) 0 _ _ _ (by omega) (by omega) rfl rfl
    · exact absurd c14 (fun q => q hs)
set_option maxHeartbeats 4000000 in
theorem c9_offer2 {x : Int32} {c t : Nat} (hc : F 55 = nI c) (hc2 : c ≤ 200) (ht : x = nI t) (htc : t < c) (hs : ¬ R 61 t = 0) : Sat G mX9_offer [.ref m, .int x] (mh m F tl R NL h0, sz) (Det (some (.int (-1))) (mh m F tl R NL h0, sz)) := by
  refine Sat.of (by decide) [some (.ref m), some (.int x), none, none, none] rfl rfl (fun X => ?_)
  refine ww_aload_n dX9_offer_0 rfl rfl ?_
  refine ww_iload_n dX9_offer_1 rfl rfl ?_
  refine mm_call1 dX9_offer_2 kX9_348 rfl (c9_isTask hc (by omega)) rfl rfl rfl rfl rfl rfl (Nat.zero_le _) (Nat.zero_le _) ?_
  refine ww_if_eq (tgt := 17) dX9_offer_5 (by decide) (fun c5 => ?_) (fun c5 => ?_)
  · exact absurd c5 (by rw [ht, wIn_nI htc (by omega)]; decide)
  · refine ww_aload_n dX9_offer_8 rfl rfl ?_
    refine mm_getr dX9_offer_9 fX9_143 rfl ?_
    refine ww_iload_n dX9_offer_12 rfl rfl ?_
    refine mm_iald dX9_offer_13 rfl ht (by omega) rfl rfl ?_
    refine ww_if_eq (tgt := 19) dX9_offer_14 (by decide) (fun c14 => ?_) (fun c14 => ?_)
    · exact absurd c14 hs
    · refine ww_iconst (v := -1) dX9_offer_17 (by decide) ?_
      exact ww_iret dX9_offer_18 rfl ⟨rfl, rfl⟩ (Nat.zero_le _) (Nat.zero_le _)
set_option maxHeartbeats 4000000 in
theorem c9_offer0 {x : Int32} {c : Nat} (hc : F 55 = nI c) (hc2 : c ≤ 200) (hno : wIn x c = false) : Sat G mX9_offer [.ref m, .int x] (mh m F tl R NL h0, sz) (Det (some (.int (-1))) (mh m F tl R NL h0, sz)) := by
  refine Sat.of (by decide) [some (.ref m), some (.int x), none, none, none] rfl rfl (fun X => ?_)
  refine ww_aload_n dX9_offer_0 rfl rfl ?_
  refine ww_iload_n dX9_offer_1 rfl rfl ?_
  refine mm_call1 dX9_offer_2 kX9_348 rfl (c9_isTask hc (by omega)) rfl rfl rfl rfl rfl rfl (Nat.zero_le _) (Nat.zero_le _) ?_
  refine ww_if_eq (tgt := 17) dX9_offer_5 (by decide) (fun c5 => ?_) (fun c5 => ?_)
  · refine ww_iconst (v := -1) dX9_offer_17 (by decide) ?_
    exact ww_iret dX9_offer_18 rfl ⟨rfl, rfl⟩ (Nat.zero_le _) (Nat.zero_le _)
  · exact absurd c5 (fun q => q (wb_eq0.mpr hno))
end M5
end
