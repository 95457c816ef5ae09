section
-- ===== PART A: goes FIRST, ahead of the names: the tables' words, and 'selects' of the private methods out of them =====
/-- a private method of a class that the tables say can be made, by its rows of tables_1 -/
def lw_okq (q : MethodName × Nat) : Prop := (q.1.cls ≠ "java/lang/invoke/MethodHandle" ∧ q.1.cls ≠ "java/lang/invoke/VarHandle") ∧ Cond.instantiable q.1.cls q.2 ∈ tables_1 ∧ Cond.privateMethod q.1 ∈ tables_1 ∧ Cond.instanceMethod q.1 ∈ tables_1
theorem lw_p0 : lw_okq (⟨"IcicleClock$Acts", "tally", "(III)V"⟩, 5) := ⟨⟨by decide +kernel, by decide +kernel⟩, List.mem_of_getElem? (i := 69) (by decide +kernel), List.mem_of_getElem? (i := 464) (by decide +kernel), List.mem_of_getElem? (i := 465) (by decide +kernel)⟩
theorem lw_p1 : lw_okq (⟨"IcicleClock$Tape", "advance", "()V"⟩, 7) := ⟨⟨by decide +kernel, by decide +kernel⟩, List.mem_of_getElem? (i := 31) (by decide +kernel), List.mem_of_getElem? (i := 468) (by decide +kernel), List.mem_of_getElem? (i := 469) (by decide +kernel)⟩
theorem lw_p2 : lw_okq (⟨"IcicleClock$Tape", "readFirst", "(LIcicleClock$Street;)V"⟩, 7) := ⟨⟨by decide +kernel, by decide +kernel⟩, List.mem_of_getElem? (i := 31) (by decide +kernel), List.mem_of_getElem? (i := 475) (by decide +kernel), List.mem_of_getElem? (i := 476) (by decide +kernel)⟩
theorem lw_p3 : lw_okq (⟨"IcicleClock$Tape", "isWord", "(Ljava/lang/String;)Z"⟩, 7) := ⟨⟨by decide +kernel, by decide +kernel⟩, List.mem_of_getElem? (i := 31) (by decide +kernel), List.mem_of_getElem? (i := 480) (by decide +kernel), List.mem_of_getElem? (i := 481) (by decide +kernel)⟩
theorem lw_p4 : lw_okq (⟨"IcicleClock$Tape", "pass", "(Z)V"⟩, 7) := ⟨⟨by decide +kernel, by decide +kernel⟩, List.mem_of_getElem? (i := 31) (by decide +kernel), List.mem_of_getElem? (i := 532) (by decide +kernel), List.mem_of_getElem? (i := 533) (by decide +kernel)⟩
theorem lw_p5 : lw_okq (⟨"IcicleClock$Tape", "blame", "(I)V"⟩, 7) := ⟨⟨by decide +kernel, by decide +kernel⟩, List.mem_of_getElem? (i := 31) (by decide +kernel), List.mem_of_getElem? (i := 536) (by decide +kernel), List.mem_of_getElem? (i := 537) (by decide +kernel)⟩
theorem lw_p6 : lw_okq (⟨"IcicleClock$Tape", "numberBehind", "(Ljava/lang/String;I)I"⟩, 7) := ⟨⟨by decide +kernel, by decide +kernel⟩, List.mem_of_getElem? (i := 31) (by decide +kernel), List.mem_of_getElem? (i := 541) (by decide +kernel), List.mem_of_getElem? (i := 542) (by decide +kernel)⟩
theorem lw_p7 : lw_okq (⟨"IcicleClock$Tape", "passNumber", "(II)I"⟩, 7) := ⟨⟨by decide +kernel, by decide +kernel⟩, List.mem_of_getElem? (i := 31) (by decide +kernel), List.mem_of_getElem? (i := 545) (by decide +kernel), List.mem_of_getElem? (i := 546) (by decide +kernel)⟩
theorem lw_p8 : lw_okq (⟨"IcicleClock$Tape", "numberHere", "()I"⟩, 7) := ⟨⟨by decide +kernel, by decide +kernel⟩, List.mem_of_getElem? (i := 31) (by decide +kernel), List.mem_of_getElem? (i := 549) (by decide +kernel), List.mem_of_getElem? (i := 550) (by decide +kernel)⟩
theorem lw_p9 : lw_okq (⟨"IcicleClock$Tape", "readDay", "(LIcicleClock$Street;)V"⟩, 7) := ⟨⟨by decide +kernel, by decide +kernel⟩, List.mem_of_getElem? (i := 31) (by decide +kernel), List.mem_of_getElem? (i := 559) (by decide +kernel), List.mem_of_getElem? (i := 560) (by decide +kernel)⟩
theorem lw_p10 : lw_okq (⟨"IcicleClock$Tape", "readEave", "(LIcicleClock$Street;)V"⟩, 7) := ⟨⟨by decide +kernel, by decide +kernel⟩, List.mem_of_getElem? (i := 31) (by decide +kernel), List.mem_of_getElem? (i := 566) (by decide +kernel), List.mem_of_getElem? (i := 567) (by decide +kernel)⟩
theorem lw_p11 : lw_okq (⟨"IcicleClock$Tape", "readIcicle", "(LIcicleClock$Street;)V"⟩, 7) := ⟨⟨by decide +kernel, by decide +kernel⟩, List.mem_of_getElem? (i := 31) (by decide +kernel), List.mem_of_getElem? (i := 572) (by decide +kernel), List.mem_of_getElem? (i := 573) (by decide +kernel)⟩
theorem lw_p12 : lw_okq (⟨"IcicleClock$Tape", "readDue", "(LIcicleClock$Street;)V"⟩, 7) := ⟨⟨by decide +kernel, by decide +kernel⟩, List.mem_of_getElem? (i := 31) (by decide +kernel), List.mem_of_getElem? (i := 580) (by decide +kernel), List.mem_of_getElem? (i := 581) (by decide +kernel)⟩
theorem lw_p13 : lw_okq (⟨"IcicleClock", "isDay", "(I)Z"⟩, 14) := ⟨⟨by decide +kernel, by decide +kernel⟩, List.mem_of_getElem? (i := 23) (by decide +kernel), List.mem_of_getElem? (i := 629) (by decide +kernel), List.mem_of_getElem? (i := 630) (by decide +kernel)⟩
theorem lw_p14 : lw_okq (⟨"IcicleClock", "isEave", "(I)Z"⟩, 14) := ⟨⟨by decide +kernel, by decide +kernel⟩, List.mem_of_getElem? (i := 23) (by decide +kernel), List.mem_of_getElem? (i := 637) (by decide +kernel), List.mem_of_getElem? (i := 638) (by decide +kernel)⟩
theorem lw_p15 : lw_okq (⟨"IcicleClock", "isIcicle", "(I)Z"⟩, 14) := ⟨⟨by decide +kernel, by decide +kernel⟩, List.mem_of_getElem? (i := 23) (by decide +kernel), List.mem_of_getElem? (i := 646) (by decide +kernel), List.mem_of_getElem? (i := 647) (by decide +kernel)⟩
def lw_privs_1 : List (MethodName × Nat) := [(⟨"IcicleClock$Acts", "tally", "(III)V"⟩, 5), (⟨"IcicleClock$Tape", "advance", "()V"⟩, 7), (⟨"IcicleClock$Tape", "readFirst", "(LIcicleClock$Street;)V"⟩, 7), (⟨"IcicleClock$Tape", "isWord", "(Ljava/lang/String;)Z"⟩, 7), (⟨"IcicleClock$Tape", "pass", "(Z)V"⟩, 7), (⟨"IcicleClock$Tape", "blame", "(I)V"⟩, 7), (⟨"IcicleClock$Tape", "numberBehind", "(Ljava/lang/String;I)I"⟩, 7), (⟨"IcicleClock$Tape", "passNumber", "(II)I"⟩, 7), (⟨"IcicleClock$Tape", "numberHere", "()I"⟩, 7), (⟨"IcicleClock$Tape", "readDay", "(LIcicleClock$Street;)V"⟩, 7), (⟨"IcicleClock$Tape", "readEave", "(LIcicleClock$Street;)V"⟩, 7), (⟨"IcicleClock$Tape", "readIcicle", "(LIcicleClock$Street;)V"⟩, 7), (⟨"IcicleClock$Tape", "readDue", "(LIcicleClock$Street;)V"⟩, 7), (⟨"IcicleClock", "isDay", "(I)Z"⟩, 14), (⟨"IcicleClock", "isEave", "(I)Z"⟩, 14), (⟨"IcicleClock", "isIcicle", "(I)Z"⟩, 14)]
theorem lw_r1 : ∀ q ∈ lw_privs_1, lw_okq q := List.forall_mem_cons.mpr ⟨lw_p0, List.forall_mem_cons.mpr ⟨lw_p1, List.forall_mem_cons.mpr ⟨lw_p2, List.forall_mem_cons.mpr ⟨lw_p3, List.forall_mem_cons.mpr ⟨lw_p4, List.forall_mem_cons.mpr ⟨lw_p5, List.forall_mem_cons.mpr ⟨lw_p6, List.forall_mem_cons.mpr ⟨lw_p7, List.forall_mem_cons.mpr ⟨lw_p8, List.forall_mem_cons.mpr ⟨lw_p9, List.forall_mem_cons.mpr ⟨lw_p10, List.forall_mem_cons.mpr ⟨lw_p11, List.forall_mem_cons.mpr ⟨lw_p12, List.forall_mem_cons.mpr ⟨lw_p13, List.forall_mem_cons.mpr ⟨lw_p14, List.forall_mem_cons.mpr ⟨lw_p15, fun _ h => absurd h List.not_mem_nil⟩⟩⟩⟩⟩⟩⟩⟩⟩⟩⟩⟩⟩⟩⟩⟩
theorem lw_p16 : lw_okq (⟨"IcicleClock", "isWork", "(I)Z"⟩, 14) := ⟨⟨by decide +kernel, by decide +kernel⟩, List.mem_of_getElem? (i := 23) (by decide +kernel), List.mem_of_getElem? (i := 654) (by decide +kernel), List.mem_of_getElem? (i := 655) (by decide +kernel)⟩
theorem lw_p17 : lw_okq (⟨"IcicleClock", "isTold", "()Z"⟩, 14) := ⟨⟨by decide +kernel, by decide +kernel⟩, List.mem_of_getElem? (i := 23) (by decide +kernel), List.mem_of_getElem? (i := 714) (by decide +kernel), List.mem_of_getElem? (i := 715) (by decide +kernel)⟩
theorem lw_p18 : lw_okq (⟨"IcicleClock", "leastSize", "(II)I"⟩, 14) := ⟨⟨by decide +kernel, by decide +kernel⟩, List.mem_of_getElem? (i := 23) (by decide +kernel), List.mem_of_getElem? (i := 799) (by decide +kernel), List.mem_of_getElem? (i := 800) (by decide +kernel)⟩
theorem lw_p19 : lw_okq (⟨"IcicleClock", "mostSize", "(II)I"⟩, 14) := ⟨⟨by decide +kernel, by decide +kernel⟩, List.mem_of_getElem? (i := 23) (by decide +kernel), List.mem_of_getElem? (i := 803) (by decide +kernel), List.mem_of_getElem? (i := 804) (by decide +kernel)⟩
theorem lw_p20 : lw_okq (⟨"IcicleClock", "bestLength", "(I)I"⟩, 14) := ⟨⟨by decide +kernel, by decide +kernel⟩, List.mem_of_getElem? (i := 23) (by decide +kernel), List.mem_of_getElem? (i := 820) (by decide +kernel), List.mem_of_getElem? (i := 821) (by decide +kernel)⟩
theorem lw_p21 : lw_okq (⟨"IcicleClock", "offIfHung", "(II)I"⟩, 14) := ⟨⟨by decide +kernel, by decide +kernel⟩, List.mem_of_getElem? (i := 23) (by decide +kernel), List.mem_of_getElem? (i := 824) (by decide +kernel), List.mem_of_getElem? (i := 825) (by decide +kernel)⟩
theorem lw_p22 : lw_okq (⟨"IcicleClock", "areEaves", "(I)Z"⟩, 14) := ⟨⟨by decide +kernel, by decide +kernel⟩, List.mem_of_getElem? (i := 23) (by decide +kernel), List.mem_of_getElem? (i := 841) (by decide +kernel), List.mem_of_getElem? (i := 842) (by decide +kernel)⟩
theorem lw_p23 : lw_okq (⟨"IcicleClock", "refusal", "(IZI)I"⟩, 14) := ⟨⟨by decide +kernel, by decide +kernel⟩, List.mem_of_getElem? (i := 23) (by decide +kernel), List.mem_of_getElem? (i := 859) (by decide +kernel), List.mem_of_getElem? (i := 860) (by decide +kernel)⟩
theorem lw_p24 : lw_okq (⟨"IcicleClock$Seen", "note", "(II)V"⟩, 2) := ⟨⟨by decide +kernel, by decide +kernel⟩, List.mem_of_getElem? (i := 268) (by decide +kernel), List.mem_of_getElem? (i := 874) (by decide +kernel), List.mem_of_getElem? (i := 875) (by decide +kernel)⟩
theorem lw_p25 : lw_okq (⟨"IcicleClock$Slams", "searchUnder", "(LIcicleClock$Street;LIcicleClock$Winter;LIcicleClock$Seen;I)V"⟩, 3) := ⟨⟨by decide +kernel, by decide +kernel⟩, List.mem_of_getElem? (i := 283) (by decide +kernel), List.mem_of_getElem? (i := 884) (by decide +kernel), List.mem_of_getElem? (i := 885) (by decide +kernel)⟩
theorem lw_p26 : lw_okq (⟨"IcicleClock$Slams", "note", "(LIcicleClock$Street;LIcicleClock$Winter;)V"⟩, 3) := ⟨⟨by decide +kernel, by decide +kernel⟩, List.mem_of_getElem? (i := 283) (by decide +kernel), List.mem_of_getElem? (i := 896) (by decide +kernel), List.mem_of_getElem? (i := 897) (by decide +kernel)⟩
theorem lw_p27 : lw_okq (⟨"IcicleClock", "weatherRefusal", "(IIZ)I"⟩, 14) := ⟨⟨by decide +kernel, by decide +kernel⟩, List.mem_of_getElem? (i := 23) (by decide +kernel), List.mem_of_getElem? (i := 922) (by decide +kernel), List.mem_of_getElem? (i := 923) (by decide +kernel)⟩
theorem lw_p28 : lw_okq (⟨"IcicleClock$Weathers", "bound", "(II)V"⟩, 4) := ⟨⟨by decide +kernel, by decide +kernel⟩, List.mem_of_getElem? (i := 302) (by decide +kernel), List.mem_of_getElem? (i := 935) (by decide +kernel), List.mem_of_getElem? (i := 936) (by decide +kernel)⟩
theorem lw_p29 : lw_okq (⟨"IcicleClock$Weathers", "countGoings", "()V"⟩, 4) := ⟨⟨by decide +kernel, by decide +kernel⟩, List.mem_of_getElem? (i := 302) (by decide +kernel), List.mem_of_getElem? (i := 939) (by decide +kernel), List.mem_of_getElem? (i := 940) (by decide +kernel)⟩
theorem lw_p30 : lw_okq (⟨"IcicleClock$Weathers", "goingsBy", "(II)I"⟩, 4) := ⟨⟨by decide +kernel, by decide +kernel⟩, List.mem_of_getElem? (i := 302) (by decide +kernel), List.mem_of_getElem? (i := 944) (by decide +kernel), List.mem_of_getElem? (i := 945) (by decide +kernel)⟩
theorem lw_p31 : lw_okq (⟨"IcicleClock$Weathers", "sumsReached", "()I"⟩, 4) := ⟨⟨by decide +kernel, by decide +kernel⟩, List.mem_of_getElem? (i := 302) (by decide +kernel), List.mem_of_getElem? (i := 968) (by decide +kernel), List.mem_of_getElem? (i := 969) (by decide +kernel)⟩
def lw_privs_2 : List (MethodName × Nat) := [(⟨"IcicleClock", "isWork", "(I)Z"⟩, 14), (⟨"IcicleClock", "isTold", "()Z"⟩, 14), (⟨"IcicleClock", "leastSize", "(II)I"⟩, 14), (⟨"IcicleClock", "mostSize", "(II)I"⟩, 14), (⟨"IcicleClock", "bestLength", "(I)I"⟩, 14), (⟨"IcicleClock", "offIfHung", "(II)I"⟩, 14), (⟨"IcicleClock", "areEaves", "(I)Z"⟩, 14), (⟨"IcicleClock", "refusal", "(IZI)I"⟩, 14), (⟨"IcicleClock$Seen", "note", "(II)V"⟩, 2), (⟨"IcicleClock$Slams", "searchUnder", "(LIcicleClock$Street;LIcicleClock$Winter;LIcicleClock$Seen;I)V"⟩, 3), (⟨"IcicleClock$Slams", "note", "(LIcicleClock$Street;LIcicleClock$Winter;)V"⟩, 3), (⟨"IcicleClock", "weatherRefusal", "(IIZ)I"⟩, 14), (⟨"IcicleClock$Weathers", "bound", "(II)V"⟩, 4), (⟨"IcicleClock$Weathers", "countGoings", "()V"⟩, 4), (⟨"IcicleClock$Weathers", "goingsBy", "(II)I"⟩, 4), (⟨"IcicleClock$Weathers", "sumsReached", "()I"⟩, 4)]
theorem lw_r2 : ∀ q ∈ lw_privs_2, lw_okq q := List.forall_mem_cons.mpr ⟨lw_p16, List.forall_mem_cons.mpr ⟨lw_p17, List.forall_mem_cons.mpr ⟨lw_p18, List.forall_mem_cons.mpr ⟨lw_p19, List.forall_mem_cons.mpr ⟨lw_p20, List.forall_mem_cons.mpr ⟨lw_p21, List.forall_mem_cons.mpr ⟨lw_p22, List.forall_mem_cons.mpr ⟨lw_p23, List.forall_mem_cons.mpr ⟨lw_p24, List.forall_mem_cons.mpr ⟨lw_p25, List.forall_mem_cons.mpr ⟨lw_p26, List.forall_mem_cons.mpr ⟨lw_p27, List.forall_mem_cons.mpr ⟨lw_p28, List.forall_mem_cons.mpr ⟨lw_p29, List.forall_mem_cons.mpr ⟨lw_p30, List.forall_mem_cons.mpr ⟨lw_p31, fun _ h => absurd h List.not_mem_nil⟩⟩⟩⟩⟩⟩⟩⟩⟩⟩⟩⟩⟩⟩⟩⟩
theorem lw_p32 : lw_okq (⟨"IcicleClock$Chances", "warmOrNot", "(I)V"⟩, 4) := ⟨⟨by decide +kernel, by decide +kernel⟩, List.mem_of_getElem? (i := 322) (by decide +kernel), List.mem_of_getElem? (i := 988) (by decide +kernel), List.mem_of_getElem? (i := 989) (by decide +kernel)⟩
theorem lw_p33 : lw_okq (⟨"IcicleClock$Chances", "letFall", "(II)J"⟩, 4) := ⟨⟨by decide +kernel, by decide +kernel⟩, List.mem_of_getElem? (i := 322) (by decide +kernel), List.mem_of_getElem? (i := 995) (by decide +kernel), List.mem_of_getElem? (i := 996) (by decide +kernel)⟩
theorem lw_p34 : lw_okq (⟨"IcicleClock$Walker", "planFrom", "(II)V"⟩, 6) := ⟨⟨by decide +kernel, by decide +kernel⟩, List.mem_of_getElem? (i := 343) (by decide +kernel), List.mem_of_getElem? (i := 1023) (by decide +kernel), List.mem_of_getElem? (i := 1024) (by decide +kernel)⟩
theorem lw_p35 : lw_okq (⟨"IcicleClock$Walker", "firstOf", "(IIII)I"⟩, 6) := ⟨⟨by decide +kernel, by decide +kernel⟩, List.mem_of_getElem? (i := 343) (by decide +kernel), List.mem_of_getElem? (i := 1037) (by decide +kernel), List.mem_of_getElem? (i := 1038) (by decide +kernel)⟩
theorem lw_p36 : lw_okq (⟨"IcicleClock$Clerks", "isRest", "(LIcicleClock$Street;II)Z"⟩, 3) := ⟨⟨by decide +kernel, by decide +kernel⟩, List.mem_of_getElem? (i := 370) (by decide +kernel), List.mem_of_getElem? (i := 1059) (by decide +kernel), List.mem_of_getElem? (i := 1060) (by decide +kernel)⟩
theorem lw_p37 : lw_okq (⟨"IcicleClock$Clerks", "firstHas", "(LIcicleClock$Street;II)I"⟩, 3) := ⟨⟨by decide +kernel, by decide +kernel⟩, List.mem_of_getElem? (i := 370) (by decide +kernel), List.mem_of_getElem? (i := 1063) (by decide +kernel), List.mem_of_getElem? (i := 1064) (by decide +kernel)⟩
theorem lw_p38 : lw_okq (⟨"IcicleClock$Clerks", "secondHas", "(LIcicleClock$Street;II)I"⟩, 3) := ⟨⟨by decide +kernel, by decide +kernel⟩, List.mem_of_getElem? (i := 370) (by decide +kernel), List.mem_of_getElem? (i := 1067) (by decide +kernel), List.mem_of_getElem? (i := 1068) (by decide +kernel)⟩
theorem lw_p39 : lw_okq (⟨"IcicleClock", "drawWinter", "(J)V"⟩, 14) := ⟨⟨by decide +kernel, by decide +kernel⟩, List.mem_of_getElem? (i := 23) (by decide +kernel), List.mem_of_getElem? (i := 1102) (by decide +kernel), List.mem_of_getElem? (i := 1103) (by decide +kernel)⟩
theorem lw_p40 : lw_okq (⟨"IcicleClock", "slotsLaid", "()I"⟩, 14) := ⟨⟨by decide +kernel, by decide +kernel⟩, List.mem_of_getElem? (i := 23) (by decide +kernel), List.mem_of_getElem? (i := 1123) (by decide +kernel), List.mem_of_getElem? (i := 1124) (by decide +kernel)⟩
theorem lw_p41 : lw_okq (⟨"IcicleClockModel", "advance", "()V"⟩, 40) := ⟨⟨by decide +kernel, by decide +kernel⟩, List.mem_of_getElem? (i := 1160) (by decide +kernel), List.mem_of_getElem? (i := 1314) (by decide +kernel), List.mem_of_getElem? (i := 1315) (by decide +kernel)⟩
theorem lw_p42 : lw_okq (⟨"IcicleClockModel", "see", "(I)I"⟩, 40) := ⟨⟨by decide +kernel, by decide +kernel⟩, List.mem_of_getElem? (i := 1160) (by decide +kernel), List.mem_of_getElem? (i := 1318) (by decide +kernel), List.mem_of_getElem? (i := 1319) (by decide +kernel)⟩
theorem lw_p43 : lw_okq (⟨"IcicleClockModel", "good", "()Z"⟩, 40) := ⟨⟨by decide +kernel, by decide +kernel⟩, List.mem_of_getElem? (i := 1160) (by decide +kernel), List.mem_of_getElem? (i := 1328) (by decide +kernel), List.mem_of_getElem? (i := 1329) (by decide +kernel)⟩
theorem lw_p44 : lw_okq (⟨"IcicleClockModel", "readLine", "()V"⟩, 40) := ⟨⟨by decide +kernel, by decide +kernel⟩, List.mem_of_getElem? (i := 1160) (by decide +kernel), List.mem_of_getElem? (i := 1332) (by decide +kernel), List.mem_of_getElem? (i := 1333) (by decide +kernel)⟩
theorem lw_p45 : lw_okq (⟨"IcicleClockModel", "needs", "(Ljava/lang/String;)V"⟩, 40) := ⟨⟨by decide +kernel, by decide +kernel⟩, List.mem_of_getElem? (i := 1160) (by decide +kernel), List.mem_of_getElem? (i := 1337) (by decide +kernel), List.mem_of_getElem? (i := 1338) (by decide +kernel)⟩
theorem lw_p46 : lw_okq (⟨"IcicleClockModel", "takes", "(Ljava/lang/String;)Z"⟩, 40) := ⟨⟨by decide +kernel, by decide +kernel⟩, List.mem_of_getElem? (i := 1160) (by decide +kernel), List.mem_of_getElem? (i := 1341) (by decide +kernel), List.mem_of_getElem? (i := 1342) (by decide +kernel)⟩
theorem lw_p47 : lw_okq (⟨"IcicleClockModel", "is", "(Ljava/lang/String;)Z"⟩, 40) := ⟨⟨by decide +kernel, by decide +kernel⟩, List.mem_of_getElem? (i := 1160) (by decide +kernel), List.mem_of_getElem? (i := 1345) (by decide +kernel), List.mem_of_getElem? (i := 1346) (by decide +kernel)⟩
def lw_privs_3 : List (MethodName × Nat) := [(⟨"IcicleClock$Chances", "warmOrNot", "(I)V"⟩, 4), (⟨"IcicleClock$Chances", "letFall", "(II)J"⟩, 4), (⟨"IcicleClock$Walker", "planFrom", "(II)V"⟩, 6), (⟨"IcicleClock$Walker", "firstOf", "(IIII)I"⟩, 6), (⟨"IcicleClock$Clerks", "isRest", "(LIcicleClock$Street;II)Z"⟩, 3), (⟨"IcicleClock$Clerks", "firstHas", "(LIcicleClock$Street;II)I"⟩, 3), (⟨"IcicleClock$Clerks", "secondHas", "(LIcicleClock$Street;II)I"⟩, 3), (⟨"IcicleClock", "drawWinter", "(J)V"⟩, 14), (⟨"IcicleClock", "slotsLaid", "()I"⟩, 14), (⟨"IcicleClockModel", "advance", "()V"⟩, 40), (⟨"IcicleClockModel", "see", "(I)I"⟩, 40), (⟨"IcicleClockModel", "good", "()Z"⟩, 40), (⟨"IcicleClockModel", "readLine", "()V"⟩, 40), (⟨"IcicleClockModel", "needs", "(Ljava/lang/String;)V"⟩, 40), (⟨"IcicleClockModel", "takes", "(Ljava/lang/String;)Z"⟩, 40), (⟨"IcicleClockModel", "is", "(Ljava/lang/String;)Z"⟩, 40)]
theorem lw_r3 : ∀ q ∈ lw_privs_3, lw_okq q := List.forall_mem_cons.mpr ⟨lw_p32, List.forall_mem_cons.mpr ⟨lw_p33, List.forall_mem_cons.mpr ⟨lw_p34, List.forall_mem_cons.mpr ⟨lw_p35, List.forall_mem_cons.mpr ⟨lw_p36, List.forall_mem_cons.mpr ⟨lw_p37, List.forall_mem_cons.mpr ⟨lw_p38, List.forall_mem_cons.mpr ⟨lw_p39, List.forall_mem_cons.mpr ⟨lw_p40, List.forall_mem_cons.mpr ⟨lw_p41, List.forall_mem_cons.mpr ⟨lw_p42, List.forall_mem_cons.mpr ⟨lw_p43, List.forall_mem_cons.mpr ⟨lw_p44, List.forall_mem_cons.mpr ⟨lw_p45, List.forall_mem_cons.mpr ⟨lw_p46, List.forall_mem_cons.mpr ⟨lw_p47, fun _ h => absurd h List.not_mem_nil⟩⟩⟩⟩⟩⟩⟩⟩⟩⟩⟩⟩⟩⟩⟩⟩
theorem lw_p48 : lw_okq (⟨"IcicleClockModel", "errs", "(I)V"⟩, 40) := ⟨⟨by decide +kernel, by decide +kernel⟩, List.mem_of_getElem? (i := 1160) (by decide +kernel), List.mem_of_getElem? (i := 1351) (by decide +kernel), List.mem_of_getElem? (i := 1352) (by decide +kernel)⟩
theorem lw_p49 : lw_okq (⟨"IcicleClockModel", "told", "(Ljava/lang/String;II)I"⟩, 40) := ⟨⟨by decide +kernel, by decide +kernel⟩, List.mem_of_getElem? (i := 1160) (by decide +kernel), List.mem_of_getElem? (i := 1356) (by decide +kernel), List.mem_of_getElem? (i := 1357) (by decide +kernel)⟩
theorem lw_p50 : lw_okq (⟨"IcicleClockModel", "number", "(II)I"⟩, 40) := ⟨⟨by decide +kernel, by decide +kernel⟩, List.mem_of_getElem? (i := 1160) (by decide +kernel), List.mem_of_getElem? (i := 1360) (by decide +kernel), List.mem_of_getElem? (i := 1361) (by decide +kernel)⟩
theorem lw_p51 : lw_okq (⟨"IcicleClockModel", "readNext", "()V"⟩, 40) := ⟨⟨by decide +kernel, by decide +kernel⟩, List.mem_of_getElem? (i := 1160) (by decide +kernel), List.mem_of_getElem? (i := 1366) (by decide +kernel), List.mem_of_getElem? (i := 1367) (by decide +kernel)⟩
theorem lw_p52 : lw_okq (⟨"IcicleClockModel", "readDay", "()V"⟩, 40) := ⟨⟨by decide +kernel, by decide +kernel⟩, List.mem_of_getElem? (i := 1160) (by decide +kernel), List.mem_of_getElem? (i := 1374) (by decide +kernel), List.mem_of_getElem? (i := 1375) (by decide +kernel)⟩
theorem lw_p53 : lw_okq (⟨"IcicleClockModel", "readIcicle", "()V"⟩, 40) := ⟨⟨by decide +kernel, by decide +kernel⟩, List.mem_of_getElem? (i := 1160) (by decide +kernel), List.mem_of_getElem? (i := 1381) (by decide +kernel), List.mem_of_getElem? (i := 1382) (by decide +kernel)⟩
theorem lw_p54 : lw_okq (⟨"IcicleClockModel", "isDay", "(I)Z"⟩, 40) := ⟨⟨by decide +kernel, by decide +kernel⟩, List.mem_of_getElem? (i := 1160) (by decide +kernel), List.mem_of_getElem? (i := 1393) (by decide +kernel), List.mem_of_getElem? (i := 1394) (by decide +kernel)⟩
theorem lw_p55 : lw_okq (⟨"IcicleClockModel", "thawOf", "(I)I"⟩, 40) := ⟨⟨by decide +kernel, by decide +kernel⟩, List.mem_of_getElem? (i := 1160) (by decide +kernel), List.mem_of_getElem? (i := 1397) (by decide +kernel), List.mem_of_getElem? (i := 1398) (by decide +kernel)⟩
theorem lw_p56 : lw_okq (⟨"IcicleClockModel", "isEave", "(I)Z"⟩, 40) := ⟨⟨by decide +kernel, by decide +kernel⟩, List.mem_of_getElem? (i := 1160) (by decide +kernel), List.mem_of_getElem? (i := 1405) (by decide +kernel), List.mem_of_getElem? (i := 1406) (by decide +kernel)⟩
theorem lw_p57 : lw_okq (⟨"IcicleClockModel", "sunOf", "(I)I"⟩, 40) := ⟨⟨by decide +kernel, by decide +kernel⟩, List.mem_of_getElem? (i := 1160) (by decide +kernel), List.mem_of_getElem? (i := 1409) (by decide +kernel), List.mem_of_getElem? (i := 1410) (by decide +kernel)⟩
theorem lw_p58 : lw_okq (⟨"IcicleClockModel", "isIcicle", "(J)Z"⟩, 40) := ⟨⟨by decide +kernel, by decide +kernel⟩, List.mem_of_getElem? (i := 1160) (by decide +kernel), List.mem_of_getElem? (i := 1420) (by decide +kernel), List.mem_of_getElem? (i := 1421) (by decide +kernel)⟩
theorem lw_p59 : lw_okq (⟨"IcicleClockModel", "of", "(II)I"⟩, 40) := ⟨⟨by decide +kernel, by decide +kernel⟩, List.mem_of_getElem? (i := 1160) (by decide +kernel), List.mem_of_getElem? (i := 1424) (by decide +kernel), List.mem_of_getElem? (i := 1425) (by decide +kernel)⟩
theorem lw_p60 : lw_okq (⟨"IcicleClockModel", "isWork", "(I)Z"⟩, 40) := ⟨⟨by decide +kernel, by decide +kernel⟩, List.mem_of_getElem? (i := 1160) (by decide +kernel), List.mem_of_getElem? (i := 1432) (by decide +kernel), List.mem_of_getElem? (i := 1433) (by decide +kernel)⟩
theorem lw_p61 : lw_okq (⟨"IcicleClockModel", "layAll", "()V"⟩, 40) := ⟨⟨by decide +kernel, by decide +kernel⟩, List.mem_of_getElem? (i := 1160) (by decide +kernel), List.mem_of_getElem? (i := 1444) (by decide +kernel), List.mem_of_getElem? (i := 1445) (by decide +kernel)⟩
theorem lw_p62 : lw_okq (⟨"IcicleClockModel", "layOff", "(I)V"⟩, 40) := ⟨⟨by decide +kernel, by decide +kernel⟩, List.mem_of_getElem? (i := 1160) (by decide +kernel), List.mem_of_getElem? (i := 1448) (by decide +kernel), List.mem_of_getElem? (i := 1449) (by decide +kernel)⟩
theorem lw_p63 : lw_okq (⟨"IcicleClockModel", "layFalls", "()V"⟩, 40) := ⟨⟨by decide +kernel, by decide +kernel⟩, List.mem_of_getElem? (i := 1160) (by decide +kernel), List.mem_of_getElem? (i := 1455) (by decide +kernel), List.mem_of_getElem? (i := 1456) (by decide +kernel)⟩
def lw_privs_4 : List (MethodName × Nat) := [(⟨"IcicleClockModel", "errs", "(I)V"⟩, 40), (⟨"IcicleClockModel", "told", "(Ljava/lang/String;II)I"⟩, 40), (⟨"IcicleClockModel", "number", "(II)I"⟩, 40), (⟨"IcicleClockModel", "readNext", "()V"⟩, 40), (⟨"IcicleClockModel", "readDay", "()V"⟩, 40), (⟨"IcicleClockModel", "readIcicle", "()V"⟩, 40), (⟨"IcicleClockModel", "isDay", "(I)Z"⟩, 40), (⟨"IcicleClockModel", "thawOf", "(I)I"⟩, 40), (⟨"IcicleClockModel", "isEave", "(I)Z"⟩, 40), (⟨"IcicleClockModel", "sunOf", "(I)I"⟩, 40), (⟨"IcicleClockModel", "isIcicle", "(J)Z"⟩, 40), (⟨"IcicleClockModel", "of", "(II)I"⟩, 40), (⟨"IcicleClockModel", "isWork", "(I)Z"⟩, 40), (⟨"IcicleClockModel", "layAll", "()V"⟩, 40), (⟨"IcicleClockModel", "layOff", "(I)V"⟩, 40), (⟨"IcicleClockModel", "layFalls", "()V"⟩, 40)]
theorem lw_r4 : ∀ q ∈ lw_privs_4, lw_okq q := List.forall_mem_cons.mpr ⟨lw_p48, List.forall_mem_cons.mpr ⟨lw_p49, List.forall_mem_cons.mpr ⟨lw_p50, List.forall_mem_cons.mpr ⟨lw_p51, List.forall_mem_cons.mpr ⟨lw_p52, List.forall_mem_cons.mpr ⟨lw_p53, List.forall_mem_cons.mpr ⟨lw_p54, List.forall_mem_cons.mpr ⟨lw_p55, List.forall_mem_cons.mpr ⟨lw_p56, List.forall_mem_cons.mpr ⟨lw_p57, List.forall_mem_cons.mpr ⟨lw_p58, List.forall_mem_cons.mpr ⟨lw_p59, List.forall_mem_cons.mpr ⟨lw_p60, List.forall_mem_cons.mpr ⟨lw_p61, List.forall_mem_cons.mpr ⟨lw_p62, List.forall_mem_cons.mpr ⟨lw_p63, fun _ h => absurd h List.not_mem_nil⟩⟩⟩⟩⟩⟩⟩⟩⟩⟩⟩⟩⟩⟩⟩⟩
theorem lw_p64 : lw_okq (⟨"IcicleClockModel", "fallsBy", "(II)I"⟩, 40) := ⟨⟨by decide +kernel, by decide +kernel⟩, List.mem_of_getElem? (i := 1160) (by decide +kernel), List.mem_of_getElem? (i := 1459) (by decide +kernel), List.mem_of_getElem? (i := 1460) (by decide +kernel)⟩
theorem lw_p65 : lw_okq (⟨"IcicleClockModel", "lengthBehind", "(II)I"⟩, 40) := ⟨⟨by decide +kernel, by decide +kernel⟩, List.mem_of_getElem? (i := 1160) (by decide +kernel), List.mem_of_getElem? (i := 1467) (by decide +kernel), List.mem_of_getElem? (i := 1468) (by decide +kernel)⟩
theorem lw_p66 : lw_okq (⟨"IcicleClockModel", "dropsOn", "(I)I"⟩, 40) := ⟨⟨by decide +kernel, by decide +kernel⟩, List.mem_of_getElem? (i := 1160) (by decide +kernel), List.mem_of_getElem? (i := 1480) (by decide +kernel), List.mem_of_getElem? (i := 1481) (by decide +kernel)⟩
theorem lw_p67 : lw_okq (⟨"IcicleClockModel", "fellBy", "(II)Z"⟩, 40) := ⟨⟨by decide +kernel, by decide +kernel⟩, List.mem_of_getElem? (i := 1160) (by decide +kernel), List.mem_of_getElem? (i := 1488) (by decide +kernel), List.mem_of_getElem? (i := 1489) (by decide +kernel)⟩
theorem lw_p68 : lw_okq (⟨"IcicleClockModel", "isStreet", "()Z"⟩, 40) := ⟨⟨by decide +kernel, by decide +kernel⟩, List.mem_of_getElem? (i := 1160) (by decide +kernel), List.mem_of_getElem? (i := 1500) (by decide +kernel), List.mem_of_getElem? (i := 1501) (by decide +kernel)⟩
theorem lw_p69 : lw_okq (⟨"IcicleClockModel", "timeOf", "(II)I"⟩, 40) := ⟨⟨by decide +kernel, by decide +kernel⟩, List.mem_of_getElem? (i := 1160) (by decide +kernel), List.mem_of_getElem? (i := 1511) (by decide +kernel), List.mem_of_getElem? (i := 1512) (by decide +kernel)⟩
theorem lw_p70 : lw_okq (⟨"IcicleClockModel", "meetOf", "(II)I"⟩, 40) := ⟨⟨by decide +kernel, by decide +kernel⟩, List.mem_of_getElem? (i := 1160) (by decide +kernel), List.mem_of_getElem? (i := 1523) (by decide +kernel), List.mem_of_getElem? (i := 1524) (by decide +kernel)⟩
theorem lw_p71 : lw_okq (⟨"IcicleClockModel", "lateOf", "(I)I"⟩, 40) := ⟨⟨by decide +kernel, by decide +kernel⟩, List.mem_of_getElem? (i := 1160) (by decide +kernel), List.mem_of_getElem? (i := 1536) (by decide +kernel), List.mem_of_getElem? (i := 1537) (by decide +kernel)⟩
theorem lw_p72 : lw_okq (⟨"IcicleClockModel", "offAll", "()I"⟩, 40) := ⟨⟨by decide +kernel, by decide +kernel⟩, List.mem_of_getElem? (i := 1160) (by decide +kernel), List.mem_of_getElem? (i := 1548) (by decide +kernel), List.mem_of_getElem? (i := 1549) (by decide +kernel)⟩
theorem lw_p73 : lw_okq (⟨"IcicleClockModel", "areThen", "(II)Z"⟩, 40) := ⟨⟨by decide +kernel, by decide +kernel⟩, List.mem_of_getElem? (i := 1160) (by decide +kernel), List.mem_of_getElem? (i := 1560) (by decide +kernel), List.mem_of_getElem? (i := 1561) (by decide +kernel)⟩
theorem lw_p74 : lw_okq (⟨"IcicleClockModel", "bestOf", "(I)I"⟩, 40) := ⟨⟨by decide +kernel, by decide +kernel⟩, List.mem_of_getElem? (i := 1160) (by decide +kernel), List.mem_of_getElem? (i := 1577) (by decide +kernel), List.mem_of_getElem? (i := 1578) (by decide +kernel)⟩
theorem lw_p75 : lw_okq (⟨"IcicleClockModel", "dropsAt", "(II)I"⟩, 40) := ⟨⟨by decide +kernel, by decide +kernel⟩, List.mem_of_getElem? (i := 1160) (by decide +kernel), List.mem_of_getElem? (i := 1598) (by decide +kernel), List.mem_of_getElem? (i := 1599) (by decide +kernel)⟩
theorem lw_p76 : lw_okq (⟨"IcicleClockModel", "isRound", "(II)Z"⟩, 40) := ⟨⟨by decide +kernel, by decide +kernel⟩, List.mem_of_getElem? (i := 1160) (by decide +kernel), List.mem_of_getElem? (i := 1610) (by decide +kernel), List.mem_of_getElem? (i := 1611) (by decide +kernel)⟩
theorem lw_p77 : lw_okq (⟨"IcicleClockModel", "layRounds", "(II)I"⟩, 40) := ⟨⟨by decide +kernel, by decide +kernel⟩, List.mem_of_getElem? (i := 1160) (by decide +kernel), List.mem_of_getElem? (i := 1614) (by decide +kernel), List.mem_of_getElem? (i := 1615) (by decide +kernel)⟩
theorem lw_p78 : lw_okq (⟨"IcicleClockModel", "roundBy", "(III)I"⟩, 40) := ⟨⟨by decide +kernel, by decide +kernel⟩, List.mem_of_getElem? (i := 1160) (by decide +kernel), List.mem_of_getElem? (i := 1618) (by decide +kernel), List.mem_of_getElem? (i := 1619) (by decide +kernel)⟩
theorem lw_p79 : lw_okq (⟨"IcicleClockModel", "laySlams", "(I)I"⟩, 40) := ⟨⟨by decide +kernel, by decide +kernel⟩, List.mem_of_getElem? (i := 1160) (by decide +kernel), List.mem_of_getElem? (i := 1630) (by decide +kernel), List.mem_of_getElem? (i := 1631) (by decide +kernel)⟩
def lw_privs_5 : List (MethodName × Nat) := [(⟨"IcicleClockModel", "fallsBy", "(II)I"⟩, 40), (⟨"IcicleClockModel", "lengthBehind", "(II)I"⟩, 40), (⟨"IcicleClockModel", "dropsOn", "(I)I"⟩, 40), (⟨"IcicleClockModel", "fellBy", "(II)Z"⟩, 40), (⟨"IcicleClockModel", "isStreet", "()Z"⟩, 40), (⟨"IcicleClockModel", "timeOf", "(II)I"⟩, 40), (⟨"IcicleClockModel", "meetOf", "(II)I"⟩, 40), (⟨"IcicleClockModel", "lateOf", "(I)I"⟩, 40), (⟨"IcicleClockModel", "offAll", "()I"⟩, 40), (⟨"IcicleClockModel", "areThen", "(II)Z"⟩, 40), (⟨"IcicleClockModel", "bestOf", "(I)I"⟩, 40), (⟨"IcicleClockModel", "dropsAt", "(II)I"⟩, 40), (⟨"IcicleClockModel", "isRound", "(II)Z"⟩, 40), (⟨"IcicleClockModel", "layRounds", "(II)I"⟩, 40), (⟨"IcicleClockModel", "roundBy", "(III)I"⟩, 40), (⟨"IcicleClockModel", "laySlams", "(I)I"⟩, 40)]
theorem lw_r5 : ∀ q ∈ lw_privs_5, lw_okq q := List.forall_mem_cons.mpr ⟨lw_p64, List.forall_mem_cons.mpr ⟨lw_p65, List.forall_mem_cons.mpr ⟨lw_p66, List.forall_mem_cons.mpr ⟨lw_p67, List.forall_mem_cons.mpr ⟨lw_p68, List.forall_mem_cons.mpr ⟨lw_p69, List.forall_mem_cons.mpr ⟨lw_p70, List.forall_mem_cons.mpr ⟨lw_p71, List.forall_mem_cons.mpr ⟨lw_p72, List.forall_mem_cons.mpr ⟨lw_p73, List.forall_mem_cons.mpr ⟨lw_p74, List.forall_mem_cons.mpr ⟨lw_p75, List.forall_mem_cons.mpr ⟨lw_p76, List.forall_mem_cons.mpr ⟨lw_p77, List.forall_mem_cons.mpr ⟨lw_p78, List.forall_mem_cons.mpr ⟨lw_p79, fun _ h => absurd h List.not_mem_nil⟩⟩⟩⟩⟩⟩⟩⟩⟩⟩⟩⟩⟩⟩⟩⟩
theorem lw_p80 : lw_okq (⟨"IcicleClockModel", "asksSeen", "(IZI)I"⟩, 40) := ⟨⟨by decide +kernel, by decide +kernel⟩, List.mem_of_getElem? (i := 1160) (by decide +kernel), List.mem_of_getElem? (i := 1634) (by decide +kernel), List.mem_of_getElem? (i := 1635) (by decide +kernel)⟩
theorem lw_p81 : lw_okq (⟨"IcicleClockModel", "numberAt", "(II)J"⟩, 40) := ⟨⟨by decide +kernel, by decide +kernel⟩, List.mem_of_getElem? (i := 1160) (by decide +kernel), List.mem_of_getElem? (i := 1642) (by decide +kernel), List.mem_of_getElem? (i := 1643) (by decide +kernel)⟩
theorem lw_p82 : lw_okq (⟨"IcicleClockModel", "isSeen", "(I)Z"⟩, 40) := ⟨⟨by decide +kernel, by decide +kernel⟩, List.mem_of_getElem? (i := 1160) (by decide +kernel), List.mem_of_getElem? (i := 1647) (by decide +kernel), List.mem_of_getElem? (i := 1648) (by decide +kernel)⟩
theorem lw_p83 : lw_okq (⟨"IcicleClockModel", "layWeathers", "(IIZ)I"⟩, 40) := ⟨⟨by decide +kernel, by decide +kernel⟩, List.mem_of_getElem? (i := 1160) (by decide +kernel), List.mem_of_getElem? (i := 1667) (by decide +kernel), List.mem_of_getElem? (i := 1668) (by decide +kernel)⟩
theorem lw_p84 : lw_okq (⟨"IcicleClockModel", "layWarm", "(II)V"⟩, 40) := ⟨⟨by decide +kernel, by decide +kernel⟩, List.mem_of_getElem? (i := 1160) (by decide +kernel), List.mem_of_getElem? (i := 1688) (by decide +kernel), List.mem_of_getElem? (i := 1689) (by decide +kernel)⟩
theorem lw_p85 : lw_okq (⟨"IcicleClockModel", "goWarm", "(I)V"⟩, 40) := ⟨⟨by decide +kernel, by decide +kernel⟩, List.mem_of_getElem? (i := 1160) (by decide +kernel), List.mem_of_getElem? (i := 1692) (by decide +kernel), List.mem_of_getElem? (i := 1693) (by decide +kernel)⟩
theorem lw_p86 : lw_okq (⟨"IcicleClockModel", "isThaw", "(I)Z"⟩, 40) := ⟨⟨by decide +kernel, by decide +kernel⟩, List.mem_of_getElem? (i := 1160) (by decide +kernel), List.mem_of_getElem? (i := 1696) (by decide +kernel), List.mem_of_getElem? (i := 1697) (by decide +kernel)⟩
theorem lw_p87 : lw_okq (⟨"IcicleClockModel", "layWalks", "()Z"⟩, 40) := ⟨⟨by decide +kernel, by decide +kernel⟩, List.mem_of_getElem? (i := 1160) (by decide +kernel), List.mem_of_getElem? (i := 1715) (by decide +kernel), List.mem_of_getElem? (i := 1716) (by decide +kernel)⟩
theorem lw_p88 : lw_okq (⟨"IcicleClockModel", "leastFrom", "(II)I"⟩, 40) := ⟨⟨by decide +kernel, by decide +kernel⟩, List.mem_of_getElem? (i := 1160) (by decide +kernel), List.mem_of_getElem? (i := 1719) (by decide +kernel), List.mem_of_getElem? (i := 1720) (by decide +kernel)⟩
theorem lw_p89 : lw_okq (⟨"IcicleClockModel", "struckFrom", "(II)I"⟩, 40) := ⟨⟨by decide +kernel, by decide +kernel⟩, List.mem_of_getElem? (i := 1160) (by decide +kernel), List.mem_of_getElem? (i := 1723) (by decide +kernel), List.mem_of_getElem? (i := 1724) (by decide +kernel)⟩
theorem lw_p90 : lw_okq (⟨"IcicleClockModel", "waysFrom", "(II)I"⟩, 40) := ⟨⟨by decide +kernel, by decide +kernel⟩, List.mem_of_getElem? (i := 1160) (by decide +kernel), List.mem_of_getElem? (i := 1727) (by decide +kernel), List.mem_of_getElem? (i := 1728) (by decide +kernel)⟩
theorem lw_p91 : lw_okq (⟨"IcicleClockModel", "layRests", "()I"⟩, 40) := ⟨⟨by decide +kernel, by decide +kernel⟩, List.mem_of_getElem? (i := 1160) (by decide +kernel), List.mem_of_getElem? (i := 1743) (by decide +kernel), List.mem_of_getElem? (i := 1744) (by decide +kernel)⟩
theorem lw_p92 : lw_okq (⟨"IcicleClockModel", "isRest", "(II)Z"⟩, 40) := ⟨⟨by decide +kernel, by decide +kernel⟩, List.mem_of_getElem? (i := 1160) (by decide +kernel), List.mem_of_getElem? (i := 1747) (by decide +kernel), List.mem_of_getElem? (i := 1748) (by decide +kernel)⟩
theorem lw_p93 : lw_okq (⟨"IcicleClockModel", "hasFirst", "(II)I"⟩, 40) := ⟨⟨by decide +kernel, by decide +kernel⟩, List.mem_of_getElem? (i := 1160) (by decide +kernel), List.mem_of_getElem? (i := 1751) (by decide +kernel), List.mem_of_getElem? (i := 1752) (by decide +kernel)⟩
theorem lw_p94 : lw_okq (⟨"IcicleClockModel", "hasSecond", "(II)I"⟩, 40) := ⟨⟨by decide +kernel, by decide +kernel⟩, List.mem_of_getElem? (i := 1160) (by decide +kernel), List.mem_of_getElem? (i := 1755) (by decide +kernel), List.mem_of_getElem? (i := 1756) (by decide +kernel)⟩
theorem lw_p95 : lw_okq (⟨"IcicleClockModel", "keepAct", "(I)Z"⟩, 40) := ⟨⟨by decide +kernel, by decide +kernel⟩, List.mem_of_getElem? (i := 1160) (by decide +kernel), List.mem_of_getElem? (i := 1767) (by decide +kernel), List.mem_of_getElem? (i := 1768) (by decide +kernel)⟩
def lw_privs_6 : List (MethodName × Nat) := [(⟨"IcicleClockModel", "asksSeen", "(IZI)I"⟩, 40), (⟨"IcicleClockModel", "numberAt", "(II)J"⟩, 40), (⟨"IcicleClockModel", "isSeen", "(I)Z"⟩, 40), (⟨"IcicleClockModel", "layWeathers", "(IIZ)I"⟩, 40), (⟨"IcicleClockModel", "layWarm", "(II)V"⟩, 40), (⟨"IcicleClockModel", "goWarm", "(I)V"⟩, 40), (⟨"IcicleClockModel", "isThaw", "(I)Z"⟩, 40), (⟨"IcicleClockModel", "layWalks", "()Z"⟩, 40), (⟨"IcicleClockModel", "leastFrom", "(II)I"⟩, 40), (⟨"IcicleClockModel", "struckFrom", "(II)I"⟩, 40), (⟨"IcicleClockModel", "waysFrom", "(II)I"⟩, 40), (⟨"IcicleClockModel", "layRests", "()I"⟩, 40), (⟨"IcicleClockModel", "isRest", "(II)Z"⟩, 40), (⟨"IcicleClockModel", "hasFirst", "(II)I"⟩, 40), (⟨"IcicleClockModel", "hasSecond", "(II)I"⟩, 40), (⟨"IcicleClockModel", "keepAct", "(I)Z"⟩, 40)]
theorem lw_r6 : ∀ q ∈ lw_privs_6, lw_okq q := List.forall_mem_cons.mpr ⟨lw_p80, List.forall_mem_cons.mpr ⟨lw_p81, List.forall_mem_cons.mpr ⟨lw_p82, List.forall_mem_cons.mpr ⟨lw_p83, List.forall_mem_cons.mpr ⟨lw_p84, List.forall_mem_cons.mpr ⟨lw_p85, List.forall_mem_cons.mpr ⟨lw_p86, List.forall_mem_cons.mpr ⟨lw_p87, List.forall_mem_cons.mpr ⟨lw_p88, List.forall_mem_cons.mpr ⟨lw_p89, List.forall_mem_cons.mpr ⟨lw_p90, List.forall_mem_cons.mpr ⟨lw_p91, List.forall_mem_cons.mpr ⟨lw_p92, List.forall_mem_cons.mpr ⟨lw_p93, List.forall_mem_cons.mpr ⟨lw_p94, List.forall_mem_cons.mpr ⟨lw_p95, fun _ h => absurd h List.not_mem_nil⟩⟩⟩⟩⟩⟩⟩⟩⟩⟩⟩⟩⟩⟩⟩⟩
theorem lw_p96 : lw_okq (⟨"IcicleClockModel", "goDrawn", "(J)V"⟩, 40) := ⟨⟨by decide +kernel, by decide +kernel⟩, List.mem_of_getElem? (i := 1160) (by decide +kernel), List.mem_of_getElem? (i := 1791) (by decide +kernel), List.mem_of_getElem? (i := 1792) (by decide +kernel)⟩
def lw_privs_7 : List (MethodName × Nat) := [(⟨"IcicleClockModel", "goDrawn", "(J)V"⟩, 40)]
theorem lw_r7 : ∀ q ∈ lw_privs_7, lw_okq q := List.forall_mem_cons.mpr ⟨lw_p96, fun _ h => absurd h List.not_mem_nil⟩
def lw_privs : List (MethodName × Nat) := lw_privs_1 ++ (lw_privs_2 ++ (lw_privs_3 ++ (lw_privs_4 ++ (lw_privs_5 ++ (lw_privs_6 ++ (lw_privs_7))))))
def lw_tbl : List Cond := k2_sels lw_privs ++ tables_1
theorem lw_privs_ok : ∀ q ∈ lw_privs, lw_okq q := by
  show ∀ q ∈ lw_privs_1 ++ (lw_privs_2 ++ (lw_privs_3 ++ (lw_privs_4 ++ (lw_privs_5 ++ (lw_privs_6 ++ (lw_privs_7)))))), lw_okq q
  exact List.forall_mem_append.mpr ⟨lw_r1, List.forall_mem_append.mpr ⟨lw_r2, List.forall_mem_append.mpr ⟨lw_r3, List.forall_mem_append.mpr ⟨lw_r4, List.forall_mem_append.mpr ⟨lw_r5, List.forall_mem_append.mpr ⟨lw_r6, lw_r7⟩⟩⟩⟩⟩⟩
end
section
theorem goodIn_r {big : List Cond} (ws : List Cond) (ps : List Nat) (hp : ws = ps.filterMap (fun i => big[i]?)) (h : ws.all goodWord = true) : GoodIn big ws := by
  intro w hw
  have h1 := List.all_eq_true.mp h w hw
  rw [hp] at hw
  obtain ⟨i, -, hi⟩ := List.mem_filterMap.mp hw
  have hm : w ∈ big := by first | exact List.mem_of_getElem? hi | exact List.getElem?_mem hi
  exact ⟨hm, good_of_word h1⟩
theorem goodIn_app {big a b : List Cond} (ha : GoodIn big a) (hb : GoodIn big b) : GoodIn big (a ++ b) := fun w h => (List.mem_append.mp h).elim (ha w) (hb w)
theorem goodIn_ca {big a b : List Cond} {c : Cond} (ha : GoodIn big (c :: a)) (hb : GoodIn big b) : GoodIn big (c :: (a ++ b)) := fun w h => (List.mem_cons.mp h).elim (fun e => ha w (List.mem_cons.mpr (Or.inl e))) (fun h => (List.mem_append.mp h).elim (fun h => ha w (List.mem_cons.mpr (Or.inr h))) (hb w))
theorem goodIn_sub {big ws : List Cond} (hm : ∀ w ∈ ws, w ∈ big) (h : ws.all goodWord = true) : GoodIn big ws := fun w hw => ⟨hm w hw, good_of_word (List.all_eq_true.mp h w hw)⟩
def RX0 : String := "IcicleClock$Acts"
def TX0 : u_T := fun k => match k with
  | 0 => ("IcicleClock$Acts", "done", "I", false)
  | 1 => ("IcicleClock$Acts", "eaves", "[I", true)
  | 2 => ("IcicleClock$Acts", "days", "[I", true)
  | 3 => ("IcicleClock$Acts", "slammed", "[[I", true)
  | _ => ("IcicleClock$Acts", "rung", "[I", true)
def tyX0 : Nat → FieldType := fun k => match k with
  | 0 => .int
  | 1 => .array .int
  | 2 => .array .int
  | 3 => .array (.array .int)
  | _ => .array .int
abbrev wsX00 : List Cond := u_ws RX0 TX0 5
theorem nmX0 : ∀ a, a < 5 → ∀ b, b < 5 → a ≠ b → (TX0 a).2.1 ≠ (TX0 b).2.1 := by decide +kernel
theorem tyX0_ok : ∀ k, k < 5 → parseFieldDescriptor (TX0 k).2.2.1 = some (tyX0 k) := by decide +kernel
abbrev cX0_init : ByteArray := prog_2_method_1_code
def yX0_init : MethodName := ⟨RX0, "<init>", "()V"⟩
abbrev cX0_add : ByteArray := prog_2_method_2_code
def yX0_add : MethodName := ⟨RX0, "add", "(II)Z"⟩
abbrev cX0_takeBack : ByteArray := prog_2_method_3_code
def yX0_takeBack : MethodName := ⟨RX0, "takeBack", "()Z"⟩
abbrev cX0_clear : ByteArray := prog_2_method_4_code
def yX0_clear : MethodName := ⟨RX0, "clear", "()V"⟩
abbrev cX0_copyFrom : ByteArray := prog_2_method_5_code
def yX0_copyFrom : MethodName := ⟨RX0, "copyFrom", "(LIcicleClock$Acts;)V"⟩
abbrev cX0_tally : ByteArray := prog_2_method_6_code
def yX0_tally : MethodName := ⟨RX0, "tally", "(III)V"⟩
def RX1 : String := "IcicleClock$Chances"
def TX1 : u_T := fun k => match k with
  | 0 => ("IcicleClock$Chances", "hanging", "[J", true)
  | 1 => ("IcicleClock$Chances", "weight", "[J", true)
  | 2 => ("IcicleClock$Chances", "whole", "[J", true)
  | _ => ("IcicleClock$Chances", "mostWarm", "I", false)
def tyX1 : Nat → FieldType := fun k => match k with
  | 0 => .array .long
  | 1 => .array .long
  | 2 => .array .long
  | _ => .int
abbrev wsX10 : List Cond := u_ws RX1 TX1 4
theorem nmX1 : ∀ a, a < 4 → ∀ b, b < 4 → a ≠ b → (TX1 a).2.1 ≠ (TX1 b).2.1 := by decide +kernel
theorem tyX1_ok : ∀ k, k < 4 → parseFieldDescriptor (TX1 k).2.2.1 = some (tyX1 k) := by decide +kernel
abbrev cX1_init : ByteArray := prog_3_method_1_code
def yX1_init : MethodName := ⟨RX1, "<init>", "()V"⟩
abbrev cX1_weigh : ByteArray := prog_3_method_2_code
def yX1_weigh : MethodName := ⟨RX1, "weigh", "(LIcicleClock$Street;LIcicleClock$Winter;III)V"⟩
abbrev cX1_warmOrNot : ByteArray := prog_3_method_3_code
def yX1_warmOrNot : MethodName := ⟨RX1, "warmOrNot", "(I)V"⟩
abbrev cX1_letFall : ByteArray := prog_3_method_4_code
def yX1_letFall : MethodName := ⟨RX1, "letFall", "(II)J"⟩
abbrev cX1_likeliestDay : ByteArray := prog_3_method_5_code
def yX1_likeliestDay : MethodName := ⟨RX1, "likeliestDay", "(I)I"⟩
def RX2 : String := "IcicleClock$Clerks"
def TX2 : u_T := fun k => match k with
  | 0 => ("IcicleClock$Clerks", "resting", "I", false)
  | 1 => ("IcicleClock$Clerks", "first", "I", false)
  | _ => ("IcicleClock$Clerks", "shared", "[[I", true)
def tyX2 : Nat → FieldType := fun k => match k with
  | 0 => .int
  | 1 => .int
  | _ => .array (.array .int)
abbrev wsX20 : List Cond := u_ws RX2 TX2 3
theorem nmX2 : ∀ a, a < 3 → ∀ b, b < 3 → a ≠ b → (TX2 a).2.1 ≠ (TX2 b).2.1 := by decide +kernel
theorem tyX2_ok : ∀ k, k < 3 → parseFieldDescriptor (TX2 k).2.2.1 = some (tyX2 k) := by decide +kernel
abbrev cX2_init : ByteArray := prog_4_method_1_code
def yX2_init : MethodName := ⟨RX2, "<init>", "()V"⟩
abbrev cX2_compare : ByteArray := prog_4_method_2_code
def yX2_compare : MethodName := ⟨RX2, "compare", "(LIcicleClock$Street;LIcicleClock$Winter;)V"⟩
abbrev cX2_isRest : ByteArray := prog_4_method_3_code
def yX2_isRest : MethodName := ⟨RX2, "isRest", "(LIcicleClock$Street;II)Z"⟩
abbrev cX2_firstHas : ByteArray := prog_4_method_4_code
def yX2_firstHas : MethodName := ⟨RX2, "firstHas", "(LIcicleClock$Street;II)I"⟩
abbrev cX2_secondHas : ByteArray := prog_4_method_5_code
def yX2_secondHas : MethodName := ⟨RX2, "secondHas", "(LIcicleClock$Street;II)I"⟩
def RX3 : String := "IcicleClock$Seen"
def TX3 : u_T := fun k => match k with
  | 0 => ("IcicleClock$Seen", "fall", "[I", true)
  | _ => ("IcicleClock$Seen", "torn", "Z", false)
def tyX3 : Nat → FieldType := fun k => match k with
  | 0 => .array .int
  | _ => .boolean
abbrev wsX30 : List Cond := u_ws RX3 TX3 2
theorem nmX3 : ∀ a, a < 2 → ∀ b, b < 2 → a ≠ b → (TX3 a).2.1 ≠ (TX3 b).2.1 := by decide +kernel
theorem tyX3_ok : ∀ k, k < 2 → parseFieldDescriptor (TX3 k).2.2.1 = some (tyX3 k) := by decide +kernel
abbrev cX3_init : ByteArray := prog_5_method_1_code
def yX3_init : MethodName := ⟨RX3, "<init>", "()V"⟩
abbrev cX3_read : ByteArray := prog_5_method_2_code
def yX3_read : MethodName := ⟨RX3, "read", "(LIcicleClock$Slot;II)Z"⟩
abbrev cX3_note : ByteArray := prog_5_method_3_code
def yX3_note : MethodName := ⟨RX3, "note", "(II)V"⟩
abbrev cX3_fits : ByteArray := prog_5_method_4_code
def yX3_fits : MethodName := ⟨RX3, "fits", "(LIcicleClock$Street;LIcicleClock$Winter;)Z"⟩
def RX4 : String := "IcicleClock$Slams"
def TX4 : u_T := fun k => match k with
  | 0 => ("IcicleClock$Slams", "fitting", "I", false)
  | 1 => ("IcicleClock$Slams", "first", "I", false)
  | _ => ("IcicleClock$Slams", "tally", "[[I", true)
def tyX4 : Nat → FieldType := fun k => match k with
  | 0 => .int
  | 1 => .int
  | _ => .array (.array .int)
abbrev wsX40 : List Cond := u_ws RX4 TX4 3
theorem nmX4 : ∀ a, a < 3 → ∀ b, b < 3 → a ≠ b → (TX4 a).2.1 ≠ (TX4 b).2.1 := by decide +kernel
theorem tyX4_ok : ∀ k, k < 3 → parseFieldDescriptor (TX4 k).2.2.1 = some (tyX4 k) := by decide +kernel
abbrev cX4_init : ByteArray := prog_6_method_1_code
def yX4_init : MethodName := ⟨RX4, "<init>", "()V"⟩
abbrev cX4_search : ByteArray := prog_6_method_2_code
def yX4_search : MethodName := ⟨RX4, "search", "(LIcicleClock$Street;LIcicleClock$Winter;LIcicleClock$Seen;)V"⟩
abbrev cX4_searchUnder : ByteArray := prog_6_method_3_code
def yX4_searchUnder : MethodName := ⟨RX4, "searchUnder", "(LIcicleClock$Street;LIcicleClock$Winter;LIcicleClock$Seen;I)V"⟩
abbrev cX4_note : ByteArray := prog_6_method_4_code
def yX4_note : MethodName := ⟨RX4, "note", "(LIcicleClock$Street;LIcicleClock$Winter;)V"⟩
abbrev cX4_bestQuestion : ByteArray := prog_6_method_5_code
def yX4_bestQuestion : MethodName := ⟨RX4, "bestQuestion", "(LIcicleClock$Street;)I"⟩
def RX5 : String := "IcicleClock$Slot"
def TX5 : u_T := fun k => match k with
  | 0 => ("IcicleClock$Slot", "numbers", "[J", true)
  | 1 => ("IcicleClock$Slot", "laid", "Z", false)
  | 2 => ("IcicleClock$Slot", "width", "I", false)
  | _ => ("IcicleClock$Slot", "held", "I", false)
def tyX5 : Nat → FieldType := fun k => match k with
  | 0 => .array .long
  | 1 => .boolean
  | 2 => .int
  | _ => .int
abbrev wsX50 : List Cond := u_ws RX5 TX5 4
theorem nmX5 : ∀ a, a < 4 → ∀ b, b < 4 → a ≠ b → (TX5 a).2.1 ≠ (TX5 b).2.1 := by decide +kernel
theorem tyX5_ok : ∀ k, k < 4 → parseFieldDescriptor (TX5 k).2.2.1 = some (tyX5 k) := by decide +kernel
abbrev cX5_init : ByteArray := prog_7_method_1_code
def yX5_init : MethodName := ⟨RX5, "<init>", "()V"⟩
abbrev cX5_lay : ByteArray := prog_7_method_2_code
def yX5_lay : MethodName := ⟨RX5, "lay", "(II)V"⟩
abbrev cX5_cut : ByteArray := prog_7_method_3_code
def yX5_cut : MethodName := ⟨RX5, "cut", "(J)J"⟩
abbrev cX5_covers : ByteArray := prog_7_method_4_code
def yX5_covers : MethodName := ⟨RX5, "covers", "(II)Z"⟩
def RX6 : String := "IcicleClock$Street"
def TX6 : u_T := fun k => match k with
  | 0 => ("IcicleClock$Street", "slamTakes", "I", false)
  | 1 => ("IcicleClock$Street", "bellTakes", "I", false)
  | 2 => ("IcicleClock$Street", "odds", "I", false)
  | 3 => ("IcicleClock$Street", "days", "I", false)
  | 4 => ("IcicleClock$Street", "eaves", "I", false)
  | 5 => ("IcicleClock$Street", "icicles", "I", false)
  | 6 => ("IcicleClock$Street", "works", "I", false)
  | 7 => ("IcicleClock$Street", "lines", "I", false)
  | 8 => ("IcicleClock$Street", "thaw", "[I", true)
  | 9 => ("IcicleClock$Street", "isThaw", "[Z", true)
  | 10 => ("IcicleClock$Street", "sun", "[I", true)
  | 11 => ("IcicleClock$Street", "eaveOf", "[I", true)
  | 12 => ("IcicleClock$Street", "lengthTold", "[I", true)
  | 13 => ("IcicleClock$Street", "lengthHung", "[I", true)
  | 14 => ("IcicleClock$Street", "hourOf", "[I", true)
  | 15 => ("IcicleClock$Street", "dueHour", "[I", true)
  | 16 => ("IcicleClock$Street", "dueDay", "[I", true)
  | _ => ("IcicleClock$Street", "acts", "LIcicleClock$Acts;", true)
def tyX6 : Nat → FieldType := fun k => match k with
  | 0 => .int
  | 1 => .int
  | 2 => .int
  | 3 => .int
  | 4 => .int
  | 5 => .int
  | 6 => .int
  | 7 => .int
  | 8 => .array .int
  | 9 => .array .boolean
  | 10 => .array .int
  | 11 => .array .int
  | 12 => .array .int
  | 13 => .array .int
  | 14 => .array .int
  | 15 => .array .int
  | 16 => .array .int
  | _ => .object "IcicleClock$Acts"
abbrev wsX60 : List Cond := u_ws RX6 TX6 18
theorem nmX6 : ∀ a, a < 18 → ∀ b, b < 18 → a ≠ b → (TX6 a).2.1 ≠ (TX6 b).2.1 := by decide +kernel
theorem tyX6_ok : ∀ k, k < 18 → parseFieldDescriptor (TX6 k).2.2.1 = some (tyX6 k) := by decide +kernel
abbrev cX6_init : ByteArray := prog_8_method_1_code
def yX6_init : MethodName := ⟨RX6, "<init>", "()V"⟩
abbrev cX6_clear : ByteArray := prog_8_method_2_code
def yX6_clear : MethodName := ⟨RX6, "clear", "()V"⟩
abbrev cX6_copyFrom : ByteArray := prog_8_method_3_code
def yX6_copyFrom : MethodName := ⟨RX6, "copyFrom", "(LIcicleClock$Street;)V"⟩
abbrev cX6_meltOn : ByteArray := prog_8_method_4_code
def yX6_meltOn : MethodName := ⟨RX6, "meltOn", "(II)I"⟩
abbrev cX6_takenByActs : ByteArray := prog_8_method_5_code
def yX6_takenByActs : MethodName := ⟨RX6, "takenByActs", "(II)I"⟩
def RX7 : String := "IcicleClock$Tape"
def TX7 : u_T := fun k => match k with
  | 0 => ("IcicleClock$Tape", "bytes", "[B", true)
  | 1 => ("IcicleClock$Tape", "filled", "I", false)
  | 2 => ("IcicleClock$Tape", "fault", "I", false)
  | 3 => ("IcicleClock$Tape", "faultPlace", "I", false)
  | 4 => ("IcicleClock$Tape", "start", "I", false)
  | 5 => ("IcicleClock$Tape", "stop", "I", false)
  | _ => ("IcicleClock$Tape", "kind", "I", false)
def tyX7 : Nat → FieldType := fun k => match k with
  | 0 => .array .byte
  | 1 => .int
  | 2 => .int
  | 3 => .int
  | 4 => .int
  | 5 => .int
  | _ => .int
abbrev wsX70 : List Cond := u_ws RX7 TX7 7
theorem nmX7 : ∀ a, a < 7 → ∀ b, b < 7 → a ≠ b → (TX7 a).2.1 ≠ (TX7 b).2.1 := by decide +kernel
theorem tyX7_ok : ∀ k, k < 7 → parseFieldDescriptor (TX7 k).2.2.1 = some (tyX7 k) := by decide +kernel
abbrev cX7_init : ByteArray := prog_9_method_1_code
def yX7_init : MethodName := ⟨RX7, "<init>", "()V"⟩
abbrev cX7_putFour : ByteArray := prog_9_method_2_code
def yX7_putFour : MethodName := ⟨RX7, "putFour", "(I)V"⟩
abbrev cX7_readInto : ByteArray := prog_9_method_3_code
def yX7_readInto : MethodName := ⟨RX7, "readInto", "(LIcicleClock$Street;)Z"⟩
abbrev cX7_readFirst : ByteArray := prog_9_method_4_code
def yX7_readFirst : MethodName := ⟨RX7, "readFirst", "(LIcicleClock$Street;)V"⟩
abbrev cX7_readDay : ByteArray := prog_9_method_5_code
def yX7_readDay : MethodName := ⟨RX7, "readDay", "(LIcicleClock$Street;)V"⟩
abbrev cX7_readEave : ByteArray := prog_9_method_6_code
def yX7_readEave : MethodName := ⟨RX7, "readEave", "(LIcicleClock$Street;)V"⟩
abbrev cX7_readIcicle : ByteArray := prog_9_method_7_code
def yX7_readIcicle : MethodName := ⟨RX7, "readIcicle", "(LIcicleClock$Street;)V"⟩
abbrev cX7_readDue : ByteArray := prog_9_method_8_code
def yX7_readDue : MethodName := ⟨RX7, "readDue", "(LIcicleClock$Street;)V"⟩
abbrev cX7_numberBehind : ByteArray := prog_9_method_9_code
def yX7_numberBehind : MethodName := ⟨RX7, "numberBehind", "(Ljava/lang/String;I)I"⟩
abbrev cX7_pass : ByteArray := prog_9_method_10_code
def yX7_pass : MethodName := ⟨RX7, "pass", "(Z)V"⟩
abbrev cX7_passNumber : ByteArray := prog_9_method_11_code
def yX7_passNumber : MethodName := ⟨RX7, "passNumber", "(II)I"⟩
abbrev cX7_numberHere : ByteArray := prog_9_method_12_code
def yX7_numberHere : MethodName := ⟨RX7, "numberHere", "()I"⟩
abbrev cX7_blame : ByteArray := prog_9_method_13_code
def yX7_blame : MethodName := ⟨RX7, "blame", "(I)V"⟩
abbrev cX7_isWord : ByteArray := prog_9_method_14_code
def yX7_isWord : MethodName := ⟨RX7, "isWord", "(Ljava/lang/String;)Z"⟩
abbrev cX7_advance : ByteArray := prog_9_method_15_code
def yX7_advance : MethodName := ⟨RX7, "advance", "()V"⟩
abbrev cX7_kindOf : ByteArray := prog_9_method_16_code
def yX7_kindOf : MethodName := ⟨RX7, "kindOf", "(I)I"⟩
def RX8 : String := "IcicleClock$Walker"
def TX8 : u_T := fun k => match k with
  | 0 => ("IcicleClock$Walker", "leastOfAll", "I", false)
  | 1 => ("IcicleClock$Walker", "struck", "[[I", true)
  | 2 => ("IcicleClock$Walker", "least", "[[I", true)
  | 3 => ("IcicleClock$Walker", "many", "[[I", true)
  | 4 => ("IcicleClock$Walker", "days", "I", false)
  | _ => ("IcicleClock$Walker", "eaves", "I", false)
def tyX8 : Nat → FieldType := fun k => match k with
  | 0 => .int
  | 1 => .array (.array .int)
  | 2 => .array (.array .int)
  | 3 => .array (.array .int)
  | 4 => .int
  | _ => .int
abbrev wsX80 : List Cond := u_ws RX8 TX8 6
theorem nmX8 : ∀ a, a < 6 → ∀ b, b < 6 → a ≠ b → (TX8 a).2.1 ≠ (TX8 b).2.1 := by decide +kernel
theorem tyX8_ok : ∀ k, k < 6 → parseFieldDescriptor (TX8 k).2.2.1 = some (tyX8 k) := by decide +kernel
abbrev cX8_init : ByteArray := prog_10_method_1_code
def yX8_init : MethodName := ⟨RX8, "<init>", "()V"⟩
abbrev cX8_plan : ByteArray := prog_10_method_2_code
def yX8_plan : MethodName := ⟨RX8, "plan", "(LIcicleClock$Street;LIcicleClock$Winter;)V"⟩
abbrev cX8_planFrom : ByteArray := prog_10_method_3_code
def yX8_planFrom : MethodName := ⟨RX8, "planFrom", "(II)V"⟩
abbrev cX8_howMany : ByteArray := prog_10_method_4_code
def yX8_howMany : MethodName := ⟨RX8, "howMany", "()I"⟩
abbrev cX8_eaveOfFirst : ByteArray := prog_10_method_5_code
def yX8_eaveOfFirst : MethodName := ⟨RX8, "eaveOfFirst", "(I)I"⟩
abbrev cX8_firstOf : ByteArray := prog_10_method_6_code
def yX8_firstOf : MethodName := ⟨RX8, "firstOf", "(IIII)I"⟩
def RX9 : String := "IcicleClock$Weathers"
def TX9 : u_T := fun k => match k with
  | 0 => ("IcicleClock$Weathers", "least", "[I", true)
  | 1 => ("IcicleClock$Weathers", "most", "[I", true)
  | 2 => ("IcicleClock$Weathers", "goings", "[[I", true)
  | _ => ("IcicleClock$Weathers", "days", "I", false)
def tyX9 : Nat → FieldType := fun k => match k with
  | 0 => .array .int
  | 1 => .array .int
  | 2 => .array (.array .int)
  | _ => .int
abbrev wsX90 : List Cond := u_ws RX9 TX9 4
theorem nmX9 : ∀ a, a < 4 → ∀ b, b < 4 → a ≠ b → (TX9 a).2.1 ≠ (TX9 b).2.1 := by decide +kernel
theorem tyX9_ok : ∀ k, k < 4 → parseFieldDescriptor (TX9 k).2.2.1 = some (tyX9 k) := by decide +kernel
abbrev cX9_init : ByteArray := prog_11_method_1_code
def yX9_init : MethodName := ⟨RX9, "<init>", "()V"⟩
abbrev cX9_search : ByteArray := prog_11_method_2_code
def yX9_search : MethodName := ⟨RX9, "search", "(LIcicleClock$Street;LIcicleClock$Seen;I)V"⟩
abbrev cX9_sumNeeded : ByteArray := prog_11_method_3_code
def yX9_sumNeeded : MethodName := ⟨RX9, "sumNeeded", "(LIcicleClock$Street;I)I"⟩
abbrev cX9_bound : ByteArray := prog_11_method_4_code
def yX9_bound : MethodName := ⟨RX9, "bound", "(II)V"⟩
abbrev cX9_countGoings : ByteArray := prog_11_method_5_code
def yX9_countGoings : MethodName := ⟨RX9, "countGoings", "()V"⟩
abbrev cX9_goingsBy : ByteArray := prog_11_method_6_code
def yX9_goingsBy : MethodName := ⟨RX9, "goingsBy", "(II)I"⟩
abbrev cX9_fitting : ByteArray := prog_11_method_7_code
def yX9_fitting : MethodName := ⟨RX9, "fitting", "()I"⟩
abbrev cX9_thawOfFirst : ByteArray := prog_11_method_8_code
def yX9_thawOfFirst : MethodName := ⟨RX9, "thawOfFirst", "(I)I"⟩
abbrev cX9_leastSum : ByteArray := prog_11_method_9_code
def yX9_leastSum : MethodName := ⟨RX9, "leastSum", "()I"⟩
abbrev cX9_greatestSum : ByteArray := prog_11_method_10_code
def yX9_greatestSum : MethodName := ⟨RX9, "greatestSum", "()I"⟩
abbrev cX9_sumsReached : ByteArray := prog_11_method_11_code
def yX9_sumsReached : MethodName := ⟨RX9, "sumsReached", "()I"⟩
def RX10 : String := "IcicleClock$Winter"
def TX10 : u_T := fun k => match k with
  | 0 => ("IcicleClock$Winter", "warm", "I", false)
  | 1 => ("IcicleClock$Winter", "doorEave", "I", false)
  | 2 => ("IcicleClock$Winter", "doorDay", "I", false)
  | _ => ("IcicleClock$Winter", "fall", "[I", true)
def tyX10 : Nat → FieldType := fun k => match k with
  | 0 => .int
  | 1 => .int
  | 2 => .int
  | _ => .array .int
abbrev wsX100 : List Cond := u_ws RX10 TX10 4
theorem nmX10 : ∀ a, a < 4 → ∀ b, b < 4 → a ≠ b → (TX10 a).2.1 ≠ (TX10 b).2.1 := by decide +kernel
theorem tyX10_ok : ∀ k, k < 4 → parseFieldDescriptor (TX10 k).2.2.1 = some (tyX10 k) := by decide +kernel
abbrev cX10_init : ByteArray := prog_12_method_1_code
def yX10_init : MethodName := ⟨RX10, "<init>", "()V"⟩
abbrev cX10_passOver : ByteArray := prog_12_method_2_code
def yX10_passOver : MethodName := ⟨RX10, "passOver", "(LIcicleClock$Street;)V"⟩
abbrev cX10_passUnder : ByteArray := prog_12_method_3_code
def yX10_passUnder : MethodName := ⟨RX10, "passUnder", "(LIcicleClock$Street;I)V"⟩
abbrev cX10_fallOf : ByteArray := prog_12_method_4_code
def yX10_fallOf : MethodName := ⟨RX10, "fallOf", "(LIcicleClock$Street;II)I"⟩
abbrev cX10_lossOn : ByteArray := prog_12_method_5_code
def yX10_lossOn : MethodName := ⟨RX10, "lossOn", "(LIcicleClock$Street;II)I"⟩
abbrev cX10_lossThrough : ByteArray := prog_12_method_6_code
def yX10_lossThrough : MethodName := ⟨RX10, "lossThrough", "(LIcicleClock$Street;II)I"⟩
abbrev cX10_fellBy : ByteArray := prog_12_method_7_code
def yX10_fellBy : MethodName := ⟨RX10, "fellBy", "(II)Z"⟩
abbrev cX10_fallenOn : ByteArray := prog_12_method_8_code
def yX10_fallenOn : MethodName := ⟨RX10, "fallenOn", "(LIcicleClock$Street;I)I"⟩
abbrev cX10_fallenBy : ByteArray := prog_12_method_9_code
def yX10_fallenBy : MethodName := ⟨RX10, "fallenBy", "(LIcicleClock$Street;I)I"⟩
abbrev cX10_fallsUnder : ByteArray := prog_12_method_10_code
def yX10_fallsUnder : MethodName := ⟨RX10, "fallsUnder", "(LIcicleClock$Street;II)I"⟩
abbrev cX10_timeAt : ByteArray := prog_12_method_11_code
def yX10_timeAt : MethodName := ⟨RX10, "timeAt", "(LIcicleClock$Street;II)I"⟩
abbrev cX10_daysOfOneTime : ByteArray := prog_12_method_12_code
def yX10_daysOfOneTime : MethodName := ⟨RX10, "daysOfOneTime", "(LIcicleClock$Street;II)I"⟩
abbrev cX10_lateness : ByteArray := prog_12_method_13_code
def yX10_lateness : MethodName := ⟨RX10, "lateness", "(LIcicleClock$Street;I)I"⟩
abbrev cX10_offTogether : ByteArray := prog_12_method_14_code
def yX10_offTogether : MethodName := ⟨RX10, "offTogether", "(LIcicleClock$Street;)I"⟩
def RX11 : String := "IcicleClock"
def TX11 : u_T := fun k => match k with
  | 0 => ("IcicleClock", "tape", "LIcicleClock$Tape;", true)
  | 1 => ("IcicleClock", "now", "LIcicleClock$Street;", true)
  | 2 => ("IcicleClock", "draft", "LIcicleClock$Street;", true)
  | 3 => ("IcicleClock", "images", "[LIcicleClock$Street;", true)
  | 4 => ("IcicleClock", "kept", "[Z", true)
  | 5 => ("IcicleClock", "slots", "[LIcicleClock$Slot;", true)
  | 6 => ("IcicleClock", "winter", "LIcicleClock$Winter;", true)
  | 7 => ("IcicleClock", "whatIf", "LIcicleClock$Winter;", true)
  | 8 => ("IcicleClock", "seen", "LIcicleClock$Seen;", true)
  | 9 => ("IcicleClock", "slammings", "LIcicleClock$Slams;", true)
  | 10 => ("IcicleClock", "skies", "LIcicleClock$Weathers;", true)
  | 11 => ("IcicleClock", "chances", "LIcicleClock$Chances;", true)
  | 12 => ("IcicleClock", "walker", "LIcicleClock$Walker;", true)
  | _ => ("IcicleClock", "clerks", "LIcicleClock$Clerks;", true)
def tyX11 : Nat → FieldType := fun k => match k with
  | 0 => .object "IcicleClock$Tape"
  | 1 => .object "IcicleClock$Street"
  | 2 => .object "IcicleClock$Street"
  | 3 => .array (.object "IcicleClock$Street")
  | 4 => .array .boolean
  | 5 => .array (.object "IcicleClock$Slot")
  | 6 => .object "IcicleClock$Winter"
  | 7 => .object "IcicleClock$Winter"
  | 8 => .object "IcicleClock$Seen"
  | 9 => .object "IcicleClock$Slams"
  | 10 => .object "IcicleClock$Weathers"
  | 11 => .object "IcicleClock$Chances"
  | 12 => .object "IcicleClock$Walker"
  | _ => .object "IcicleClock$Clerks"
abbrev wsX110 : List Cond := u_ws RX11 TX11 14
theorem nmX11 : ∀ a, a < 14 → ∀ b, b < 14 → a ≠ b → (TX11 a).2.1 ≠ (TX11 b).2.1 := by decide +kernel
theorem tyX11_ok : ∀ k, k < 14 → parseFieldDescriptor (TX11 k).2.2.1 = some (tyX11 k) := by decide +kernel
abbrev cX11_init : ByteArray := prog_1_method_1_code
def yX11_init : MethodName := ⟨RX11, "<init>", "()V"⟩
abbrev cX11_feed : ByteArray := prog_1_method_2_code
def yX11_feed : MethodName := ⟨RX11, "feed", "(IIIII)I"⟩
abbrev cX11_end : ByteArray := prog_1_method_3_code
def yX11_end : MethodName := ⟨RX11, "end", "(I)I"⟩
abbrev cX11_street : ByteArray := prog_1_method_4_code
def yX11_street : MethodName := ⟨RX11, "street", "()I"⟩
abbrev cX11_fault : ByteArray := prog_1_method_5_code
def yX11_fault : MethodName := ⟨RX11, "fault", "(I)I"⟩
abbrev cX11_day : ByteArray := prog_1_method_6_code
def yX11_day : MethodName := ⟨RX11, "day", "(I)I"⟩
abbrev cX11_melt : ByteArray := prog_1_method_7_code
def yX11_melt : MethodName := ⟨RX11, "melt", "(II)I"⟩
abbrev cX11_icicle : ByteArray := prog_1_method_8_code
def yX11_icicle : MethodName := ⟨RX11, "icicle", "(II)I"⟩
abbrev cX11_work : ByteArray := prog_1_method_9_code
def yX11_work : MethodName := ⟨RX11, "work", "(II)I"⟩
abbrev cX11_eave : ByteArray := prog_1_method_10_code
def yX11_eave : MethodName := ⟨RX11, "eave", "(I)I"⟩
abbrev cX11_falls : ByteArray := prog_1_method_11_code
def yX11_falls : MethodName := ⟨RX11, "falls", "(I)I"⟩
abbrev cX11_length : ByteArray := prog_1_method_12_code
def yX11_length : MethodName := ⟨RX11, "length", "(II)I"⟩
abbrev cX11_longest : ByteArray := prog_1_method_13_code
def yX11_longest : MethodName := ⟨RX11, "longest", "(I)I"⟩
abbrev cX11_drops : ByteArray := prog_1_method_14_code
def yX11_drops : MethodName := ⟨RX11, "drops", "(I)I"⟩
abbrev cX11_hang : ByteArray := prog_1_method_15_code
def yX11_hang : MethodName := ⟨RX11, "hang", "(I)I"⟩
abbrev cX11_under : ByteArray := prog_1_method_16_code
def yX11_under : MethodName := ⟨RX11, "under", "(I)I"⟩
abbrev cX11_rush : ByteArray := prog_1_method_17_code
def yX11_rush : MethodName := ⟨RX11, "rush", "()I"⟩
abbrev cX11_next : ByteArray := prog_1_method_18_code
def yX11_next : MethodName := ⟨RX11, "next", "(II)I"⟩
abbrev cX11_barest : ByteArray := prog_1_method_19_code
def yX11_barest : MethodName := ⟨RX11, "barest", "()I"⟩
abbrev cX11_time : ByteArray := prog_1_method_20_code
def yX11_time : MethodName := ⟨RX11, "time", "(II)I"⟩
abbrev cX11_hour : ByteArray := prog_1_method_21_code
def yX11_hour : MethodName := ⟨RX11, "hour", "(I)I"⟩
abbrev cX11_meet : ByteArray := prog_1_method_22_code
def yX11_meet : MethodName := ⟨RX11, "meet", "(II)I"⟩
abbrev cX11_apart : ByteArray := prog_1_method_23_code
def yX11_apart : MethodName := ⟨RX11, "apart", "(II)I"⟩
abbrev cX11_tells : ByteArray := prog_1_method_24_code
def yX11_tells : MethodName := ⟨RX11, "tells", "(I)I"⟩
abbrev cX11_late : ByteArray := prog_1_method_25_code
def yX11_late : MethodName := ⟨RX11, "late", "(I)I"⟩
abbrev cX11_lates : ByteArray := prog_1_method_26_code
def yX11_lates : MethodName := ⟨RX11, "lates", "()I"⟩
abbrev cX11_off : ByteArray := prog_1_method_27_code
def yX11_off : MethodName := ⟨RX11, "off", "()I"⟩
abbrev cX11_worst : ByteArray := prog_1_method_28_code
def yX11_worst : MethodName := ⟨RX11, "worst", "()I"⟩
abbrev cX11_size : ByteArray := prog_1_method_29_code
def yX11_size : MethodName := ⟨RX11, "size", "(II)I"⟩
abbrev cX11_sizes : ByteArray := prog_1_method_30_code
def yX11_sizes : MethodName := ⟨RX11, "sizes", "(II)I"⟩
abbrev cX11_place : ByteArray := prog_1_method_31_code
def yX11_place : MethodName := ⟨RX11, "place", "(II)I"⟩
abbrev cX11_best : ByteArray := prog_1_method_32_code
def yX11_best : MethodName := ⟨RX11, "best", "(I)I"⟩
abbrev cX11_offs : ByteArray := prog_1_method_33_code
def yX11_offs : MethodName := ⟨RX11, "offs", "(I)I"⟩
abbrev cX11_doors : ByteArray := prog_1_method_34_code
def yX11_doors : MethodName := ⟨RX11, "doors", "(II)I"⟩
abbrev cX11_round : ByteArray := prog_1_method_35_code
def yX11_round : MethodName := ⟨RX11, "round", "(II)I"⟩
abbrev cX11_rounds : ByteArray := prog_1_method_36_code
def yX11_rounds : MethodName := ⟨RX11, "rounds", "(III)I"⟩
abbrev cX11_slams : ByteArray := prog_1_method_37_code
def yX11_slams : MethodName := ⟨RX11, "slams", "(I)I"⟩
abbrev cX11_slam : ByteArray := prog_1_method_38_code
def yX11_slam : MethodName := ⟨RX11, "slam", "(I)I"⟩
abbrev cX11_calm : ByteArray := prog_1_method_39_code
def yX11_calm : MethodName := ⟨RX11, "calm", "(I)I"⟩
abbrev cX11_ask : ByteArray := prog_1_method_40_code
def yX11_ask : MethodName := ⟨RX11, "ask", "(I)I"⟩
abbrev cX11_weathers : ByteArray := prog_1_method_41_code
def yX11_weathers : MethodName := ⟨RX11, "weathers", "(II)I"⟩
abbrev cX11_weather : ByteArray := prog_1_method_42_code
def yX11_weather : MethodName := ⟨RX11, "weather", "(III)I"⟩
abbrev cX11_warmth : ByteArray := prog_1_method_43_code
def yX11_warmth : MethodName := ⟨RX11, "warmth", "(III)I"⟩
abbrev cX11_chance : ByteArray := prog_1_method_44_code
def yX11_chance : MethodName := ⟨RX11, "chance", "(III)J"⟩
abbrev cX11_likely : ByteArray := prog_1_method_45_code
def yX11_likely : MethodName := ⟨RX11, "likely", "(I)I"⟩
abbrev cX11_surest : ByteArray := prog_1_method_46_code
def yX11_surest : MethodName := ⟨RX11, "surest", "(II)I"⟩
abbrev cX11_walk : ByteArray := prog_1_method_47_code
def yX11_walk : MethodName := ⟨RX11, "walk", "()I"⟩
abbrev cX11_walks : ByteArray := prog_1_method_48_code
def yX11_walks : MethodName := ⟨RX11, "walks", "(I)I"⟩
abbrev cX11_ways : ByteArray := prog_1_method_49_code
def yX11_ways : MethodName := ⟨RX11, "ways", "()I"⟩
abbrev cX11_rests : ByteArray := prog_1_method_50_code
def yX11_rests : MethodName := ⟨RX11, "rests", "()I"⟩
abbrev cX11_rest : ByteArray := prog_1_method_51_code
def yX11_rest : MethodName := ⟨RX11, "rest", "()I"⟩
abbrev cX11_door : ByteArray := prog_1_method_52_code
def yX11_door : MethodName := ⟨RX11, "door", "(II)I"⟩
abbrev cX11_ring : ByteArray := prog_1_method_53_code
def yX11_ring : MethodName := ⟨RX11, "ring", "(I)I"⟩
abbrev cX11_undo : ByteArray := prog_1_method_54_code
def yX11_undo : MethodName := ⟨RX11, "undo", "()I"⟩
abbrev cX11_anew : ByteArray := prog_1_method_55_code
def yX11_anew : MethodName := ⟨RX11, "anew", "()I"⟩
abbrev cX11_drawn : ByteArray := prog_1_method_56_code
def yX11_drawn : MethodName := ⟨RX11, "drawn", "(II)I"⟩
abbrev cX11_luck : ByteArray := prog_1_method_57_code
def yX11_luck : MethodName := ⟨RX11, "luck", "(IIII)I"⟩
abbrev cX11_hung : ByteArray := prog_1_method_58_code
def yX11_hung : MethodName := ⟨RX11, "hung", "(II)I"⟩
abbrev cX11_count : ByteArray := prog_1_method_59_code
def yX11_count : MethodName := ⟨RX11, "count", "(I)I"⟩
abbrev cX11_image : ByteArray := prog_1_method_60_code
def yX11_image : MethodName := ⟨RX11, "image", "(I)I"⟩
abbrev cX11_back : ByteArray := prog_1_method_61_code
def yX11_back : MethodName := ⟨RX11, "back", "(I)I"⟩
abbrev cX11_row : ByteArray := prog_1_method_62_code
def yX11_row : MethodName := ⟨RX11, "row", "(III)I"⟩
abbrev cX11_write : ByteArray := prog_1_method_63_code
def yX11_write : MethodName := ⟨RX11, "write", "(IIJ)I"⟩
abbrev cX11_paste : ByteArray := prog_1_method_64_code
def yX11_paste : MethodName := ⟨RX11, "paste", "(IIIII)I"⟩
abbrev cX11_isTold : ByteArray := prog_1_method_65_code
def yX11_isTold : MethodName := ⟨RX11, "isTold", "()Z"⟩
abbrev cX11_isDay : ByteArray := prog_1_method_66_code
def yX11_isDay : MethodName := ⟨RX11, "isDay", "(I)Z"⟩
abbrev cX11_isEave : ByteArray := prog_1_method_67_code
def yX11_isEave : MethodName := ⟨RX11, "isEave", "(I)Z"⟩
abbrev cX11_areEaves : ByteArray := prog_1_method_68_code
def yX11_areEaves : MethodName := ⟨RX11, "areEaves", "(I)Z"⟩
abbrev cX11_isIcicle : ByteArray := prog_1_method_69_code
def yX11_isIcicle : MethodName := ⟨RX11, "isIcicle", "(I)Z"⟩
abbrev cX11_isWork : ByteArray := prog_1_method_70_code
def yX11_isWork : MethodName := ⟨RX11, "isWork", "(I)Z"⟩
abbrev cX11_isEither : ByteArray := prog_1_method_71_code
def yX11_isEither : MethodName := ⟨RX11, "isEither", "(I)Z"⟩
abbrev cX11_isSeed : ByteArray := prog_1_method_72_code
def yX11_isSeed : MethodName := ⟨RX11, "isSeed", "(I)Z"⟩
abbrev cX11_isSlot : ByteArray := prog_1_method_73_code
def yX11_isSlot : MethodName := ⟨RX11, "isSlot", "(I)Z"⟩
abbrev cX11_slotsLaid : ByteArray := prog_1_method_74_code
def yX11_slotsLaid : MethodName := ⟨RX11, "slotsLaid", "()I"⟩
abbrev cX11_leastSize : ByteArray := prog_1_method_75_code
def yX11_leastSize : MethodName := ⟨RX11, "leastSize", "(II)I"⟩
abbrev cX11_mostSize : ByteArray := prog_1_method_76_code
def yX11_mostSize : MethodName := ⟨RX11, "mostSize", "(II)I"⟩
abbrev cX11_bestLength : ByteArray := prog_1_method_77_code
def yX11_bestLength : MethodName := ⟨RX11, "bestLength", "(I)I"⟩
abbrev cX11_offIfHung : ByteArray := prog_1_method_78_code
def yX11_offIfHung : MethodName := ⟨RX11, "offIfHung", "(II)I"⟩
abbrev cX11_leastSteps : ByteArray := prog_1_method_79_code
def yX11_leastSteps : MethodName := ⟨RX11, "leastSteps", "(II)I"⟩
abbrev cX11_firstStop : ByteArray := prog_1_method_80_code
def yX11_firstStop : MethodName := ⟨RX11, "firstStop", "(II)I"⟩
abbrev cX11_refusal : ByteArray := prog_1_method_81_code
def yX11_refusal : MethodName := ⟨RX11, "refusal", "(IZI)I"⟩
abbrev cX11_weatherRefusal : ByteArray := prog_1_method_82_code
def yX11_weatherRefusal : MethodName := ⟨RX11, "weatherRefusal", "(IIZ)I"⟩
abbrev cX11_greatestDivisor : ByteArray := prog_1_method_83_code
def yX11_greatestDivisor : MethodName := ⟨RX11, "greatestDivisor", "(JJ)J"⟩
abbrev cX11_drawWinter : ByteArray := prog_1_method_84_code
def yX11_drawWinter : MethodName := ⟨RX11, "drawWinter", "(J)V"⟩
def RX12 : String := "IcicleClockModel"
def TX12 : u_T := fun k => match k with
  | 0 => ("IcicleClockModel", "thrown", "I", false)
  | 1 => ("IcicleClockModel", "world", "[I", true)
  | 2 => ("IcicleClockModel", "images", "[I", true)
  | 3 => ("IcicleClockModel", "hasImage", "[Z", true)
  | 4 => ("IcicleClockModel", "tape", "[B", true)
  | 5 => ("IcicleClockModel", "taped", "I", false)
  | 6 => ("IcicleClockModel", "five", "[I", true)
  | 7 => ("IcicleClockModel", "size", "I", false)
  | 8 => ("IcicleClockModel", "at", "I", false)
  | 9 => ("IcicleClockModel", "from", "I", false)
  | 10 => ("IcicleClockModel", "token", "I", false)
  | 11 => ("IcicleClockModel", "value", "I", false)
  | 12 => ("IcicleClockModel", "faultKind", "I", false)
  | 13 => ("IcicleClockModel", "faultPlace", "I", false)
  | 14 => ("IcicleClockModel", "fresh", "[I", true)
  | 15 => ("IcicleClockModel", "off", "[I", true)
  | 16 => ("IcicleClockModel", "fell", "[I", true)
  | 17 => ("IcicleClockModel", "days", "I", false)
  | 18 => ("IcicleClockModel", "leastOff", "I", false)
  | 19 => ("IcicleClockModel", "rounds", "[I", true)
  | 20 => ("IcicleClockModel", "pairs", "[I", true)
  | 21 => ("IcicleClockModel", "fellBy", "[I", true)
  | 22 => ("IcicleClockModel", "pairMany", "I", false)
  | 23 => ("IcicleClockModel", "weatherMany", "I", false)
  | 24 => ("IcicleClockModel", "weatherFirst", "I", false)
  | 25 => ("IcicleClockModel", "weatherLeast", "I", false)
  | 26 => ("IcicleClockModel", "weatherMost", "I", false)
  | 27 => ("IcicleClockModel", "hangs", "[J", true)
  | 28 => ("IcicleClockModel", "hangsThen", "[J", true)
  | 29 => ("IcicleClockModel", "oftenOn", "[J", true)
  | 30 => ("IcicleClockModel", "oftenAll", "J", false)
  | 31 => ("IcicleClockModel", "oftenNever", "J", false)
  | 32 => ("IcicleClockModel", "struck", "[I", true)
  | 33 => ("IcicleClockModel", "struckWays", "[I", true)
  | 34 => ("IcicleClockModel", "restFirst", "I", false)
  | 35 => ("IcicleClockModel", "warmSet", "I", false)
  | 36 => ("IcicleClockModel", "many", "[I", true)
  | 37 => ("IcicleClockModel", "width", "[I", true)
  | 38 => ("IcicleClockModel", "numbers", "[J", true)
  | _ => ("IcicleClockModel", "moving", "[J", true)
def tyX12 : Nat → FieldType := fun k => match k with
  | 0 => .int
  | 1 => .array .int
  | 2 => .array .int
  | 3 => .array .boolean
  | 4 => .array .byte
  | 5 => .int
  | 6 => .array .int
  | 7 => .int
  | 8 => .int
  | 9 => .int
  | 10 => .int
  | 11 => .int
  | 12 => .int
  | 13 => .int
  | 14 => .array .int
  | 15 => .array .int
  | 16 => .array .int
  | 17 => .int
  | 18 => .int
  | 19 => .array .int
  | 20 => .array .int
  | 21 => .array .int
  | 22 => .int
  | 23 => .int
  | 24 => .int
  | 25 => .int
  | 26 => .int
  | 27 => .array .long
  | 28 => .array .long
  | 29 => .array .long
  | 30 => .long
  | 31 => .long
  | 32 => .array .int
  | 33 => .array .int
  | 34 => .int
  | 35 => .int
  | 36 => .array .int
  | 37 => .array .int
  | 38 => .array .long
  | _ => .array .long
abbrev wsX120 : List Cond := u_ws RX12 TX12 40
theorem nmX12 : ∀ a, a < 40 → ∀ b, b < 40 → a ≠ b → (TX12 a).2.1 ≠ (TX12 b).2.1 := by decide +kernel
theorem tyX12_ok : ∀ k, k < 40 → parseFieldDescriptor (TX12 k).2.2.1 = some (tyX12 k) := by decide +kernel
abbrev cX12_init : ByteArray := prog_14_method_1_code
def yX12_init : MethodName := ⟨RX12, "<init>", "()V"⟩
abbrev cX12_in : ByteArray := prog_14_method_3_code
def yX12_in : MethodName := ⟨RX12, "in", "(JJJ)Z"⟩
abbrev cX12_bits : ByteArray := prog_14_method_4_code
def yX12_bits : MethodName := ⟨RX12, "bits", "(I)I"⟩
abbrev cX12_bit : ByteArray := prog_14_method_5_code
def yX12_bit : MethodName := ⟨RX12, "bit", "(II)I"⟩
abbrev cX12_image : ByteArray := prog_14_method_6_code
def yX12_image : MethodName := ⟨RX12, "image", "(I)I"⟩
abbrev cX12_back : ByteArray := prog_14_method_7_code
def yX12_back : MethodName := ⟨RX12, "back", "(I)I"⟩
abbrev cX12_isStreet : ByteArray := prog_14_method_8_code
def yX12_isStreet : MethodName := ⟨RX12, "isStreet", "()Z"⟩
abbrev cX12_isDay : ByteArray := prog_14_method_9_code
def yX12_isDay : MethodName := ⟨RX12, "isDay", "(I)Z"⟩
abbrev cX12_isEave : ByteArray := prog_14_method_10_code
def yX12_isEave : MethodName := ⟨RX12, "isEave", "(I)Z"⟩
abbrev cX12_isIcicle : ByteArray := prog_14_method_11_code
def yX12_isIcicle : MethodName := ⟨RX12, "isIcicle", "(J)Z"⟩
abbrev cX12_isWork : ByteArray := prog_14_method_12_code
def yX12_isWork : MethodName := ⟨RX12, "isWork", "(I)Z"⟩
abbrev cX12_thawOf : ByteArray := prog_14_method_13_code
def yX12_thawOf : MethodName := ⟨RX12, "thawOf", "(I)I"⟩
abbrev cX12_isThaw : ByteArray := prog_14_method_14_code
def yX12_isThaw : MethodName := ⟨RX12, "isThaw", "(I)Z"⟩
abbrev cX12_sunOf : ByteArray := prog_14_method_15_code
def yX12_sunOf : MethodName := ⟨RX12, "sunOf", "(I)I"⟩
abbrev cX12_of : ByteArray := prog_14_method_16_code
def yX12_of : MethodName := ⟨RX12, "of", "(II)I"⟩
abbrev cX12_feed : ByteArray := prog_14_method_17_code
def yX12_feed : MethodName := ⟨RX12, "feed", "(IIIII)I"⟩
abbrev cX12_end : ByteArray := prog_14_method_18_code
def yX12_end : MethodName := ⟨RX12, "end", "(I)I"⟩
abbrev cX12_see : ByteArray := prog_14_method_19_code
def yX12_see : MethodName := ⟨RX12, "see", "(I)I"⟩
abbrev cX12_advance : ByteArray := prog_14_method_20_code
def yX12_advance : MethodName := ⟨RX12, "advance", "()V"⟩
abbrev cX12_good : ByteArray := prog_14_method_21_code
def yX12_good : MethodName := ⟨RX12, "good", "()Z"⟩
abbrev cX12_errs : ByteArray := prog_14_method_22_code
def yX12_errs : MethodName := ⟨RX12, "errs", "(I)V"⟩
abbrev cX12_is : ByteArray := prog_14_method_23_code
def yX12_is : MethodName := ⟨RX12, "is", "(Ljava/lang/String;)Z"⟩
abbrev cX12_takes : ByteArray := prog_14_method_24_code
def yX12_takes : MethodName := ⟨RX12, "takes", "(Ljava/lang/String;)Z"⟩
abbrev cX12_needs : ByteArray := prog_14_method_25_code
def yX12_needs : MethodName := ⟨RX12, "needs", "(Ljava/lang/String;)V"⟩
abbrev cX12_number : ByteArray := prog_14_method_26_code
def yX12_number : MethodName := ⟨RX12, "number", "(II)I"⟩
abbrev cX12_told : ByteArray := prog_14_method_27_code
def yX12_told : MethodName := ⟨RX12, "told", "(Ljava/lang/String;II)I"⟩
abbrev cX12_fault : ByteArray := prog_14_method_28_code
def yX12_fault : MethodName := ⟨RX12, "fault", "(I)I"⟩
abbrev cX12_readDay : ByteArray := prog_14_method_29_code
def yX12_readDay : MethodName := ⟨RX12, "readDay", "()V"⟩
abbrev cX12_readIcicle : ByteArray := prog_14_method_30_code
def yX12_readIcicle : MethodName := ⟨RX12, "readIcicle", "()V"⟩
abbrev cX12_readNext : ByteArray := prog_14_method_31_code
def yX12_readNext : MethodName := ⟨RX12, "readNext", "()V"⟩
abbrev cX12_readLine : ByteArray := prog_14_method_32_code
def yX12_readLine : MethodName := ⟨RX12, "readLine", "()V"⟩
abbrev cX12_street : ByteArray := prog_14_method_33_code
def yX12_street : MethodName := ⟨RX12, "street", "()I"⟩
abbrev cX12_day : ByteArray := prog_14_method_34_code
def yX12_day : MethodName := ⟨RX12, "day", "(I)I"⟩
abbrev cX12_meltBy : ByteArray := prog_14_method_35_code
def yX12_meltBy : MethodName := ⟨RX12, "meltBy", "(II)I"⟩
abbrev cX12_melt : ByteArray := prog_14_method_36_code
def yX12_melt : MethodName := ⟨RX12, "melt", "(II)I"⟩
abbrev cX12_icicle : ByteArray := prog_14_method_37_code
def yX12_icicle : MethodName := ⟨RX12, "icicle", "(II)I"⟩
abbrev cX12_work : ByteArray := prog_14_method_38_code
def yX12_work : MethodName := ⟨RX12, "work", "(II)I"⟩
abbrev cX12_eave : ByteArray := prog_14_method_39_code
def yX12_eave : MethodName := ⟨RX12, "eave", "(I)I"⟩
abbrev cX12_layOff : ByteArray := prog_14_method_40_code
def yX12_layOff : MethodName := ⟨RX12, "layOff", "(I)V"⟩
abbrev cX12_fallsBy : ByteArray := prog_14_method_41_code
def yX12_fallsBy : MethodName := ⟨RX12, "fallsBy", "(II)I"⟩
abbrev cX12_layFalls : ByteArray := prog_14_method_42_code
def yX12_layFalls : MethodName := ⟨RX12, "layFalls", "()V"⟩
abbrev cX12_layAll : ByteArray := prog_14_method_43_code
def yX12_layAll : MethodName := ⟨RX12, "layAll", "()V"⟩
abbrev cX12_falls : ByteArray := prog_14_method_44_code
def yX12_falls : MethodName := ⟨RX12, "falls", "(I)I"⟩
abbrev cX12_lengthBehind : ByteArray := prog_14_method_45_code
def yX12_lengthBehind : MethodName := ⟨RX12, "lengthBehind", "(II)I"⟩
abbrev cX12_length : ByteArray := prog_14_method_46_code
def yX12_length : MethodName := ⟨RX12, "length", "(II)I"⟩
abbrev cX12_longest : ByteArray := prog_14_method_47_code
def yX12_longest : MethodName := ⟨RX12, "longest", "(I)I"⟩
abbrev cX12_dropsOn : ByteArray := prog_14_method_48_code
def yX12_dropsOn : MethodName := ⟨RX12, "dropsOn", "(I)I"⟩
abbrev cX12_drops : ByteArray := prog_14_method_49_code
def yX12_drops : MethodName := ⟨RX12, "drops", "(I)I"⟩
abbrev cX12_fellBy : ByteArray := prog_14_method_50_code
def yX12_fellBy : MethodName := ⟨RX12, "fellBy", "(II)Z"⟩
abbrev cX12_hang : ByteArray := prog_14_method_51_code
def yX12_hang : MethodName := ⟨RX12, "hang", "(I)I"⟩
abbrev cX12_under : ByteArray := prog_14_method_52_code
def yX12_under : MethodName := ⟨RX12, "under", "(I)I"⟩
abbrev cX12_rush : ByteArray := prog_14_method_53_code
def yX12_rush : MethodName := ⟨RX12, "rush", "()I"⟩
abbrev cX12_timeOf : ByteArray := prog_14_method_54_code
def yX12_timeOf : MethodName := ⟨RX12, "timeOf", "(II)I"⟩
abbrev cX12_time : ByteArray := prog_14_method_55_code
def yX12_time : MethodName := ⟨RX12, "time", "(II)I"⟩
abbrev cX12_hour : ByteArray := prog_14_method_56_code
def yX12_hour : MethodName := ⟨RX12, "hour", "(I)I"⟩
abbrev cX12_meetOf : ByteArray := prog_14_method_57_code
def yX12_meetOf : MethodName := ⟨RX12, "meetOf", "(II)I"⟩
abbrev cX12_meet : ByteArray := prog_14_method_58_code
def yX12_meet : MethodName := ⟨RX12, "meet", "(II)I"⟩
abbrev cX12_apart : ByteArray := prog_14_method_59_code
def yX12_apart : MethodName := ⟨RX12, "apart", "(II)I"⟩
abbrev cX12_lateOf : ByteArray := prog_14_method_60_code
def yX12_lateOf : MethodName := ⟨RX12, "lateOf", "(I)I"⟩
abbrev cX12_late : ByteArray := prog_14_method_61_code
def yX12_late : MethodName := ⟨RX12, "late", "(I)I"⟩
abbrev cX12_lates : ByteArray := prog_14_method_62_code
def yX12_lates : MethodName := ⟨RX12, "lates", "()I"⟩
abbrev cX12_offAll : ByteArray := prog_14_method_63_code
def yX12_offAll : MethodName := ⟨RX12, "offAll", "()I"⟩
abbrev cX12_off : ByteArray := prog_14_method_64_code
def yX12_off : MethodName := ⟨RX12, "off", "()I"⟩
abbrev cX12_worst : ByteArray := prog_14_method_65_code
def yX12_worst : MethodName := ⟨RX12, "worst", "()I"⟩
abbrev cX12_areThen : ByteArray := prog_14_method_66_code
def yX12_areThen : MethodName := ⟨RX12, "areThen", "(II)Z"⟩
abbrev cX12_size : ByteArray := prog_14_method_67_code
def yX12_size : MethodName := ⟨RX12, "size", "(II)I"⟩
abbrev cX12_sizes : ByteArray := prog_14_method_68_code
def yX12_sizes : MethodName := ⟨RX12, "sizes", "(II)I"⟩
abbrev cX12_place : ByteArray := prog_14_method_69_code
def yX12_place : MethodName := ⟨RX12, "place", "(II)I"⟩
abbrev cX12_bestOf : ByteArray := prog_14_method_70_code
def yX12_bestOf : MethodName := ⟨RX12, "bestOf", "(I)I"⟩
abbrev cX12_best : ByteArray := prog_14_method_71_code
def yX12_best : MethodName := ⟨RX12, "best", "(I)I"⟩
abbrev cX12_offs : ByteArray := prog_14_method_72_code
def yX12_offs : MethodName := ⟨RX12, "offs", "(I)I"⟩
abbrev cX12_doors : ByteArray := prog_14_method_73_code
def yX12_doors : MethodName := ⟨RX12, "doors", "(II)I"⟩
abbrev cX12_tells : ByteArray := prog_14_method_74_code
def yX12_tells : MethodName := ⟨RX12, "tells", "(I)I"⟩
abbrev cX12_next : ByteArray := prog_14_method_75_code
def yX12_next : MethodName := ⟨RX12, "next", "(II)I"⟩
abbrev cX12_barest : ByteArray := prog_14_method_76_code
def yX12_barest : MethodName := ⟨RX12, "barest", "()I"⟩
abbrev cX12_roundBy : ByteArray := prog_14_method_77_code
def yX12_roundBy : MethodName := ⟨RX12, "roundBy", "(III)I"⟩
abbrev cX12_layRounds : ByteArray := prog_14_method_78_code
def yX12_layRounds : MethodName := ⟨RX12, "layRounds", "(II)I"⟩
abbrev cX12_isRound : ByteArray := prog_14_method_79_code
def yX12_isRound : MethodName := ⟨RX12, "isRound", "(II)Z"⟩
abbrev cX12_round : ByteArray := prog_14_method_80_code
def yX12_round : MethodName := ⟨RX12, "round", "(II)I"⟩
abbrev cX12_rounds : ByteArray := prog_14_method_81_code
def yX12_rounds : MethodName := ⟨RX12, "rounds", "(III)I"⟩
abbrev cX12_numberAt : ByteArray := prog_14_method_82_code
def yX12_numberAt : MethodName := ⟨RX12, "numberAt", "(II)J"⟩
abbrev cX12_asksSeen : ByteArray := prog_14_method_83_code
def yX12_asksSeen : MethodName := ⟨RX12, "asksSeen", "(IZI)I"⟩
abbrev cX12_isSeen : ByteArray := prog_14_method_84_code
def yX12_isSeen : MethodName := ⟨RX12, "isSeen", "(I)Z"⟩
abbrev cX12_laySlams : ByteArray := prog_14_method_85_code
def yX12_laySlams : MethodName := ⟨RX12, "laySlams", "(I)I"⟩
abbrev cX12_slams : ByteArray := prog_14_method_86_code
def yX12_slams : MethodName := ⟨RX12, "slams", "(I)I"⟩
abbrev cX12_slam : ByteArray := prog_14_method_87_code
def yX12_slam : MethodName := ⟨RX12, "slam", "(I)I"⟩
abbrev cX12_calm : ByteArray := prog_14_method_88_code
def yX12_calm : MethodName := ⟨RX12, "calm", "(I)I"⟩
abbrev cX12_ask : ByteArray := prog_14_method_89_code
def yX12_ask : MethodName := ⟨RX12, "ask", "(I)I"⟩
abbrev cX12_thawIn : ByteArray := prog_14_method_90_code
def yX12_thawIn : MethodName := ⟨RX12, "thawIn", "(III)I"⟩
abbrev cX12_layWeathers : ByteArray := prog_14_method_91_code
def yX12_layWeathers : MethodName := ⟨RX12, "layWeathers", "(IIZ)I"⟩
abbrev cX12_weathers : ByteArray := prog_14_method_92_code
def yX12_weathers : MethodName := ⟨RX12, "weathers", "(II)I"⟩
abbrev cX12_weather : ByteArray := prog_14_method_93_code
def yX12_weather : MethodName := ⟨RX12, "weather", "(III)I"⟩
abbrev cX12_warmth : ByteArray := prog_14_method_94_code
def yX12_warmth : MethodName := ⟨RX12, "warmth", "(III)I"⟩
abbrev cX12_goWarm : ByteArray := prog_14_method_95_code
def yX12_goWarm : MethodName := ⟨RX12, "goWarm", "(I)V"⟩
abbrev cX12_layWarm : ByteArray := prog_14_method_96_code
def yX12_layWarm : MethodName := ⟨RX12, "layWarm", "(II)V"⟩
abbrev cX12_divisor : ByteArray := prog_14_method_97_code
def yX12_divisor : MethodName := ⟨RX12, "divisor", "(JJ)J"⟩
abbrev cX12_chance : ByteArray := prog_14_method_98_code
def yX12_chance : MethodName := ⟨RX12, "chance", "(III)J"⟩
abbrev cX12_likely : ByteArray := prog_14_method_99_code
def yX12_likely : MethodName := ⟨RX12, "likely", "(I)I"⟩
abbrev cX12_surest : ByteArray := prog_14_method_100_code
def yX12_surest : MethodName := ⟨RX12, "surest", "(II)I"⟩
abbrev cX12_dropsAt : ByteArray := prog_14_method_101_code
def yX12_dropsAt : MethodName := ⟨RX12, "dropsAt", "(II)I"⟩
abbrev cX12_struckFrom : ByteArray := prog_14_method_102_code
def yX12_struckFrom : MethodName := ⟨RX12, "struckFrom", "(II)I"⟩
abbrev cX12_leastFrom : ByteArray := prog_14_method_103_code
def yX12_leastFrom : MethodName := ⟨RX12, "leastFrom", "(II)I"⟩
abbrev cX12_waysFrom : ByteArray := prog_14_method_104_code
def yX12_waysFrom : MethodName := ⟨RX12, "waysFrom", "(II)I"⟩
abbrev cX12_layWalks : ByteArray := prog_14_method_105_code
def yX12_layWalks : MethodName := ⟨RX12, "layWalks", "()Z"⟩
abbrev cX12_walk : ByteArray := prog_14_method_106_code
def yX12_walk : MethodName := ⟨RX12, "walk", "()I"⟩
abbrev cX12_ways : ByteArray := prog_14_method_107_code
def yX12_ways : MethodName := ⟨RX12, "ways", "()I"⟩
abbrev cX12_walks : ByteArray := prog_14_method_108_code
def yX12_walks : MethodName := ⟨RX12, "walks", "(I)I"⟩
abbrev cX12_hasFirst : ByteArray := prog_14_method_109_code
def yX12_hasFirst : MethodName := ⟨RX12, "hasFirst", "(II)I"⟩
abbrev cX12_hasSecond : ByteArray := prog_14_method_110_code
def yX12_hasSecond : MethodName := ⟨RX12, "hasSecond", "(II)I"⟩
abbrev cX12_isRest : ByteArray := prog_14_method_111_code
def yX12_isRest : MethodName := ⟨RX12, "isRest", "(II)Z"⟩
abbrev cX12_layRests : ByteArray := prog_14_method_112_code
def yX12_layRests : MethodName := ⟨RX12, "layRests", "()I"⟩
abbrev cX12_rests : ByteArray := prog_14_method_113_code
def yX12_rests : MethodName := ⟨RX12, "rests", "()I"⟩
abbrev cX12_rest : ByteArray := prog_14_method_114_code
def yX12_rest : MethodName := ⟨RX12, "rest", "()I"⟩
abbrev cX12_keepAct : ByteArray := prog_14_method_115_code
def yX12_keepAct : MethodName := ⟨RX12, "keepAct", "(I)Z"⟩
abbrev cX12_door : ByteArray := prog_14_method_116_code
def yX12_door : MethodName := ⟨RX12, "door", "(II)I"⟩
abbrev cX12_ring : ByteArray := prog_14_method_117_code
def yX12_ring : MethodName := ⟨RX12, "ring", "(I)I"⟩
abbrev cX12_undo : ByteArray := prog_14_method_118_code
def yX12_undo : MethodName := ⟨RX12, "undo", "()I"⟩
abbrev cX12_anew : ByteArray := prog_14_method_119_code
def yX12_anew : MethodName := ⟨RX12, "anew", "()I"⟩
abbrev cX12_goDrawn : ByteArray := prog_14_method_120_code
def yX12_goDrawn : MethodName := ⟨RX12, "goDrawn", "(J)V"⟩
abbrev cX12_isSeed : ByteArray := prog_14_method_121_code
def yX12_isSeed : MethodName := ⟨RX12, "isSeed", "(I)Z"⟩
abbrev cX12_drawn : ByteArray := prog_14_method_122_code
def yX12_drawn : MethodName := ⟨RX12, "drawn", "(II)I"⟩
abbrev cX12_luck : ByteArray := prog_14_method_123_code
def yX12_luck : MethodName := ⟨RX12, "luck", "(IIII)I"⟩
abbrev cX12_hung : ByteArray := prog_14_method_124_code
def yX12_hung : MethodName := ⟨RX12, "hung", "(II)I"⟩
abbrev cX12_count : ByteArray := prog_14_method_125_code
def yX12_count : MethodName := ⟨RX12, "count", "(I)I"⟩
abbrev cX12_isSlot : ByteArray := prog_14_method_126_code
def yX12_isSlot : MethodName := ⟨RX12, "isSlot", "(I)Z"⟩
abbrev cX12_cut : ByteArray := prog_14_method_127_code
def yX12_cut : MethodName := ⟨RX12, "cut", "(JI)J"⟩
abbrev cX12_row : ByteArray := prog_14_method_128_code
def yX12_row : MethodName := ⟨RX12, "row", "(III)I"⟩
abbrev cX12_write : ByteArray := prog_14_method_129_code
def yX12_write : MethodName := ⟨RX12, "write", "(IIJ)I"⟩
abbrev cX12_paste : ByteArray := prog_14_method_130_code
def yX12_paste : MethodName := ⟨RX12, "paste", "(IIIII)I"⟩
def RJx145de : String := "java/io/Serializable"
def RJx9f9b0 : String := "java/lang/CharSequence"
def RJxb160c : String := "java/lang/Comparable"
def RJ6 : String := "java/lang/Integer"
abbrev cJ6_bitCount_0f7a4 : ByteArray := prog_15_method_49_code
def yJ6_bitCount_0f7a4 : MethodName := ⟨RJ6, "bitCount", "(I)I"⟩
def RJ9 : String := "java/lang/Math"
abbrev cJ9_abs_0f7a4 : ByteArray := prog_16_method_59_code
def yJ9_abs_0f7a4 : MethodName := ⟨RJ9, "abs", "(I)I"⟩
abbrev cJ9_max_7cf53 : ByteArray := prog_16_method_65_code
def yJ9_max_7cf53 : MethodName := ⟨RJ9, "max", "(II)I"⟩
abbrev cJ9_min_7cf53 : ByteArray := prog_16_method_69_code
def yJ9_min_7cf53 : MethodName := ⟨RJ9, "min", "(II)I"⟩
def RJ0 : String := "java/lang/String"
abbrev cJ0_length_8abf5 : ByteArray := prog_17_method_54_code
def yJ0_length_8abf5 : MethodName := ⟨RJ0, "length", "()I"⟩
abbrev cJ0_charAt_5068e : ByteArray := prog_17_method_56_code
def yJ0_charAt_5068e : MethodName := ⟨RJ0, "charAt", "(I)C"⟩
abbrev cJ0_coder_7d493 : ByteArray := prog_17_method_152_code
def yJ0_coder_7d493 : MethodName := ⟨RJ0, "coder", "()B"⟩
abbrev cJ0_isLatin1_aae02 : ByteArray := prog_17_method_154_code
def yJ0_isLatin1_aae02 : MethodName := ⟨RJ0, "isLatin1", "()Z"⟩
abbrev cJ0_checkIndex_df160 : ByteArray := prog_17_method_155_code
def yJ0_checkIndex_df160 : MethodName := ⟨RJ0, "checkIndex", "(II)V"⟩
def RJ1 : String := "java/lang/StringLatin1"
abbrev cJ1_charAt_3b067 : ByteArray := prog_18_method_2_code
def yJ1_charAt_3b067 : MethodName := ⟨RJ1, "charAt", "([BI)C"⟩
def RJ2 : String := "java/lang/StringUTF16"
abbrev cJ2_getChar_3b067 : ByteArray := prog_19_method_5_code
def yJ2_getChar_3b067 : MethodName := ⟨RJ2, "getChar", "([BI)C"⟩
abbrev cJ2_length_9d52b : ByteArray := prog_19_method_6_code
def yJ2_length_9d52b : MethodName := ⟨RJ2, "length", "([B)I"⟩
abbrev cJ2_charAt_3b067 : ByteArray := prog_19_method_83_code
def yJ2_charAt_3b067 : MethodName := ⟨RJ2, "charAt", "([BI)C"⟩
abbrev cJ2_checkIndex_2214a : ByteArray := prog_19_method_91_code
def yJ2_checkIndex_2214a : MethodName := ⟨RJ2, "checkIndex", "(I[B)V"⟩
def RJ10 : String := "java/lang/System"
def RJxfd54e : String := "java/lang/constant/Constable"
def RJx3cf43 : String := "java/lang/constant/ConstantDesc"
def RJ7 : String := "java/util/Arrays"
abbrev cJ7_fill_d0a16 : ByteArray := prog_21_method_101_code
def yJ7_fill_d0a16 : MethodName := ⟨RJ7, "fill", "([JJ)V"⟩
abbrev cJ7_fill_53178 : ByteArray := prog_21_method_103_code
def yJ7_fill_53178 : MethodName := ⟨RJ7, "fill", "([II)V"⟩
def RJ3 : String := "jdk/internal/util/Preconditions"
abbrev cJ3_checkIndex_8e157 : ByteArray := prog_22_method_11_code
def yJ3_checkIndex_8e157 : MethodName := ⟨RJ3, "checkIndex", "(IILjava/util/function/BiFunction;)I"⟩
def RL : String := "IcicleClockLaw"
abbrev cL_law : ByteArray := code
def yL_law : MethodName := ⟨RL, "law", "([I)Z"⟩
abbrev vwCl : List vw_C := [(RX0, TX0, 5), (RX1, TX1, 4), (RX2, TX2, 3), (RX3, TX3, 2), (RX4, TX4, 3), (RX5, TX5, 4), (RX6, TX6, 18), (RX7, TX7, 7), (RX8, TX8, 6), (RX9, TX9, 4), (RX10, TX10, 4), (RX11, TX11, 14), (RX12, TX12, 40)]
end
section
-- THE WORLD BY NUMBERS: cell i of n lies at the address ad i and holds g i
def wL (ad : Nat → Nat) (g : Nat → va_E) (n : Nat) : va_W := (List.range n).map (fun i => (ad i, g i))
def wA (ad : Nat → Nat) (n : Nat) : Nat → Prop := fun q => ∃ i, i < n ∧ q = ad i
def wJ (ad : Nat → Nat) (n : Nat) : Prop := ∀ i j, i < n → j < n → ad i = ad j → i = j
theorem wL_at {ad : Nat → Nat} {g : Nat → va_E} {n i : Nat} {e : va_E} (h : i < n) (he : g i = e) : (wL ad g n)[i]? = some (ad i, e) := by
  unfold wL
  rw [List.getElem?_map, List.getElem?_range h]
  simp [he]
theorem wL_inv {ad : Nat → Nat} {g : Nat → va_E} {n k : Nat} {q : Nat × va_E} (h : (wL ad g n)[k]? = some q) : k < n ∧ q = (ad k, g k) := by
  unfold wL at h
  rw [List.getElem?_map] at h
  by_cases hk : k < n
  · rw [List.getElem?_range hk] at h
    exact ⟨hk, (Option.some.inj h).symm⟩
  · have h0 : (List.range n)[k]? = none := List.getElem?_eq_none (by rw [List.length_range]; omega)
    rw [h0] at h
    cases h
theorem wL_length (ad : Nat → Nat) (g : Nat → va_E) (n : Nat) : (wL ad g n).length = n := by simp [wL]
theorem wL_no {ad : Nat → Nat} {g : Nat → va_E} {n k : Nat} (h : ¬ k < n) : (wL ad g n)[k]? = none := List.getElem?_eq_none (by rw [wL_length]; omega)
theorem wL_set {ad : Nat → Nat} {g : Nat → va_E} {n i : Nat} {e : va_E} : (wL ad g n).set i (ad i, e) = wL ad (va_up g i e) n := by
  apply List.ext_getElem?
  intro k
  rw [List.getElem?_set]
  by_cases hk : k < n
  · rw [wL_at (g := va_up g i e) hk rfl]
    by_cases hi : i = k
    · subst hi
      rw [if_pos rfl, if_pos (by rw [wL_length]; exact hk), va_up_self]
    · rw [if_neg hi, wL_at hk rfl, va_up_ne g e (fun h => hi h.symm)]
  · rw [wL_no (g := va_up g i e) hk]
    by_cases hi : i = k
    · subst hi
      rw [if_pos rfl, if_neg (by rw [wL_length]; exact hk)]
    · rw [if_neg hi, wL_no hk]
theorem wL_D {ad : Nat → Nat} {g : Nat → va_E} {n : Nat} {A : Nat → Prop} (hj : wJ ad n) (hA : ∀ i, i < n → A (ad i)) : va_D A (wL ad g n) :=
  ⟨fun i j p q h1 h2 h => by
    obtain ⟨a1, rfl⟩ := wL_inv h1
    obtain ⟨a2, rfl⟩ := wL_inv h2
    exact hj i j a1 a2 h, fun k q h => by
    obtain ⟨a1, rfl⟩ := wL_inv h
    exact hA k a1⟩
/-- the array classes: bytes, ints, longs, booleans, Slots, Streets, rows of rows -/
def tyL (cs : Nat → ClassId) : List (ClassId × FieldType) := [(cs 0, .byte), (cs 1, .int), (cs 2, .long), (cs 3, .boolean), (cs 4, .object "IcicleClock$Slot"), (cs 5, .object "IcicleClock$Street"), (cs 6, .array .int)]
/-- what stands still in a method -/
def Cx (p : Program) (s : State) (m : MethodId) (args : Array Value) (meth : Method) (c : Code) (cc : ByteArray) (nL : Nat) (rt : Option FieldType) (Ts : List Cond) (own : String) (D : va_G) (cs : Nat → ClassId) : Prop :=
  p.tables.exec = Jvm.exec ∧ c.code = cc ∧ meth.sig.returnType = rt ∧ c.maxLocals = nL ∧ (∀ w ∈ Ts, w.before args s = true) ∧ s.vm.findClass own = some m.cls ∧ va_K D vwCl (tyL cs) s ∧ meth.locks = false
/-- a contract's start and its ends -/
abbrev pC (D : va_G) (cs : Nat → ClassId) (ad : Nat → Nat) (n : Nat) (as : List Value) (g : Nat → va_E) : Array Value → State → Prop := va_Pc as (fun U => va_P D vwCl (wL ad g n) U.heap ∧ va_K D vwCl (tyL cs) U)
abbrev qI (D : va_G) (ad : Nat → Nat) (n : Nat) (post : Int32 → (Nat → va_E) → Prop) : Array Value → State → Outcome → State → Prop := va_Qi post (fun g' t => va_P D vwCl (wL ad g' n) t.heap) (wA ad n)
abbrev qJ (D : va_G) (ad : Nat → Nat) (n : Nat) (post : Int64 → (Nat → va_E) → Prop) : Array Value → State → Outcome → State → Prop := va_Ql post (fun g' t => va_P D vwCl (wL ad g' n) t.heap) (wA ad n)
abbrev qV (D : va_G) (ad : Nat → Nat) (n : Nat) (post : (Nat → va_E) → Prop) : Array Value → State → Outcome → State → Prop := va_Qv post (fun g' t => va_P D vwCl (wL ad g' n) t.heap) (wA ad n)
def cI (l : Launch) (y : MethodName) (ws : List Cond) (rm : Room) (D : va_G) (cs : Nat → ClassId) (ad : Nat → Nat) (n : Nat) (as : List Value) (g : Nat → va_E) (post : Int32 → (Nat → va_E) → Prop) : Prop := Met l y ws rm (pC D cs ad n as g) (qI D ad n post) 0 0 (wA ad n)
def cJ (l : Launch) (y : MethodName) (ws : List Cond) (rm : Room) (D : va_G) (cs : Nat → ClassId) (ad : Nat → Nat) (n : Nat) (as : List Value) (g : Nat → va_E) (post : Int64 → (Nat → va_E) → Prop) : Prop := Met l y ws rm (pC D cs ad n as g) (qJ D ad n post) 0 0 (wA ad n)
def cV (l : Launch) (y : MethodName) (ws : List Cond) (rm : Room) (D : va_G) (cs : Nat → ClassId) (ad : Nat → Nat) (n : Nat) (as : List Value) (g : Nat → va_E) (post : (Nat → va_E) → Prop) : Prop := Met l y ws rm (pC D cs ad n as g) (qV D ad n post) 0 0 (wA ad n)
theorem pC_blind {D : va_G} {cs : Nat → ClassId} {ad : Nat → Nat} {n : Nat} {as : List Value} {g : Nat → va_E} : FrameBlind (pC D cs ad n as g) := fun a U f mk q => by
  obtain ⟨q0, qP, qK⟩ := q
  exact ⟨q0, qP, va_K.moved (u := U) (U := U.calling f mk a) (Vm.Alike.refl U.vm) qK⟩
theorem Met.start {l : Launch} {y : MethodName} {ws ws' : List Cond} {rm : Room} {D : va_G} {cs : Nat → ClassId} {ad : Nat → Nat} {n : Nat} {as : List Value} {g : Nat → va_E} {Qc : Array Value → State → Outcome → State → Prop} {cc : ByteArray} {maxL : Nat} {ret : Option FieldType} {mc ms : Nat} {free : Addr → Prop} (own : String) (ho : y.cls = own) (hy : plainName y.cls = true) (hw : ws = Cond.code y cc maxL ret :: ws') (hlen : (lg_sl as).length ≤ maxL)
    (body : ∀ (p : Program) (e : Env) (s : State) (m : MethodId) (below : List Frame) (meth : Method) (c : Code) (ls : Array Slot), Cx p s m as.toArray meth c cc maxL ret ws own D cs → va_P D vwCl (wL ad g n) s.heap → lv_has ls maxL (lv_args 0 as) → W p l e rm s m as.toArray below meth c s.heap [] 0 0 (MQ below Qc as.toArray s mc ms free) (F0 m 0 ls [])) : Met l y ws rm (pC D cs ad n as g) Qc mc ms free := by
  refine Met.ofW (cc := cc) (maxL := maxL) (ret := ret) hy hw ?_
  intro p e s m args below meth c s₁ B hml hv
  obtain ⟨rfl, hP, hK⟩ := hv
  subst ho
  rw [lg_entry_eq]
  exact body p e s m below meth c _ ⟨B.exec, B.bytes, B.returns, hml, atoms_spec (ws := ws) B.pre, findClass_of_methodNamed B.named, hK, B.notSynchronized⟩ hP (lv_entry as hlen)
section BASE
variable {p : Program} {l : Launch} {e : Env} {R : Room} {s : State} {m : MethodId} {args : Array Value} {below : List Frame} {meth : Method} {c : Code} {H H0 : Heap} {locs : List Loc} {cells slots : Nat} {Q : State → Prop}
variable {cc : ByteArray} {pc nL n : Nat} {ls : Array Slot} {rest : List Value} {D : va_G} {cs : Nat → ClassId} {A : Nat → Prop} {ad : Nat → Nat} {g : Nat → va_E} {rt : Option FieldType} {Ts : List Cond} {own : String}
theorem q_get (X : Cx p s m args meth c cc nL rt Ts own D cs) {C : String} {T : u_T} {N ci index : Nat} (hin : ∀ w ∈ u_ws C T N, w ∈ Ts) (hP : va_P D vwCl (wL ad g n) H) {i : Nat} {fs : List Value} (hi : i < n) (hg : g i = .inr (ci, fs)) (hc : vwCl[ci]? = some (C, T, N)) (k : Nat) (hk : k < N) (hlink : Cond.fieldLink own index (T k).1 (T k).2.1 (T k).2.2.1 ∈ Ts) {v : Value} (hv : fs[k]? = some v) (hdg : decode cc pc = .ok (.getfield index, 3))
    (kk : W p l e R s m args below meth c H locs cells slots Q (F0 m (pc + 3) ls (v :: rest))) : W p l e R s m args below meth c H locs cells slots Q (F0 m pc ls (.ref (ad i) :: rest)) :=
  va_get X.1 X.2.1 X.2.2.2.2.1 hin X.2.2.2.2.2.1 X.2.2.2.2.2.2.1 hP i (wL_at hi hg) hc k hk (X.2.2.2.2.1 _ hlink) (fun _ h => h) hv hdg kk
theorem q_put (X : Cx p s m args meth c cc nL rt Ts own D cs) {C : String} {T : u_T} {N ci index : Nat} (hin : ∀ w ∈ u_ws C T N, w ∈ Ts) (ty0 : Nat → FieldType) (hty : ∀ k, k < N → parseFieldDescriptor (T k).2.2.1 = some (ty0 k)) (hnm : ∀ a, a < N → ∀ b, b < N → a ≠ b → (T a).2.1 ≠ (T b).2.1) (hP : va_P D vwCl (wL ad g n) H) (hj : wJ ad n) (hA : ∀ i, i < n → A (ad i)) (hS : va_S A H0 H locs) {i : Nat} {fs : List Value} (hi : i < n) (hg : g i = .inr (ci, fs)) (hc : vwCl[ci]? = some (C, T, N)) (k : Nat) (hk : k < N) (hlink : Cond.fieldLink own index (T k).1 (T k).2.1 (T k).2.2.1 ∈ Ts) (hfin : (T k).2.2.2 = false) {ty : FieldType} {v : Value} (hd : parseFieldDescriptor (T k).2.2.1 = some ty) (hn : narrow ty v = v) (hfit : fits ty v = true) (hl : k < fs.length) (hdg : decode cc pc = .ok (.putfield index, 3))
    (kk : ∀ (H1 : Heap) (locs1 : List Loc), va_P D vwCl (wL ad (va_up g i (.inr (ci, fs.set k v))) n) H1 → va_S A H0 H1 locs1 → W p l e R s m args below meth c H1 locs1 cells slots Q (F0 m (pc + 3) ls rest)) : W p l e R s m args below meth c H locs cells slots Q (F0 m pc ls (v :: .ref (ad i) :: rest)) :=
  va_put X.1 X.2.1 X.2.2.2.2.1 hin ty0 hty hnm X.2.2.2.2.2.1 X.2.2.2.2.2.2.1 hP (wL_D hj hA) hS i (wL_at hi hg) hc k hk (X.2.2.2.2.1 _ hlink) (fun _ h => h) hfin hd hn hfit hl hdg (fun H1 locs1 hP1 _ hS1 => kk H1 locs1 (by rw [← wL_set]; exact hP1) hS1)
theorem q_iald (X : Cx p s m args meth c cc nL rt Ts own D cs) (hP : va_P D vwCl (wL ad g n) H) {i N : Nat} {f : Nat → Int32} (hi : i < n) (hg : g i = .inl (cs 1, N, .inl f)) {k : Int32} (hin : vp_in k N) (hdg : decode cc pc = .ok (.iaload, 1))
    (kk : W p l e R s m args below meth c H locs cells slots Q (F0 m (pc + 1) ls (.int (f k.toNatClampNeg) :: rest))) : W p l e R s m args below meth c H locs cells slots Q (F0 m pc ls (.int k :: .ref (ad i) :: rest)) :=
  va_iald X.1 X.2.1 X.2.2.2.2.2.2.1 hP i 1 (wL_at hi hg) rfl hin hdg kk
theorem q_bald (X : Cx p s m args meth c cc nL rt Ts own D cs) (hP : va_P D vwCl (wL ad g n) H) {i N : Nat} {f : Nat → Int32} (hi : i < n) (hg : g i = .inl (cs 0, N, .inl f)) {k : Int32} (hin : vp_in k N) (hdg : decode cc pc = .ok (.baload, 1))
    (kk : W p l e R s m args below meth c H locs cells slots Q (F0 m (pc + 1) ls (.int (f k.toNatClampNeg) :: rest))) : W p l e R s m args below meth c H locs cells slots Q (F0 m pc ls (.int k :: .ref (ad i) :: rest)) :=
  va_bald X.1 X.2.1 X.2.2.2.2.2.2.1 hP i 0 (wL_at hi hg) rfl hin hdg kk
theorem q_zald (X : Cx p s m args meth c cc nL rt Ts own D cs) (hP : va_P D vwCl (wL ad g n) H) {i N : Nat} {f : Nat → Int32} (hi : i < n) (hg : g i = .inl (cs 3, N, .inl f)) {k : Int32} (hin : vp_in k N) (hdg : decode cc pc = .ok (.baload, 1))
    (kk : W p l e R s m args below meth c H locs cells slots Q (F0 m (pc + 1) ls (.int (f k.toNatClampNeg) :: rest))) : W p l e R s m args below meth c H locs cells slots Q (F0 m pc ls (.int k :: .ref (ad i) :: rest)) :=
  va_zald X.1 X.2.1 X.2.2.2.2.2.2.1 hP i 3 (wL_at hi hg) rfl hin hdg kk
theorem q_lald (X : Cx p s m args meth c cc nL rt Ts own D cs) (hP : va_P D vwCl (wL ad g n) H) {i N : Nat} {f : Nat → Int64} (hi : i < n) (hg : g i = .inl (cs 2, N, .inr (.inl f))) {k : Int32} (hin : vp_in k N) (hdg : decode cc pc = .ok (.laload, 1))
    (kk : W p l e R s m args below meth c H locs cells slots Q (F0 m (pc + 1) ls (.long (f k.toNatClampNeg) :: rest))) : W p l e R s m args below meth c H locs cells slots Q (F0 m pc ls (.int k :: .ref (ad i) :: rest)) :=
  va_lald X.1 X.2.1 X.2.2.2.2.2.2.1 hP i 2 (wL_at hi hg) rfl hin hdg kk
theorem q_iast (X : Cx p s m args meth c cc nL rt Ts own D cs) (hP : va_P D vwCl (wL ad g n) H) (hj : wJ ad n) (hA : ∀ i, i < n → A (ad i)) (hS : va_S A H0 H locs) {i N : Nat} {f : Nat → Int32} (hi : i < n) (hg : g i = .inl (cs 1, N, .inl f)) {k x : Int32} (hin : vp_in k N) (hdg : decode cc pc = .ok (.iastore, 1))
    (kk : ∀ (H1 : Heap) (locs1 : List Loc), va_P D vwCl (wL ad (va_up g i (.inl (cs 1, N, .inl (upd f k.toNatClampNeg x)))) n) H1 → va_S A H0 H1 locs1 → W p l e R s m args below meth c H1 locs1 cells slots Q (F0 m (pc + 1) ls rest)) : W p l e R s m args below meth c H locs cells slots Q (F0 m pc ls (.int x :: .int k :: .ref (ad i) :: rest)) :=
  va_iast X.1 X.2.1 X.2.2.2.2.2.2.1 hP (wL_D hj hA) hS i 1 (wL_at hi hg) rfl hin hdg (fun H1 locs1 hP1 _ hS1 => kk H1 locs1 (by rw [← wL_set]; exact hP1) hS1)
theorem q_bast (X : Cx p s m args meth c cc nL rt Ts own D cs) (hP : va_P D vwCl (wL ad g n) H) (hj : wJ ad n) (hA : ∀ i, i < n → A (ad i)) (hS : va_S A H0 H locs) {i N : Nat} {f : Nat → Int32} (hi : i < n) (hg : g i = .inl (cs 0, N, .inl f)) {k x : Int32} (hin : vp_in k N) (hdg : decode cc pc = .ok (.bastore, 1))
    (kk : ∀ (H1 : Heap) (locs1 : List Loc), va_P D vwCl (wL ad (va_up g i (.inl (cs 0, N, .inl (upd f k.toNatClampNeg (vp_nar .byte x))))) n) H1 → va_S A H0 H1 locs1 → W p l e R s m args below meth c H1 locs1 cells slots Q (F0 m (pc + 1) ls rest)) : W p l e R s m args below meth c H locs cells slots Q (F0 m pc ls (.int x :: .int k :: .ref (ad i) :: rest)) :=
  va_bast X.1 X.2.1 X.2.2.2.2.2.2.1 hP (wL_D hj hA) hS i 0 (wL_at hi hg) rfl hin hdg (fun H1 locs1 hP1 _ hS1 => kk H1 locs1 (by rw [← wL_set]; exact hP1) hS1)
theorem q_zast (X : Cx p s m args meth c cc nL rt Ts own D cs) (hP : va_P D vwCl (wL ad g n) H) (hj : wJ ad n) (hA : ∀ i, i < n → A (ad i)) (hS : va_S A H0 H locs) {i N : Nat} {f : Nat → Int32} (hi : i < n) (hg : g i = .inl (cs 3, N, .inl f)) {k x : Int32} (hin : vp_in k N) (hdg : decode cc pc = .ok (.bastore, 1))
    (kk : ∀ (H1 : Heap) (locs1 : List Loc), va_P D vwCl (wL ad (va_up g i (.inl (cs 3, N, .inl (upd f k.toNatClampNeg (vp_nar .boolean x))))) n) H1 → va_S A H0 H1 locs1 → W p l e R s m args below meth c H1 locs1 cells slots Q (F0 m (pc + 1) ls rest)) : W p l e R s m args below meth c H locs cells slots Q (F0 m pc ls (.int x :: .int k :: .ref (ad i) :: rest)) :=
  va_zast X.1 X.2.1 X.2.2.2.2.2.2.1 hP (wL_D hj hA) hS i 3 (wL_at hi hg) rfl hin hdg (fun H1 locs1 hP1 _ hS1 => kk H1 locs1 (by rw [← wL_set]; exact hP1) hS1)
theorem q_last (X : Cx p s m args meth c cc nL rt Ts own D cs) (hP : va_P D vwCl (wL ad g n) H) (hj : wJ ad n) (hA : ∀ i, i < n → A (ad i)) (hS : va_S A H0 H locs) {i N : Nat} {f : Nat → Int64} (hi : i < n) (hg : g i = .inl (cs 2, N, .inr (.inl f))) {k : Int32} {x : Int64} (hin : vp_in k N) (hdg : decode cc pc = .ok (.lastore, 1))
    (kk : ∀ (H1 : Heap) (locs1 : List Loc), va_P D vwCl (wL ad (va_up g i (.inl (cs 2, N, .inr (.inl (vp_updL f k.toNatClampNeg x))))) n) H1 → va_S A H0 H1 locs1 → W p l e R s m args below meth c H1 locs1 cells slots Q (F0 m (pc + 1) ls rest)) : W p l e R s m args below meth c H locs cells slots Q (F0 m pc ls (.long x :: .int k :: .ref (ad i) :: rest)) :=
  va_last X.1 X.2.1 X.2.2.2.2.2.2.1 hP (wL_D hj hA) hS i 2 (wL_at hi hg) rfl hin hdg (fun H1 locs1 hP1 _ hS1 => kk H1 locs1 (by rw [← wL_set]; exact hP1) hS1)
theorem q_iret (X : Cx p s m args meth c cc nL (some .int) Ts own D cs) {post : Int32 → (Nat → va_E) → Prop} (hP : va_P D vwCl (wL ad g n) H) (hS : va_S (wA ad n) s.heap H locs) {v : Int32} (hpost : post v g) (hdg : decode cc pc = .ok (.ireturn, 1)) : W p l e R s m args below meth c H locs 0 0 (MQ below (qI D ad n post) args s 0 0 (wA ad n)) (F0 m pc ls [.int v]) :=
  W.iret X.1 X.2.1 X.2.2.1 (fun t ht _ => ⟨⟨v, g, rfl, hpost, (by show va_P D vwCl (wL ad g n) t.heap; rw [ht]; exact hP)⟩, hS.F ht⟩) hS.2.2 hdg X.2.2.2.2.2.2.2
theorem q_zret (X : Cx p s m args meth c cc nL (some .boolean) Ts own D cs) {post : Int32 → (Nat → va_E) → Prop} (hP : va_P D vwCl (wL ad g n) H) (hS : va_S (wA ad n) s.heap H locs) {v : Int32} (hn : narrow .boolean (.int v) = .int v) (hpost : post v g) (hdg : decode cc pc = .ok (.ireturn, 1)) : W p l e R s m args below meth c H locs 0 0 (MQ below (qI D ad n post) args s 0 0 (wA ad n)) (F0 m pc ls [.int v]) :=
  W.zret X.1 X.2.1 X.2.2.1 hn (fun t ht _ => ⟨⟨v, g, rfl, hpost, (by show va_P D vwCl (wL ad g n) t.heap; rw [ht]; exact hP)⟩, hS.F ht⟩) hS.2.2 hdg X.2.2.2.2.2.2.2
theorem q_lret (X : Cx p s m args meth c cc nL (some .long) Ts own D cs) {post : Int64 → (Nat → va_E) → Prop} (hP : va_P D vwCl (wL ad g n) H) (hS : va_S (wA ad n) s.heap H locs) {v : Int64} (hpost : post v g) (hdg : decode cc pc = .ok (.lreturn, 1)) : W p l e R s m args below meth c H locs 0 0 (MQ below (qJ D ad n post) args s 0 0 (wA ad n)) (F0 m pc ls [.long v]) :=
  W.lret X.1 X.2.1 X.2.2.1 (fun t ht _ => ⟨⟨v, g, rfl, hpost, (by show va_P D vwCl (wL ad g n) t.heap; rw [ht]; exact hP)⟩, hS.F ht⟩) hS.2.2 hdg X.2.2.2.2.2.2.2
theorem q_vret (X : Cx p s m args meth c cc nL none Ts own D cs) {post : (Nat → va_E) → Prop} (hP : va_P D vwCl (wL ad g n) H) (hS : va_S (wA ad n) s.heap H locs) (hpost : post g) (hdg : decode cc pc = .ok (.return_, 1)) : W p l e R s m args below meth c H locs 0 0 (MQ below (qV D ad n post) args s 0 0 (wA ad n)) (F0 m pc ls []) :=
  W.vret X.1 X.2.1 X.2.2.1 (fun t ht _ => ⟨⟨g, rfl, hpost, (by show va_P D vwCl (wL ad g n) t.heap; rw [ht]; exact hP)⟩, hS.F ht⟩) hS.2.2 hdg X.2.2.2.2.2.2.2
variable {y : MethodName} {ws ws' : List Cond} {rm : Room} {bytes : ByteArray} {maxL index k : Nat} {ret : Option FieldType} {C : String} {As : List Value} {st : List Value}
theorem wA_in (hA : ∀ i, i < n → A (ad i)) : ∀ q, wA ad n q → A q := fun q h => by
  obtain ⟨i, hi, rfl⟩ := h
  exact hA i hi
theorem q_preV (X : Cx p s m args meth c cc nL rt Ts own D cs) (hP : va_P D vwCl (wL ad g n) H) {i ci : Nat} {fs : List Value} {q : vw_C} (hi : i < n) (hg : g i = .inr (ci, fs)) (hc : vwCl[ci]? = some q) : PreV s H q.1 (ad i) (pC D cs ad n (.ref (ad i) :: As) g) As :=
  ⟨pC_blind, va_recv X.2.2.2.2.2.2.1 hP hc (wL_at hi hg), fun U hU hW => ⟨rfl, by rw [hU]; exact hP, va_K.moved hW.alike X.2.2.2.2.2.2.1⟩⟩
theorem q_preS (X : Cx p s m args meth c cc nL rt Ts own D cs) (hP : va_P D vwCl (wL ad g n) H) : PreS s H (pC D cs ad n As g) As :=
  ⟨pC_blind, fun U hU hW => ⟨rfl, by rw [hU]; exact hP, va_K.moved hW.alike X.2.2.2.2.2.2.1⟩⟩
theorem q_calli (X : Cx p s m args meth c cc nL rt Ts own D cs) {i ci : Nat} {fs : List Value} {q : vw_C} {post : Int32 → (Nat → va_E) → Prop} (hM : cI l y ws rm D cs ad n (.ref (ad i) :: As) g post) (cw : CallW R s args own q.1 index y bytes maxL ret ws rm 0 0 k) (hi : i < n) (hg : g i = .inr (ci, fs)) (hc : vwCl[ci]? = some q) (hP : va_P D vwCl (wL ad g n) H) (hA : ∀ i, i < n → A (ad i)) (hS : va_S A H0 H locs) (hn : As.length = k) (hsz : ls.size = nL) (hst : st = As.reverse ++ .ref (ad i) :: rest) (hcat : (rest.map fun v => v.category).sum ≤ 8) (hdg : decode cc pc = .ok (.invokevirtual index, 3)) (hf : cells + 0 ≤ R.cells ∧ slots + 0 ≤ R.slots)
    (kk : ∀ (r : Int32) (g' : Nat → va_E) (H1 : Heap) (locs1 : List Loc), post r g' → va_P D vwCl (wL ad g' n) H1 → va_S A H0 H1 locs1 → W p l e R s m args below meth c H1 locs1 cells slots Q (F0 m (pc + 3) ls (.int r :: rest))) : W p l e R s m args below meth c H locs cells slots Q (F0 m pc ls st) :=
  va_calli (va_runV (nL := nL) (b := ad i) (As := As) (rest := rest) ⟨X.1, X.2.1, X.2.2.2.1, X.2.2.2.2.2.1, X.2.2.2.2.1⟩ hM cw (q_preV X hP hi hg hc) rfl hn hsz hst (lv_room hcat) hdg hf) hS (fun q _ h => wA_in hA q h) (wA_in hA) (fun r u t H1 locs1 ht _ hw hB _ _ hS1 => kk r u H1 locs1 hw (by rw [← ht]; exact hB) hS1)
theorem q_callj (X : Cx p s m args meth c cc nL rt Ts own D cs) {i ci : Nat} {fs : List Value} {q : vw_C} {post : Int64 → (Nat → va_E) → Prop} (hM : cJ l y ws rm D cs ad n (.ref (ad i) :: As) g post) (cw : CallW R s args own q.1 index y bytes maxL ret ws rm 0 0 k) (hi : i < n) (hg : g i = .inr (ci, fs)) (hc : vwCl[ci]? = some q) (hP : va_P D vwCl (wL ad g n) H) (hA : ∀ i, i < n → A (ad i)) (hS : va_S A H0 H locs) (hn : As.length = k) (hsz : ls.size = nL) (hst : st = As.reverse ++ .ref (ad i) :: rest) (hcat : (rest.map fun v => v.category).sum ≤ 8) (hdg : decode cc pc = .ok (.invokevirtual index, 3)) (hf : cells + 0 ≤ R.cells ∧ slots + 0 ≤ R.slots)
    (kk : ∀ (r : Int64) (g' : Nat → va_E) (H1 : Heap) (locs1 : List Loc), post r g' → va_P D vwCl (wL ad g' n) H1 → va_S A H0 H1 locs1 → W p l e R s m args below meth c H1 locs1 cells slots Q (F0 m (pc + 3) ls (.long r :: rest))) : W p l e R s m args below meth c H locs cells slots Q (F0 m pc ls st) :=
  va_calll (va_runV (nL := nL) (b := ad i) (As := As) (rest := rest) ⟨X.1, X.2.1, X.2.2.2.1, X.2.2.2.2.2.1, X.2.2.2.2.1⟩ hM cw (q_preV X hP hi hg hc) rfl hn hsz hst (lv_room hcat) hdg hf) hS (fun q _ h => wA_in hA q h) (wA_in hA) (fun r u t H1 locs1 ht _ hw hB _ _ hS1 => kk r u H1 locs1 hw (by rw [← ht]; exact hB) hS1)
theorem q_callv (X : Cx p s m args meth c cc nL rt Ts own D cs) {i ci : Nat} {fs : List Value} {q : vw_C} {post : (Nat → va_E) → Prop} (hM : cV l y ws rm D cs ad n (.ref (ad i) :: As) g post) (cw : CallW R s args own q.1 index y bytes maxL ret ws rm 0 0 k) (hi : i < n) (hg : g i = .inr (ci, fs)) (hc : vwCl[ci]? = some q) (hP : va_P D vwCl (wL ad g n) H) (hA : ∀ i, i < n → A (ad i)) (hS : va_S A H0 H locs) (hn : As.length = k) (hsz : ls.size = nL) (hst : st = As.reverse ++ .ref (ad i) :: rest) (hcat : (rest.map fun v => v.category).sum ≤ 8) (hdg : decode cc pc = .ok (.invokevirtual index, 3)) (hf : cells + 0 ≤ R.cells ∧ slots + 0 ≤ R.slots)
    (kk : ∀ (g' : Nat → va_E) (H1 : Heap) (locs1 : List Loc), post g' → va_P D vwCl (wL ad g' n) H1 → va_S A H0 H1 locs1 → W p l e R s m args below meth c H1 locs1 cells slots Q (F0 m (pc + 3) ls rest)) : W p l e R s m args below meth c H locs cells slots Q (F0 m pc ls st) :=
  va_callv (va_runV (nL := nL) (b := ad i) (As := As) (rest := rest) ⟨X.1, X.2.1, X.2.2.2.1, X.2.2.2.2.2.1, X.2.2.2.2.1⟩ hM cw (q_preV X hP hi hg hc) rfl hn hsz hst (lv_room hcat) hdg hf) hS (fun q _ h => wA_in hA q h) (wA_in hA) (fun u t H1 locs1 ht _ hw hB _ _ hS1 => kk u H1 locs1 hw (by rw [← ht]; exact hB) hS1)
theorem q_callSi (X : Cx p s m args meth c cc nL rt Ts own D cs) {post : Int32 → (Nat → va_E) → Prop} (hM : cI l y ws rm D cs ad n As g post) (cw : CallB R s args own index y bytes maxL ret ws rm 0 0 k ∧ (Cond.static y).before args s = true) (hP : va_P D vwCl (wL ad g n) H) (hA : ∀ i, i < n → A (ad i)) (hS : va_S A H0 H locs) (hn : As.length = k) (hsz : ls.size = nL) (hst : st = As.reverse ++ rest) (hcat : (rest.map fun v => v.category).sum ≤ 8) (hdg : decode cc pc = .ok (.invokestatic index, 3)) (hf : cells + 0 ≤ R.cells ∧ slots + 0 ≤ R.slots)
    (kk : ∀ (r : Int32) (g' : Nat → va_E) (H1 : Heap) (locs1 : List Loc), post r g' → va_P D vwCl (wL ad g' n) H1 → va_S A H0 H1 locs1 → W p l e R s m args below meth c H1 locs1 cells slots Q (F0 m (pc + 3) ls (.int r :: rest))) : W p l e R s m args below meth c H locs cells slots Q (F0 m pc ls st) :=
  va_calli (va_runS (nL := nL) (As := As) (rest := rest) ⟨X.1, X.2.1, X.2.2.2.1, X.2.2.2.2.2.1, X.2.2.2.2.1⟩ hM cw (q_preS X hP) rfl hn hsz hst (lv_room hcat) hdg hf) hS (fun q _ h => wA_in hA q h) (wA_in hA) (fun r u t H1 locs1 ht _ hw hB _ _ hS1 => kk r u H1 locs1 hw (by rw [← ht]; exact hB) hS1)
theorem q_callSj (X : Cx p s m args meth c cc nL rt Ts own D cs) {post : Int64 → (Nat → va_E) → Prop} (hM : cJ l y ws rm D cs ad n As g post) (cw : CallB R s args own index y bytes maxL ret ws rm 0 0 k ∧ (Cond.static y).before args s = true) (hP : va_P D vwCl (wL ad g n) H) (hA : ∀ i, i < n → A (ad i)) (hS : va_S A H0 H locs) (hn : As.length = k) (hsz : ls.size = nL) (hst : st = As.reverse ++ rest) (hcat : (rest.map fun v => v.category).sum ≤ 8) (hdg : decode cc pc = .ok (.invokestatic index, 3)) (hf : cells + 0 ≤ R.cells ∧ slots + 0 ≤ R.slots)
    (kk : ∀ (r : Int64) (g' : Nat → va_E) (H1 : Heap) (locs1 : List Loc), post r g' → va_P D vwCl (wL ad g' n) H1 → va_S A H0 H1 locs1 → W p l e R s m args below meth c H1 locs1 cells slots Q (F0 m (pc + 3) ls (.long r :: rest))) : W p l e R s m args below meth c H locs cells slots Q (F0 m pc ls st) :=
  va_calll (va_runS (nL := nL) (As := As) (rest := rest) ⟨X.1, X.2.1, X.2.2.2.1, X.2.2.2.2.2.1, X.2.2.2.2.1⟩ hM cw (q_preS X hP) rfl hn hsz hst (lv_room hcat) hdg hf) hS (fun q _ h => wA_in hA q h) (wA_in hA) (fun r u t H1 locs1 ht _ hw hB _ _ hS1 => kk r u H1 locs1 hw (by rw [← ht]; exact hB) hS1)
end BASE
end
section
abbrev nW : Nat := 218
theorem i_ge {x : Int32} (h : ¬ x < 0) : 0 ≤ x := Int32.not_lt.mp h
theorem i_eq {x y : Int32} (h1 : ¬ x < y) (h2 : x ≤ y) : x = y := Int32.le_antisymm h2 (Int32.not_lt.mp h1)
theorem sw_of {x : Int32} {N : Nat} (h : ¬ (x.toInt < 0 ∨ (N : Int) < x.toInt)) (hN : N < 2 ^ 31) : ∃ j : Nat, j ≤ N ∧ x = nI j := by
  have h0 : ¬ x < 0 := fun q => h (Or.inl (by have := Int32.lt_iff_toInt_lt.mp q; simpa using this))
  obtain ⟨j, hj, rfl⟩ := nI_of h0
  refine ⟨j, ?_, rfl⟩
  rw [nI_toInt hj] at h
  omega
theorem in_of {x : Int32} {N : Nat} (h0 : ¬ x < 0) (h : x < nI N) (hN : N < 2 ^ 31) : ∃ j : Nat, j < N ∧ x = nI j := by
  obtain ⟨j, hj, rfl⟩ := nI_of h0
  exact ⟨j, (nI_ltI hj hN).mp h, rfl⟩
def inS (x : Int32) : Prop := ¬ x < 0 ∧ x < 4
theorem inS_4 {x : Int32} (h : inS x) : x = 0 ∨ x = 1 ∨ x = 2 ∨ x = 3 := by
  obtain ⟨j, hj, rfl⟩ := in_of (N := 4) h.1 h.2 (by decide)
  rcases (by omega : j = 0 ∨ j = 1 ∨ j = 2 ∨ j = 3) with rfl | rfl | rfl | rfl <;> simp [nI]
theorem in3 {x : Int32} (h0 : ¬ x < 0) (h : x < 3) : x = 0 ∨ x = 1 ∨ x = 2 := by
  obtain ⟨j, hj, rfl⟩ := in_of (N := 3) h0 h (by decide)
  rcases (by omega : j = 0 ∨ j = 1 ∨ j = 2) with rfl | rfl | rfl <;> simp [nI]
noncomputable def aBack (k : Int32) : Int32 := if k < 0 then -2 else if k < 3 then -6 else -2
noncomputable def aImg (k : Int32) : Int32 := if k < 0 then -2 else if k < 3 then 0 else -2
noncomputable def aEnd (n : Int32) : Int32 := if n = 0 then 0 else -1
noncomputable def aWr (s : Int32) : Int32 := if s < 0 then -2 else if s < 4 then -6 else -2
noncomputable def aPst (s t : Int32) : Int32 := if s < 0 then -2 else if s < 4 then aWr t else -2
noncomputable def aRow (s w n : Int32) : Int32 := if s < 0 then -2 else if s < 4 then if w < 0 then -2 else if w < 4 then if n ≤ 60 then if 0 ≤ n then 0 else -3 else -2 else -2 else -2
noncomputable def aCnt (w : Int32) : Int32 := if w.toInt < 0 ∨ 10 < w.toInt then -1 else 0
theorem aWr_in {s : Int32} (h : inS s) : aWr s = -6 := by unfold aWr; rw [if_neg h.1, if_pos h.2]
theorem aWr_out {s : Int32} (h : ¬ inS s) : aWr s = -2 := by
  unfold aWr
  by_cases h1 : s < 0
  · rw [if_pos h1]
  · rw [if_neg h1, if_neg (fun h2 => h ⟨h1, h2⟩)]
theorem aPst_in {s t : Int32} (h : inS s) : aPst s t = aWr t := by unfold aPst; rw [if_neg h.1, if_pos h.2]
theorem aPst_out {s t : Int32} (h : ¬ inS s) : aPst s t = -2 := by
  unfold aPst
  by_cases h1 : s < 0
  · rw [if_pos h1]
  · rw [if_neg h1, if_neg (fun h2 => h ⟨h1, h2⟩)]
theorem aEnd_ne {n : Int32} (h : ¬ n = 0) : -1 = aEnd n := (if_neg h).symm
section MORE
variable {p : Program} {l : Launch} {e : Env} {R : Room} {s : State} {m : MethodId} {args : Array Value} {below : List Frame} {meth : Method} {c : Code} {H H0 : Heap} {locs : List Loc} {cells slots : Nat} {Q : State → Prop}
variable {cc : ByteArray} {pc nL n : Nat} {ls : Array Slot} {rest : List Value} {D : va_G} {cs : Nat → ClassId} {A : Nat → Prop} {ad : Nat → Nat} {g : Nat → va_E} {rt : Option FieldType} {Ts : List Cond} {own : String}
theorem q_aald (X : Cx p s m args meth c cc nL rt Ts own D cs) (hP : va_P D vwCl (wL ad g n) H) (t0 : Nat) {C : String} (ht : (tyL cs)[t0]? = some (cs t0, .object C)) {i N : Nat} {f : Nat → Option Nat} (hi : i < n) (hg : g i = .inl (cs t0, N, .inr (.inr (.inr (.inr f))))) {k : Int32} (hin : vp_in k N) {v : Nat} (hv : f k.toNatClampNeg = some v) (hdg : decode cc pc = .ok (.aaload, 1))
    (kk : W p l e R s m args below meth c H locs cells slots Q (F0 m (pc + 1) ls (.ref v :: rest))) : W p l e R s m args below meth c H locs cells slots Q (F0 m pc ls (.int k :: .ref (ad i) :: rest)) :=
  va_aldq X.1 X.2.1 X.2.2.2.2.2.2.1 hP i t0 (wL_at hi hg) ht hin hdg (by rw [hv]; exact kk)
end MORE
end
section
theorem dX11_isDay_0 : decode cX11_isDay 0 = .ok (.iload_n 1, 1) := by decide +kernel
theorem dX11_isDay_1 : decode cX11_isDay 1 = .ok (.ifCond .lt 18, 3) := by decide +kernel
theorem dX11_isDay_19 : decode cX11_isDay 19 = .ok (.iconst 0, 1) := by decide +kernel
theorem dX11_isDay_20 : decode cX11_isDay 20 = .ok (.ireturn, 1) := by decide +kernel
theorem dX11_isDay_4 : decode cX11_isDay 4 = .ok (.iload_n 1, 1) := by decide +kernel
theorem dX11_isDay_5 : decode cX11_isDay 5 = .ok (.aload_n 0, 1) := by decide +kernel
theorem dX11_isDay_6 : decode cX11_isDay 6 = .ok (.getfield 19, 3) := by decide +kernel
theorem dX11_isDay_9 : decode cX11_isDay 9 = .ok (.getfield 177, 3) := by decide +kernel
theorem dX11_isDay_12 : decode cX11_isDay 12 = .ok (.if_icmp .ge 7, 3) := by decide +kernel
def vX11_isDay : List Cond := .code yX11_isDay cX11_isDay 2 (some .boolean) :: ([.fieldLink RX11 19 "IcicleClock" "now" "LIcicleClock$Street;", .fieldLink RX11 177 "IcicleClock$Street" "days" "I"] ++ wsX110 ++ wsX60)
theorem iX11_isDay_11 : ∀ w ∈ wsX110, w ∈ vX11_isDay := fun _ h => List.mem_cons_of_mem _ (List.mem_append_left _ (List.mem_append_right _ h))
theorem iX11_isDay_6 : ∀ w ∈ wsX60, w ∈ vX11_isDay := fun _ h => List.mem_cons_of_mem _ (List.mem_append_right _ h)
set_option maxHeartbeats 4000000 in
set_option maxRecDepth 100000 in
theorem k_isDay (l : Launch) (D : va_G) (cs : Nat → ClassId) (ad : Nat → Nat) (hj : wJ ad nW) (g : Nat → va_E) (x : Int32) (h0 : g 0 = .inr (11, [.ref (ad 1), .ref (ad 3), .ref (ad 23), .ref (ad 43), .ref (ad 104), .ref (ad 105), .ref (ad 114), .ref (ad 116), .ref (ad 118), .ref (ad 120), .ref (ad 130), .ref (ad 140), .ref (ad 144), .ref (ad 190)])) (h3 : g 3 = .inr (6, [.int 0, .int 0, .int 0, .int 0, .int 0, .int 0, .int 0, .int 0, .ref (ad 4), .ref (ad 5), .ref (ad 6), .ref (ad 7), .ref (ad 8), .ref (ad 9), .ref (ad 10), .ref (ad 11), .ref (ad 12), .ref (ad 13)])) : cI l yX11_isDay vX11_isDay { frames := 0, cells := 0, slots := 0, locals := 0 } D cs ad nW [.ref (ad 0), .int x] g (fun r g2 => r = 0 ∧ g2 = g) := by
  refine Met.start (cc := cX11_isDay) (maxL := 2) (ret := (some .boolean)) RX11 rfl (by decide) rfl (Nat.le_of_ble_eq_true rfl) ?_
  intro p e s m below meth c ls X hP hl
  have hx := X.1
  have hb := X.2.1
  have hS : va_S (wA ad nW) s.heap s.heap [] := va_S.rf
  have hA : ∀ i, i < nW → wA ad nW (ad i) := fun i h => ⟨i, h, rfl⟩
  have hl : lv_has ls 2 [(0, .ref (ad 0)), (1, .int x)] := hl
  refine lv_iload_n hx hb dX11_isDay_0 rfl (lv_at hl 1 rfl) ?_
  refine lv_if_lt (tgt := 19) hx hb dX11_isDay_1 (by decide) (fun hc_1 => ?_) (fun hc_1 => ?_)
  · refine lv_iconst (v := 0) hx hb dX11_isDay_19 (by decide) ?_
    exact q_zret X hP hS rfl ⟨rfl, rfl⟩ dX11_isDay_20
  · refine lv_iload_n hx hb dX11_isDay_4 rfl (lv_at hl 1 rfl) ?_
    refine lv_aload_n hx hb dX11_isDay_5 rfl (lv_at hl 0 rfl) ?_
    refine q_get X iX11_isDay_11 hP (by decide) h0 rfl 1 (by decide) (List.mem_of_getElem? (i := 1) rfl) (v := .ref (ad 3)) rfl dX11_isDay_6 ?_
    refine q_get X iX11_isDay_6 hP (by decide) h3 rfl 3 (by decide) (List.mem_of_getElem? (i := 2) rfl) (v := .int 0) rfl dX11_isDay_9 ?_
    refine lv_icmp_ge (tgt := 19) hx hb dX11_isDay_12 (by decide) (fun hc_12 => ?_) (fun hc_12 => absurd (i_ge hc_1) hc_12)
    refine lv_iconst (v := 0) hx hb dX11_isDay_19 (by decide) ?_
    exact q_zret X hP hS rfl ⟨rfl, rfl⟩ dX11_isDay_20

theorem dX11_isEave_0 : decode cX11_isEave 0 = .ok (.iload_n 1, 1) := by decide +kernel
theorem dX11_isEave_1 : decode cX11_isEave 1 = .ok (.ifCond .lt 18, 3) := by decide +kernel
theorem dX11_isEave_19 : decode cX11_isEave 19 = .ok (.iconst 0, 1) := by decide +kernel
theorem dX11_isEave_20 : decode cX11_isEave 20 = .ok (.ireturn, 1) := by decide +kernel
theorem dX11_isEave_4 : decode cX11_isEave 4 = .ok (.iload_n 1, 1) := by decide +kernel
theorem dX11_isEave_5 : decode cX11_isEave 5 = .ok (.aload_n 0, 1) := by decide +kernel
theorem dX11_isEave_6 : decode cX11_isEave 6 = .ok (.getfield 19, 3) := by decide +kernel
theorem dX11_isEave_9 : decode cX11_isEave 9 = .ok (.getfield 208, 3) := by decide +kernel
theorem dX11_isEave_12 : decode cX11_isEave 12 = .ok (.if_icmp .ge 7, 3) := by decide +kernel
def vX11_isEave : List Cond := .code yX11_isEave cX11_isEave 2 (some .boolean) :: ([.fieldLink RX11 19 "IcicleClock" "now" "LIcicleClock$Street;", .fieldLink RX11 208 "IcicleClock$Street" "eaves" "I"] ++ wsX110 ++ wsX60)
theorem iX11_isEave_11 : ∀ w ∈ wsX110, w ∈ vX11_isEave := fun _ h => List.mem_cons_of_mem _ (List.mem_append_left _ (List.mem_append_right _ h))
theorem iX11_isEave_6 : ∀ w ∈ wsX60, w ∈ vX11_isEave := fun _ h => List.mem_cons_of_mem _ (List.mem_append_right _ h)
set_option maxHeartbeats 4000000 in
set_option maxRecDepth 100000 in
theorem k_isEave (l : Launch) (D : va_G) (cs : Nat → ClassId) (ad : Nat → Nat) (hj : wJ ad nW) (g : Nat → va_E) (x : Int32) (h0 : g 0 = .inr (11, [.ref (ad 1), .ref (ad 3), .ref (ad 23), .ref (ad 43), .ref (ad 104), .ref (ad 105), .ref (ad 114), .ref (ad 116), .ref (ad 118), .ref (ad 120), .ref (ad 130), .ref (ad 140), .ref (ad 144), .ref (ad 190)])) (h3 : g 3 = .inr (6, [.int 0, .int 0, .int 0, .int 0, .int 0, .int 0, .int 0, .int 0, .ref (ad 4), .ref (ad 5), .ref (ad 6), .ref (ad 7), .ref (ad 8), .ref (ad 9), .ref (ad 10), .ref (ad 11), .ref (ad 12), .ref (ad 13)])) : cI l yX11_isEave vX11_isEave { frames := 0, cells := 0, slots := 0, locals := 0 } D cs ad nW [.ref (ad 0), .int x] g (fun r g2 => r = 0 ∧ g2 = g) := by
  refine Met.start (cc := cX11_isEave) (maxL := 2) (ret := (some .boolean)) RX11 rfl (by decide) rfl (Nat.le_of_ble_eq_true rfl) ?_
  intro p e s m below meth c ls X hP hl
  have hx := X.1
  have hb := X.2.1
  have hS : va_S (wA ad nW) s.heap s.heap [] := va_S.rf
  have hA : ∀ i, i < nW → wA ad nW (ad i) := fun i h => ⟨i, h, rfl⟩
  have hl : lv_has ls 2 [(0, .ref (ad 0)), (1, .int x)] := hl
  refine lv_iload_n hx hb dX11_isEave_0 rfl (lv_at hl 1 rfl) ?_
  refine lv_if_lt (tgt := 19) hx hb dX11_isEave_1 (by decide) (fun hc_1 => ?_) (fun hc_1 => ?_)
  · refine lv_iconst (v := 0) hx hb dX11_isEave_19 (by decide) ?_
    exact q_zret X hP hS rfl ⟨rfl, rfl⟩ dX11_isEave_20
  · refine lv_iload_n hx hb dX11_isEave_4 rfl (lv_at hl 1 rfl) ?_
    refine lv_aload_n hx hb dX11_isEave_5 rfl (lv_at hl 0 rfl) ?_
    refine q_get X iX11_isEave_11 hP (by decide) h0 rfl 1 (by decide) (List.mem_of_getElem? (i := 1) rfl) (v := .ref (ad 3)) rfl dX11_isEave_6 ?_
    refine q_get X iX11_isEave_6 hP (by decide) h3 rfl 4 (by decide) (List.mem_of_getElem? (i := 2) rfl) (v := .int 0) rfl dX11_isEave_9 ?_
    refine lv_icmp_ge (tgt := 19) hx hb dX11_isEave_12 (by decide) (fun hc_12 => ?_) (fun hc_12 => absurd (i_ge hc_1) hc_12)
    refine lv_iconst (v := 0) hx hb dX11_isEave_19 (by decide) ?_
    exact q_zret X hP hS rfl ⟨rfl, rfl⟩ dX11_isEave_20

theorem dX11_isIcicle_0 : decode cX11_isIcicle 0 = .ok (.iload_n 1, 1) := by decide +kernel
theorem dX11_isIcicle_1 : decode cX11_isIcicle 1 = .ok (.ifCond .lt 18, 3) := by decide +kernel
theorem dX11_isIcicle_19 : decode cX11_isIcicle 19 = .ok (.iconst 0, 1) := by decide +kernel
theorem dX11_isIcicle_20 : decode cX11_isIcicle 20 = .ok (.ireturn, 1) := by decide +kernel
theorem dX11_isIcicle_4 : decode cX11_isIcicle 4 = .ok (.iload_n 1, 1) := by decide +kernel
theorem dX11_isIcicle_5 : decode cX11_isIcicle 5 = .ok (.aload_n 0, 1) := by decide +kernel
theorem dX11_isIcicle_6 : decode cX11_isIcicle 6 = .ok (.getfield 19, 3) := by decide +kernel
theorem dX11_isIcicle_9 : decode cX11_isIcicle 9 = .ok (.getfield 160, 3) := by decide +kernel
theorem dX11_isIcicle_12 : decode cX11_isIcicle 12 = .ok (.if_icmp .ge 7, 3) := by decide +kernel
def vX11_isIcicle : List Cond := .code yX11_isIcicle cX11_isIcicle 2 (some .boolean) :: ([.fieldLink RX11 19 "IcicleClock" "now" "LIcicleClock$Street;", .fieldLink RX11 160 "IcicleClock$Street" "icicles" "I"] ++ wsX110 ++ wsX60)
theorem iX11_isIcicle_11 : ∀ w ∈ wsX110, w ∈ vX11_isIcicle := fun _ h => List.mem_cons_of_mem _ (List.mem_append_left _ (List.mem_append_right _ h))
theorem iX11_isIcicle_6 : ∀ w ∈ wsX60, w ∈ vX11_isIcicle := fun _ h => List.mem_cons_of_mem _ (List.mem_append_right _ h)
set_option maxHeartbeats 4000000 in
set_option maxRecDepth 100000 in
theorem k_isIcicle (l : Launch) (D : va_G) (cs : Nat → ClassId) (ad : Nat → Nat) (hj : wJ ad nW) (g : Nat → va_E) (x : Int32) (h0 : g 0 = .inr (11, [.ref (ad 1), .ref (ad 3), .ref (ad 23), .ref (ad 43), .ref (ad 104), .ref (ad 105), .ref (ad 114), .ref (ad 116), .ref (ad 118), .ref (ad 120), .ref (ad 130), .ref (ad 140), .ref (ad 144), .ref (ad 190)])) (h3 : g 3 = .inr (6, [.int 0, .int 0, .int 0, .int 0, .int 0, .int 0, .int 0, .int 0, .ref (ad 4), .ref (ad 5), .ref (ad 6), .ref (ad 7), .ref (ad 8), .ref (ad 9), .ref (ad 10), .ref (ad 11), .ref (ad 12), .ref (ad 13)])) : cI l yX11_isIcicle vX11_isIcicle { frames := 0, cells := 0, slots := 0, locals := 0 } D cs ad nW [.ref (ad 0), .int x] g (fun r g2 => r = 0 ∧ g2 = g) := by
  refine Met.start (cc := cX11_isIcicle) (maxL := 2) (ret := (some .boolean)) RX11 rfl (by decide) rfl (Nat.le_of_ble_eq_true rfl) ?_
  intro p e s m below meth c ls X hP hl
  have hx := X.1
  have hb := X.2.1
  have hS : va_S (wA ad nW) s.heap s.heap [] := va_S.rf
  have hA : ∀ i, i < nW → wA ad nW (ad i) := fun i h => ⟨i, h, rfl⟩
  have hl : lv_has ls 2 [(0, .ref (ad 0)), (1, .int x)] := hl
  refine lv_iload_n hx hb dX11_isIcicle_0 rfl (lv_at hl 1 rfl) ?_
  refine lv_if_lt (tgt := 19) hx hb dX11_isIcicle_1 (by decide) (fun hc_1 => ?_) (fun hc_1 => ?_)
  · refine lv_iconst (v := 0) hx hb dX11_isIcicle_19 (by decide) ?_
    exact q_zret X hP hS rfl ⟨rfl, rfl⟩ dX11_isIcicle_20
  · refine lv_iload_n hx hb dX11_isIcicle_4 rfl (lv_at hl 1 rfl) ?_
    refine lv_aload_n hx hb dX11_isIcicle_5 rfl (lv_at hl 0 rfl) ?_
    refine q_get X iX11_isIcicle_11 hP (by decide) h0 rfl 1 (by decide) (List.mem_of_getElem? (i := 1) rfl) (v := .ref (ad 3)) rfl dX11_isIcicle_6 ?_
    refine q_get X iX11_isIcicle_6 hP (by decide) h3 rfl 5 (by decide) (List.mem_of_getElem? (i := 2) rfl) (v := .int 0) rfl dX11_isIcicle_9 ?_
    refine lv_icmp_ge (tgt := 19) hx hb dX11_isIcicle_12 (by decide) (fun hc_12 => ?_) (fun hc_12 => absurd (i_ge hc_1) hc_12)
    refine lv_iconst (v := 0) hx hb dX11_isIcicle_19 (by decide) ?_
    exact q_zret X hP hS rfl ⟨rfl, rfl⟩ dX11_isIcicle_20

theorem dX11_isWork_0 : decode cX11_isWork 0 = .ok (.iload_n 1, 1) := by decide +kernel
theorem dX11_isWork_1 : decode cX11_isWork 1 = .ok (.ifCond .lt 18, 3) := by decide +kernel
theorem dX11_isWork_19 : decode cX11_isWork 19 = .ok (.iconst 0, 1) := by decide +kernel
theorem dX11_isWork_20 : decode cX11_isWork 20 = .ok (.ireturn, 1) := by decide +kernel
theorem dX11_isWork_4 : decode cX11_isWork 4 = .ok (.iload_n 1, 1) := by decide +kernel
theorem dX11_isWork_5 : decode cX11_isWork 5 = .ok (.aload_n 0, 1) := by decide +kernel
theorem dX11_isWork_6 : decode cX11_isWork 6 = .ok (.getfield 19, 3) := by decide +kernel
theorem dX11_isWork_9 : decode cX11_isWork 9 = .ok (.getfield 226, 3) := by decide +kernel
theorem dX11_isWork_12 : decode cX11_isWork 12 = .ok (.if_icmp .ge 7, 3) := by decide +kernel
def vX11_isWork : List Cond := .code yX11_isWork cX11_isWork 2 (some .boolean) :: ([.fieldLink RX11 19 "IcicleClock" "now" "LIcicleClock$Street;", .fieldLink RX11 226 "IcicleClock$Street" "works" "I"] ++ wsX110 ++ wsX60)
theorem iX11_isWork_11 : ∀ w ∈ wsX110, w ∈ vX11_isWork := fun _ h => List.mem_cons_of_mem _ (List.mem_append_left _ (List.mem_append_right _ h))
theorem iX11_isWork_6 : ∀ w ∈ wsX60, w ∈ vX11_isWork := fun _ h => List.mem_cons_of_mem _ (List.mem_append_right _ h)
set_option maxHeartbeats 4000000 in
set_option maxRecDepth 100000 in
theorem k_isWork (l : Launch) (D : va_G) (cs : Nat → ClassId) (ad : Nat → Nat) (hj : wJ ad nW) (g : Nat → va_E) (x : Int32) (h0 : g 0 = .inr (11, [.ref (ad 1), .ref (ad 3), .ref (ad 23), .ref (ad 43), .ref (ad 104), .ref (ad 105), .ref (ad 114), .ref (ad 116), .ref (ad 118), .ref (ad 120), .ref (ad 130), .ref (ad 140), .ref (ad 144), .ref (ad 190)])) (h3 : g 3 = .inr (6, [.int 0, .int 0, .int 0, .int 0, .int 0, .int 0, .int 0, .int 0, .ref (ad 4), .ref (ad 5), .ref (ad 6), .ref (ad 7), .ref (ad 8), .ref (ad 9), .ref (ad 10), .ref (ad 11), .ref (ad 12), .ref (ad 13)])) : cI l yX11_isWork vX11_isWork { frames := 0, cells := 0, slots := 0, locals := 0 } D cs ad nW [.ref (ad 0), .int x] g (fun r g2 => r = 0 ∧ g2 = g) := by
  refine Met.start (cc := cX11_isWork) (maxL := 2) (ret := (some .boolean)) RX11 rfl (by decide) rfl (Nat.le_of_ble_eq_true rfl) ?_
  intro p e s m below meth c ls X hP hl
  have hx := X.1
  have hb := X.2.1
  have hS : va_S (wA ad nW) s.heap s.heap [] := va_S.rf
  have hA : ∀ i, i < nW → wA ad nW (ad i) := fun i h => ⟨i, h, rfl⟩
  have hl : lv_has ls 2 [(0, .ref (ad 0)), (1, .int x)] := hl
  refine lv_iload_n hx hb dX11_isWork_0 rfl (lv_at hl 1 rfl) ?_
  refine lv_if_lt (tgt := 19) hx hb dX11_isWork_1 (by decide) (fun hc_1 => ?_) (fun hc_1 => ?_)
  · refine lv_iconst (v := 0) hx hb dX11_isWork_19 (by decide) ?_
    exact q_zret X hP hS rfl ⟨rfl, rfl⟩ dX11_isWork_20
  · refine lv_iload_n hx hb dX11_isWork_4 rfl (lv_at hl 1 rfl) ?_
    refine lv_aload_n hx hb dX11_isWork_5 rfl (lv_at hl 0 rfl) ?_
    refine q_get X iX11_isWork_11 hP (by decide) h0 rfl 1 (by decide) (List.mem_of_getElem? (i := 1) rfl) (v := .ref (ad 3)) rfl dX11_isWork_6 ?_
    refine q_get X iX11_isWork_6 hP (by decide) h3 rfl 6 (by decide) (List.mem_of_getElem? (i := 2) rfl) (v := .int 0) rfl dX11_isWork_9 ?_
    refine lv_icmp_ge (tgt := 19) hx hb dX11_isWork_12 (by decide) (fun hc_12 => ?_) (fun hc_12 => absurd (i_ge hc_1) hc_12)
    refine lv_iconst (v := 0) hx hb dX11_isWork_19 (by decide) ?_
    exact q_zret X hP hS rfl ⟨rfl, rfl⟩ dX11_isWork_20

theorem dX11_isTold_0 : decode cX11_isTold 0 = .ok (.aload_n 0, 1) := by decide +kernel
theorem dX11_isTold_1 : decode cX11_isTold 1 = .ok (.getfield 19, 3) := by decide +kernel
theorem dX11_isTold_4 : decode cX11_isTold 4 = .ok (.getfield 112, 3) := by decide +kernel
theorem dX11_isTold_7 : decode cX11_isTold 7 = .ok (.ifCond .le 7, 3) := by decide +kernel
theorem dX11_isTold_14 : decode cX11_isTold 14 = .ok (.iconst 0, 1) := by decide +kernel
theorem dX11_isTold_15 : decode cX11_isTold 15 = .ok (.ireturn, 1) := by decide +kernel
def vX11_isTold : List Cond := .code yX11_isTold cX11_isTold 1 (some .boolean) :: ([.fieldLink RX11 19 "IcicleClock" "now" "LIcicleClock$Street;", .fieldLink RX11 112 "IcicleClock$Street" "lines" "I"] ++ wsX110 ++ wsX60)
theorem iX11_isTold_11 : ∀ w ∈ wsX110, w ∈ vX11_isTold := fun _ h => List.mem_cons_of_mem _ (List.mem_append_left _ (List.mem_append_right _ h))
theorem iX11_isTold_6 : ∀ w ∈ wsX60, w ∈ vX11_isTold := fun _ h => List.mem_cons_of_mem _ (List.mem_append_right _ h)
set_option maxHeartbeats 4000000 in
set_option maxRecDepth 100000 in
theorem k_isTold (l : Launch) (D : va_G) (cs : Nat → ClassId) (ad : Nat → Nat) (hj : wJ ad nW) (g : Nat → va_E) (h0 : g 0 = .inr (11, [.ref (ad 1), .ref (ad 3), .ref (ad 23), .ref (ad 43), .ref (ad 104), .ref (ad 105), .ref (ad 114), .ref (ad 116), .ref (ad 118), .ref (ad 120), .ref (ad 130), .ref (ad 140), .ref (ad 144), .ref (ad 190)])) (h3 : g 3 = .inr (6, [.int 0, .int 0, .int 0, .int 0, .int 0, .int 0, .int 0, .int 0, .ref (ad 4), .ref (ad 5), .ref (ad 6), .ref (ad 7), .ref (ad 8), .ref (ad 9), .ref (ad 10), .ref (ad 11), .ref (ad 12), .ref (ad 13)])) : cI l yX11_isTold vX11_isTold { frames := 0, cells := 0, slots := 0, locals := 0 } D cs ad nW [.ref (ad 0)] g (fun r g2 => r = 0 ∧ g2 = g) := by
  refine Met.start (cc := cX11_isTold) (maxL := 1) (ret := (some .boolean)) RX11 rfl (by decide) rfl (Nat.le_of_ble_eq_true rfl) ?_
  intro p e s m below meth c ls X hP hl
  have hx := X.1
  have hb := X.2.1
  have hS : va_S (wA ad nW) s.heap s.heap [] := va_S.rf
  have hA : ∀ i, i < nW → wA ad nW (ad i) := fun i h => ⟨i, h, rfl⟩
  have hl : lv_has ls 1 [(0, .ref (ad 0))] := hl
  refine lv_aload_n hx hb dX11_isTold_0 rfl (lv_at hl 0 rfl) ?_
  refine q_get X iX11_isTold_11 hP (by decide) h0 rfl 1 (by decide) (List.mem_of_getElem? (i := 1) rfl) (v := .ref (ad 3)) rfl dX11_isTold_1 ?_
  refine q_get X iX11_isTold_6 hP (by decide) h3 rfl 7 (by decide) (List.mem_of_getElem? (i := 2) rfl) (v := .int 0) rfl dX11_isTold_4 ?_
  refine lv_if_le (tgt := 14) hx hb dX11_isTold_7 (by decide) (fun _ => ?_) (fun h => absurd h (by decide))
  refine lv_iconst (v := 0) hx hb dX11_isTold_14 (by decide) ?_
  exact q_zret X hP hS rfl ⟨rfl, rfl⟩ dX11_isTold_15

theorem dX11_isSlot_0 : decode cX11_isSlot 0 = .ok (.iload_n 0, 1) := by decide +kernel
theorem dX11_isSlot_1 : decode cX11_isSlot 1 = .ok (.ifCond .lt 12, 3) := by decide +kernel
theorem dX11_isSlot_13 : decode cX11_isSlot 13 = .ok (.iconst 0, 1) := by decide +kernel
theorem dX11_isSlot_14 : decode cX11_isSlot 14 = .ok (.ireturn, 1) := by decide +kernel
theorem dX11_isSlot_4 : decode cX11_isSlot 4 = .ok (.iload_n 0, 1) := by decide +kernel
theorem dX11_isSlot_5 : decode cX11_isSlot 5 = .ok (.iconst 4, 1) := by decide +kernel
theorem dX11_isSlot_6 : decode cX11_isSlot 6 = .ok (.if_icmp .ge 7, 3) := by decide +kernel
theorem dX11_isSlot_9 : decode cX11_isSlot 9 = .ok (.iconst 1, 1) := by decide +kernel
theorem dX11_isSlot_10 : decode cX11_isSlot 10 = .ok (.goto 4, 3) := by decide +kernel
def vX11_isSlot : List Cond := .code yX11_isSlot cX11_isSlot 1 (some .boolean) :: ([])
set_option maxHeartbeats 4000000 in
set_option maxRecDepth 100000 in
theorem k_isSlot (l : Launch) (D : va_G) (cs : Nat → ClassId) (ad : Nat → Nat) (hj : wJ ad nW) (g : Nat → va_E) (x : Int32) : cI l yX11_isSlot vX11_isSlot { frames := 0, cells := 0, slots := 0, locals := 0 } D cs ad nW [.int x] g (fun r g2 => g2 = g ∧ ((r = 1 ∧ inS x) ∨ (r = 0 ∧ ¬ inS x))) := by
  refine Met.start (cc := cX11_isSlot) (maxL := 1) (ret := (some .boolean)) RX11 rfl (by decide) rfl (Nat.le_of_ble_eq_true rfl) ?_
  intro p e s m below meth c ls X hP hl
  have hx := X.1
  have hb := X.2.1
  have hS : va_S (wA ad nW) s.heap s.heap [] := va_S.rf
  have hA : ∀ i, i < nW → wA ad nW (ad i) := fun i h => ⟨i, h, rfl⟩
  have hl : lv_has ls 1 [(0, .int x)] := hl
  refine lv_iload_n hx hb dX11_isSlot_0 rfl (lv_at hl 0 rfl) ?_
  refine lv_if_lt (tgt := 13) hx hb dX11_isSlot_1 (by decide) (fun hc_1 => ?_) (fun hc_1 => ?_)
  · refine lv_iconst (v := 0) hx hb dX11_isSlot_13 (by decide) ?_
    exact q_zret X hP hS rfl ⟨rfl, by first | exact Or.inr ⟨rfl, fun h => h.1 hc_1⟩ | exact Or.inl ⟨rfl, hc_1, Int32.not_le.mp hc_6⟩ | exact Or.inr ⟨rfl, fun h => Int32.not_le.mpr h.2 hc_6⟩⟩ dX11_isSlot_14
  · refine lv_iload_n hx hb dX11_isSlot_4 rfl (lv_at hl 0 rfl) ?_
    refine lv_iconst (v := 4) hx hb dX11_isSlot_5 (by decide) ?_
    refine lv_icmp_ge (tgt := 13) hx hb dX11_isSlot_6 (by decide) (fun hc_6 => ?_) (fun hc_6 => ?_)
    · refine lv_iconst (v := 0) hx hb dX11_isSlot_13 (by decide) ?_
      exact q_zret X hP hS rfl ⟨rfl, by first | exact Or.inr ⟨rfl, fun h => h.1 hc_1⟩ | exact Or.inl ⟨rfl, hc_1, Int32.not_le.mp hc_6⟩ | exact Or.inr ⟨rfl, fun h => Int32.not_le.mpr h.2 hc_6⟩⟩ dX11_isSlot_14
    · refine lv_iconst (v := 1) hx hb dX11_isSlot_9 (by decide) ?_
      refine lv_goto (tgt := 14) hx hb dX11_isSlot_10 (by decide) ?_
      exact q_zret X hP hS rfl ⟨rfl, by first | exact Or.inr ⟨rfl, fun h => h.1 hc_1⟩ | exact Or.inl ⟨rfl, hc_1, Int32.not_le.mp hc_6⟩ | exact Or.inr ⟨rfl, fun h => Int32.not_le.mpr h.2 hc_6⟩⟩ dX11_isSlot_14

theorem dX11_isEither_0 : decode cX11_isEither 0 = .ok (.iload_n 0, 1) := by decide +kernel
theorem dX11_isEither_1 : decode cX11_isEither 1 = .ok (.ifCond .eq 8, 3) := by decide +kernel
theorem dX11_isEither_9 : decode cX11_isEither 9 = .ok (.iconst 1, 1) := by decide +kernel
theorem dX11_isEither_10 : decode cX11_isEither 10 = .ok (.goto 4, 3) := by decide +kernel
theorem dX11_isEither_14 : decode cX11_isEither 14 = .ok (.ireturn, 1) := by decide +kernel
theorem dX11_isEither_4 : decode cX11_isEither 4 = .ok (.iload_n 0, 1) := by decide +kernel
theorem dX11_isEither_5 : decode cX11_isEither 5 = .ok (.iconst 1, 1) := by decide +kernel
theorem dX11_isEither_6 : decode cX11_isEither 6 = .ok (.if_icmp .ne 7, 3) := by decide +kernel
theorem dX11_isEither_13 : decode cX11_isEither 13 = .ok (.iconst 0, 1) := by decide +kernel
def vX11_isEither : List Cond := .code yX11_isEither cX11_isEither 1 (some .boolean) :: ([])
set_option maxHeartbeats 4000000 in
set_option maxRecDepth 100000 in
theorem k_isEither (l : Launch) (D : va_G) (cs : Nat → ClassId) (ad : Nat → Nat) (hj : wJ ad nW) (g : Nat → va_E) (x : Int32) : cI l yX11_isEither vX11_isEither { frames := 0, cells := 0, slots := 0, locals := 0 } D cs ad nW [.int x] g (fun r g2 => g2 = g ∧ (r = 0 ∨ r = 1)) := by
  refine Met.start (cc := cX11_isEither) (maxL := 1) (ret := (some .boolean)) RX11 rfl (by decide) rfl (Nat.le_of_ble_eq_true rfl) ?_
  intro p e s m below meth c ls X hP hl
  have hx := X.1
  have hb := X.2.1
  have hS : va_S (wA ad nW) s.heap s.heap [] := va_S.rf
  have hA : ∀ i, i < nW → wA ad nW (ad i) := fun i h => ⟨i, h, rfl⟩
  have hl : lv_has ls 1 [(0, .int x)] := hl
  refine lv_iload_n hx hb dX11_isEither_0 rfl (lv_at hl 0 rfl) ?_
  refine lv_if_eq (tgt := 9) hx hb dX11_isEither_1 (by decide) (fun hc_1 => ?_) (fun hc_1 => ?_)
  · refine lv_iconst (v := 1) hx hb dX11_isEither_9 (by decide) ?_
    refine lv_goto (tgt := 14) hx hb dX11_isEither_10 (by decide) ?_
    exact q_zret X hP hS rfl ⟨rfl, by first | exact Or.inl rfl | exact Or.inr rfl⟩ dX11_isEither_14
  · refine lv_iload_n hx hb dX11_isEither_4 rfl (lv_at hl 0 rfl) ?_
    refine lv_iconst (v := 1) hx hb dX11_isEither_5 (by decide) ?_
    refine lv_icmp_ne (tgt := 13) hx hb dX11_isEither_6 (by decide) (fun hc_6 => ?_) (fun hc_6 => ?_)
    · refine lv_iconst (v := 0) hx hb dX11_isEither_13 (by decide) ?_
      exact q_zret X hP hS rfl ⟨rfl, by first | exact Or.inl rfl | exact Or.inr rfl⟩ dX11_isEither_14
    · refine lv_iconst (v := 1) hx hb dX11_isEither_9 (by decide) ?_
      refine lv_goto (tgt := 14) hx hb dX11_isEither_10 (by decide) ?_
      exact q_zret X hP hS rfl ⟨rfl, by first | exact Or.inl rfl | exact Or.inr rfl⟩ dX11_isEither_14

theorem dX11_day_0 : decode cX11_day 0 = .ok (.aload_n 0, 1) := by decide +kernel
theorem dX11_day_1 : decode cX11_day 1 = .ok (.iload_n 1, 1) := by decide +kernel
theorem dX11_day_2 : decode cX11_day 2 = .ok (.invokevirtual 121, 3) := by decide +kernel
theorem dX11_day_5 : decode cX11_day 5 = .ok (.ifCond .eq 15, 3) := by decide +kernel
theorem dX11_day_20 : decode cX11_day 20 = .ok (.sipush (-1000), 3) := by decide +kernel
theorem dX11_day_23 : decode cX11_day 23 = .ok (.ireturn, 1) := by decide +kernel
def vX11_day : List Cond := .code yX11_day cX11_day 2 (some .int) :: ([.methodLink RX11 121 yX11_isDay, .instanceMethod yX11_isDay, .selects RX11 yX11_isDay yX11_isDay, .initialized RX11, .code yX11_isDay cX11_isDay 2 (some .boolean), .fieldLink RX11 19 "IcicleClock" "now" "LIcicleClock$Street;", .fieldLink RX11 177 "IcicleClock$Street" "days" "I"] ++ wsX110 ++ wsX60)
theorem iX11_day_11 : ∀ w ∈ wsX110, w ∈ vX11_day := fun _ h => List.mem_cons_of_mem _ (List.mem_append_left _ (List.mem_append_right _ h))
theorem iX11_day_6 : ∀ w ∈ wsX60, w ∈ vX11_day := fun _ h => List.mem_cons_of_mem _ (List.mem_append_right _ h)
set_option maxRecDepth 20000 in
theorem gg_X11_day_X11_isDay : GoodIn vX11_day (wsV RX11 121 RX11 yX11_isDay vX11_isDay) := goodIn_r _ [1, 2, 3, 4, 5, 6, 7, 8, 9, 10, 11, 12, 13, 14, 15, 16, 17, 18, 19, 20, 21, 22, 23, 24, 25, 26, 27, 28, 29, 30, 31, 32, 33, 34, 35, 36, 37, 38, 39] (by decide +kernel) (by decide +kernel)
set_option maxHeartbeats 4000000 in
set_option maxRecDepth 100000 in
theorem k_day (l : Launch) (D : va_G) (cs : Nat → ClassId) (ad : Nat → Nat) (hj : wJ ad nW) (g : Nat → va_E) (vd : Int32) (h0 : g 0 = .inr (11, [.ref (ad 1), .ref (ad 3), .ref (ad 23), .ref (ad 43), .ref (ad 104), .ref (ad 105), .ref (ad 114), .ref (ad 116), .ref (ad 118), .ref (ad 120), .ref (ad 130), .ref (ad 140), .ref (ad 144), .ref (ad 190)])) (h3 : g 3 = .inr (6, [.int 0, .int 0, .int 0, .int 0, .int 0, .int 0, .int 0, .int 0, .ref (ad 4), .ref (ad 5), .ref (ad 6), .ref (ad 7), .ref (ad 8), .ref (ad 9), .ref (ad 10), .ref (ad 11), .ref (ad 12), .ref (ad 13)])) : cI l yX11_day vX11_day { frames := 1, cells := 0, slots := 0, locals := 21 } D cs ad nW [.ref (ad 0), .int vd] g (fun r g2 => r = (-1000) ∧ g2 = g) := by
  refine Met.start (cc := cX11_day) (maxL := 2) (ret := (some .int)) RX11 rfl (by decide) rfl (Nat.le_of_ble_eq_true rfl) ?_
  intro p e s m below meth c ls X hP hl
  have hx := X.1
  have hb := X.2.1
  have hS : va_S (wA ad nW) s.heap s.heap [] := va_S.rf
  have hA : ∀ i, i < nW → wA ad nW (ad i) := fun i h => ⟨i, h, rfl⟩
  have hl : lv_has ls 2 [(0, .ref (ad 0)), (1, .int vd)] := hl
  refine lv_aload_n hx hb dX11_day_0 rfl (lv_at hl 0 rfl) ?_
  refine lv_iload_n hx hb dX11_day_1 rfl (lv_at hl 1 rfl) ?_
  refine q_calli (q := (RX11, TX11, 14)) (As := [.int vd]) (rest := []) X (k_isDay l D cs ad hj g vd h0 h3) (cwV 1 X.2.2.2.2.1 gg_X11_day_X11_isDay rfl rfl rfl (by decide +kernel) ⟨Nat.le_of_ble_eq_true rfl, Nat.le_of_ble_eq_true rfl⟩) (by decide) h0 rfl hP hA hS rfl hl.1 rfl (Nat.le_of_ble_eq_true rfl) dX11_day_2 ⟨Nat.le_of_ble_eq_true rfl, Nat.le_of_ble_eq_true rfl⟩ (fun r_3 g_2 H locs hw_1 hP hS => ?_)
  obtain ⟨hw_1a, hw_1b⟩ := hw_1
  subst hw_1a
  rw [hw_1b] at hP
  refine lv_if_eq (tgt := 20) hx hb dX11_day_5 (by decide) (fun _ => ?_) (fun h => absurd h (by decide))
  refine lv_sipush (v := (-1000)) hx hb dX11_day_20 (by decide) ?_
  exact q_iret X hP hS ⟨rfl, rfl⟩ dX11_day_23

theorem dX11_melt_0 : decode cX11_melt 0 = .ok (.aload_n 0, 1) := by decide +kernel
theorem dX11_melt_1 : decode cX11_melt 1 = .ok (.iload_n 1, 1) := by decide +kernel
theorem dX11_melt_2 : decode cX11_melt 2 = .ok (.invokevirtual 129, 3) := by decide +kernel
theorem dX11_melt_5 : decode cX11_melt 5 = .ok (.ifCond .eq 23, 3) := by decide +kernel
theorem dX11_melt_28 : decode cX11_melt 28 = .ok (.sipush (-1000), 3) := by decide +kernel
theorem dX11_melt_31 : decode cX11_melt 31 = .ok (.ireturn, 1) := by decide +kernel
def vX11_melt : List Cond := .code yX11_melt cX11_melt 3 (some .int) :: ([.methodLink RX11 129 yX11_isEave, .instanceMethod yX11_isEave, .selects RX11 yX11_isEave yX11_isEave, .initialized RX11, .code yX11_isEave cX11_isEave 2 (some .boolean), .fieldLink RX11 19 "IcicleClock" "now" "LIcicleClock$Street;", .fieldLink RX11 208 "IcicleClock$Street" "eaves" "I"] ++ wsX110 ++ wsX60)
theorem iX11_melt_11 : ∀ w ∈ wsX110, w ∈ vX11_melt := fun _ h => List.mem_cons_of_mem _ (List.mem_append_left _ (List.mem_append_right _ h))
theorem iX11_melt_6 : ∀ w ∈ wsX60, w ∈ vX11_melt := fun _ h => List.mem_cons_of_mem _ (List.mem_append_right _ h)
set_option maxRecDepth 20000 in
theorem gg_X11_melt_X11_isEave : GoodIn vX11_melt (wsV RX11 129 RX11 yX11_isEave vX11_isEave) := goodIn_r _ [1, 2, 3, 4, 5, 6, 7, 8, 9, 10, 11, 12, 13, 14, 15, 16, 17, 18, 19, 20, 21, 22, 23, 24, 25, 26, 27, 28, 29, 30, 31, 32, 33, 34, 35, 36, 37, 38, 39] (by decide +kernel) (by decide +kernel)
set_option maxHeartbeats 4000000 in
set_option maxRecDepth 100000 in
theorem k_melt (l : Launch) (D : va_G) (cs : Nat → ClassId) (ad : Nat → Nat) (hj : wJ ad nW) (g : Nat → va_E) (ve : Int32) (vd : Int32) (h0 : g 0 = .inr (11, [.ref (ad 1), .ref (ad 3), .ref (ad 23), .ref (ad 43), .ref (ad 104), .ref (ad 105), .ref (ad 114), .ref (ad 116), .ref (ad 118), .ref (ad 120), .ref (ad 130), .ref (ad 140), .ref (ad 144), .ref (ad 190)])) (h3 : g 3 = .inr (6, [.int 0, .int 0, .int 0, .int 0, .int 0, .int 0, .int 0, .int 0, .ref (ad 4), .ref (ad 5), .ref (ad 6), .ref (ad 7), .ref (ad 8), .ref (ad 9), .ref (ad 10), .ref (ad 11), .ref (ad 12), .ref (ad 13)])) : cI l yX11_melt vX11_melt { frames := 1, cells := 0, slots := 0, locals := 21 } D cs ad nW [.ref (ad 0), .int ve, .int vd] g (fun r g2 => r = (-1000) ∧ g2 = g) := by
  refine Met.start (cc := cX11_melt) (maxL := 3) (ret := (some .int)) RX11 rfl (by decide) rfl (Nat.le_of_ble_eq_true rfl) ?_
  intro p e s m below meth c ls X hP hl
  have hx := X.1
  have hb := X.2.1
  have hS : va_S (wA ad nW) s.heap s.heap [] := va_S.rf
  have hA : ∀ i, i < nW → wA ad nW (ad i) := fun i h => ⟨i, h, rfl⟩
  have hl : lv_has ls 3 [(0, .ref (ad 0)), (1, .int ve), (2, .int vd)] := hl
  refine lv_aload_n hx hb dX11_melt_0 rfl (lv_at hl 0 rfl) ?_
  refine lv_iload_n hx hb dX11_melt_1 rfl (lv_at hl 1 rfl) ?_
  refine q_calli (q := (RX11, TX11, 14)) (As := [.int ve]) (rest := []) X (k_isEave l D cs ad hj g ve h0 h3) (cwV 1 X.2.2.2.2.1 gg_X11_melt_X11_isEave rfl rfl rfl (by decide +kernel) ⟨Nat.le_of_ble_eq_true rfl, Nat.le_of_ble_eq_true rfl⟩) (by decide) h0 rfl hP hA hS rfl hl.1 rfl (Nat.le_of_ble_eq_true rfl) dX11_melt_2 ⟨Nat.le_of_ble_eq_true rfl, Nat.le_of_ble_eq_true rfl⟩ (fun r_3 g_2 H locs hw_1 hP hS => ?_)
  obtain ⟨hw_1a, hw_1b⟩ := hw_1
  subst hw_1a
  rw [hw_1b] at hP
  refine lv_if_eq (tgt := 28) hx hb dX11_melt_5 (by decide) (fun _ => ?_) (fun h => absurd h (by decide))
  refine lv_sipush (v := (-1000)) hx hb dX11_melt_28 (by decide) ?_
  exact q_iret X hP hS ⟨rfl, rfl⟩ dX11_melt_31

theorem dX11_icicle_0 : decode cX11_icicle 0 = .ok (.aload_n 0, 1) := by decide +kernel
theorem dX11_icicle_1 : decode cX11_icicle 1 = .ok (.iload_n 1, 1) := by decide +kernel
theorem dX11_icicle_2 : decode cX11_icicle 2 = .ok (.invokevirtual 136, 3) := by decide +kernel
theorem dX11_icicle_5 : decode cX11_icicle 5 = .ok (.ifCond .ne 6, 3) := by decide +kernel
theorem dX11_icicle_8 : decode cX11_icicle 8 = .ok (.bipush (-2), 2) := by decide +kernel
theorem dX11_icicle_10 : decode cX11_icicle 10 = .ok (.ireturn, 1) := by decide +kernel
def vX11_icicle : List Cond := .code yX11_icicle cX11_icicle 3 (some .int) :: ([.methodLink RX11 136 yX11_isIcicle, .instanceMethod yX11_isIcicle, .selects RX11 yX11_isIcicle yX11_isIcicle, .initialized RX11, .code yX11_isIcicle cX11_isIcicle 2 (some .boolean), .fieldLink RX11 19 "IcicleClock" "now" "LIcicleClock$Street;", .fieldLink RX11 160 "IcicleClock$Street" "icicles" "I"] ++ wsX110 ++ wsX60)
theorem iX11_icicle_11 : ∀ w ∈ wsX110, w ∈ vX11_icicle := fun _ h => List.mem_cons_of_mem _ (List.mem_append_left _ (List.mem_append_right _ h))
theorem iX11_icicle_6 : ∀ w ∈ wsX60, w ∈ vX11_icicle := fun _ h => List.mem_cons_of_mem _ (List.mem_append_right _ h)
set_option maxRecDepth 20000 in
theorem gg_X11_icicle_X11_isIcicle : GoodIn vX11_icicle (wsV RX11 136 RX11 yX11_isIcicle vX11_isIcicle) := goodIn_r _ [1, 2, 3, 4, 5, 6, 7, 8, 9, 10, 11, 12, 13, 14, 15, 16, 17, 18, 19, 20, 21, 22, 23, 24, 25, 26, 27, 28, 29, 30, 31, 32, 33, 34, 35, 36, 37, 38, 39] (by decide +kernel) (by decide +kernel)
set_option maxHeartbeats 4000000 in
set_option maxRecDepth 100000 in
theorem k_icicle (l : Launch) (D : va_G) (cs : Nat → ClassId) (ad : Nat → Nat) (hj : wJ ad nW) (g : Nat → va_E) (vi : Int32) (vw : Int32) (h0 : g 0 = .inr (11, [.ref (ad 1), .ref (ad 3), .ref (ad 23), .ref (ad 43), .ref (ad 104), .ref (ad 105), .ref (ad 114), .ref (ad 116), .ref (ad 118), .ref (ad 120), .ref (ad 130), .ref (ad 140), .ref (ad 144), .ref (ad 190)])) (h3 : g 3 = .inr (6, [.int 0, .int 0, .int 0, .int 0, .int 0, .int 0, .int 0, .int 0, .ref (ad 4), .ref (ad 5), .ref (ad 6), .ref (ad 7), .ref (ad 8), .ref (ad 9), .ref (ad 10), .ref (ad 11), .ref (ad 12), .ref (ad 13)])) : cI l yX11_icicle vX11_icicle { frames := 1, cells := 0, slots := 0, locals := 21 } D cs ad nW [.ref (ad 0), .int vi, .int vw] g (fun r g2 => r = (-2) ∧ g2 = g) := by
  refine Met.start (cc := cX11_icicle) (maxL := 3) (ret := (some .int)) RX11 rfl (by decide) rfl (Nat.le_of_ble_eq_true rfl) ?_
  intro p e s m below meth c ls X hP hl
  have hx := X.1
  have hb := X.2.1
  have hS : va_S (wA ad nW) s.heap s.heap [] := va_S.rf
  have hA : ∀ i, i < nW → wA ad nW (ad i) := fun i h => ⟨i, h, rfl⟩
  have hl : lv_has ls 3 [(0, .ref (ad 0)), (1, .int vi), (2, .int vw)] := hl
  refine lv_aload_n hx hb dX11_icicle_0 rfl (lv_at hl 0 rfl) ?_
  refine lv_iload_n hx hb dX11_icicle_1 rfl (lv_at hl 1 rfl) ?_
  refine q_calli (q := (RX11, TX11, 14)) (As := [.int vi]) (rest := []) X (k_isIcicle l D cs ad hj g vi h0 h3) (cwV 1 X.2.2.2.2.1 gg_X11_icicle_X11_isIcicle rfl rfl rfl (by decide +kernel) ⟨Nat.le_of_ble_eq_true rfl, Nat.le_of_ble_eq_true rfl⟩) (by decide) h0 rfl hP hA hS rfl hl.1 rfl (Nat.le_of_ble_eq_true rfl) dX11_icicle_2 ⟨Nat.le_of_ble_eq_true rfl, Nat.le_of_ble_eq_true rfl⟩ (fun r_3 g_2 H locs hw_1 hP hS => ?_)
  obtain ⟨hw_1a, hw_1b⟩ := hw_1
  subst hw_1a
  rw [hw_1b] at hP
  refine lv_if_ne (tgt := 11) hx hb dX11_icicle_5 (by decide) (fun h => absurd h (by decide)) (fun _ => ?_)
  refine lv_bipush (v := (-2)) hx hb dX11_icicle_8 (by decide) ?_
  exact q_iret X hP hS ⟨rfl, rfl⟩ dX11_icicle_10

theorem dX11_work_0 : decode cX11_work 0 = .ok (.aload_n 0, 1) := by decide +kernel
theorem dX11_work_1 : decode cX11_work 1 = .ok (.iload_n 1, 1) := by decide +kernel
theorem dX11_work_2 : decode cX11_work 2 = .ok (.invokevirtual 148, 3) := by decide +kernel
theorem dX11_work_5 : decode cX11_work 5 = .ok (.ifCond .eq 10, 3) := by decide +kernel
theorem dX11_work_15 : decode cX11_work 15 = .ok (.bipush (-2), 2) := by decide +kernel
theorem dX11_work_17 : decode cX11_work 17 = .ok (.ireturn, 1) := by decide +kernel
def vX11_work : List Cond := .code yX11_work cX11_work 3 (some .int) :: ([.methodLink RX11 148 yX11_isWork, .instanceMethod yX11_isWork, .selects RX11 yX11_isWork yX11_isWork, .initialized RX11, .code yX11_isWork cX11_isWork 2 (some .boolean), .fieldLink RX11 19 "IcicleClock" "now" "LIcicleClock$Street;", .fieldLink RX11 226 "IcicleClock$Street" "works" "I"] ++ wsX110 ++ wsX60)
theorem iX11_work_11 : ∀ w ∈ wsX110, w ∈ vX11_work := fun _ h => List.mem_cons_of_mem _ (List.mem_append_left _ (List.mem_append_right _ h))
theorem iX11_work_6 : ∀ w ∈ wsX60, w ∈ vX11_work := fun _ h => List.mem_cons_of_mem _ (List.mem_append_right _ h)
set_option maxRecDepth 20000 in
theorem gg_X11_work_X11_isWork : GoodIn vX11_work (wsV RX11 148 RX11 yX11_isWork vX11_isWork) := goodIn_r _ [1, 2, 3, 4, 5, 6, 7, 8, 9, 10, 11, 12, 13, 14, 15, 16, 17, 18, 19, 20, 21, 22, 23, 24, 25, 26, 27, 28, 29, 30, 31, 32, 33, 34, 35, 36, 37, 38, 39] (by decide +kernel) (by decide +kernel)
set_option maxHeartbeats 4000000 in
set_option maxRecDepth 100000 in
theorem k_work (l : Launch) (D : va_G) (cs : Nat → ClassId) (ad : Nat → Nat) (hj : wJ ad nW) (g : Nat → va_E) (vi : Int32) (vw : Int32) (h0 : g 0 = .inr (11, [.ref (ad 1), .ref (ad 3), .ref (ad 23), .ref (ad 43), .ref (ad 104), .ref (ad 105), .ref (ad 114), .ref (ad 116), .ref (ad 118), .ref (ad 120), .ref (ad 130), .ref (ad 140), .ref (ad 144), .ref (ad 190)])) (h3 : g 3 = .inr (6, [.int 0, .int 0, .int 0, .int 0, .int 0, .int 0, .int 0, .int 0, .ref (ad 4), .ref (ad 5), .ref (ad 6), .ref (ad 7), .ref (ad 8), .ref (ad 9), .ref (ad 10), .ref (ad 11), .ref (ad 12), .ref (ad 13)])) : cI l yX11_work vX11_work { frames := 1, cells := 0, slots := 0, locals := 21 } D cs ad nW [.ref (ad 0), .int vi, .int vw] g (fun r g2 => r = (-2) ∧ g2 = g) := by
  refine Met.start (cc := cX11_work) (maxL := 3) (ret := (some .int)) RX11 rfl (by decide) rfl (Nat.le_of_ble_eq_true rfl) ?_
  intro p e s m below meth c ls X hP hl
  have hx := X.1
  have hb := X.2.1
  have hS : va_S (wA ad nW) s.heap s.heap [] := va_S.rf
  have hA : ∀ i, i < nW → wA ad nW (ad i) := fun i h => ⟨i, h, rfl⟩
  have hl : lv_has ls 3 [(0, .ref (ad 0)), (1, .int vi), (2, .int vw)] := hl
  refine lv_aload_n hx hb dX11_work_0 rfl (lv_at hl 0 rfl) ?_
  refine lv_iload_n hx hb dX11_work_1 rfl (lv_at hl 1 rfl) ?_
  refine q_calli (q := (RX11, TX11, 14)) (As := [.int vi]) (rest := []) X (k_isWork l D cs ad hj g vi h0 h3) (cwV 1 X.2.2.2.2.1 gg_X11_work_X11_isWork rfl rfl rfl (by decide +kernel) ⟨Nat.le_of_ble_eq_true rfl, Nat.le_of_ble_eq_true rfl⟩) (by decide) h0 rfl hP hA hS rfl hl.1 rfl (Nat.le_of_ble_eq_true rfl) dX11_work_2 ⟨Nat.le_of_ble_eq_true rfl, Nat.le_of_ble_eq_true rfl⟩ (fun r_3 g_2 H locs hw_1 hP hS => ?_)
  obtain ⟨hw_1a, hw_1b⟩ := hw_1
  subst hw_1a
  rw [hw_1b] at hP
  refine lv_if_eq (tgt := 15) hx hb dX11_work_5 (by decide) (fun _ => ?_) (fun h => absurd h (by decide))
  refine lv_bipush (v := (-2)) hx hb dX11_work_15 (by decide) ?_
  exact q_iret X hP hS ⟨rfl, rfl⟩ dX11_work_17

theorem dX11_eave_0 : decode cX11_eave 0 = .ok (.aload_n 0, 1) := by decide +kernel
theorem dX11_eave_1 : decode cX11_eave 1 = .ok (.iload_n 1, 1) := by decide +kernel
theorem dX11_eave_2 : decode cX11_eave 2 = .ok (.invokevirtual 129, 3) := by decide +kernel
theorem dX11_eave_5 : decode cX11_eave 5 = .ok (.ifCond .ne 6, 3) := by decide +kernel
theorem dX11_eave_8 : decode cX11_eave 8 = .ok (.bipush (-2), 2) := by decide +kernel
theorem dX11_eave_10 : decode cX11_eave 10 = .ok (.ireturn, 1) := by decide +kernel
def vX11_eave : List Cond := .code yX11_eave cX11_eave 4 (some .int) :: ([.methodLink RX11 129 yX11_isEave, .instanceMethod yX11_isEave, .selects RX11 yX11_isEave yX11_isEave, .initialized RX11, .code yX11_isEave cX11_isEave 2 (some .boolean), .fieldLink RX11 19 "IcicleClock" "now" "LIcicleClock$Street;", .fieldLink RX11 208 "IcicleClock$Street" "eaves" "I"] ++ wsX110 ++ wsX60)
theorem iX11_eave_11 : ∀ w ∈ wsX110, w ∈ vX11_eave := fun _ h => List.mem_cons_of_mem _ (List.mem_append_left _ (List.mem_append_right _ h))
theorem iX11_eave_6 : ∀ w ∈ wsX60, w ∈ vX11_eave := fun _ h => List.mem_cons_of_mem _ (List.mem_append_right _ h)
set_option maxRecDepth 20000 in
theorem gg_X11_eave_X11_isEave : GoodIn vX11_eave (wsV RX11 129 RX11 yX11_isEave vX11_isEave) := goodIn_r _ [1, 2, 3, 4, 5, 6, 7, 8, 9, 10, 11, 12, 13, 14, 15, 16, 17, 18, 19, 20, 21, 22, 23, 24, 25, 26, 27, 28, 29, 30, 31, 32, 33, 34, 35, 36, 37, 38, 39] (by decide +kernel) (by decide +kernel)
set_option maxHeartbeats 4000000 in
set_option maxRecDepth 100000 in
theorem k_eave (l : Launch) (D : va_G) (cs : Nat → ClassId) (ad : Nat → Nat) (hj : wJ ad nW) (g : Nat → va_E) (vd : Int32) (h0 : g 0 = .inr (11, [.ref (ad 1), .ref (ad 3), .ref (ad 23), .ref (ad 43), .ref (ad 104), .ref (ad 105), .ref (ad 114), .ref (ad 116), .ref (ad 118), .ref (ad 120), .ref (ad 130), .ref (ad 140), .ref (ad 144), .ref (ad 190)])) (h3 : g 3 = .inr (6, [.int 0, .int 0, .int 0, .int 0, .int 0, .int 0, .int 0, .int 0, .ref (ad 4), .ref (ad 5), .ref (ad 6), .ref (ad 7), .ref (ad 8), .ref (ad 9), .ref (ad 10), .ref (ad 11), .ref (ad 12), .ref (ad 13)])) : cI l yX11_eave vX11_eave { frames := 1, cells := 0, slots := 0, locals := 21 } D cs ad nW [.ref (ad 0), .int vd] g (fun r g2 => r = (-2) ∧ g2 = g) := by
  refine Met.start (cc := cX11_eave) (maxL := 4) (ret := (some .int)) RX11 rfl (by decide) rfl (Nat.le_of_ble_eq_true rfl) ?_
  intro p e s m below meth c ls X hP hl
  have hx := X.1
  have hb := X.2.1
  have hS : va_S (wA ad nW) s.heap s.heap [] := va_S.rf
  have hA : ∀ i, i < nW → wA ad nW (ad i) := fun i h => ⟨i, h, rfl⟩
  have hl : lv_has ls 4 [(0, .ref (ad 0)), (1, .int vd)] := hl
  refine lv_aload_n hx hb dX11_eave_0 rfl (lv_at hl 0 rfl) ?_
  refine lv_iload_n hx hb dX11_eave_1 rfl (lv_at hl 1 rfl) ?_
  refine q_calli (q := (RX11, TX11, 14)) (As := [.int vd]) (rest := []) X (k_isEave l D cs ad hj g vd h0 h3) (cwV 1 X.2.2.2.2.1 gg_X11_eave_X11_isEave rfl rfl rfl (by decide +kernel) ⟨Nat.le_of_ble_eq_true rfl, Nat.le_of_ble_eq_true rfl⟩) (by decide) h0 rfl hP hA hS rfl hl.1 rfl (Nat.le_of_ble_eq_true rfl) dX11_eave_2 ⟨Nat.le_of_ble_eq_true rfl, Nat.le_of_ble_eq_true rfl⟩ (fun r_3 g_2 H locs hw_1 hP hS => ?_)
  obtain ⟨hw_1a, hw_1b⟩ := hw_1
  subst hw_1a
  rw [hw_1b] at hP
  refine lv_if_ne (tgt := 11) hx hb dX11_eave_5 (by decide) (fun h => absurd h (by decide)) (fun _ => ?_)
  refine lv_bipush (v := (-2)) hx hb dX11_eave_8 (by decide) ?_
  exact q_iret X hP hS ⟨rfl, rfl⟩ dX11_eave_10

theorem dX11_falls_0 : decode cX11_falls 0 = .ok (.aload_n 0, 1) := by decide +kernel
theorem dX11_falls_1 : decode cX11_falls 1 = .ok (.iload_n 1, 1) := by decide +kernel
theorem dX11_falls_2 : decode cX11_falls 2 = .ok (.invokevirtual 136, 3) := by decide +kernel
theorem dX11_falls_5 : decode cX11_falls 5 = .ok (.ifCond .eq 15, 3) := by decide +kernel
theorem dX11_falls_20 : decode cX11_falls 20 = .ok (.bipush (-2), 2) := by decide +kernel
theorem dX11_falls_22 : decode cX11_falls 22 = .ok (.ireturn, 1) := by decide +kernel
def vX11_falls : List Cond := .code yX11_falls cX11_falls 2 (some .int) :: ([.methodLink RX11 136 yX11_isIcicle, .instanceMethod yX11_isIcicle, .selects RX11 yX11_isIcicle yX11_isIcicle, .initialized RX11, .code yX11_isIcicle cX11_isIcicle 2 (some .boolean), .fieldLink RX11 19 "IcicleClock" "now" "LIcicleClock$Street;", .fieldLink RX11 160 "IcicleClock$Street" "icicles" "I"] ++ wsX110 ++ wsX60)
theorem iX11_falls_11 : ∀ w ∈ wsX110, w ∈ vX11_falls := fun _ h => List.mem_cons_of_mem _ (List.mem_append_left _ (List.mem_append_right _ h))
theorem iX11_falls_6 : ∀ w ∈ wsX60, w ∈ vX11_falls := fun _ h => List.mem_cons_of_mem _ (List.mem_append_right _ h)
set_option maxRecDepth 20000 in
theorem gg_X11_falls_X11_isIcicle : GoodIn vX11_falls (wsV RX11 136 RX11 yX11_isIcicle vX11_isIcicle) := goodIn_r _ [1, 2, 3, 4, 5, 6, 7, 8, 9, 10, 11, 12, 13, 14, 15, 16, 17, 18, 19, 20, 21, 22, 23, 24, 25, 26, 27, 28, 29, 30, 31, 32, 33, 34, 35, 36, 37, 38, 39] (by decide +kernel) (by decide +kernel)
set_option maxHeartbeats 4000000 in
set_option maxRecDepth 100000 in
theorem k_falls (l : Launch) (D : va_G) (cs : Nat → ClassId) (ad : Nat → Nat) (hj : wJ ad nW) (g : Nat → va_E) (vi : Int32) (h0 : g 0 = .inr (11, [.ref (ad 1), .ref (ad 3), .ref (ad 23), .ref (ad 43), .ref (ad 104), .ref (ad 105), .ref (ad 114), .ref (ad 116), .ref (ad 118), .ref (ad 120), .ref (ad 130), .ref (ad 140), .ref (ad 144), .ref (ad 190)])) (h3 : g 3 = .inr (6, [.int 0, .int 0, .int 0, .int 0, .int 0, .int 0, .int 0, .int 0, .ref (ad 4), .ref (ad 5), .ref (ad 6), .ref (ad 7), .ref (ad 8), .ref (ad 9), .ref (ad 10), .ref (ad 11), .ref (ad 12), .ref (ad 13)])) : cI l yX11_falls vX11_falls { frames := 1, cells := 0, slots := 0, locals := 21 } D cs ad nW [.ref (ad 0), .int vi] g (fun r g2 => r = (-2) ∧ g2 = g) := by
  refine Met.start (cc := cX11_falls) (maxL := 2) (ret := (some .int)) RX11 rfl (by decide) rfl (Nat.le_of_ble_eq_true rfl) ?_
  intro p e s m below meth c ls X hP hl
  have hx := X.1
  have hb := X.2.1
  have hS : va_S (wA ad nW) s.heap s.heap [] := va_S.rf
  have hA : ∀ i, i < nW → wA ad nW (ad i) := fun i h => ⟨i, h, rfl⟩
  have hl : lv_has ls 2 [(0, .ref (ad 0)), (1, .int vi)] := hl
  refine lv_aload_n hx hb dX11_falls_0 rfl (lv_at hl 0 rfl) ?_
  refine lv_iload_n hx hb dX11_falls_1 rfl (lv_at hl 1 rfl) ?_
  refine q_calli (q := (RX11, TX11, 14)) (As := [.int vi]) (rest := []) X (k_isIcicle l D cs ad hj g vi h0 h3) (cwV 1 X.2.2.2.2.1 gg_X11_falls_X11_isIcicle rfl rfl rfl (by decide +kernel) ⟨Nat.le_of_ble_eq_true rfl, Nat.le_of_ble_eq_true rfl⟩) (by decide) h0 rfl hP hA hS rfl hl.1 rfl (Nat.le_of_ble_eq_true rfl) dX11_falls_2 ⟨Nat.le_of_ble_eq_true rfl, Nat.le_of_ble_eq_true rfl⟩ (fun r_3 g_2 H locs hw_1 hP hS => ?_)
  obtain ⟨hw_1a, hw_1b⟩ := hw_1
  subst hw_1a
  rw [hw_1b] at hP
  refine lv_if_eq (tgt := 20) hx hb dX11_falls_5 (by decide) (fun _ => ?_) (fun h => absurd h (by decide))
  refine lv_bipush (v := (-2)) hx hb dX11_falls_20 (by decide) ?_
  exact q_iret X hP hS ⟨rfl, rfl⟩ dX11_falls_22

theorem dX11_length_0 : decode cX11_length 0 = .ok (.aload_n 0, 1) := by decide +kernel
theorem dX11_length_1 : decode cX11_length 1 = .ok (.iload_n 1, 1) := by decide +kernel
theorem dX11_length_2 : decode cX11_length 2 = .ok (.invokevirtual 136, 3) := by decide +kernel
theorem dX11_length_5 : decode cX11_length 5 = .ok (.ifCond .eq 11, 3) := by decide +kernel
theorem dX11_length_16 : decode cX11_length 16 = .ok (.bipush (-2), 2) := by decide +kernel
theorem dX11_length_18 : decode cX11_length 18 = .ok (.ireturn, 1) := by decide +kernel
def vX11_length : List Cond := .code yX11_length cX11_length 3 (some .int) :: ([.methodLink RX11 136 yX11_isIcicle, .instanceMethod yX11_isIcicle, .selects RX11 yX11_isIcicle yX11_isIcicle, .initialized RX11, .code yX11_isIcicle cX11_isIcicle 2 (some .boolean), .fieldLink RX11 19 "IcicleClock" "now" "LIcicleClock$Street;", .fieldLink RX11 160 "IcicleClock$Street" "icicles" "I"] ++ wsX110 ++ wsX60)
theorem iX11_length_11 : ∀ w ∈ wsX110, w ∈ vX11_length := fun _ h => List.mem_cons_of_mem _ (List.mem_append_left _ (List.mem_append_right _ h))
theorem iX11_length_6 : ∀ w ∈ wsX60, w ∈ vX11_length := fun _ h => List.mem_cons_of_mem _ (List.mem_append_right _ h)
set_option maxRecDepth 20000 in
theorem gg_X11_length_X11_isIcicle : GoodIn vX11_length (wsV RX11 136 RX11 yX11_isIcicle vX11_isIcicle) := goodIn_r _ [1, 2, 3, 4, 5, 6, 7, 8, 9, 10, 11, 12, 13, 14, 15, 16, 17, 18, 19, 20, 21, 22, 23, 24, 25, 26, 27, 28, 29, 30, 31, 32, 33, 34, 35, 36, 37, 38, 39] (by decide +kernel) (by decide +kernel)
set_option maxHeartbeats 4000000 in
set_option maxRecDepth 100000 in
theorem k_length (l : Launch) (D : va_G) (cs : Nat → ClassId) (ad : Nat → Nat) (hj : wJ ad nW) (g : Nat → va_E) (vi : Int32) (vd : Int32) (h0 : g 0 = .inr (11, [.ref (ad 1), .ref (ad 3), .ref (ad 23), .ref (ad 43), .ref (ad 104), .ref (ad 105), .ref (ad 114), .ref (ad 116), .ref (ad 118), .ref (ad 120), .ref (ad 130), .ref (ad 140), .ref (ad 144), .ref (ad 190)])) (h3 : g 3 = .inr (6, [.int 0, .int 0, .int 0, .int 0, .int 0, .int 0, .int 0, .int 0, .ref (ad 4), .ref (ad 5), .ref (ad 6), .ref (ad 7), .ref (ad 8), .ref (ad 9), .ref (ad 10), .ref (ad 11), .ref (ad 12), .ref (ad 13)])) : cI l yX11_length vX11_length { frames := 1, cells := 0, slots := 0, locals := 21 } D cs ad nW [.ref (ad 0), .int vi, .int vd] g (fun r g2 => r = (-2) ∧ g2 = g) := by
  refine Met.start (cc := cX11_length) (maxL := 3) (ret := (some .int)) RX11 rfl (by decide) rfl (Nat.le_of_ble_eq_true rfl) ?_
  intro p e s m below meth c ls X hP hl
  have hx := X.1
  have hb := X.2.1
  have hS : va_S (wA ad nW) s.heap s.heap [] := va_S.rf
  have hA : ∀ i, i < nW → wA ad nW (ad i) := fun i h => ⟨i, h, rfl⟩
  have hl : lv_has ls 3 [(0, .ref (ad 0)), (1, .int vi), (2, .int vd)] := hl
  refine lv_aload_n hx hb dX11_length_0 rfl (lv_at hl 0 rfl) ?_
  refine lv_iload_n hx hb dX11_length_1 rfl (lv_at hl 1 rfl) ?_
  refine q_calli (q := (RX11, TX11, 14)) (As := [.int vi]) (rest := []) X (k_isIcicle l D cs ad hj g vi h0 h3) (cwV 1 X.2.2.2.2.1 gg_X11_length_X11_isIcicle rfl rfl rfl (by decide +kernel) ⟨Nat.le_of_ble_eq_true rfl, Nat.le_of_ble_eq_true rfl⟩) (by decide) h0 rfl hP hA hS rfl hl.1 rfl (Nat.le_of_ble_eq_true rfl) dX11_length_2 ⟨Nat.le_of_ble_eq_true rfl, Nat.le_of_ble_eq_true rfl⟩ (fun r_3 g_2 H locs hw_1 hP hS => ?_)
  obtain ⟨hw_1a, hw_1b⟩ := hw_1
  subst hw_1a
  rw [hw_1b] at hP
  refine lv_if_eq (tgt := 16) hx hb dX11_length_5 (by decide) (fun _ => ?_) (fun h => absurd h (by decide))
  refine lv_bipush (v := (-2)) hx hb dX11_length_16 (by decide) ?_
  exact q_iret X hP hS ⟨rfl, rfl⟩ dX11_length_18

theorem dX11_longest_0 : decode cX11_longest 0 = .ok (.aload_n 0, 1) := by decide +kernel
theorem dX11_longest_1 : decode cX11_longest 1 = .ok (.iload_n 1, 1) := by decide +kernel
theorem dX11_longest_2 : decode cX11_longest 2 = .ok (.invokevirtual 136, 3) := by decide +kernel
theorem dX11_longest_5 : decode cX11_longest 5 = .ok (.ifCond .ne 6, 3) := by decide +kernel
theorem dX11_longest_8 : decode cX11_longest 8 = .ok (.bipush (-2), 2) := by decide +kernel
theorem dX11_longest_10 : decode cX11_longest 10 = .ok (.ireturn, 1) := by decide +kernel
def vX11_longest : List Cond := .code yX11_longest cX11_longest 5 (some .int) :: ([.methodLink RX11 136 yX11_isIcicle, .instanceMethod yX11_isIcicle, .selects RX11 yX11_isIcicle yX11_isIcicle, .initialized RX11, .code yX11_isIcicle cX11_isIcicle 2 (some .boolean), .fieldLink RX11 19 "IcicleClock" "now" "LIcicleClock$Street;", .fieldLink RX11 160 "IcicleClock$Street" "icicles" "I"] ++ wsX110 ++ wsX60)
theorem iX11_longest_11 : ∀ w ∈ wsX110, w ∈ vX11_longest := fun _ h => List.mem_cons_of_mem _ (List.mem_append_left _ (List.mem_append_right _ h))
theorem iX11_longest_6 : ∀ w ∈ wsX60, w ∈ vX11_longest := fun _ h => List.mem_cons_of_mem _ (List.mem_append_right _ h)
set_option maxRecDepth 20000 in
theorem gg_X11_longest_X11_isIcicle : GoodIn vX11_longest (wsV RX11 136 RX11 yX11_isIcicle vX11_isIcicle) := goodIn_r _ [1, 2, 3, 4, 5, 6, 7, 8, 9, 10, 11, 12, 13, 14, 15, 16, 17, 18, 19, 20, 21, 22, 23, 24, 25, 26, 27, 28, 29, 30, 31, 32, 33, 34, 35, 36, 37, 38, 39] (by decide +kernel) (by decide +kernel)
set_option maxHeartbeats 4000000 in
set_option maxRecDepth 100000 in
theorem k_longest (l : Launch) (D : va_G) (cs : Nat → ClassId) (ad : Nat → Nat) (hj : wJ ad nW) (g : Nat → va_E) (vi : Int32) (h0 : g 0 = .inr (11, [.ref (ad 1), .ref (ad 3), .ref (ad 23), .ref (ad 43), .ref (ad 104), .ref (ad 105), .ref (ad 114), .ref (ad 116), .ref (ad 118), .ref (ad 120), .ref (ad 130), .ref (ad 140), .ref (ad 144), .ref (ad 190)])) (h3 : g 3 = .inr (6, [.int 0, .int 0, .int 0, .int 0, .int 0, .int 0, .int 0, .int 0, .ref (ad 4), .ref (ad 5), .ref (ad 6), .ref (ad 7), .ref (ad 8), .ref (ad 9), .ref (ad 10), .ref (ad 11), .ref (ad 12), .ref (ad 13)])) : cI l yX11_longest vX11_longest { frames := 1, cells := 0, slots := 0, locals := 21 } D cs ad nW [.ref (ad 0), .int vi] g (fun r g2 => r = (-2) ∧ g2 = g) := by
  refine Met.start (cc := cX11_longest) (maxL := 5) (ret := (some .int)) RX11 rfl (by decide) rfl (Nat.le_of_ble_eq_true rfl) ?_
  intro p e s m below meth c ls X hP hl
  have hx := X.1
  have hb := X.2.1
  have hS : va_S (wA ad nW) s.heap s.heap [] := va_S.rf
  have hA : ∀ i, i < nW → wA ad nW (ad i) := fun i h => ⟨i, h, rfl⟩
  have hl : lv_has ls 5 [(0, .ref (ad 0)), (1, .int vi)] := hl
  refine lv_aload_n hx hb dX11_longest_0 rfl (lv_at hl 0 rfl) ?_
  refine lv_iload_n hx hb dX11_longest_1 rfl (lv_at hl 1 rfl) ?_
  refine q_calli (q := (RX11, TX11, 14)) (As := [.int vi]) (rest := []) X (k_isIcicle l D cs ad hj g vi h0 h3) (cwV 1 X.2.2.2.2.1 gg_X11_longest_X11_isIcicle rfl rfl rfl (by decide +kernel) ⟨Nat.le_of_ble_eq_true rfl, Nat.le_of_ble_eq_true rfl⟩) (by decide) h0 rfl hP hA hS rfl hl.1 rfl (Nat.le_of_ble_eq_true rfl) dX11_longest_2 ⟨Nat.le_of_ble_eq_true rfl, Nat.le_of_ble_eq_true rfl⟩ (fun r_3 g_2 H locs hw_1 hP hS => ?_)
  obtain ⟨hw_1a, hw_1b⟩ := hw_1
  subst hw_1a
  rw [hw_1b] at hP
  refine lv_if_ne (tgt := 11) hx hb dX11_longest_5 (by decide) (fun h => absurd h (by decide)) (fun _ => ?_)
  refine lv_bipush (v := (-2)) hx hb dX11_longest_8 (by decide) ?_
  exact q_iret X hP hS ⟨rfl, rfl⟩ dX11_longest_10

theorem dX11_drops_0 : decode cX11_drops 0 = .ok (.aload_n 0, 1) := by decide +kernel
theorem dX11_drops_1 : decode cX11_drops 1 = .ok (.iload_n 1, 1) := by decide +kernel
theorem dX11_drops_2 : decode cX11_drops 2 = .ok (.invokevirtual 121, 3) := by decide +kernel
theorem dX11_drops_5 : decode cX11_drops 5 = .ok (.ifCond .eq 18, 3) := by decide +kernel
theorem dX11_drops_23 : decode cX11_drops 23 = .ok (.bipush (-2), 2) := by decide +kernel
theorem dX11_drops_25 : decode cX11_drops 25 = .ok (.ireturn, 1) := by decide +kernel
def vX11_drops : List Cond := .code yX11_drops cX11_drops 2 (some .int) :: ([.methodLink RX11 121 yX11_isDay, .instanceMethod yX11_isDay, .selects RX11 yX11_isDay yX11_isDay, .initialized RX11, .code yX11_isDay cX11_isDay 2 (some .boolean), .fieldLink RX11 19 "IcicleClock" "now" "LIcicleClock$Street;", .fieldLink RX11 177 "IcicleClock$Street" "days" "I"] ++ wsX110 ++ wsX60)
theorem iX11_drops_11 : ∀ w ∈ wsX110, w ∈ vX11_drops := fun _ h => List.mem_cons_of_mem _ (List.mem_append_left _ (List.mem_append_right _ h))
theorem iX11_drops_6 : ∀ w ∈ wsX60, w ∈ vX11_drops := fun _ h => List.mem_cons_of_mem _ (List.mem_append_right _ h)
set_option maxRecDepth 20000 in
theorem gg_X11_drops_X11_isDay : GoodIn vX11_drops (wsV RX11 121 RX11 yX11_isDay vX11_isDay) := goodIn_r _ [1, 2, 3, 4, 5, 6, 7, 8, 9, 10, 11, 12, 13, 14, 15, 16, 17, 18, 19, 20, 21, 22, 23, 24, 25, 26, 27, 28, 29, 30, 31, 32, 33, 34, 35, 36, 37, 38, 39] (by decide +kernel) (by decide +kernel)
set_option maxHeartbeats 4000000 in
set_option maxRecDepth 100000 in
theorem k_drops (l : Launch) (D : va_G) (cs : Nat → ClassId) (ad : Nat → Nat) (hj : wJ ad nW) (g : Nat → va_E) (vd : Int32) (h0 : g 0 = .inr (11, [.ref (ad 1), .ref (ad 3), .ref (ad 23), .ref (ad 43), .ref (ad 104), .ref (ad 105), .ref (ad 114), .ref (ad 116), .ref (ad 118), .ref (ad 120), .ref (ad 130), .ref (ad 140), .ref (ad 144), .ref (ad 190)])) (h3 : g 3 = .inr (6, [.int 0, .int 0, .int 0, .int 0, .int 0, .int 0, .int 0, .int 0, .ref (ad 4), .ref (ad 5), .ref (ad 6), .ref (ad 7), .ref (ad 8), .ref (ad 9), .ref (ad 10), .ref (ad 11), .ref (ad 12), .ref (ad 13)])) : cI l yX11_drops vX11_drops { frames := 1, cells := 0, slots := 0, locals := 21 } D cs ad nW [.ref (ad 0), .int vd] g (fun r g2 => r = (-2) ∧ g2 = g) := by
  refine Met.start (cc := cX11_drops) (maxL := 2) (ret := (some .int)) RX11 rfl (by decide) rfl (Nat.le_of_ble_eq_true rfl) ?_
  intro p e s m below meth c ls X hP hl
  have hx := X.1
  have hb := X.2.1
  have hS : va_S (wA ad nW) s.heap s.heap [] := va_S.rf
  have hA : ∀ i, i < nW → wA ad nW (ad i) := fun i h => ⟨i, h, rfl⟩
  have hl : lv_has ls 2 [(0, .ref (ad 0)), (1, .int vd)] := hl
  refine lv_aload_n hx hb dX11_drops_0 rfl (lv_at hl 0 rfl) ?_
  refine lv_iload_n hx hb dX11_drops_1 rfl (lv_at hl 1 rfl) ?_
  refine q_calli (q := (RX11, TX11, 14)) (As := [.int vd]) (rest := []) X (k_isDay l D cs ad hj g vd h0 h3) (cwV 1 X.2.2.2.2.1 gg_X11_drops_X11_isDay rfl rfl rfl (by decide +kernel) ⟨Nat.le_of_ble_eq_true rfl, Nat.le_of_ble_eq_true rfl⟩) (by decide) h0 rfl hP hA hS rfl hl.1 rfl (Nat.le_of_ble_eq_true rfl) dX11_drops_2 ⟨Nat.le_of_ble_eq_true rfl, Nat.le_of_ble_eq_true rfl⟩ (fun r_3 g_2 H locs hw_1 hP hS => ?_)
  obtain ⟨hw_1a, hw_1b⟩ := hw_1
  subst hw_1a
  rw [hw_1b] at hP
  refine lv_if_eq (tgt := 23) hx hb dX11_drops_5 (by decide) (fun _ => ?_) (fun h => absurd h (by decide))
  refine lv_bipush (v := (-2)) hx hb dX11_drops_23 (by decide) ?_
  exact q_iret X hP hS ⟨rfl, rfl⟩ dX11_drops_25

theorem dX11_hang_0 : decode cX11_hang 0 = .ok (.aload_n 0, 1) := by decide +kernel
theorem dX11_hang_1 : decode cX11_hang 1 = .ok (.iload_n 1, 1) := by decide +kernel
theorem dX11_hang_2 : decode cX11_hang 2 = .ok (.invokevirtual 121, 3) := by decide +kernel
theorem dX11_hang_5 : decode cX11_hang 5 = .ok (.ifCond .ne 6, 3) := by decide +kernel
theorem dX11_hang_8 : decode cX11_hang 8 = .ok (.bipush (-2), 2) := by decide +kernel
theorem dX11_hang_10 : decode cX11_hang 10 = .ok (.ireturn, 1) := by decide +kernel
def vX11_hang : List Cond := .code yX11_hang cX11_hang 3 (some .int) :: ([.methodLink RX11 121 yX11_isDay, .instanceMethod yX11_isDay, .selects RX11 yX11_isDay yX11_isDay, .initialized RX11, .code yX11_isDay cX11_isDay 2 (some .boolean), .fieldLink RX11 19 "IcicleClock" "now" "LIcicleClock$Street;", .fieldLink RX11 177 "IcicleClock$Street" "days" "I"] ++ wsX110 ++ wsX60)
theorem iX11_hang_11 : ∀ w ∈ wsX110, w ∈ vX11_hang := fun _ h => List.mem_cons_of_mem _ (List.mem_append_left _ (List.mem_append_right _ h))
theorem iX11_hang_6 : ∀ w ∈ wsX60, w ∈ vX11_hang := fun _ h => List.mem_cons_of_mem _ (List.mem_append_right _ h)
set_option maxRecDepth 20000 in
theorem gg_X11_hang_X11_isDay : GoodIn vX11_hang (wsV RX11 121 RX11 yX11_isDay vX11_isDay) := goodIn_r _ [1, 2, 3, 4, 5, 6, 7, 8, 9, 10, 11, 12, 13, 14, 15, 16, 17, 18, 19, 20, 21, 22, 23, 24, 25, 26, 27, 28, 29, 30, 31, 32, 33, 34, 35, 36, 37, 38, 39] (by decide +kernel) (by decide +kernel)
set_option maxHeartbeats 4000000 in
set_option maxRecDepth 100000 in
theorem k_hang (l : Launch) (D : va_G) (cs : Nat → ClassId) (ad : Nat → Nat) (hj : wJ ad nW) (g : Nat → va_E) (vd : Int32) (h0 : g 0 = .inr (11, [.ref (ad 1), .ref (ad 3), .ref (ad 23), .ref (ad 43), .ref (ad 104), .ref (ad 105), .ref (ad 114), .ref (ad 116), .ref (ad 118), .ref (ad 120), .ref (ad 130), .ref (ad 140), .ref (ad 144), .ref (ad 190)])) (h3 : g 3 = .inr (6, [.int 0, .int 0, .int 0, .int 0, .int 0, .int 0, .int 0, .int 0, .ref (ad 4), .ref (ad 5), .ref (ad 6), .ref (ad 7), .ref (ad 8), .ref (ad 9), .ref (ad 10), .ref (ad 11), .ref (ad 12), .ref (ad 13)])) : cI l yX11_hang vX11_hang { frames := 1, cells := 0, slots := 0, locals := 21 } D cs ad nW [.ref (ad 0), .int vd] g (fun r g2 => r = (-2) ∧ g2 = g) := by
  refine Met.start (cc := cX11_hang) (maxL := 3) (ret := (some .int)) RX11 rfl (by decide) rfl (Nat.le_of_ble_eq_true rfl) ?_
  intro p e s m below meth c ls X hP hl
  have hx := X.1
  have hb := X.2.1
  have hS : va_S (wA ad nW) s.heap s.heap [] := va_S.rf
  have hA : ∀ i, i < nW → wA ad nW (ad i) := fun i h => ⟨i, h, rfl⟩
  have hl : lv_has ls 3 [(0, .ref (ad 0)), (1, .int vd)] := hl
  refine lv_aload_n hx hb dX11_hang_0 rfl (lv_at hl 0 rfl) ?_
  refine lv_iload_n hx hb dX11_hang_1 rfl (lv_at hl 1 rfl) ?_
  refine q_calli (q := (RX11, TX11, 14)) (As := [.int vd]) (rest := []) X (k_isDay l D cs ad hj g vd h0 h3) (cwV 1 X.2.2.2.2.1 gg_X11_hang_X11_isDay rfl rfl rfl (by decide +kernel) ⟨Nat.le_of_ble_eq_true rfl, Nat.le_of_ble_eq_true rfl⟩) (by decide) h0 rfl hP hA hS rfl hl.1 rfl (Nat.le_of_ble_eq_true rfl) dX11_hang_2 ⟨Nat.le_of_ble_eq_true rfl, Nat.le_of_ble_eq_true rfl⟩ (fun r_3 g_2 H locs hw_1 hP hS => ?_)
  obtain ⟨hw_1a, hw_1b⟩ := hw_1
  subst hw_1a
  rw [hw_1b] at hP
  refine lv_if_ne (tgt := 11) hx hb dX11_hang_5 (by decide) (fun h => absurd h (by decide)) (fun _ => ?_)
  refine lv_bipush (v := (-2)) hx hb dX11_hang_8 (by decide) ?_
  exact q_iret X hP hS ⟨rfl, rfl⟩ dX11_hang_10

theorem dX11_under_0 : decode cX11_under 0 = .ok (.aload_n 0, 1) := by decide +kernel
theorem dX11_under_1 : decode cX11_under 1 = .ok (.iload_n 1, 1) := by decide +kernel
theorem dX11_under_2 : decode cX11_under 2 = .ok (.invokevirtual 129, 3) := by decide +kernel
theorem dX11_under_5 : decode cX11_under 5 = .ok (.ifCond .ne 6, 3) := by decide +kernel
theorem dX11_under_8 : decode cX11_under 8 = .ok (.bipush (-2), 2) := by decide +kernel
theorem dX11_under_10 : decode cX11_under 10 = .ok (.ireturn, 1) := by decide +kernel
def vX11_under : List Cond := .code yX11_under cX11_under 4 (some .int) :: ([.methodLink RX11 129 yX11_isEave, .instanceMethod yX11_isEave, .selects RX11 yX11_isEave yX11_isEave, .initialized RX11, .code yX11_isEave cX11_isEave 2 (some .boolean), .fieldLink RX11 19 "IcicleClock" "now" "LIcicleClock$Street;", .fieldLink RX11 208 "IcicleClock$Street" "eaves" "I"] ++ wsX110 ++ wsX60)
theorem iX11_under_11 : ∀ w ∈ wsX110, w ∈ vX11_under := fun _ h => List.mem_cons_of_mem _ (List.mem_append_left _ (List.mem_append_right _ h))
theorem iX11_under_6 : ∀ w ∈ wsX60, w ∈ vX11_under := fun _ h => List.mem_cons_of_mem _ (List.mem_append_right _ h)
set_option maxRecDepth 20000 in
theorem gg_X11_under_X11_isEave : GoodIn vX11_under (wsV RX11 129 RX11 yX11_isEave vX11_isEave) := goodIn_r _ [1, 2, 3, 4, 5, 6, 7, 8, 9, 10, 11, 12, 13, 14, 15, 16, 17, 18, 19, 20, 21, 22, 23, 24, 25, 26, 27, 28, 29, 30, 31, 32, 33, 34, 35, 36, 37, 38, 39] (by decide +kernel) (by decide +kernel)
set_option maxHeartbeats 4000000 in
set_option maxRecDepth 100000 in
theorem k_under (l : Launch) (D : va_G) (cs : Nat → ClassId) (ad : Nat → Nat) (hj : wJ ad nW) (g : Nat → va_E) (vd : Int32) (h0 : g 0 = .inr (11, [.ref (ad 1), .ref (ad 3), .ref (ad 23), .ref (ad 43), .ref (ad 104), .ref (ad 105), .ref (ad 114), .ref (ad 116), .ref (ad 118), .ref (ad 120), .ref (ad 130), .ref (ad 140), .ref (ad 144), .ref (ad 190)])) (h3 : g 3 = .inr (6, [.int 0, .int 0, .int 0, .int 0, .int 0, .int 0, .int 0, .int 0, .ref (ad 4), .ref (ad 5), .ref (ad 6), .ref (ad 7), .ref (ad 8), .ref (ad 9), .ref (ad 10), .ref (ad 11), .ref (ad 12), .ref (ad 13)])) : cI l yX11_under vX11_under { frames := 1, cells := 0, slots := 0, locals := 21 } D cs ad nW [.ref (ad 0), .int vd] g (fun r g2 => r = (-2) ∧ g2 = g) := by
  refine Met.start (cc := cX11_under) (maxL := 4) (ret := (some .int)) RX11 rfl (by decide) rfl (Nat.le_of_ble_eq_true rfl) ?_
  intro p e s m below meth c ls X hP hl
  have hx := X.1
  have hb := X.2.1
  have hS : va_S (wA ad nW) s.heap s.heap [] := va_S.rf
  have hA : ∀ i, i < nW → wA ad nW (ad i) := fun i h => ⟨i, h, rfl⟩
  have hl : lv_has ls 4 [(0, .ref (ad 0)), (1, .int vd)] := hl
  refine lv_aload_n hx hb dX11_under_0 rfl (lv_at hl 0 rfl) ?_
  refine lv_iload_n hx hb dX11_under_1 rfl (lv_at hl 1 rfl) ?_
  refine q_calli (q := (RX11, TX11, 14)) (As := [.int vd]) (rest := []) X (k_isEave l D cs ad hj g vd h0 h3) (cwV 1 X.2.2.2.2.1 gg_X11_under_X11_isEave rfl rfl rfl (by decide +kernel) ⟨Nat.le_of_ble_eq_true rfl, Nat.le_of_ble_eq_true rfl⟩) (by decide) h0 rfl hP hA hS rfl hl.1 rfl (Nat.le_of_ble_eq_true rfl) dX11_under_2 ⟨Nat.le_of_ble_eq_true rfl, Nat.le_of_ble_eq_true rfl⟩ (fun r_3 g_2 H locs hw_1 hP hS => ?_)
  obtain ⟨hw_1a, hw_1b⟩ := hw_1
  subst hw_1a
  rw [hw_1b] at hP
  refine lv_if_ne (tgt := 11) hx hb dX11_under_5 (by decide) (fun h => absurd h (by decide)) (fun _ => ?_)
  refine lv_bipush (v := (-2)) hx hb dX11_under_8 (by decide) ?_
  exact q_iret X hP hS ⟨rfl, rfl⟩ dX11_under_10

theorem dX11_rush_0 : decode cX11_rush 0 = .ok (.aload_n 0, 1) := by decide +kernel
theorem dX11_rush_1 : decode cX11_rush 1 = .ok (.invokevirtual 195, 3) := by decide +kernel
theorem dX11_rush_4 : decode cX11_rush 4 = .ok (.ifCond .ne 6, 3) := by decide +kernel
theorem dX11_rush_7 : decode cX11_rush 7 = .ok (.bipush (-2), 2) := by decide +kernel
theorem dX11_rush_9 : decode cX11_rush 9 = .ok (.ireturn, 1) := by decide +kernel
def vX11_rush : List Cond := .code yX11_rush cX11_rush 5 (some .int) :: ([.methodLink RX11 195 yX11_isTold, .instanceMethod yX11_isTold, .selects RX11 yX11_isTold yX11_isTold, .initialized RX11, .code yX11_isTold cX11_isTold 1 (some .boolean), .fieldLink RX11 19 "IcicleClock" "now" "LIcicleClock$Street;", .fieldLink RX11 112 "IcicleClock$Street" "lines" "I"] ++ wsX110 ++ wsX60)
theorem iX11_rush_11 : ∀ w ∈ wsX110, w ∈ vX11_rush := fun _ h => List.mem_cons_of_mem _ (List.mem_append_left _ (List.mem_append_right _ h))
theorem iX11_rush_6 : ∀ w ∈ wsX60, w ∈ vX11_rush := fun _ h => List.mem_cons_of_mem _ (List.mem_append_right _ h)
set_option maxRecDepth 20000 in
theorem gg_X11_rush_X11_isTold : GoodIn vX11_rush (wsV RX11 195 RX11 yX11_isTold vX11_isTold) := goodIn_r _ [1, 2, 3, 4, 5, 6, 7, 8, 9, 10, 11, 12, 13, 14, 15, 16, 17, 18, 19, 20, 21, 22, 23, 24, 25, 26, 27, 28, 29, 30, 31, 32, 33, 34, 35, 36, 37, 38, 39] (by decide +kernel) (by decide +kernel)
set_option maxHeartbeats 4000000 in
set_option maxRecDepth 100000 in
theorem k_rush (l : Launch) (D : va_G) (cs : Nat → ClassId) (ad : Nat → Nat) (hj : wJ ad nW) (g : Nat → va_E) (h0 : g 0 = .inr (11, [.ref (ad 1), .ref (ad 3), .ref (ad 23), .ref (ad 43), .ref (ad 104), .ref (ad 105), .ref (ad 114), .ref (ad 116), .ref (ad 118), .ref (ad 120), .ref (ad 130), .ref (ad 140), .ref (ad 144), .ref (ad 190)])) (h3 : g 3 = .inr (6, [.int 0, .int 0, .int 0, .int 0, .int 0, .int 0, .int 0, .int 0, .ref (ad 4), .ref (ad 5), .ref (ad 6), .ref (ad 7), .ref (ad 8), .ref (ad 9), .ref (ad 10), .ref (ad 11), .ref (ad 12), .ref (ad 13)])) : cI l yX11_rush vX11_rush { frames := 1, cells := 0, slots := 0, locals := 20 } D cs ad nW [.ref (ad 0)] g (fun r g2 => r = (-2) ∧ g2 = g) := by
  refine Met.start (cc := cX11_rush) (maxL := 5) (ret := (some .int)) RX11 rfl (by decide) rfl (Nat.le_of_ble_eq_true rfl) ?_
  intro p e s m below meth c ls X hP hl
  have hx := X.1
  have hb := X.2.1
  have hS : va_S (wA ad nW) s.heap s.heap [] := va_S.rf
  have hA : ∀ i, i < nW → wA ad nW (ad i) := fun i h => ⟨i, h, rfl⟩
  have hl : lv_has ls 5 [(0, .ref (ad 0))] := hl
  refine lv_aload_n hx hb dX11_rush_0 rfl (lv_at hl 0 rfl) ?_
  refine q_calli (q := (RX11, TX11, 14)) (As := []) (rest := []) X (k_isTold l D cs ad hj g  h0 h3) (cwV 0 X.2.2.2.2.1 gg_X11_rush_X11_isTold rfl rfl rfl (by decide +kernel) ⟨Nat.le_of_ble_eq_true rfl, Nat.le_of_ble_eq_true rfl⟩) (by decide) h0 rfl hP hA hS rfl hl.1 rfl (Nat.le_of_ble_eq_true rfl) dX11_rush_1 ⟨Nat.le_of_ble_eq_true rfl, Nat.le_of_ble_eq_true rfl⟩ (fun r_3 g_2 H locs hw_1 hP hS => ?_)
  obtain ⟨hw_1a, hw_1b⟩ := hw_1
  subst hw_1a
  rw [hw_1b] at hP
  refine lv_if_ne (tgt := 10) hx hb dX11_rush_4 (by decide) (fun h => absurd h (by decide)) (fun _ => ?_)
  refine lv_bipush (v := (-2)) hx hb dX11_rush_7 (by decide) ?_
  exact q_iret X hP hS ⟨rfl, rfl⟩ dX11_rush_9

theorem dX11_next_0 : decode cX11_next 0 = .ok (.aload_n 0, 1) := by decide +kernel
theorem dX11_next_1 : decode cX11_next 1 = .ok (.iload_n 1, 1) := by decide +kernel
theorem dX11_next_2 : decode cX11_next 2 = .ok (.invokevirtual 129, 3) := by decide +kernel
theorem dX11_next_5 : decode cX11_next 5 = .ok (.ifCond .eq 11, 3) := by decide +kernel
theorem dX11_next_16 : decode cX11_next 16 = .ok (.bipush (-2), 2) := by decide +kernel
theorem dX11_next_18 : decode cX11_next 18 = .ok (.ireturn, 1) := by decide +kernel
def vX11_next : List Cond := .code yX11_next cX11_next 4 (some .int) :: ([.methodLink RX11 129 yX11_isEave, .instanceMethod yX11_isEave, .selects RX11 yX11_isEave yX11_isEave, .initialized RX11, .code yX11_isEave cX11_isEave 2 (some .boolean), .fieldLink RX11 19 "IcicleClock" "now" "LIcicleClock$Street;", .fieldLink RX11 208 "IcicleClock$Street" "eaves" "I"] ++ wsX110 ++ wsX60)
theorem iX11_next_11 : ∀ w ∈ wsX110, w ∈ vX11_next := fun _ h => List.mem_cons_of_mem _ (List.mem_append_left _ (List.mem_append_right _ h))
theorem iX11_next_6 : ∀ w ∈ wsX60, w ∈ vX11_next := fun _ h => List.mem_cons_of_mem _ (List.mem_append_right _ h)
set_option maxRecDepth 20000 in
theorem gg_X11_next_X11_isEave : GoodIn vX11_next (wsV RX11 129 RX11 yX11_isEave vX11_isEave) := goodIn_r _ [1, 2, 3, 4, 5, 6, 7, 8, 9, 10, 11, 12, 13, 14, 15, 16, 17, 18, 19, 20, 21, 22, 23, 24, 25, 26, 27, 28, 29, 30, 31, 32, 33, 34, 35, 36, 37, 38, 39] (by decide +kernel) (by decide +kernel)
set_option maxHeartbeats 4000000 in
set_option maxRecDepth 100000 in
theorem k_next (l : Launch) (D : va_G) (cs : Nat → ClassId) (ad : Nat → Nat) (hj : wJ ad nW) (g : Nat → va_E) (va : Int32) (vd : Int32) (h0 : g 0 = .inr (11, [.ref (ad 1), .ref (ad 3), .ref (ad 23), .ref (ad 43), .ref (ad 104), .ref (ad 105), .ref (ad 114), .ref (ad 116), .ref (ad 118), .ref (ad 120), .ref (ad 130), .ref (ad 140), .ref (ad 144), .ref (ad 190)])) (h3 : g 3 = .inr (6, [.int 0, .int 0, .int 0, .int 0, .int 0, .int 0, .int 0, .int 0, .ref (ad 4), .ref (ad 5), .ref (ad 6), .ref (ad 7), .ref (ad 8), .ref (ad 9), .ref (ad 10), .ref (ad 11), .ref (ad 12), .ref (ad 13)])) : cI l yX11_next vX11_next { frames := 1, cells := 0, slots := 0, locals := 21 } D cs ad nW [.ref (ad 0), .int va, .int vd] g (fun r g2 => r = (-2) ∧ g2 = g) := by
  refine Met.start (cc := cX11_next) (maxL := 4) (ret := (some .int)) RX11 rfl (by decide) rfl (Nat.le_of_ble_eq_true rfl) ?_
  intro p e s m below meth c ls X hP hl
  have hx := X.1
  have hb := X.2.1
  have hS : va_S (wA ad nW) s.heap s.heap [] := va_S.rf
  have hA : ∀ i, i < nW → wA ad nW (ad i) := fun i h => ⟨i, h, rfl⟩
  have hl : lv_has ls 4 [(0, .ref (ad 0)), (1, .int va), (2, .int vd)] := hl
  refine lv_aload_n hx hb dX11_next_0 rfl (lv_at hl 0 rfl) ?_
  refine lv_iload_n hx hb dX11_next_1 rfl (lv_at hl 1 rfl) ?_
  refine q_calli (q := (RX11, TX11, 14)) (As := [.int va]) (rest := []) X (k_isEave l D cs ad hj g va h0 h3) (cwV 1 X.2.2.2.2.1 gg_X11_next_X11_isEave rfl rfl rfl (by decide +kernel) ⟨Nat.le_of_ble_eq_true rfl, Nat.le_of_ble_eq_true rfl⟩) (by decide) h0 rfl hP hA hS rfl hl.1 rfl (Nat.le_of_ble_eq_true rfl) dX11_next_2 ⟨Nat.le_of_ble_eq_true rfl, Nat.le_of_ble_eq_true rfl⟩ (fun r_3 g_2 H locs hw_1 hP hS => ?_)
  obtain ⟨hw_1a, hw_1b⟩ := hw_1
  subst hw_1a
  rw [hw_1b] at hP
  refine lv_if_eq (tgt := 16) hx hb dX11_next_5 (by decide) (fun _ => ?_) (fun h => absurd h (by decide))
  refine lv_bipush (v := (-2)) hx hb dX11_next_16 (by decide) ?_
  exact q_iret X hP hS ⟨rfl, rfl⟩ dX11_next_18

theorem dX11_barest_0 : decode cX11_barest 0 = .ok (.aload_n 0, 1) := by decide +kernel
theorem dX11_barest_1 : decode cX11_barest 1 = .ok (.invokevirtual 195, 3) := by decide +kernel
theorem dX11_barest_4 : decode cX11_barest 4 = .ok (.ifCond .ne 6, 3) := by decide +kernel
theorem dX11_barest_7 : decode cX11_barest 7 = .ok (.bipush (-2), 2) := by decide +kernel
theorem dX11_barest_9 : decode cX11_barest 9 = .ok (.ireturn, 1) := by decide +kernel
def vX11_barest : List Cond := .code yX11_barest cX11_barest 6 (some .int) :: ([.methodLink RX11 195 yX11_isTold, .instanceMethod yX11_isTold, .selects RX11 yX11_isTold yX11_isTold, .initialized RX11, .code yX11_isTold cX11_isTold 1 (some .boolean), .fieldLink RX11 19 "IcicleClock" "now" "LIcicleClock$Street;", .fieldLink RX11 112 "IcicleClock$Street" "lines" "I"] ++ wsX110 ++ wsX60)
theorem iX11_barest_11 : ∀ w ∈ wsX110, w ∈ vX11_barest := fun _ h => List.mem_cons_of_mem _ (List.mem_append_left _ (List.mem_append_right _ h))
theorem iX11_barest_6 : ∀ w ∈ wsX60, w ∈ vX11_barest := fun _ h => List.mem_cons_of_mem _ (List.mem_append_right _ h)
set_option maxRecDepth 20000 in
theorem gg_X11_barest_X11_isTold : GoodIn vX11_barest (wsV RX11 195 RX11 yX11_isTold vX11_isTold) := goodIn_r _ [1, 2, 3, 4, 5, 6, 7, 8, 9, 10, 11, 12, 13, 14, 15, 16, 17, 18, 19, 20, 21, 22, 23, 24, 25, 26, 27, 28, 29, 30, 31, 32, 33, 34, 35, 36, 37, 38, 39] (by decide +kernel) (by decide +kernel)
set_option maxHeartbeats 4000000 in
set_option maxRecDepth 100000 in
theorem k_barest (l : Launch) (D : va_G) (cs : Nat → ClassId) (ad : Nat → Nat) (hj : wJ ad nW) (g : Nat → va_E) (h0 : g 0 = .inr (11, [.ref (ad 1), .ref (ad 3), .ref (ad 23), .ref (ad 43), .ref (ad 104), .ref (ad 105), .ref (ad 114), .ref (ad 116), .ref (ad 118), .ref (ad 120), .ref (ad 130), .ref (ad 140), .ref (ad 144), .ref (ad 190)])) (h3 : g 3 = .inr (6, [.int 0, .int 0, .int 0, .int 0, .int 0, .int 0, .int 0, .int 0, .ref (ad 4), .ref (ad 5), .ref (ad 6), .ref (ad 7), .ref (ad 8), .ref (ad 9), .ref (ad 10), .ref (ad 11), .ref (ad 12), .ref (ad 13)])) : cI l yX11_barest vX11_barest { frames := 1, cells := 0, slots := 0, locals := 20 } D cs ad nW [.ref (ad 0)] g (fun r g2 => r = (-2) ∧ g2 = g) := by
  refine Met.start (cc := cX11_barest) (maxL := 6) (ret := (some .int)) RX11 rfl (by decide) rfl (Nat.le_of_ble_eq_true rfl) ?_
  intro p e s m below meth c ls X hP hl
  have hx := X.1
  have hb := X.2.1
  have hS : va_S (wA ad nW) s.heap s.heap [] := va_S.rf
  have hA : ∀ i, i < nW → wA ad nW (ad i) := fun i h => ⟨i, h, rfl⟩
  have hl : lv_has ls 6 [(0, .ref (ad 0))] := hl
  refine lv_aload_n hx hb dX11_barest_0 rfl (lv_at hl 0 rfl) ?_
  refine q_calli (q := (RX11, TX11, 14)) (As := []) (rest := []) X (k_isTold l D cs ad hj g  h0 h3) (cwV 0 X.2.2.2.2.1 gg_X11_barest_X11_isTold rfl rfl rfl (by decide +kernel) ⟨Nat.le_of_ble_eq_true rfl, Nat.le_of_ble_eq_true rfl⟩) (by decide) h0 rfl hP hA hS rfl hl.1 rfl (Nat.le_of_ble_eq_true rfl) dX11_barest_1 ⟨Nat.le_of_ble_eq_true rfl, Nat.le_of_ble_eq_true rfl⟩ (fun r_3 g_2 H locs hw_1 hP hS => ?_)
  obtain ⟨hw_1a, hw_1b⟩ := hw_1
  subst hw_1a
  rw [hw_1b] at hP
  refine lv_if_ne (tgt := 10) hx hb dX11_barest_4 (by decide) (fun h => absurd h (by decide)) (fun _ => ?_)
  refine lv_bipush (v := (-2)) hx hb dX11_barest_7 (by decide) ?_
  exact q_iret X hP hS ⟨rfl, rfl⟩ dX11_barest_9

theorem dX11_time_0 : decode cX11_time 0 = .ok (.aload_n 0, 1) := by decide +kernel
theorem dX11_time_1 : decode cX11_time 1 = .ok (.iload_n 1, 1) := by decide +kernel
theorem dX11_time_2 : decode cX11_time 2 = .ok (.invokevirtual 129, 3) := by decide +kernel
theorem dX11_time_5 : decode cX11_time 5 = .ok (.ifCond .eq 27, 3) := by decide +kernel
theorem dX11_time_32 : decode cX11_time 32 = .ok (.bipush (-2), 2) := by decide +kernel
theorem dX11_time_34 : decode cX11_time 34 = .ok (.ireturn, 1) := by decide +kernel
def vX11_time : List Cond := .code yX11_time cX11_time 3 (some .int) :: ([.methodLink RX11 129 yX11_isEave, .instanceMethod yX11_isEave, .selects RX11 yX11_isEave yX11_isEave, .initialized RX11, .code yX11_isEave cX11_isEave 2 (some .boolean), .fieldLink RX11 19 "IcicleClock" "now" "LIcicleClock$Street;", .fieldLink RX11 208 "IcicleClock$Street" "eaves" "I"] ++ wsX110 ++ wsX60)
theorem iX11_time_11 : ∀ w ∈ wsX110, w ∈ vX11_time := fun _ h => List.mem_cons_of_mem _ (List.mem_append_left _ (List.mem_append_right _ h))
theorem iX11_time_6 : ∀ w ∈ wsX60, w ∈ vX11_time := fun _ h => List.mem_cons_of_mem _ (List.mem_append_right _ h)
set_option maxRecDepth 20000 in
theorem gg_X11_time_X11_isEave : GoodIn vX11_time (wsV RX11 129 RX11 yX11_isEave vX11_isEave) := goodIn_r _ [1, 2, 3, 4, 5, 6, 7, 8, 9, 10, 11, 12, 13, 14, 15, 16, 17, 18, 19, 20, 21, 22, 23, 24, 25, 26, 27, 28, 29, 30, 31, 32, 33, 34, 35, 36, 37, 38, 39] (by decide +kernel) (by decide +kernel)
set_option maxHeartbeats 4000000 in
set_option maxRecDepth 100000 in
theorem k_time (l : Launch) (D : va_G) (cs : Nat → ClassId) (ad : Nat → Nat) (hj : wJ ad nW) (g : Nat → va_E) (va : Int32) (vd : Int32) (h0 : g 0 = .inr (11, [.ref (ad 1), .ref (ad 3), .ref (ad 23), .ref (ad 43), .ref (ad 104), .ref (ad 105), .ref (ad 114), .ref (ad 116), .ref (ad 118), .ref (ad 120), .ref (ad 130), .ref (ad 140), .ref (ad 144), .ref (ad 190)])) (h3 : g 3 = .inr (6, [.int 0, .int 0, .int 0, .int 0, .int 0, .int 0, .int 0, .int 0, .ref (ad 4), .ref (ad 5), .ref (ad 6), .ref (ad 7), .ref (ad 8), .ref (ad 9), .ref (ad 10), .ref (ad 11), .ref (ad 12), .ref (ad 13)])) : cI l yX11_time vX11_time { frames := 1, cells := 0, slots := 0, locals := 21 } D cs ad nW [.ref (ad 0), .int va, .int vd] g (fun r g2 => r = (-2) ∧ g2 = g) := by
  refine Met.start (cc := cX11_time) (maxL := 3) (ret := (some .int)) RX11 rfl (by decide) rfl (Nat.le_of_ble_eq_true rfl) ?_
  intro p e s m below meth c ls X hP hl
  have hx := X.1
  have hb := X.2.1
  have hS : va_S (wA ad nW) s.heap s.heap [] := va_S.rf
  have hA : ∀ i, i < nW → wA ad nW (ad i) := fun i h => ⟨i, h, rfl⟩
  have hl : lv_has ls 3 [(0, .ref (ad 0)), (1, .int va), (2, .int vd)] := hl
  refine lv_aload_n hx hb dX11_time_0 rfl (lv_at hl 0 rfl) ?_
  refine lv_iload_n hx hb dX11_time_1 rfl (lv_at hl 1 rfl) ?_
  refine q_calli (q := (RX11, TX11, 14)) (As := [.int va]) (rest := []) X (k_isEave l D cs ad hj g va h0 h3) (cwV 1 X.2.2.2.2.1 gg_X11_time_X11_isEave rfl rfl rfl (by decide +kernel) ⟨Nat.le_of_ble_eq_true rfl, Nat.le_of_ble_eq_true rfl⟩) (by decide) h0 rfl hP hA hS rfl hl.1 rfl (Nat.le_of_ble_eq_true rfl) dX11_time_2 ⟨Nat.le_of_ble_eq_true rfl, Nat.le_of_ble_eq_true rfl⟩ (fun r_3 g_2 H locs hw_1 hP hS => ?_)
  obtain ⟨hw_1a, hw_1b⟩ := hw_1
  subst hw_1a
  rw [hw_1b] at hP
  refine lv_if_eq (tgt := 32) hx hb dX11_time_5 (by decide) (fun _ => ?_) (fun h => absurd h (by decide))
  refine lv_bipush (v := (-2)) hx hb dX11_time_32 (by decide) ?_
  exact q_iret X hP hS ⟨rfl, rfl⟩ dX11_time_34

theorem dX11_hour_0 : decode cX11_hour 0 = .ok (.aload_n 0, 1) := by decide +kernel
theorem dX11_hour_1 : decode cX11_hour 1 = .ok (.iload_n 1, 1) := by decide +kernel
theorem dX11_hour_2 : decode cX11_hour 2 = .ok (.invokevirtual 121, 3) := by decide +kernel
theorem dX11_hour_5 : decode cX11_hour 5 = .ok (.ifCond .eq 19, 3) := by decide +kernel
theorem dX11_hour_24 : decode cX11_hour 24 = .ok (.bipush (-2), 2) := by decide +kernel
theorem dX11_hour_26 : decode cX11_hour 26 = .ok (.ireturn, 1) := by decide +kernel
def vX11_hour : List Cond := .code yX11_hour cX11_hour 2 (some .int) :: ([.methodLink RX11 121 yX11_isDay, .instanceMethod yX11_isDay, .selects RX11 yX11_isDay yX11_isDay, .initialized RX11, .code yX11_isDay cX11_isDay 2 (some .boolean), .fieldLink RX11 19 "IcicleClock" "now" "LIcicleClock$Street;", .fieldLink RX11 177 "IcicleClock$Street" "days" "I"] ++ wsX110 ++ wsX60)
theorem iX11_hour_11 : ∀ w ∈ wsX110, w ∈ vX11_hour := fun _ h => List.mem_cons_of_mem _ (List.mem_append_left _ (List.mem_append_right _ h))
theorem iX11_hour_6 : ∀ w ∈ wsX60, w ∈ vX11_hour := fun _ h => List.mem_cons_of_mem _ (List.mem_append_right _ h)
set_option maxRecDepth 20000 in
theorem gg_X11_hour_X11_isDay : GoodIn vX11_hour (wsV RX11 121 RX11 yX11_isDay vX11_isDay) := goodIn_r _ [1, 2, 3, 4, 5, 6, 7, 8, 9, 10, 11, 12, 13, 14, 15, 16, 17, 18, 19, 20, 21, 22, 23, 24, 25, 26, 27, 28, 29, 30, 31, 32, 33, 34, 35, 36, 37, 38, 39] (by decide +kernel) (by decide +kernel)
set_option maxHeartbeats 4000000 in
set_option maxRecDepth 100000 in
theorem k_hour (l : Launch) (D : va_G) (cs : Nat → ClassId) (ad : Nat → Nat) (hj : wJ ad nW) (g : Nat → va_E) (vd : Int32) (h0 : g 0 = .inr (11, [.ref (ad 1), .ref (ad 3), .ref (ad 23), .ref (ad 43), .ref (ad 104), .ref (ad 105), .ref (ad 114), .ref (ad 116), .ref (ad 118), .ref (ad 120), .ref (ad 130), .ref (ad 140), .ref (ad 144), .ref (ad 190)])) (h3 : g 3 = .inr (6, [.int 0, .int 0, .int 0, .int 0, .int 0, .int 0, .int 0, .int 0, .ref (ad 4), .ref (ad 5), .ref (ad 6), .ref (ad 7), .ref (ad 8), .ref (ad 9), .ref (ad 10), .ref (ad 11), .ref (ad 12), .ref (ad 13)])) : cI l yX11_hour vX11_hour { frames := 1, cells := 0, slots := 0, locals := 21 } D cs ad nW [.ref (ad 0), .int vd] g (fun r g2 => r = (-2) ∧ g2 = g) := by
  refine Met.start (cc := cX11_hour) (maxL := 2) (ret := (some .int)) RX11 rfl (by decide) rfl (Nat.le_of_ble_eq_true rfl) ?_
  intro p e s m below meth c ls X hP hl
  have hx := X.1
  have hb := X.2.1
  have hS : va_S (wA ad nW) s.heap s.heap [] := va_S.rf
  have hA : ∀ i, i < nW → wA ad nW (ad i) := fun i h => ⟨i, h, rfl⟩
  have hl : lv_has ls 2 [(0, .ref (ad 0)), (1, .int vd)] := hl
  refine lv_aload_n hx hb dX11_hour_0 rfl (lv_at hl 0 rfl) ?_
  refine lv_iload_n hx hb dX11_hour_1 rfl (lv_at hl 1 rfl) ?_
  refine q_calli (q := (RX11, TX11, 14)) (As := [.int vd]) (rest := []) X (k_isDay l D cs ad hj g vd h0 h3) (cwV 1 X.2.2.2.2.1 gg_X11_hour_X11_isDay rfl rfl rfl (by decide +kernel) ⟨Nat.le_of_ble_eq_true rfl, Nat.le_of_ble_eq_true rfl⟩) (by decide) h0 rfl hP hA hS rfl hl.1 rfl (Nat.le_of_ble_eq_true rfl) dX11_hour_2 ⟨Nat.le_of_ble_eq_true rfl, Nat.le_of_ble_eq_true rfl⟩ (fun r_3 g_2 H locs hw_1 hP hS => ?_)
  obtain ⟨hw_1a, hw_1b⟩ := hw_1
  subst hw_1a
  rw [hw_1b] at hP
  refine lv_if_eq (tgt := 24) hx hb dX11_hour_5 (by decide) (fun _ => ?_) (fun h => absurd h (by decide))
  refine lv_bipush (v := (-2)) hx hb dX11_hour_24 (by decide) ?_
  exact q_iret X hP hS ⟨rfl, rfl⟩ dX11_hour_26

theorem dX11_meet_0 : decode cX11_meet 0 = .ok (.aload_n 0, 1) := by decide +kernel
theorem dX11_meet_1 : decode cX11_meet 1 = .ok (.iload_n 1, 1) := by decide +kernel
theorem dX11_meet_2 : decode cX11_meet 2 = .ok (.invokevirtual 129, 3) := by decide +kernel
theorem dX11_meet_5 : decode cX11_meet 5 = .ok (.ifCond .eq 27, 3) := by decide +kernel
theorem dX11_meet_32 : decode cX11_meet 32 = .ok (.bipush (-2), 2) := by decide +kernel
theorem dX11_meet_34 : decode cX11_meet 34 = .ok (.ireturn, 1) := by decide +kernel
def vX11_meet : List Cond := .code yX11_meet cX11_meet 3 (some .int) :: ([.methodLink RX11 129 yX11_isEave, .instanceMethod yX11_isEave, .selects RX11 yX11_isEave yX11_isEave, .initialized RX11, .code yX11_isEave cX11_isEave 2 (some .boolean), .fieldLink RX11 19 "IcicleClock" "now" "LIcicleClock$Street;", .fieldLink RX11 208 "IcicleClock$Street" "eaves" "I"] ++ wsX110 ++ wsX60)
theorem iX11_meet_11 : ∀ w ∈ wsX110, w ∈ vX11_meet := fun _ h => List.mem_cons_of_mem _ (List.mem_append_left _ (List.mem_append_right _ h))
theorem iX11_meet_6 : ∀ w ∈ wsX60, w ∈ vX11_meet := fun _ h => List.mem_cons_of_mem _ (List.mem_append_right _ h)
set_option maxRecDepth 20000 in
theorem gg_X11_meet_X11_isEave : GoodIn vX11_meet (wsV RX11 129 RX11 yX11_isEave vX11_isEave) := goodIn_r _ [1, 2, 3, 4, 5, 6, 7, 8, 9, 10, 11, 12, 13, 14, 15, 16, 17, 18, 19, 20, 21, 22, 23, 24, 25, 26, 27, 28, 29, 30, 31, 32, 33, 34, 35, 36, 37, 38, 39] (by decide +kernel) (by decide +kernel)
set_option maxHeartbeats 4000000 in
set_option maxRecDepth 100000 in
theorem k_meet (l : Launch) (D : va_G) (cs : Nat → ClassId) (ad : Nat → Nat) (hj : wJ ad nW) (g : Nat → va_E) (va : Int32) (vb : Int32) (h0 : g 0 = .inr (11, [.ref (ad 1), .ref (ad 3), .ref (ad 23), .ref (ad 43), .ref (ad 104), .ref (ad 105), .ref (ad 114), .ref (ad 116), .ref (ad 118), .ref (ad 120), .ref (ad 130), .ref (ad 140), .ref (ad 144), .ref (ad 190)])) (h3 : g 3 = .inr (6, [.int 0, .int 0, .int 0, .int 0, .int 0, .int 0, .int 0, .int 0, .ref (ad 4), .ref (ad 5), .ref (ad 6), .ref (ad 7), .ref (ad 8), .ref (ad 9), .ref (ad 10), .ref (ad 11), .ref (ad 12), .ref (ad 13)])) : cI l yX11_meet vX11_meet { frames := 1, cells := 0, slots := 0, locals := 21 } D cs ad nW [.ref (ad 0), .int va, .int vb] g (fun r g2 => r = (-2) ∧ g2 = g) := by
  refine Met.start (cc := cX11_meet) (maxL := 3) (ret := (some .int)) RX11 rfl (by decide) rfl (Nat.le_of_ble_eq_true rfl) ?_
  intro p e s m below meth c ls X hP hl
  have hx := X.1
  have hb := X.2.1
  have hS : va_S (wA ad nW) s.heap s.heap [] := va_S.rf
  have hA : ∀ i, i < nW → wA ad nW (ad i) := fun i h => ⟨i, h, rfl⟩
  have hl : lv_has ls 3 [(0, .ref (ad 0)), (1, .int va), (2, .int vb)] := hl
  refine lv_aload_n hx hb dX11_meet_0 rfl (lv_at hl 0 rfl) ?_
  refine lv_iload_n hx hb dX11_meet_1 rfl (lv_at hl 1 rfl) ?_
  refine q_calli (q := (RX11, TX11, 14)) (As := [.int va]) (rest := []) X (k_isEave l D cs ad hj g va h0 h3) (cwV 1 X.2.2.2.2.1 gg_X11_meet_X11_isEave rfl rfl rfl (by decide +kernel) ⟨Nat.le_of_ble_eq_true rfl, Nat.le_of_ble_eq_true rfl⟩) (by decide) h0 rfl hP hA hS rfl hl.1 rfl (Nat.le_of_ble_eq_true rfl) dX11_meet_2 ⟨Nat.le_of_ble_eq_true rfl, Nat.le_of_ble_eq_true rfl⟩ (fun r_3 g_2 H locs hw_1 hP hS => ?_)
  obtain ⟨hw_1a, hw_1b⟩ := hw_1
  subst hw_1a
  rw [hw_1b] at hP
  refine lv_if_eq (tgt := 32) hx hb dX11_meet_5 (by decide) (fun _ => ?_) (fun h => absurd h (by decide))
  refine lv_bipush (v := (-2)) hx hb dX11_meet_32 (by decide) ?_
  exact q_iret X hP hS ⟨rfl, rfl⟩ dX11_meet_34

theorem dX11_apart_0 : decode cX11_apart 0 = .ok (.aload_n 0, 1) := by decide +kernel
theorem dX11_apart_1 : decode cX11_apart 1 = .ok (.iload_n 1, 1) := by decide +kernel
theorem dX11_apart_2 : decode cX11_apart 2 = .ok (.invokevirtual 129, 3) := by decide +kernel
theorem dX11_apart_5 : decode cX11_apart 5 = .ok (.ifCond .eq 11, 3) := by decide +kernel
theorem dX11_apart_16 : decode cX11_apart 16 = .ok (.bipush (-2), 2) := by decide +kernel
theorem dX11_apart_18 : decode cX11_apart 18 = .ok (.ireturn, 1) := by decide +kernel
def vX11_apart : List Cond := .code yX11_apart cX11_apart 8 (some .int) :: ([.methodLink RX11 129 yX11_isEave, .instanceMethod yX11_isEave, .selects RX11 yX11_isEave yX11_isEave, .initialized RX11, .code yX11_isEave cX11_isEave 2 (some .boolean), .fieldLink RX11 19 "IcicleClock" "now" "LIcicleClock$Street;", .fieldLink RX11 208 "IcicleClock$Street" "eaves" "I"] ++ wsX110 ++ wsX60)
theorem iX11_apart_11 : ∀ w ∈ wsX110, w ∈ vX11_apart := fun _ h => List.mem_cons_of_mem _ (List.mem_append_left _ (List.mem_append_right _ h))
theorem iX11_apart_6 : ∀ w ∈ wsX60, w ∈ vX11_apart := fun _ h => List.mem_cons_of_mem _ (List.mem_append_right _ h)
set_option maxRecDepth 20000 in
theorem gg_X11_apart_X11_isEave : GoodIn vX11_apart (wsV RX11 129 RX11 yX11_isEave vX11_isEave) := goodIn_r _ [1, 2, 3, 4, 5, 6, 7, 8, 9, 10, 11, 12, 13, 14, 15, 16, 17, 18, 19, 20, 21, 22, 23, 24, 25, 26, 27, 28, 29, 30, 31, 32, 33, 34, 35, 36, 37, 38, 39] (by decide +kernel) (by decide +kernel)
set_option maxHeartbeats 4000000 in
set_option maxRecDepth 100000 in
theorem k_apart (l : Launch) (D : va_G) (cs : Nat → ClassId) (ad : Nat → Nat) (hj : wJ ad nW) (g : Nat → va_E) (va : Int32) (vb : Int32) (h0 : g 0 = .inr (11, [.ref (ad 1), .ref (ad 3), .ref (ad 23), .ref (ad 43), .ref (ad 104), .ref (ad 105), .ref (ad 114), .ref (ad 116), .ref (ad 118), .ref (ad 120), .ref (ad 130), .ref (ad 140), .ref (ad 144), .ref (ad 190)])) (h3 : g 3 = .inr (6, [.int 0, .int 0, .int 0, .int 0, .int 0, .int 0, .int 0, .int 0, .ref (ad 4), .ref (ad 5), .ref (ad 6), .ref (ad 7), .ref (ad 8), .ref (ad 9), .ref (ad 10), .ref (ad 11), .ref (ad 12), .ref (ad 13)])) : cI l yX11_apart vX11_apart { frames := 1, cells := 0, slots := 0, locals := 21 } D cs ad nW [.ref (ad 0), .int va, .int vb] g (fun r g2 => r = (-2) ∧ g2 = g) := by
  refine Met.start (cc := cX11_apart) (maxL := 8) (ret := (some .int)) RX11 rfl (by decide) rfl (Nat.le_of_ble_eq_true rfl) ?_
  intro p e s m below meth c ls X hP hl
  have hx := X.1
  have hb := X.2.1
  have hS : va_S (wA ad nW) s.heap s.heap [] := va_S.rf
  have hA : ∀ i, i < nW → wA ad nW (ad i) := fun i h => ⟨i, h, rfl⟩
  have hl : lv_has ls 8 [(0, .ref (ad 0)), (1, .int va), (2, .int vb)] := hl
  refine lv_aload_n hx hb dX11_apart_0 rfl (lv_at hl 0 rfl) ?_
  refine lv_iload_n hx hb dX11_apart_1 rfl (lv_at hl 1 rfl) ?_
  refine q_calli (q := (RX11, TX11, 14)) (As := [.int va]) (rest := []) X (k_isEave l D cs ad hj g va h0 h3) (cwV 1 X.2.2.2.2.1 gg_X11_apart_X11_isEave rfl rfl rfl (by decide +kernel) ⟨Nat.le_of_ble_eq_true rfl, Nat.le_of_ble_eq_true rfl⟩) (by decide) h0 rfl hP hA hS rfl hl.1 rfl (Nat.le_of_ble_eq_true rfl) dX11_apart_2 ⟨Nat.le_of_ble_eq_true rfl, Nat.le_of_ble_eq_true rfl⟩ (fun r_3 g_2 H locs hw_1 hP hS => ?_)
  obtain ⟨hw_1a, hw_1b⟩ := hw_1
  subst hw_1a
  rw [hw_1b] at hP
  refine lv_if_eq (tgt := 16) hx hb dX11_apart_5 (by decide) (fun _ => ?_) (fun h => absurd h (by decide))
  refine lv_bipush (v := (-2)) hx hb dX11_apart_16 (by decide) ?_
  exact q_iret X hP hS ⟨rfl, rfl⟩ dX11_apart_18

theorem dX11_tells_0 : decode cX11_tells 0 = .ok (.aload_n 0, 1) := by decide +kernel
theorem dX11_tells_1 : decode cX11_tells 1 = .ok (.invokevirtual 195, 3) := by decide +kernel
theorem dX11_tells_4 : decode cX11_tells 4 = .ok (.ifCond .eq 13, 3) := by decide +kernel
theorem dX11_tells_17 : decode cX11_tells 17 = .ok (.bipush (-2), 2) := by decide +kernel
theorem dX11_tells_19 : decode cX11_tells 19 = .ok (.ireturn, 1) := by decide +kernel
def vX11_tells : List Cond := .code yX11_tells cX11_tells 4 (some .int) :: ([.methodLink RX11 195 yX11_isTold, .instanceMethod yX11_isTold, .selects RX11 yX11_isTold yX11_isTold, .initialized RX11, .code yX11_isTold cX11_isTold 1 (some .boolean), .fieldLink RX11 19 "IcicleClock" "now" "LIcicleClock$Street;", .fieldLink RX11 112 "IcicleClock$Street" "lines" "I"] ++ wsX110 ++ wsX60)
theorem iX11_tells_11 : ∀ w ∈ wsX110, w ∈ vX11_tells := fun _ h => List.mem_cons_of_mem _ (List.mem_append_left _ (List.mem_append_right _ h))
theorem iX11_tells_6 : ∀ w ∈ wsX60, w ∈ vX11_tells := fun _ h => List.mem_cons_of_mem _ (List.mem_append_right _ h)
set_option maxRecDepth 20000 in
theorem gg_X11_tells_X11_isTold : GoodIn vX11_tells (wsV RX11 195 RX11 yX11_isTold vX11_isTold) := goodIn_r _ [1, 2, 3, 4, 5, 6, 7, 8, 9, 10, 11, 12, 13, 14, 15, 16, 17, 18, 19, 20, 21, 22, 23, 24, 25, 26, 27, 28, 29, 30, 31, 32, 33, 34, 35, 36, 37, 38, 39] (by decide +kernel) (by decide +kernel)
set_option maxHeartbeats 4000000 in
set_option maxRecDepth 100000 in
theorem k_tells (l : Launch) (D : va_G) (cs : Nat → ClassId) (ad : Nat → Nat) (hj : wJ ad nW) (g : Nat → va_E) (vh : Int32) (h0 : g 0 = .inr (11, [.ref (ad 1), .ref (ad 3), .ref (ad 23), .ref (ad 43), .ref (ad 104), .ref (ad 105), .ref (ad 114), .ref (ad 116), .ref (ad 118), .ref (ad 120), .ref (ad 130), .ref (ad 140), .ref (ad 144), .ref (ad 190)])) (h3 : g 3 = .inr (6, [.int 0, .int 0, .int 0, .int 0, .int 0, .int 0, .int 0, .int 0, .ref (ad 4), .ref (ad 5), .ref (ad 6), .ref (ad 7), .ref (ad 8), .ref (ad 9), .ref (ad 10), .ref (ad 11), .ref (ad 12), .ref (ad 13)])) : cI l yX11_tells vX11_tells { frames := 1, cells := 0, slots := 0, locals := 20 } D cs ad nW [.ref (ad 0), .int vh] g (fun r g2 => r = (-2) ∧ g2 = g) := by
  refine Met.start (cc := cX11_tells) (maxL := 4) (ret := (some .int)) RX11 rfl (by decide) rfl (Nat.le_of_ble_eq_true rfl) ?_
  intro p e s m below meth c ls X hP hl
  have hx := X.1
  have hb := X.2.1
  have hS : va_S (wA ad nW) s.heap s.heap [] := va_S.rf
  have hA : ∀ i, i < nW → wA ad nW (ad i) := fun i h => ⟨i, h, rfl⟩
  have hl : lv_has ls 4 [(0, .ref (ad 0)), (1, .int vh)] := hl
  refine lv_aload_n hx hb dX11_tells_0 rfl (lv_at hl 0 rfl) ?_
  refine q_calli (q := (RX11, TX11, 14)) (As := []) (rest := []) X (k_isTold l D cs ad hj g  h0 h3) (cwV 0 X.2.2.2.2.1 gg_X11_tells_X11_isTold rfl rfl rfl (by decide +kernel) ⟨Nat.le_of_ble_eq_true rfl, Nat.le_of_ble_eq_true rfl⟩) (by decide) h0 rfl hP hA hS rfl hl.1 rfl (Nat.le_of_ble_eq_true rfl) dX11_tells_1 ⟨Nat.le_of_ble_eq_true rfl, Nat.le_of_ble_eq_true rfl⟩ (fun r_3 g_2 H locs hw_1 hP hS => ?_)
  obtain ⟨hw_1a, hw_1b⟩ := hw_1
  subst hw_1a
  rw [hw_1b] at hP
  refine lv_if_eq (tgt := 17) hx hb dX11_tells_4 (by decide) (fun _ => ?_) (fun h => absurd h (by decide))
  refine lv_bipush (v := (-2)) hx hb dX11_tells_17 (by decide) ?_
  exact q_iret X hP hS ⟨rfl, rfl⟩ dX11_tells_19

theorem dX11_late_0 : decode cX11_late 0 = .ok (.aload_n 0, 1) := by decide +kernel
theorem dX11_late_1 : decode cX11_late 1 = .ok (.iload_n 1, 1) := by decide +kernel
theorem dX11_late_2 : decode cX11_late 2 = .ok (.invokevirtual 148, 3) := by decide +kernel
theorem dX11_late_5 : decode cX11_late 5 = .ok (.ifCond .eq 18, 3) := by decide +kernel
theorem dX11_late_23 : decode cX11_late 23 = .ok (.sipush (-1000), 3) := by decide +kernel
theorem dX11_late_26 : decode cX11_late 26 = .ok (.ireturn, 1) := by decide +kernel
def vX11_late : List Cond := .code yX11_late cX11_late 2 (some .int) :: ([.methodLink RX11 148 yX11_isWork, .instanceMethod yX11_isWork, .selects RX11 yX11_isWork yX11_isWork, .initialized RX11, .code yX11_isWork cX11_isWork 2 (some .boolean), .fieldLink RX11 19 "IcicleClock" "now" "LIcicleClock$Street;", .fieldLink RX11 226 "IcicleClock$Street" "works" "I"] ++ wsX110 ++ wsX60)
theorem iX11_late_11 : ∀ w ∈ wsX110, w ∈ vX11_late := fun _ h => List.mem_cons_of_mem _ (List.mem_append_left _ (List.mem_append_right _ h))
theorem iX11_late_6 : ∀ w ∈ wsX60, w ∈ vX11_late := fun _ h => List.mem_cons_of_mem _ (List.mem_append_right _ h)
set_option maxRecDepth 20000 in
theorem gg_X11_late_X11_isWork : GoodIn vX11_late (wsV RX11 148 RX11 yX11_isWork vX11_isWork) := goodIn_r _ [1, 2, 3, 4, 5, 6, 7, 8, 9, 10, 11, 12, 13, 14, 15, 16, 17, 18, 19, 20, 21, 22, 23, 24, 25, 26, 27, 28, 29, 30, 31, 32, 33, 34, 35, 36, 37, 38, 39] (by decide +kernel) (by decide +kernel)
set_option maxHeartbeats 4000000 in
set_option maxRecDepth 100000 in
theorem k_late (l : Launch) (D : va_G) (cs : Nat → ClassId) (ad : Nat → Nat) (hj : wJ ad nW) (g : Nat → va_E) (vw : Int32) (h0 : g 0 = .inr (11, [.ref (ad 1), .ref (ad 3), .ref (ad 23), .ref (ad 43), .ref (ad 104), .ref (ad 105), .ref (ad 114), .ref (ad 116), .ref (ad 118), .ref (ad 120), .ref (ad 130), .ref (ad 140), .ref (ad 144), .ref (ad 190)])) (h3 : g 3 = .inr (6, [.int 0, .int 0, .int 0, .int 0, .int 0, .int 0, .int 0, .int 0, .ref (ad 4), .ref (ad 5), .ref (ad 6), .ref (ad 7), .ref (ad 8), .ref (ad 9), .ref (ad 10), .ref (ad 11), .ref (ad 12), .ref (ad 13)])) : cI l yX11_late vX11_late { frames := 1, cells := 0, slots := 0, locals := 21 } D cs ad nW [.ref (ad 0), .int vw] g (fun r g2 => r = (-1000) ∧ g2 = g) := by
  refine Met.start (cc := cX11_late) (maxL := 2) (ret := (some .int)) RX11 rfl (by decide) rfl (Nat.le_of_ble_eq_true rfl) ?_
  intro p e s m below meth c ls X hP hl
  have hx := X.1
  have hb := X.2.1
  have hS : va_S (wA ad nW) s.heap s.heap [] := va_S.rf
  have hA : ∀ i, i < nW → wA ad nW (ad i) := fun i h => ⟨i, h, rfl⟩
  have hl : lv_has ls 2 [(0, .ref (ad 0)), (1, .int vw)] := hl
  refine lv_aload_n hx hb dX11_late_0 rfl (lv_at hl 0 rfl) ?_
  refine lv_iload_n hx hb dX11_late_1 rfl (lv_at hl 1 rfl) ?_
  refine q_calli (q := (RX11, TX11, 14)) (As := [.int vw]) (rest := []) X (k_isWork l D cs ad hj g vw h0 h3) (cwV 1 X.2.2.2.2.1 gg_X11_late_X11_isWork rfl rfl rfl (by decide +kernel) ⟨Nat.le_of_ble_eq_true rfl, Nat.le_of_ble_eq_true rfl⟩) (by decide) h0 rfl hP hA hS rfl hl.1 rfl (Nat.le_of_ble_eq_true rfl) dX11_late_2 ⟨Nat.le_of_ble_eq_true rfl, Nat.le_of_ble_eq_true rfl⟩ (fun r_3 g_2 H locs hw_1 hP hS => ?_)
  obtain ⟨hw_1a, hw_1b⟩ := hw_1
  subst hw_1a
  rw [hw_1b] at hP
  refine lv_if_eq (tgt := 23) hx hb dX11_late_5 (by decide) (fun _ => ?_) (fun h => absurd h (by decide))
  refine lv_sipush (v := (-1000)) hx hb dX11_late_23 (by decide) ?_
  exact q_iret X hP hS ⟨rfl, rfl⟩ dX11_late_26

theorem dX11_lates_0 : decode cX11_lates 0 = .ok (.aload_n 0, 1) := by decide +kernel
theorem dX11_lates_1 : decode cX11_lates 1 = .ok (.invokevirtual 195, 3) := by decide +kernel
theorem dX11_lates_4 : decode cX11_lates 4 = .ok (.ifCond .ne 6, 3) := by decide +kernel
theorem dX11_lates_7 : decode cX11_lates 7 = .ok (.bipush (-2), 2) := by decide +kernel
theorem dX11_lates_9 : decode cX11_lates 9 = .ok (.ireturn, 1) := by decide +kernel
def vX11_lates : List Cond := .code yX11_lates cX11_lates 3 (some .int) :: ([.methodLink RX11 195 yX11_isTold, .instanceMethod yX11_isTold, .selects RX11 yX11_isTold yX11_isTold, .initialized RX11, .code yX11_isTold cX11_isTold 1 (some .boolean), .fieldLink RX11 19 "IcicleClock" "now" "LIcicleClock$Street;", .fieldLink RX11 112 "IcicleClock$Street" "lines" "I"] ++ wsX110 ++ wsX60)
theorem iX11_lates_11 : ∀ w ∈ wsX110, w ∈ vX11_lates := fun _ h => List.mem_cons_of_mem _ (List.mem_append_left _ (List.mem_append_right _ h))
theorem iX11_lates_6 : ∀ w ∈ wsX60, w ∈ vX11_lates := fun _ h => List.mem_cons_of_mem _ (List.mem_append_right _ h)
set_option maxRecDepth 20000 in
theorem gg_X11_lates_X11_isTold : GoodIn vX11_lates (wsV RX11 195 RX11 yX11_isTold vX11_isTold) := goodIn_r _ [1, 2, 3, 4, 5, 6, 7, 8, 9, 10, 11, 12, 13, 14, 15, 16, 17, 18, 19, 20, 21, 22, 23, 24, 25, 26, 27, 28, 29, 30, 31, 32, 33, 34, 35, 36, 37, 38, 39] (by decide +kernel) (by decide +kernel)
set_option maxHeartbeats 4000000 in
set_option maxRecDepth 100000 in
theorem k_lates (l : Launch) (D : va_G) (cs : Nat → ClassId) (ad : Nat → Nat) (hj : wJ ad nW) (g : Nat → va_E) (h0 : g 0 = .inr (11, [.ref (ad 1), .ref (ad 3), .ref (ad 23), .ref (ad 43), .ref (ad 104), .ref (ad 105), .ref (ad 114), .ref (ad 116), .ref (ad 118), .ref (ad 120), .ref (ad 130), .ref (ad 140), .ref (ad 144), .ref (ad 190)])) (h3 : g 3 = .inr (6, [.int 0, .int 0, .int 0, .int 0, .int 0, .int 0, .int 0, .int 0, .ref (ad 4), .ref (ad 5), .ref (ad 6), .ref (ad 7), .ref (ad 8), .ref (ad 9), .ref (ad 10), .ref (ad 11), .ref (ad 12), .ref (ad 13)])) : cI l yX11_lates vX11_lates { frames := 1, cells := 0, slots := 0, locals := 20 } D cs ad nW [.ref (ad 0)] g (fun r g2 => r = (-2) ∧ g2 = g) := by
  refine Met.start (cc := cX11_lates) (maxL := 3) (ret := (some .int)) RX11 rfl (by decide) rfl (Nat.le_of_ble_eq_true rfl) ?_
  intro p e s m below meth c ls X hP hl
  have hx := X.1
  have hb := X.2.1
  have hS : va_S (wA ad nW) s.heap s.heap [] := va_S.rf
  have hA : ∀ i, i < nW → wA ad nW (ad i) := fun i h => ⟨i, h, rfl⟩
  have hl : lv_has ls 3 [(0, .ref (ad 0))] := hl
  refine lv_aload_n hx hb dX11_lates_0 rfl (lv_at hl 0 rfl) ?_
  refine q_calli (q := (RX11, TX11, 14)) (As := []) (rest := []) X (k_isTold l D cs ad hj g  h0 h3) (cwV 0 X.2.2.2.2.1 gg_X11_lates_X11_isTold rfl rfl rfl (by decide +kernel) ⟨Nat.le_of_ble_eq_true rfl, Nat.le_of_ble_eq_true rfl⟩) (by decide) h0 rfl hP hA hS rfl hl.1 rfl (Nat.le_of_ble_eq_true rfl) dX11_lates_1 ⟨Nat.le_of_ble_eq_true rfl, Nat.le_of_ble_eq_true rfl⟩ (fun r_3 g_2 H locs hw_1 hP hS => ?_)
  obtain ⟨hw_1a, hw_1b⟩ := hw_1
  subst hw_1a
  rw [hw_1b] at hP
  refine lv_if_ne (tgt := 10) hx hb dX11_lates_4 (by decide) (fun h => absurd h (by decide)) (fun _ => ?_)
  refine lv_bipush (v := (-2)) hx hb dX11_lates_7 (by decide) ?_
  exact q_iret X hP hS ⟨rfl, rfl⟩ dX11_lates_9

theorem dX11_off_0 : decode cX11_off 0 = .ok (.aload_n 0, 1) := by decide +kernel
theorem dX11_off_1 : decode cX11_off 1 = .ok (.invokevirtual 195, 3) := by decide +kernel
theorem dX11_off_4 : decode cX11_off 4 = .ok (.ifCond .eq 17, 3) := by decide +kernel
theorem dX11_off_21 : decode cX11_off 21 = .ok (.bipush (-2), 2) := by decide +kernel
theorem dX11_off_23 : decode cX11_off 23 = .ok (.ireturn, 1) := by decide +kernel
def vX11_off : List Cond := .code yX11_off cX11_off 1 (some .int) :: ([.methodLink RX11 195 yX11_isTold, .instanceMethod yX11_isTold, .selects RX11 yX11_isTold yX11_isTold, .initialized RX11, .code yX11_isTold cX11_isTold 1 (some .boolean), .fieldLink RX11 19 "IcicleClock" "now" "LIcicleClock$Street;", .fieldLink RX11 112 "IcicleClock$Street" "lines" "I"] ++ wsX110 ++ wsX60)
theorem iX11_off_11 : ∀ w ∈ wsX110, w ∈ vX11_off := fun _ h => List.mem_cons_of_mem _ (List.mem_append_left _ (List.mem_append_right _ h))
theorem iX11_off_6 : ∀ w ∈ wsX60, w ∈ vX11_off := fun _ h => List.mem_cons_of_mem _ (List.mem_append_right _ h)
set_option maxRecDepth 20000 in
theorem gg_X11_off_X11_isTold : GoodIn vX11_off (wsV RX11 195 RX11 yX11_isTold vX11_isTold) := goodIn_r _ [1, 2, 3, 4, 5, 6, 7, 8, 9, 10, 11, 12, 13, 14, 15, 16, 17, 18, 19, 20, 21, 22, 23, 24, 25, 26, 27, 28, 29, 30, 31, 32, 33, 34, 35, 36, 37, 38, 39] (by decide +kernel) (by decide +kernel)
set_option maxHeartbeats 4000000 in
set_option maxRecDepth 100000 in
theorem k_off (l : Launch) (D : va_G) (cs : Nat → ClassId) (ad : Nat → Nat) (hj : wJ ad nW) (g : Nat → va_E) (h0 : g 0 = .inr (11, [.ref (ad 1), .ref (ad 3), .ref (ad 23), .ref (ad 43), .ref (ad 104), .ref (ad 105), .ref (ad 114), .ref (ad 116), .ref (ad 118), .ref (ad 120), .ref (ad 130), .ref (ad 140), .ref (ad 144), .ref (ad 190)])) (h3 : g 3 = .inr (6, [.int 0, .int 0, .int 0, .int 0, .int 0, .int 0, .int 0, .int 0, .ref (ad 4), .ref (ad 5), .ref (ad 6), .ref (ad 7), .ref (ad 8), .ref (ad 9), .ref (ad 10), .ref (ad 11), .ref (ad 12), .ref (ad 13)])) : cI l yX11_off vX11_off { frames := 1, cells := 0, slots := 0, locals := 20 } D cs ad nW [.ref (ad 0)] g (fun r g2 => r = (-2) ∧ g2 = g) := by
  refine Met.start (cc := cX11_off) (maxL := 1) (ret := (some .int)) RX11 rfl (by decide) rfl (Nat.le_of_ble_eq_true rfl) ?_
  intro p e s m below meth c ls X hP hl
  have hx := X.1
  have hb := X.2.1
  have hS : va_S (wA ad nW) s.heap s.heap [] := va_S.rf
  have hA : ∀ i, i < nW → wA ad nW (ad i) := fun i h => ⟨i, h, rfl⟩
  have hl : lv_has ls 1 [(0, .ref (ad 0))] := hl
  refine lv_aload_n hx hb dX11_off_0 rfl (lv_at hl 0 rfl) ?_
  refine q_calli (q := (RX11, TX11, 14)) (As := []) (rest := []) X (k_isTold l D cs ad hj g  h0 h3) (cwV 0 X.2.2.2.2.1 gg_X11_off_X11_isTold rfl rfl rfl (by decide +kernel) ⟨Nat.le_of_ble_eq_true rfl, Nat.le_of_ble_eq_true rfl⟩) (by decide) h0 rfl hP hA hS rfl hl.1 rfl (Nat.le_of_ble_eq_true rfl) dX11_off_1 ⟨Nat.le_of_ble_eq_true rfl, Nat.le_of_ble_eq_true rfl⟩ (fun r_3 g_2 H locs hw_1 hP hS => ?_)
  obtain ⟨hw_1a, hw_1b⟩ := hw_1
  subst hw_1a
  rw [hw_1b] at hP
  refine lv_if_eq (tgt := 21) hx hb dX11_off_4 (by decide) (fun _ => ?_) (fun h => absurd h (by decide))
  refine lv_bipush (v := (-2)) hx hb dX11_off_21 (by decide) ?_
  exact q_iret X hP hS ⟨rfl, rfl⟩ dX11_off_23

theorem dX11_worst_0 : decode cX11_worst 0 = .ok (.aload_n 0, 1) := by decide +kernel
theorem dX11_worst_1 : decode cX11_worst 1 = .ok (.invokevirtual 195, 3) := by decide +kernel
theorem dX11_worst_4 : decode cX11_worst 4 = .ok (.ifCond .ne 6, 3) := by decide +kernel
theorem dX11_worst_7 : decode cX11_worst 7 = .ok (.bipush (-2), 2) := by decide +kernel
theorem dX11_worst_9 : decode cX11_worst 9 = .ok (.ireturn, 1) := by decide +kernel
def vX11_worst : List Cond := .code yX11_worst cX11_worst 5 (some .int) :: ([.methodLink RX11 195 yX11_isTold, .instanceMethod yX11_isTold, .selects RX11 yX11_isTold yX11_isTold, .initialized RX11, .code yX11_isTold cX11_isTold 1 (some .boolean), .fieldLink RX11 19 "IcicleClock" "now" "LIcicleClock$Street;", .fieldLink RX11 112 "IcicleClock$Street" "lines" "I"] ++ wsX110 ++ wsX60)
theorem iX11_worst_11 : ∀ w ∈ wsX110, w ∈ vX11_worst := fun _ h => List.mem_cons_of_mem _ (List.mem_append_left _ (List.mem_append_right _ h))
theorem iX11_worst_6 : ∀ w ∈ wsX60, w ∈ vX11_worst := fun _ h => List.mem_cons_of_mem _ (List.mem_append_right _ h)
set_option maxRecDepth 20000 in
theorem gg_X11_worst_X11_isTold : GoodIn vX11_worst (wsV RX11 195 RX11 yX11_isTold vX11_isTold) := goodIn_r _ [1, 2, 3, 4, 5, 6, 7, 8, 9, 10, 11, 12, 13, 14, 15, 16, 17, 18, 19, 20, 21, 22, 23, 24, 25, 26, 27, 28, 29, 30, 31, 32, 33, 34, 35, 36, 37, 38, 39] (by decide +kernel) (by decide +kernel)
set_option maxHeartbeats 4000000 in
set_option maxRecDepth 100000 in
theorem k_worst (l : Launch) (D : va_G) (cs : Nat → ClassId) (ad : Nat → Nat) (hj : wJ ad nW) (g : Nat → va_E) (h0 : g 0 = .inr (11, [.ref (ad 1), .ref (ad 3), .ref (ad 23), .ref (ad 43), .ref (ad 104), .ref (ad 105), .ref (ad 114), .ref (ad 116), .ref (ad 118), .ref (ad 120), .ref (ad 130), .ref (ad 140), .ref (ad 144), .ref (ad 190)])) (h3 : g 3 = .inr (6, [.int 0, .int 0, .int 0, .int 0, .int 0, .int 0, .int 0, .int 0, .ref (ad 4), .ref (ad 5), .ref (ad 6), .ref (ad 7), .ref (ad 8), .ref (ad 9), .ref (ad 10), .ref (ad 11), .ref (ad 12), .ref (ad 13)])) : cI l yX11_worst vX11_worst { frames := 1, cells := 0, slots := 0, locals := 20 } D cs ad nW [.ref (ad 0)] g (fun r g2 => r = (-2) ∧ g2 = g) := by
  refine Met.start (cc := cX11_worst) (maxL := 5) (ret := (some .int)) RX11 rfl (by decide) rfl (Nat.le_of_ble_eq_true rfl) ?_
  intro p e s m below meth c ls X hP hl
  have hx := X.1
  have hb := X.2.1
  have hS : va_S (wA ad nW) s.heap s.heap [] := va_S.rf
  have hA : ∀ i, i < nW → wA ad nW (ad i) := fun i h => ⟨i, h, rfl⟩
  have hl : lv_has ls 5 [(0, .ref (ad 0))] := hl
  refine lv_aload_n hx hb dX11_worst_0 rfl (lv_at hl 0 rfl) ?_
  refine q_calli (q := (RX11, TX11, 14)) (As := []) (rest := []) X (k_isTold l D cs ad hj g  h0 h3) (cwV 0 X.2.2.2.2.1 gg_X11_worst_X11_isTold rfl rfl rfl (by decide +kernel) ⟨Nat.le_of_ble_eq_true rfl, Nat.le_of_ble_eq_true rfl⟩) (by decide) h0 rfl hP hA hS rfl hl.1 rfl (Nat.le_of_ble_eq_true rfl) dX11_worst_1 ⟨Nat.le_of_ble_eq_true rfl, Nat.le_of_ble_eq_true rfl⟩ (fun r_3 g_2 H locs hw_1 hP hS => ?_)
  obtain ⟨hw_1a, hw_1b⟩ := hw_1
  subst hw_1a
  rw [hw_1b] at hP
  refine lv_if_ne (tgt := 10) hx hb dX11_worst_4 (by decide) (fun h => absurd h (by decide)) (fun _ => ?_)
  refine lv_bipush (v := (-2)) hx hb dX11_worst_7 (by decide) ?_
  exact q_iret X hP hS ⟨rfl, rfl⟩ dX11_worst_9

theorem dX11_size_0 : decode cX11_size 0 = .ok (.aload_n 0, 1) := by decide +kernel
theorem dX11_size_1 : decode cX11_size 1 = .ok (.iload_n 1, 1) := by decide +kernel
theorem dX11_size_2 : decode cX11_size 2 = .ok (.invokevirtual 136, 3) := by decide +kernel
theorem dX11_size_5 : decode cX11_size 5 = .ok (.ifCond .eq 11, 3) := by decide +kernel
theorem dX11_size_16 : decode cX11_size 16 = .ok (.bipush (-2), 2) := by decide +kernel
theorem dX11_size_18 : decode cX11_size 18 = .ok (.ireturn, 1) := by decide +kernel
def vX11_size : List Cond := .code yX11_size cX11_size 4 (some .int) :: ([.methodLink RX11 136 yX11_isIcicle, .instanceMethod yX11_isIcicle, .selects RX11 yX11_isIcicle yX11_isIcicle, .initialized RX11, .code yX11_isIcicle cX11_isIcicle 2 (some .boolean), .fieldLink RX11 19 "IcicleClock" "now" "LIcicleClock$Street;", .fieldLink RX11 160 "IcicleClock$Street" "icicles" "I"] ++ wsX110 ++ wsX60)
theorem iX11_size_11 : ∀ w ∈ wsX110, w ∈ vX11_size := fun _ h => List.mem_cons_of_mem _ (List.mem_append_left _ (List.mem_append_right _ h))
theorem iX11_size_6 : ∀ w ∈ wsX60, w ∈ vX11_size := fun _ h => List.mem_cons_of_mem _ (List.mem_append_right _ h)
set_option maxRecDepth 20000 in
theorem gg_X11_size_X11_isIcicle : GoodIn vX11_size (wsV RX11 136 RX11 yX11_isIcicle vX11_isIcicle) := goodIn_r _ [1, 2, 3, 4, 5, 6, 7, 8, 9, 10, 11, 12, 13, 14, 15, 16, 17, 18, 19, 20, 21, 22, 23, 24, 25, 26, 27, 28, 29, 30, 31, 32, 33, 34, 35, 36, 37, 38, 39] (by decide +kernel) (by decide +kernel)
set_option maxHeartbeats 4000000 in
set_option maxRecDepth 100000 in
theorem k_size (l : Launch) (D : va_G) (cs : Nat → ClassId) (ad : Nat → Nat) (hj : wJ ad nW) (g : Nat → va_E) (vi : Int32) (vd : Int32) (h0 : g 0 = .inr (11, [.ref (ad 1), .ref (ad 3), .ref (ad 23), .ref (ad 43), .ref (ad 104), .ref (ad 105), .ref (ad 114), .ref (ad 116), .ref (ad 118), .ref (ad 120), .ref (ad 130), .ref (ad 140), .ref (ad 144), .ref (ad 190)])) (h3 : g 3 = .inr (6, [.int 0, .int 0, .int 0, .int 0, .int 0, .int 0, .int 0, .int 0, .ref (ad 4), .ref (ad 5), .ref (ad 6), .ref (ad 7), .ref (ad 8), .ref (ad 9), .ref (ad 10), .ref (ad 11), .ref (ad 12), .ref (ad 13)])) : cI l yX11_size vX11_size { frames := 1, cells := 0, slots := 0, locals := 21 } D cs ad nW [.ref (ad 0), .int vi, .int vd] g (fun r g2 => r = (-2) ∧ g2 = g) := by
  refine Met.start (cc := cX11_size) (maxL := 4) (ret := (some .int)) RX11 rfl (by decide) rfl (Nat.le_of_ble_eq_true rfl) ?_
  intro p e s m below meth c ls X hP hl
  have hx := X.1
  have hb := X.2.1
  have hS : va_S (wA ad nW) s.heap s.heap [] := va_S.rf
  have hA : ∀ i, i < nW → wA ad nW (ad i) := fun i h => ⟨i, h, rfl⟩
  have hl : lv_has ls 4 [(0, .ref (ad 0)), (1, .int vi), (2, .int vd)] := hl
  refine lv_aload_n hx hb dX11_size_0 rfl (lv_at hl 0 rfl) ?_
  refine lv_iload_n hx hb dX11_size_1 rfl (lv_at hl 1 rfl) ?_
  refine q_calli (q := (RX11, TX11, 14)) (As := [.int vi]) (rest := []) X (k_isIcicle l D cs ad hj g vi h0 h3) (cwV 1 X.2.2.2.2.1 gg_X11_size_X11_isIcicle rfl rfl rfl (by decide +kernel) ⟨Nat.le_of_ble_eq_true rfl, Nat.le_of_ble_eq_true rfl⟩) (by decide) h0 rfl hP hA hS rfl hl.1 rfl (Nat.le_of_ble_eq_true rfl) dX11_size_2 ⟨Nat.le_of_ble_eq_true rfl, Nat.le_of_ble_eq_true rfl⟩ (fun r_3 g_2 H locs hw_1 hP hS => ?_)
  obtain ⟨hw_1a, hw_1b⟩ := hw_1
  subst hw_1a
  rw [hw_1b] at hP
  refine lv_if_eq (tgt := 16) hx hb dX11_size_5 (by decide) (fun _ => ?_) (fun h => absurd h (by decide))
  refine lv_bipush (v := (-2)) hx hb dX11_size_16 (by decide) ?_
  exact q_iret X hP hS ⟨rfl, rfl⟩ dX11_size_18

theorem dX11_sizes_0 : decode cX11_sizes 0 = .ok (.aload_n 0, 1) := by decide +kernel
theorem dX11_sizes_1 : decode cX11_sizes 1 = .ok (.iload_n 1, 1) := by decide +kernel
theorem dX11_sizes_2 : decode cX11_sizes 2 = .ok (.invokevirtual 136, 3) := by decide +kernel
theorem dX11_sizes_5 : decode cX11_sizes 5 = .ok (.ifCond .eq 11, 3) := by decide +kernel
theorem dX11_sizes_16 : decode cX11_sizes 16 = .ok (.bipush (-2), 2) := by decide +kernel
theorem dX11_sizes_18 : decode cX11_sizes 18 = .ok (.ireturn, 1) := by decide +kernel
def vX11_sizes : List Cond := .code yX11_sizes cX11_sizes 3 (some .int) :: ([.methodLink RX11 136 yX11_isIcicle, .instanceMethod yX11_isIcicle, .selects RX11 yX11_isIcicle yX11_isIcicle, .initialized RX11, .code yX11_isIcicle cX11_isIcicle 2 (some .boolean), .fieldLink RX11 19 "IcicleClock" "now" "LIcicleClock$Street;", .fieldLink RX11 160 "IcicleClock$Street" "icicles" "I"] ++ wsX110 ++ wsX60)
theorem iX11_sizes_11 : ∀ w ∈ wsX110, w ∈ vX11_sizes := fun _ h => List.mem_cons_of_mem _ (List.mem_append_left _ (List.mem_append_right _ h))
theorem iX11_sizes_6 : ∀ w ∈ wsX60, w ∈ vX11_sizes := fun _ h => List.mem_cons_of_mem _ (List.mem_append_right _ h)
set_option maxRecDepth 20000 in
theorem gg_X11_sizes_X11_isIcicle : GoodIn vX11_sizes (wsV RX11 136 RX11 yX11_isIcicle vX11_isIcicle) := goodIn_r _ [1, 2, 3, 4, 5, 6, 7, 8, 9, 10, 11, 12, 13, 14, 15, 16, 17, 18, 19, 20, 21, 22, 23, 24, 25, 26, 27, 28, 29, 30, 31, 32, 33, 34, 35, 36, 37, 38, 39] (by decide +kernel) (by decide +kernel)
set_option maxHeartbeats 4000000 in
set_option maxRecDepth 100000 in
theorem k_sizes (l : Launch) (D : va_G) (cs : Nat → ClassId) (ad : Nat → Nat) (hj : wJ ad nW) (g : Nat → va_E) (vi : Int32) (vd : Int32) (h0 : g 0 = .inr (11, [.ref (ad 1), .ref (ad 3), .ref (ad 23), .ref (ad 43), .ref (ad 104), .ref (ad 105), .ref (ad 114), .ref (ad 116), .ref (ad 118), .ref (ad 120), .ref (ad 130), .ref (ad 140), .ref (ad 144), .ref (ad 190)])) (h3 : g 3 = .inr (6, [.int 0, .int 0, .int 0, .int 0, .int 0, .int 0, .int 0, .int 0, .ref (ad 4), .ref (ad 5), .ref (ad 6), .ref (ad 7), .ref (ad 8), .ref (ad 9), .ref (ad 10), .ref (ad 11), .ref (ad 12), .ref (ad 13)])) : cI l yX11_sizes vX11_sizes { frames := 1, cells := 0, slots := 0, locals := 21 } D cs ad nW [.ref (ad 0), .int vi, .int vd] g (fun r g2 => r = (-2) ∧ g2 = g) := by
  refine Met.start (cc := cX11_sizes) (maxL := 3) (ret := (some .int)) RX11 rfl (by decide) rfl (Nat.le_of_ble_eq_true rfl) ?_
  intro p e s m below meth c ls X hP hl
  have hx := X.1
  have hb := X.2.1
  have hS : va_S (wA ad nW) s.heap s.heap [] := va_S.rf
  have hA : ∀ i, i < nW → wA ad nW (ad i) := fun i h => ⟨i, h, rfl⟩
  have hl : lv_has ls 3 [(0, .ref (ad 0)), (1, .int vi), (2, .int vd)] := hl
  refine lv_aload_n hx hb dX11_sizes_0 rfl (lv_at hl 0 rfl) ?_
  refine lv_iload_n hx hb dX11_sizes_1 rfl (lv_at hl 1 rfl) ?_
  refine q_calli (q := (RX11, TX11, 14)) (As := [.int vi]) (rest := []) X (k_isIcicle l D cs ad hj g vi h0 h3) (cwV 1 X.2.2.2.2.1 gg_X11_sizes_X11_isIcicle rfl rfl rfl (by decide +kernel) ⟨Nat.le_of_ble_eq_true rfl, Nat.le_of_ble_eq_true rfl⟩) (by decide) h0 rfl hP hA hS rfl hl.1 rfl (Nat.le_of_ble_eq_true rfl) dX11_sizes_2 ⟨Nat.le_of_ble_eq_true rfl, Nat.le_of_ble_eq_true rfl⟩ (fun r_3 g_2 H locs hw_1 hP hS => ?_)
  obtain ⟨hw_1a, hw_1b⟩ := hw_1
  subst hw_1a
  rw [hw_1b] at hP
  refine lv_if_eq (tgt := 16) hx hb dX11_sizes_5 (by decide) (fun _ => ?_) (fun h => absurd h (by decide))
  refine lv_bipush (v := (-2)) hx hb dX11_sizes_16 (by decide) ?_
  exact q_iret X hP hS ⟨rfl, rfl⟩ dX11_sizes_18

theorem dX11_place_0 : decode cX11_place 0 = .ok (.aload_n 0, 1) := by decide +kernel
theorem dX11_place_1 : decode cX11_place 1 = .ok (.iload_n 1, 1) := by decide +kernel
theorem dX11_place_2 : decode cX11_place 2 = .ok (.invokevirtual 136, 3) := by decide +kernel
theorem dX11_place_5 : decode cX11_place 5 = .ok (.ifCond .eq 11, 3) := by decide +kernel
theorem dX11_place_16 : decode cX11_place 16 = .ok (.bipush (-2), 2) := by decide +kernel
theorem dX11_place_18 : decode cX11_place 18 = .ok (.ireturn, 1) := by decide +kernel
def vX11_place : List Cond := .code yX11_place cX11_place 7 (some .int) :: ([.methodLink RX11 136 yX11_isIcicle, .instanceMethod yX11_isIcicle, .selects RX11 yX11_isIcicle yX11_isIcicle, .initialized RX11, .code yX11_isIcicle cX11_isIcicle 2 (some .boolean), .fieldLink RX11 19 "IcicleClock" "now" "LIcicleClock$Street;", .fieldLink RX11 160 "IcicleClock$Street" "icicles" "I"] ++ wsX110 ++ wsX60)
theorem iX11_place_11 : ∀ w ∈ wsX110, w ∈ vX11_place := fun _ h => List.mem_cons_of_mem _ (List.mem_append_left _ (List.mem_append_right _ h))
theorem iX11_place_6 : ∀ w ∈ wsX60, w ∈ vX11_place := fun _ h => List.mem_cons_of_mem _ (List.mem_append_right _ h)
set_option maxRecDepth 20000 in
theorem gg_X11_place_X11_isIcicle : GoodIn vX11_place (wsV RX11 136 RX11 yX11_isIcicle vX11_isIcicle) := goodIn_r _ [1, 2, 3, 4, 5, 6, 7, 8, 9, 10, 11, 12, 13, 14, 15, 16, 17, 18, 19, 20, 21, 22, 23, 24, 25, 26, 27, 28, 29, 30, 31, 32, 33, 34, 35, 36, 37, 38, 39] (by decide +kernel) (by decide +kernel)
set_option maxHeartbeats 4000000 in
set_option maxRecDepth 100000 in
theorem k_place (l : Launch) (D : va_G) (cs : Nat → ClassId) (ad : Nat → Nat) (hj : wJ ad nW) (g : Nat → va_E) (vi : Int32) (vd : Int32) (h0 : g 0 = .inr (11, [.ref (ad 1), .ref (ad 3), .ref (ad 23), .ref (ad 43), .ref (ad 104), .ref (ad 105), .ref (ad 114), .ref (ad 116), .ref (ad 118), .ref (ad 120), .ref (ad 130), .ref (ad 140), .ref (ad 144), .ref (ad 190)])) (h3 : g 3 = .inr (6, [.int 0, .int 0, .int 0, .int 0, .int 0, .int 0, .int 0, .int 0, .ref (ad 4), .ref (ad 5), .ref (ad 6), .ref (ad 7), .ref (ad 8), .ref (ad 9), .ref (ad 10), .ref (ad 11), .ref (ad 12), .ref (ad 13)])) : cI l yX11_place vX11_place { frames := 1, cells := 0, slots := 0, locals := 21 } D cs ad nW [.ref (ad 0), .int vi, .int vd] g (fun r g2 => r = (-2) ∧ g2 = g) := by
  refine Met.start (cc := cX11_place) (maxL := 7) (ret := (some .int)) RX11 rfl (by decide) rfl (Nat.le_of_ble_eq_true rfl) ?_
  intro p e s m below meth c ls X hP hl
  have hx := X.1
  have hb := X.2.1
  have hS : va_S (wA ad nW) s.heap s.heap [] := va_S.rf
  have hA : ∀ i, i < nW → wA ad nW (ad i) := fun i h => ⟨i, h, rfl⟩
  have hl : lv_has ls 7 [(0, .ref (ad 0)), (1, .int vi), (2, .int vd)] := hl
  refine lv_aload_n hx hb dX11_place_0 rfl (lv_at hl 0 rfl) ?_
  refine lv_iload_n hx hb dX11_place_1 rfl (lv_at hl 1 rfl) ?_
  refine q_calli (q := (RX11, TX11, 14)) (As := [.int vi]) (rest := []) X (k_isIcicle l D cs ad hj g vi h0 h3) (cwV 1 X.2.2.2.2.1 gg_X11_place_X11_isIcicle rfl rfl rfl (by decide +kernel) ⟨Nat.le_of_ble_eq_true rfl, Nat.le_of_ble_eq_true rfl⟩) (by decide) h0 rfl hP hA hS rfl hl.1 rfl (Nat.le_of_ble_eq_true rfl) dX11_place_2 ⟨Nat.le_of_ble_eq_true rfl, Nat.le_of_ble_eq_true rfl⟩ (fun r_3 g_2 H locs hw_1 hP hS => ?_)
  obtain ⟨hw_1a, hw_1b⟩ := hw_1
  subst hw_1a
  rw [hw_1b] at hP
  refine lv_if_eq (tgt := 16) hx hb dX11_place_5 (by decide) (fun _ => ?_) (fun h => absurd h (by decide))
  refine lv_bipush (v := (-2)) hx hb dX11_place_16 (by decide) ?_
  exact q_iret X hP hS ⟨rfl, rfl⟩ dX11_place_18

theorem dX11_best_0 : decode cX11_best 0 = .ok (.aload_n 0, 1) := by decide +kernel
theorem dX11_best_1 : decode cX11_best 1 = .ok (.iload_n 1, 1) := by decide +kernel
theorem dX11_best_2 : decode cX11_best 2 = .ok (.invokevirtual 136, 3) := by decide +kernel
theorem dX11_best_5 : decode cX11_best 5 = .ok (.ifCond .eq 11, 3) := by decide +kernel
theorem dX11_best_16 : decode cX11_best 16 = .ok (.bipush (-2), 2) := by decide +kernel
theorem dX11_best_18 : decode cX11_best 18 = .ok (.ireturn, 1) := by decide +kernel
def vX11_best : List Cond := .code yX11_best cX11_best 2 (some .int) :: ([.methodLink RX11 136 yX11_isIcicle, .instanceMethod yX11_isIcicle, .selects RX11 yX11_isIcicle yX11_isIcicle, .initialized RX11, .code yX11_isIcicle cX11_isIcicle 2 (some .boolean), .fieldLink RX11 19 "IcicleClock" "now" "LIcicleClock$Street;", .fieldLink RX11 160 "IcicleClock$Street" "icicles" "I"] ++ wsX110 ++ wsX60)
theorem iX11_best_11 : ∀ w ∈ wsX110, w ∈ vX11_best := fun _ h => List.mem_cons_of_mem _ (List.mem_append_left _ (List.mem_append_right _ h))
theorem iX11_best_6 : ∀ w ∈ wsX60, w ∈ vX11_best := fun _ h => List.mem_cons_of_mem _ (List.mem_append_right _ h)
set_option maxRecDepth 20000 in
theorem gg_X11_best_X11_isIcicle : GoodIn vX11_best (wsV RX11 136 RX11 yX11_isIcicle vX11_isIcicle) := goodIn_r _ [1, 2, 3, 4, 5, 6, 7, 8, 9, 10, 11, 12, 13, 14, 15, 16, 17, 18, 19, 20, 21, 22, 23, 24, 25, 26, 27, 28, 29, 30, 31, 32, 33, 34, 35, 36, 37, 38, 39] (by decide +kernel) (by decide +kernel)
set_option maxHeartbeats 4000000 in
set_option maxRecDepth 100000 in
theorem k_best (l : Launch) (D : va_G) (cs : Nat → ClassId) (ad : Nat → Nat) (hj : wJ ad nW) (g : Nat → va_E) (vi : Int32) (h0 : g 0 = .inr (11, [.ref (ad 1), .ref (ad 3), .ref (ad 23), .ref (ad 43), .ref (ad 104), .ref (ad 105), .ref (ad 114), .ref (ad 116), .ref (ad 118), .ref (ad 120), .ref (ad 130), .ref (ad 140), .ref (ad 144), .ref (ad 190)])) (h3 : g 3 = .inr (6, [.int 0, .int 0, .int 0, .int 0, .int 0, .int 0, .int 0, .int 0, .ref (ad 4), .ref (ad 5), .ref (ad 6), .ref (ad 7), .ref (ad 8), .ref (ad 9), .ref (ad 10), .ref (ad 11), .ref (ad 12), .ref (ad 13)])) : cI l yX11_best vX11_best { frames := 1, cells := 0, slots := 0, locals := 21 } D cs ad nW [.ref (ad 0), .int vi] g (fun r g2 => r = (-2) ∧ g2 = g) := by
  refine Met.start (cc := cX11_best) (maxL := 2) (ret := (some .int)) RX11 rfl (by decide) rfl (Nat.le_of_ble_eq_true rfl) ?_
  intro p e s m below meth c ls X hP hl
  have hx := X.1
  have hb := X.2.1
  have hS : va_S (wA ad nW) s.heap s.heap [] := va_S.rf
  have hA : ∀ i, i < nW → wA ad nW (ad i) := fun i h => ⟨i, h, rfl⟩
  have hl : lv_has ls 2 [(0, .ref (ad 0)), (1, .int vi)] := hl
  refine lv_aload_n hx hb dX11_best_0 rfl (lv_at hl 0 rfl) ?_
  refine lv_iload_n hx hb dX11_best_1 rfl (lv_at hl 1 rfl) ?_
  refine q_calli (q := (RX11, TX11, 14)) (As := [.int vi]) (rest := []) X (k_isIcicle l D cs ad hj g vi h0 h3) (cwV 1 X.2.2.2.2.1 gg_X11_best_X11_isIcicle rfl rfl rfl (by decide +kernel) ⟨Nat.le_of_ble_eq_true rfl, Nat.le_of_ble_eq_true rfl⟩) (by decide) h0 rfl hP hA hS rfl hl.1 rfl (Nat.le_of_ble_eq_true rfl) dX11_best_2 ⟨Nat.le_of_ble_eq_true rfl, Nat.le_of_ble_eq_true rfl⟩ (fun r_3 g_2 H locs hw_1 hP hS => ?_)
  obtain ⟨hw_1a, hw_1b⟩ := hw_1
  subst hw_1a
  rw [hw_1b] at hP
  refine lv_if_eq (tgt := 16) hx hb dX11_best_5 (by decide) (fun _ => ?_) (fun h => absurd h (by decide))
  refine lv_bipush (v := (-2)) hx hb dX11_best_16 (by decide) ?_
  exact q_iret X hP hS ⟨rfl, rfl⟩ dX11_best_18

theorem dX11_offs_0 : decode cX11_offs 0 = .ok (.aload_n 0, 1) := by decide +kernel
theorem dX11_offs_1 : decode cX11_offs 1 = .ok (.iload_n 1, 1) := by decide +kernel
theorem dX11_offs_2 : decode cX11_offs 2 = .ok (.invokevirtual 136, 3) := by decide +kernel
theorem dX11_offs_5 : decode cX11_offs 5 = .ok (.ifCond .eq 16, 3) := by decide +kernel
theorem dX11_offs_21 : decode cX11_offs 21 = .ok (.bipush (-2), 2) := by decide +kernel
theorem dX11_offs_23 : decode cX11_offs 23 = .ok (.ireturn, 1) := by decide +kernel
def vX11_offs : List Cond := .code yX11_offs cX11_offs 2 (some .int) :: ([.methodLink RX11 136 yX11_isIcicle, .instanceMethod yX11_isIcicle, .selects RX11 yX11_isIcicle yX11_isIcicle, .initialized RX11, .code yX11_isIcicle cX11_isIcicle 2 (some .boolean), .fieldLink RX11 19 "IcicleClock" "now" "LIcicleClock$Street;", .fieldLink RX11 160 "IcicleClock$Street" "icicles" "I"] ++ wsX110 ++ wsX60)
theorem iX11_offs_11 : ∀ w ∈ wsX110, w ∈ vX11_offs := fun _ h => List.mem_cons_of_mem _ (List.mem_append_left _ (List.mem_append_right _ h))
theorem iX11_offs_6 : ∀ w ∈ wsX60, w ∈ vX11_offs := fun _ h => List.mem_cons_of_mem _ (List.mem_append_right _ h)
set_option maxRecDepth 20000 in
theorem gg_X11_offs_X11_isIcicle : GoodIn vX11_offs (wsV RX11 136 RX11 yX11_isIcicle vX11_isIcicle) := goodIn_r _ [1, 2, 3, 4, 5, 6, 7, 8, 9, 10, 11, 12, 13, 14, 15, 16, 17, 18, 19, 20, 21, 22, 23, 24, 25, 26, 27, 28, 29, 30, 31, 32, 33, 34, 35, 36, 37, 38, 39] (by decide +kernel) (by decide +kernel)
set_option maxHeartbeats 4000000 in
set_option maxRecDepth 100000 in
theorem k_offs (l : Launch) (D : va_G) (cs : Nat → ClassId) (ad : Nat → Nat) (hj : wJ ad nW) (g : Nat → va_E) (vi : Int32) (h0 : g 0 = .inr (11, [.ref (ad 1), .ref (ad 3), .ref (ad 23), .ref (ad 43), .ref (ad 104), .ref (ad 105), .ref (ad 114), .ref (ad 116), .ref (ad 118), .ref (ad 120), .ref (ad 130), .ref (ad 140), .ref (ad 144), .ref (ad 190)])) (h3 : g 3 = .inr (6, [.int 0, .int 0, .int 0, .int 0, .int 0, .int 0, .int 0, .int 0, .ref (ad 4), .ref (ad 5), .ref (ad 6), .ref (ad 7), .ref (ad 8), .ref (ad 9), .ref (ad 10), .ref (ad 11), .ref (ad 12), .ref (ad 13)])) : cI l yX11_offs vX11_offs { frames := 1, cells := 0, slots := 0, locals := 21 } D cs ad nW [.ref (ad 0), .int vi] g (fun r g2 => r = (-2) ∧ g2 = g) := by
  refine Met.start (cc := cX11_offs) (maxL := 2) (ret := (some .int)) RX11 rfl (by decide) rfl (Nat.le_of_ble_eq_true rfl) ?_
  intro p e s m below meth c ls X hP hl
  have hx := X.1
  have hb := X.2.1
  have hS : va_S (wA ad nW) s.heap s.heap [] := va_S.rf
  have hA : ∀ i, i < nW → wA ad nW (ad i) := fun i h => ⟨i, h, rfl⟩
  have hl : lv_has ls 2 [(0, .ref (ad 0)), (1, .int vi)] := hl
  refine lv_aload_n hx hb dX11_offs_0 rfl (lv_at hl 0 rfl) ?_
  refine lv_iload_n hx hb dX11_offs_1 rfl (lv_at hl 1 rfl) ?_
  refine q_calli (q := (RX11, TX11, 14)) (As := [.int vi]) (rest := []) X (k_isIcicle l D cs ad hj g vi h0 h3) (cwV 1 X.2.2.2.2.1 gg_X11_offs_X11_isIcicle rfl rfl rfl (by decide +kernel) ⟨Nat.le_of_ble_eq_true rfl, Nat.le_of_ble_eq_true rfl⟩) (by decide) h0 rfl hP hA hS rfl hl.1 rfl (Nat.le_of_ble_eq_true rfl) dX11_offs_2 ⟨Nat.le_of_ble_eq_true rfl, Nat.le_of_ble_eq_true rfl⟩ (fun r_3 g_2 H locs hw_1 hP hS => ?_)
  obtain ⟨hw_1a, hw_1b⟩ := hw_1
  subst hw_1a
  rw [hw_1b] at hP
  refine lv_if_eq (tgt := 21) hx hb dX11_offs_5 (by decide) (fun _ => ?_) (fun h => absurd h (by decide))
  refine lv_bipush (v := (-2)) hx hb dX11_offs_21 (by decide) ?_
  exact q_iret X hP hS ⟨rfl, rfl⟩ dX11_offs_23

theorem dX11_doors_0 : decode cX11_doors 0 = .ok (.aload_n 0, 1) := by decide +kernel
theorem dX11_doors_1 : decode cX11_doors 1 = .ok (.iload_n 1, 1) := by decide +kernel
theorem dX11_doors_2 : decode cX11_doors 2 = .ok (.invokevirtual 136, 3) := by decide +kernel
theorem dX11_doors_5 : decode cX11_doors 5 = .ok (.ifCond .eq 11, 3) := by decide +kernel
theorem dX11_doors_16 : decode cX11_doors 16 = .ok (.bipush (-2), 2) := by decide +kernel
theorem dX11_doors_18 : decode cX11_doors 18 = .ok (.ireturn, 1) := by decide +kernel
def vX11_doors : List Cond := .code yX11_doors cX11_doors 5 (some .int) :: ([.methodLink RX11 136 yX11_isIcicle, .instanceMethod yX11_isIcicle, .selects RX11 yX11_isIcicle yX11_isIcicle, .initialized RX11, .code yX11_isIcicle cX11_isIcicle 2 (some .boolean), .fieldLink RX11 19 "IcicleClock" "now" "LIcicleClock$Street;", .fieldLink RX11 160 "IcicleClock$Street" "icicles" "I"] ++ wsX110 ++ wsX60)
theorem iX11_doors_11 : ∀ w ∈ wsX110, w ∈ vX11_doors := fun _ h => List.mem_cons_of_mem _ (List.mem_append_left _ (List.mem_append_right _ h))
theorem iX11_doors_6 : ∀ w ∈ wsX60, w ∈ vX11_doors := fun _ h => List.mem_cons_of_mem _ (List.mem_append_right _ h)
set_option maxRecDepth 20000 in
theorem gg_X11_doors_X11_isIcicle : GoodIn vX11_doors (wsV RX11 136 RX11 yX11_isIcicle vX11_isIcicle) := goodIn_r _ [1, 2, 3, 4, 5, 6, 7, 8, 9, 10, 11, 12, 13, 14, 15, 16, 17, 18, 19, 20, 21, 22, 23, 24, 25, 26, 27, 28, 29, 30, 31, 32, 33, 34, 35, 36, 37, 38, 39] (by decide +kernel) (by decide +kernel)
set_option maxHeartbeats 4000000 in
set_option maxRecDepth 100000 in
theorem k_doors (l : Launch) (D : va_G) (cs : Nat → ClassId) (ad : Nat → Nat) (hj : wJ ad nW) (g : Nat → va_E) (vi : Int32) (vd : Int32) (h0 : g 0 = .inr (11, [.ref (ad 1), .ref (ad 3), .ref (ad 23), .ref (ad 43), .ref (ad 104), .ref (ad 105), .ref (ad 114), .ref (ad 116), .ref (ad 118), .ref (ad 120), .ref (ad 130), .ref (ad 140), .ref (ad 144), .ref (ad 190)])) (h3 : g 3 = .inr (6, [.int 0, .int 0, .int 0, .int 0, .int 0, .int 0, .int 0, .int 0, .ref (ad 4), .ref (ad 5), .ref (ad 6), .ref (ad 7), .ref (ad 8), .ref (ad 9), .ref (ad 10), .ref (ad 11), .ref (ad 12), .ref (ad 13)])) : cI l yX11_doors vX11_doors { frames := 1, cells := 0, slots := 0, locals := 21 } D cs ad nW [.ref (ad 0), .int vi, .int vd] g (fun r g2 => r = (-2) ∧ g2 = g) := by
  refine Met.start (cc := cX11_doors) (maxL := 5) (ret := (some .int)) RX11 rfl (by decide) rfl (Nat.le_of_ble_eq_true rfl) ?_
  intro p e s m below meth c ls X hP hl
  have hx := X.1
  have hb := X.2.1
  have hS : va_S (wA ad nW) s.heap s.heap [] := va_S.rf
  have hA : ∀ i, i < nW → wA ad nW (ad i) := fun i h => ⟨i, h, rfl⟩
  have hl : lv_has ls 5 [(0, .ref (ad 0)), (1, .int vi), (2, .int vd)] := hl
  refine lv_aload_n hx hb dX11_doors_0 rfl (lv_at hl 0 rfl) ?_
  refine lv_iload_n hx hb dX11_doors_1 rfl (lv_at hl 1 rfl) ?_
  refine q_calli (q := (RX11, TX11, 14)) (As := [.int vi]) (rest := []) X (k_isIcicle l D cs ad hj g vi h0 h3) (cwV 1 X.2.2.2.2.1 gg_X11_doors_X11_isIcicle rfl rfl rfl (by decide +kernel) ⟨Nat.le_of_ble_eq_true rfl, Nat.le_of_ble_eq_true rfl⟩) (by decide) h0 rfl hP hA hS rfl hl.1 rfl (Nat.le_of_ble_eq_true rfl) dX11_doors_2 ⟨Nat.le_of_ble_eq_true rfl, Nat.le_of_ble_eq_true rfl⟩ (fun r_3 g_2 H locs hw_1 hP hS => ?_)
  obtain ⟨hw_1a, hw_1b⟩ := hw_1
  subst hw_1a
  rw [hw_1b] at hP
  refine lv_if_eq (tgt := 16) hx hb dX11_doors_5 (by decide) (fun _ => ?_) (fun h => absurd h (by decide))
  refine lv_bipush (v := (-2)) hx hb dX11_doors_16 (by decide) ?_
  exact q_iret X hP hS ⟨rfl, rfl⟩ dX11_doors_18

theorem dX11_round_0 : decode cX11_round 0 = .ok (.aload_n 0, 1) := by decide +kernel
theorem dX11_round_1 : decode cX11_round 1 = .ok (.iload_n 1, 1) := by decide +kernel
theorem dX11_round_2 : decode cX11_round 2 = .ok (.invokevirtual 129, 3) := by decide +kernel
theorem dX11_round_5 : decode cX11_round 5 = .ok (.ifCond .eq 19, 3) := by decide +kernel
theorem dX11_round_24 : decode cX11_round 24 = .ok (.bipush (-2), 2) := by decide +kernel
theorem dX11_round_26 : decode cX11_round 26 = .ok (.ireturn, 1) := by decide +kernel
def vX11_round : List Cond := .code yX11_round cX11_round 3 (some .int) :: ([.methodLink RX11 129 yX11_isEave, .instanceMethod yX11_isEave, .selects RX11 yX11_isEave yX11_isEave, .initialized RX11, .code yX11_isEave cX11_isEave 2 (some .boolean), .fieldLink RX11 19 "IcicleClock" "now" "LIcicleClock$Street;", .fieldLink RX11 208 "IcicleClock$Street" "eaves" "I"] ++ wsX110 ++ wsX60)
theorem iX11_round_11 : ∀ w ∈ wsX110, w ∈ vX11_round := fun _ h => List.mem_cons_of_mem _ (List.mem_append_left _ (List.mem_append_right _ h))
theorem iX11_round_6 : ∀ w ∈ wsX60, w ∈ vX11_round := fun _ h => List.mem_cons_of_mem _ (List.mem_append_right _ h)
set_option maxRecDepth 20000 in
theorem gg_X11_round_X11_isEave : GoodIn vX11_round (wsV RX11 129 RX11 yX11_isEave vX11_isEave) := goodIn_r _ [1, 2, 3, 4, 5, 6, 7, 8, 9, 10, 11, 12, 13, 14, 15, 16, 17, 18, 19, 20, 21, 22, 23, 24, 25, 26, 27, 28, 29, 30, 31, 32, 33, 34, 35, 36, 37, 38, 39] (by decide +kernel) (by decide +kernel)
set_option maxHeartbeats 4000000 in
set_option maxRecDepth 100000 in
theorem k_round (l : Launch) (D : va_G) (cs : Nat → ClassId) (ad : Nat → Nat) (hj : wJ ad nW) (g : Nat → va_E) (vf : Int32) (vk : Int32) (h0 : g 0 = .inr (11, [.ref (ad 1), .ref (ad 3), .ref (ad 23), .ref (ad 43), .ref (ad 104), .ref (ad 105), .ref (ad 114), .ref (ad 116), .ref (ad 118), .ref (ad 120), .ref (ad 130), .ref (ad 140), .ref (ad 144), .ref (ad 190)])) (h3 : g 3 = .inr (6, [.int 0, .int 0, .int 0, .int 0, .int 0, .int 0, .int 0, .int 0, .ref (ad 4), .ref (ad 5), .ref (ad 6), .ref (ad 7), .ref (ad 8), .ref (ad 9), .ref (ad 10), .ref (ad 11), .ref (ad 12), .ref (ad 13)])) : cI l yX11_round vX11_round { frames := 1, cells := 0, slots := 0, locals := 21 } D cs ad nW [.ref (ad 0), .int vf, .int vk] g (fun r g2 => r = (-2) ∧ g2 = g) := by
  refine Met.start (cc := cX11_round) (maxL := 3) (ret := (some .int)) RX11 rfl (by decide) rfl (Nat.le_of_ble_eq_true rfl) ?_
  intro p e s m below meth c ls X hP hl
  have hx := X.1
  have hb := X.2.1
  have hS : va_S (wA ad nW) s.heap s.heap [] := va_S.rf
  have hA : ∀ i, i < nW → wA ad nW (ad i) := fun i h => ⟨i, h, rfl⟩
  have hl : lv_has ls 3 [(0, .ref (ad 0)), (1, .int vf), (2, .int vk)] := hl
  refine lv_aload_n hx hb dX11_round_0 rfl (lv_at hl 0 rfl) ?_
  refine lv_iload_n hx hb dX11_round_1 rfl (lv_at hl 1 rfl) ?_
  refine q_calli (q := (RX11, TX11, 14)) (As := [.int vf]) (rest := []) X (k_isEave l D cs ad hj g vf h0 h3) (cwV 1 X.2.2.2.2.1 gg_X11_round_X11_isEave rfl rfl rfl (by decide +kernel) ⟨Nat.le_of_ble_eq_true rfl, Nat.le_of_ble_eq_true rfl⟩) (by decide) h0 rfl hP hA hS rfl hl.1 rfl (Nat.le_of_ble_eq_true rfl) dX11_round_2 ⟨Nat.le_of_ble_eq_true rfl, Nat.le_of_ble_eq_true rfl⟩ (fun r_3 g_2 H locs hw_1 hP hS => ?_)
  obtain ⟨hw_1a, hw_1b⟩ := hw_1
  subst hw_1a
  rw [hw_1b] at hP
  refine lv_if_eq (tgt := 24) hx hb dX11_round_5 (by decide) (fun _ => ?_) (fun h => absurd h (by decide))
  refine lv_bipush (v := (-2)) hx hb dX11_round_24 (by decide) ?_
  exact q_iret X hP hS ⟨rfl, rfl⟩ dX11_round_26

theorem dX11_rounds_0 : decode cX11_rounds 0 = .ok (.aload_n 0, 1) := by decide +kernel
theorem dX11_rounds_1 : decode cX11_rounds 1 = .ok (.iload_n 1, 1) := by decide +kernel
theorem dX11_rounds_2 : decode cX11_rounds 2 = .ok (.invokevirtual 129, 3) := by decide +kernel
theorem dX11_rounds_5 : decode cX11_rounds 5 = .ok (.ifCond .eq 11, 3) := by decide +kernel
theorem dX11_rounds_16 : decode cX11_rounds 16 = .ok (.bipush (-2), 2) := by decide +kernel
theorem dX11_rounds_18 : decode cX11_rounds 18 = .ok (.ireturn, 1) := by decide +kernel
def vX11_rounds : List Cond := .code yX11_rounds cX11_rounds 7 (some .int) :: ([.methodLink RX11 129 yX11_isEave, .instanceMethod yX11_isEave, .selects RX11 yX11_isEave yX11_isEave, .initialized RX11, .code yX11_isEave cX11_isEave 2 (some .boolean), .fieldLink RX11 19 "IcicleClock" "now" "LIcicleClock$Street;", .fieldLink RX11 208 "IcicleClock$Street" "eaves" "I"] ++ wsX110 ++ wsX60)
theorem iX11_rounds_11 : ∀ w ∈ wsX110, w ∈ vX11_rounds := fun _ h => List.mem_cons_of_mem _ (List.mem_append_left _ (List.mem_append_right _ h))
theorem iX11_rounds_6 : ∀ w ∈ wsX60, w ∈ vX11_rounds := fun _ h => List.mem_cons_of_mem _ (List.mem_append_right _ h)
set_option maxRecDepth 20000 in
theorem gg_X11_rounds_X11_isEave : GoodIn vX11_rounds (wsV RX11 129 RX11 yX11_isEave vX11_isEave) := goodIn_r _ [1, 2, 3, 4, 5, 6, 7, 8, 9, 10, 11, 12, 13, 14, 15, 16, 17, 18, 19, 20, 21, 22, 23, 24, 25, 26, 27, 28, 29, 30, 31, 32, 33, 34, 35, 36, 37, 38, 39] (by decide +kernel) (by decide +kernel)
set_option maxHeartbeats 4000000 in
set_option maxRecDepth 100000 in
theorem k_rounds (l : Launch) (D : va_G) (cs : Nat → ClassId) (ad : Nat → Nat) (hj : wJ ad nW) (g : Nat → va_E) (vf : Int32) (vk : Int32) (vi : Int32) (h0 : g 0 = .inr (11, [.ref (ad 1), .ref (ad 3), .ref (ad 23), .ref (ad 43), .ref (ad 104), .ref (ad 105), .ref (ad 114), .ref (ad 116), .ref (ad 118), .ref (ad 120), .ref (ad 130), .ref (ad 140), .ref (ad 144), .ref (ad 190)])) (h3 : g 3 = .inr (6, [.int 0, .int 0, .int 0, .int 0, .int 0, .int 0, .int 0, .int 0, .ref (ad 4), .ref (ad 5), .ref (ad 6), .ref (ad 7), .ref (ad 8), .ref (ad 9), .ref (ad 10), .ref (ad 11), .ref (ad 12), .ref (ad 13)])) : cI l yX11_rounds vX11_rounds { frames := 1, cells := 0, slots := 0, locals := 21 } D cs ad nW [.ref (ad 0), .int vf, .int vk, .int vi] g (fun r g2 => r = (-2) ∧ g2 = g) := by
  refine Met.start (cc := cX11_rounds) (maxL := 7) (ret := (some .int)) RX11 rfl (by decide) rfl (Nat.le_of_ble_eq_true rfl) ?_
  intro p e s m below meth c ls X hP hl
  have hx := X.1
  have hb := X.2.1
  have hS : va_S (wA ad nW) s.heap s.heap [] := va_S.rf
  have hA : ∀ i, i < nW → wA ad nW (ad i) := fun i h => ⟨i, h, rfl⟩
  have hl : lv_has ls 7 [(0, .ref (ad 0)), (1, .int vf), (2, .int vk), (3, .int vi)] := hl
  refine lv_aload_n hx hb dX11_rounds_0 rfl (lv_at hl 0 rfl) ?_
  refine lv_iload_n hx hb dX11_rounds_1 rfl (lv_at hl 1 rfl) ?_
  refine q_calli (q := (RX11, TX11, 14)) (As := [.int vf]) (rest := []) X (k_isEave l D cs ad hj g vf h0 h3) (cwV 1 X.2.2.2.2.1 gg_X11_rounds_X11_isEave rfl rfl rfl (by decide +kernel) ⟨Nat.le_of_ble_eq_true rfl, Nat.le_of_ble_eq_true rfl⟩) (by decide) h0 rfl hP hA hS rfl hl.1 rfl (Nat.le_of_ble_eq_true rfl) dX11_rounds_2 ⟨Nat.le_of_ble_eq_true rfl, Nat.le_of_ble_eq_true rfl⟩ (fun r_3 g_2 H locs hw_1 hP hS => ?_)
  obtain ⟨hw_1a, hw_1b⟩ := hw_1
  subst hw_1a
  rw [hw_1b] at hP
  refine lv_if_eq (tgt := 16) hx hb dX11_rounds_5 (by decide) (fun _ => ?_) (fun h => absurd h (by decide))
  refine lv_bipush (v := (-2)) hx hb dX11_rounds_16 (by decide) ?_
  exact q_iret X hP hS ⟨rfl, rfl⟩ dX11_rounds_18
end
section
theorem dX11_refusal_0 : decode cX11_refusal 0 = .ok (.iload_n 1, 1) := by decide +kernel
theorem dX11_refusal_1 : decode cX11_refusal 1 = .ok (.invokestatic 377, 3) := by decide +kernel
theorem dX11_refusal_4 : decode cX11_refusal 4 = .ok (.ifCond .eq 14, 3) := by decide +kernel
theorem dX11_refusal_18 : decode cX11_refusal 18 = .ok (.bipush (-2), 2) := by decide +kernel
theorem dX11_refusal_20 : decode cX11_refusal 20 = .ok (.ireturn, 1) := by decide +kernel
theorem dX11_refusal_7 : decode cX11_refusal 7 = .ok (.aload_n 0, 1) := by decide +kernel
theorem dX11_refusal_8 : decode cX11_refusal 8 = .ok (.invokevirtual 195, 3) := by decide +kernel
theorem dX11_refusal_11 : decode cX11_refusal 11 = .ok (.ifCond .eq 7, 3) := by decide +kernel
def vX11_refusal : List Cond := .code yX11_refusal cX11_refusal 4 (some .int) :: ([.methodLink RX11 377 yX11_isSlot, .static yX11_isSlot, .initialized RX11, .code yX11_isSlot cX11_isSlot 1 (some .boolean), .methodLink RX11 195 yX11_isTold, .instanceMethod yX11_isTold, .selects RX11 yX11_isTold yX11_isTold, .code yX11_isTold cX11_isTold 1 (some .boolean), .fieldLink RX11 19 "IcicleClock" "now" "LIcicleClock$Street;", .fieldLink RX11 112 "IcicleClock$Street" "lines" "I"] ++ wsX110 ++ wsX60)
theorem iX11_refusal_11 : ∀ w ∈ wsX110, w ∈ vX11_refusal := fun _ h => List.mem_cons_of_mem _ (List.mem_append_left _ (List.mem_append_right _ h))
theorem iX11_refusal_6 : ∀ w ∈ wsX60, w ∈ vX11_refusal := fun _ h => List.mem_cons_of_mem _ (List.mem_append_right _ h)
set_option maxRecDepth 20000 in
theorem gg_X11_refusal_X11_isSlot : GoodIn vX11_refusal (wsS RX11 377 yX11_isSlot vX11_isSlot) := goodIn_r _ [1, 2, 3, 4] (by decide +kernel) (by decide +kernel)
set_option maxRecDepth 20000 in
theorem gg_X11_refusal_X11_isTold : GoodIn vX11_refusal (wsV RX11 195 RX11 yX11_isTold vX11_isTold) := goodIn_r _ [5, 6, 7, 3, 8, 9, 10, 11, 12, 13, 14, 15, 16, 17, 18, 19, 20, 21, 22, 23, 24, 25, 26, 27, 28, 29, 30, 31, 32, 33, 34, 35, 36, 37, 38, 39, 40, 41, 42] (by decide +kernel) (by decide +kernel)
set_option maxHeartbeats 4000000 in
set_option maxRecDepth 100000 in
theorem k_refusal (l : Launch) (D : va_G) (cs : Nat → ClassId) (ad : Nat → Nat) (hj : wJ ad nW) (g : Nat → va_E) (vs : Int32) (vo : Int32) (vd : Int32) (h0 : g 0 = .inr (11, [.ref (ad 1), .ref (ad 3), .ref (ad 23), .ref (ad 43), .ref (ad 104), .ref (ad 105), .ref (ad 114), .ref (ad 116), .ref (ad 118), .ref (ad 120), .ref (ad 130), .ref (ad 140), .ref (ad 144), .ref (ad 190)])) (h3 : g 3 = .inr (6, [.int 0, .int 0, .int 0, .int 0, .int 0, .int 0, .int 0, .int 0, .ref (ad 4), .ref (ad 5), .ref (ad 6), .ref (ad 7), .ref (ad 8), .ref (ad 9), .ref (ad 10), .ref (ad 11), .ref (ad 12), .ref (ad 13)])) : cI l yX11_refusal vX11_refusal { frames := 1, cells := 0, slots := 0, locals := 20 } D cs ad nW [.ref (ad 0), .int vs, .int vo, .int vd] g (fun r g2 => r = (-2) ∧ g2 = g) := by
  refine Met.start (cc := cX11_refusal) (maxL := 4) (ret := (some .int)) RX11 rfl (by decide) rfl (Nat.le_of_ble_eq_true rfl) ?_
  intro p e s m below meth c ls X hP hl
  have hx := X.1
  have hb := X.2.1
  have hS : va_S (wA ad nW) s.heap s.heap [] := va_S.rf
  have hA : ∀ i, i < nW → wA ad nW (ad i) := fun i h => ⟨i, h, rfl⟩
  have hl : lv_has ls 4 [(0, .ref (ad 0)), (1, .int vs), (2, .int vo), (3, .int vd)] := hl
  refine lv_iload_n hx hb dX11_refusal_0 rfl (lv_at hl 1 rfl) ?_
  refine q_callSi (As := [.int vs]) (rest := []) X (k_isSlot l D cs ad hj g vs ) (cwS 1 X.2.2.2.2.1 gg_X11_refusal_X11_isSlot rfl rfl rfl (by decide +kernel) ⟨Nat.le_of_ble_eq_true rfl, Nat.le_of_ble_eq_true rfl⟩) hP hA hS rfl hl.1 rfl (Nat.le_of_ble_eq_true rfl) dX11_refusal_1 ⟨Nat.le_of_ble_eq_true rfl, Nat.le_of_ble_eq_true rfl⟩ (fun r_3 g_2 H locs hw_1 hP hS => ?_)
  obtain ⟨hw_1b, hw_1⟩ := hw_1
  rw [hw_1b] at hP
  refine lv_if_eq (tgt := 18) hx hb dX11_refusal_4 (by decide) (fun hc_4 => ?_) (fun hc_4 => ?_)
  · refine lv_bipush (v := (-2)) hx hb dX11_refusal_18 (by decide) ?_
    exact q_iret X hP hS ⟨rfl, rfl⟩ dX11_refusal_20
  · refine lv_aload_n hx hb dX11_refusal_7 rfl (lv_at hl 0 rfl) ?_
    refine q_calli (q := (RX11, TX11, 14)) (As := []) (rest := []) X (k_isTold l D cs ad hj g  h0 h3) (cwV 0 X.2.2.2.2.1 gg_X11_refusal_X11_isTold rfl rfl rfl (by decide +kernel) ⟨Nat.le_of_ble_eq_true rfl, Nat.le_of_ble_eq_true rfl⟩) (by decide) h0 rfl hP hA hS rfl hl.1 rfl (Nat.le_of_ble_eq_true rfl) dX11_refusal_8 ⟨Nat.le_of_ble_eq_true rfl, Nat.le_of_ble_eq_true rfl⟩ (fun r_6 g_5 H locs hw_4 hP hS => ?_)
    obtain ⟨hw_4a, hw_4b⟩ := hw_4
    subst hw_4a
    rw [hw_4b] at hP
    refine lv_if_eq (tgt := 18) hx hb dX11_refusal_11 (by decide) (fun _ => ?_) (fun h => absurd h (by decide))
    refine lv_bipush (v := (-2)) hx hb dX11_refusal_18 (by decide) ?_
    exact q_iret X hP hS ⟨rfl, rfl⟩ dX11_refusal_20

theorem dX11_weatherRefusal_0 : decode cX11_weatherRefusal 0 = .ok (.iload_n 2, 1) := by decide +kernel
theorem dX11_weatherRefusal_1 : decode cX11_weatherRefusal 1 = .ok (.iconst 1, 1) := by decide +kernel
theorem dX11_weatherRefusal_2 : decode cX11_weatherRefusal 2 = .ok (.if_icmp .lt 12, 3) := by decide +kernel
theorem dX11_weatherRefusal_14 : decode cX11_weatherRefusal 14 = .ok (.iconst 0, 1) := by decide +kernel
theorem dX11_weatherRefusal_15 : decode cX11_weatherRefusal 15 = .ok (.istore 4, 2) := by decide +kernel
theorem dX11_weatherRefusal_17 : decode cX11_weatherRefusal 17 = .ok (.aload_n 0, 1) := by decide +kernel
theorem dX11_weatherRefusal_18 : decode cX11_weatherRefusal 18 = .ok (.iload_n 1, 1) := by decide +kernel
theorem dX11_weatherRefusal_19 : decode cX11_weatherRefusal 19 = .ok (.iload 4, 2) := by decide +kernel
theorem dX11_weatherRefusal_21 : decode cX11_weatherRefusal 21 = .ok (.ifCond .eq 11, 3) := by decide +kernel
theorem dX11_weatherRefusal_32 : decode cX11_weatherRefusal 32 = .ok (.iconst 0, 1) := by decide +kernel
theorem dX11_weatherRefusal_33 : decode cX11_weatherRefusal 33 = .ok (.iload_n 2, 1) := by decide +kernel
theorem dX11_weatherRefusal_34 : decode cX11_weatherRefusal 34 = .ok (.aload_n 0, 1) := by decide +kernel
theorem dX11_weatherRefusal_35 : decode cX11_weatherRefusal 35 = .ok (.getfield 19, 3) := by decide +kernel
theorem dX11_weatherRefusal_38 : decode cX11_weatherRefusal 38 = .ok (.getfield 177, 3) := by decide +kernel
theorem dX11_weatherRefusal_41 : decode cX11_weatherRefusal 41 = .ok (.invokestatic 220, 3) := by decide +kernel
theorem dX11_weatherRefusal_44 : decode cX11_weatherRefusal 44 = .ok (.invokevirtual 260, 3) := by decide +kernel
theorem dX11_weatherRefusal_47 : decode cX11_weatherRefusal 47 = .ok (.ireturn, 1) := by decide +kernel
theorem dX11_weatherRefusal_5 : decode cX11_weatherRefusal 5 = .ok (.iload_n 2, 1) := by decide +kernel
theorem dX11_weatherRefusal_6 : decode cX11_weatherRefusal 6 = .ok (.iconst 5, 1) := by decide +kernel
theorem dX11_weatherRefusal_7 : decode cX11_weatherRefusal 7 = .ok (.if_icmp .gt 7, 3) := by decide +kernel
theorem dX11_weatherRefusal_10 : decode cX11_weatherRefusal 10 = .ok (.iconst 1, 1) := by decide +kernel
theorem dX11_weatherRefusal_11 : decode cX11_weatherRefusal 11 = .ok (.goto 4, 3) := by decide +kernel
theorem dX11_weatherRefusal_24 : decode cX11_weatherRefusal 24 = .ok (.iload_n 3, 1) := by decide +kernel
theorem dX11_weatherRefusal_25 : decode cX11_weatherRefusal 25 = .ok (.ifCond .eq 7, 3) := by decide +kernel
theorem dX11_weatherRefusal_28 : decode cX11_weatherRefusal 28 = .ok (.iconst 1, 1) := by decide +kernel
theorem dX11_weatherRefusal_29 : decode cX11_weatherRefusal 29 = .ok (.goto 4, 3) := by decide +kernel
def vX11_weatherRefusal : List Cond := .code yX11_weatherRefusal cX11_weatherRefusal 5 (some .int) :: ([.fieldLink RX11 19 "IcicleClock" "now" "LIcicleClock$Street;", .fieldLink RX11 177 "IcicleClock$Street" "days" "I", .methodLink RX11 220 Lib.Math.min.name, .static Lib.Math.min.name, .initialized "java/lang/Math", .code Lib.Math.min.name Lib.Math.min.code 2 (some .int), .methodLink RX11 260 yX11_refusal, .instanceMethod yX11_refusal, .selects RX11 yX11_refusal yX11_refusal, .initialized RX11, .code yX11_refusal cX11_refusal 4 (some .int), .methodLink RX11 377 yX11_isSlot, .static yX11_isSlot, .code yX11_isSlot cX11_isSlot 1 (some .boolean), .methodLink RX11 195 yX11_isTold, .instanceMethod yX11_isTold, .selects RX11 yX11_isTold yX11_isTold, .code yX11_isTold cX11_isTold 1 (some .boolean), .fieldLink RX11 112 "IcicleClock$Street" "lines" "I"] ++ wsX110 ++ wsX60)
theorem iX11_weatherRefusal_11 : ∀ w ∈ wsX110, w ∈ vX11_weatherRefusal := fun _ h => List.mem_cons_of_mem _ (List.mem_append_left _ (List.mem_append_right _ h))
theorem iX11_weatherRefusal_6 : ∀ w ∈ wsX60, w ∈ vX11_weatherRefusal := fun _ h => List.mem_cons_of_mem _ (List.mem_append_right _ h)
set_option maxRecDepth 20000 in
theorem gg_X11_weatherRefusal_X11_refusal : GoodIn vX11_weatherRefusal (wsV RX11 260 RX11 yX11_refusal vX11_refusal) := goodIn_r _ [7, 8, 9, 10, 11, 12, 13, 10, 14, 15, 16, 17, 18, 1, 19, 20, 21, 22, 23, 24, 25, 26, 27, 28, 29, 30, 31, 32, 33, 34, 35, 36, 37, 38, 39, 40, 41, 42, 43, 44, 45, 46, 47, 48, 49, 50, 51] (by decide +kernel) (by decide +kernel)
set_option maxHeartbeats 4000000 in
set_option maxRecDepth 100000 in
theorem k_weatherRefusal (l : Launch) (D : va_G) (cs : Nat → ClassId) (ad : Nat → Nat) (hj : wJ ad nW) (g : Nat → va_E) (vs : Int32) (vn : Int32) (vo : Int32) (h0 : g 0 = .inr (11, [.ref (ad 1), .ref (ad 3), .ref (ad 23), .ref (ad 43), .ref (ad 104), .ref (ad 105), .ref (ad 114), .ref (ad 116), .ref (ad 118), .ref (ad 120), .ref (ad 130), .ref (ad 140), .ref (ad 144), .ref (ad 190)])) (h3 : g 3 = .inr (6, [.int 0, .int 0, .int 0, .int 0, .int 0, .int 0, .int 0, .int 0, .ref (ad 4), .ref (ad 5), .ref (ad 6), .ref (ad 7), .ref (ad 8), .ref (ad 9), .ref (ad 10), .ref (ad 11), .ref (ad 12), .ref (ad 13)])) : cI l yX11_weatherRefusal vX11_weatherRefusal { frames := 2, cells := 0, slots := 0, locals := 43 } D cs ad nW [.ref (ad 0), .int vs, .int vn, .int vo] g (fun r g2 => r = (-2) ∧ g2 = g) := by
  refine Met.start (cc := cX11_weatherRefusal) (maxL := 5) (ret := (some .int)) RX11 rfl (by decide) rfl (Nat.le_of_ble_eq_true rfl) ?_
  intro p e s m below meth c ls X hP hl
  have hx := X.1
  have hb := X.2.1
  have hS : va_S (wA ad nW) s.heap s.heap [] := va_S.rf
  have hA : ∀ i, i < nW → wA ad nW (ad i) := fun i h => ⟨i, h, rfl⟩
  have hl : lv_has ls 5 [(0, .ref (ad 0)), (1, .int vs), (2, .int vn), (3, .int vo)] := hl
  refine lv_iload_n hx hb dX11_weatherRefusal_0 rfl (lv_at hl 2 rfl) ?_
  refine lv_iconst (v := 1) hx hb dX11_weatherRefusal_1 (by decide) ?_
  refine lv_icmp_lt (tgt := 14) hx hb dX11_weatherRefusal_2 (by decide) (fun hc_2 => ?_) (fun hc_2 => ?_)
  · refine lv_iconst (v := 0) hx hb dX11_weatherRefusal_14 (by decide) ?_
    refine lv_istore (lv' := [(4, .int 0), (0, .ref (ad 0)), (1, .int vs), (2, .int vn), (3, .int vo)]) hx hb dX11_weatherRefusal_15 hl (by decide) rfl (fun ls hl => ?_)
    refine lv_aload_n hx hb dX11_weatherRefusal_17 rfl (lv_at hl 1 rfl) ?_
    refine lv_iload_n hx hb dX11_weatherRefusal_18 rfl (lv_at hl 2 rfl) ?_
    refine lv_iload hx hb dX11_weatherRefusal_19 (lv_at hl 0 rfl) ?_
    refine lv_if_eq (tgt := 32) hx hb dX11_weatherRefusal_21 (by decide) (fun _ => ?_) (fun h => absurd h (by decide))
    refine lv_iconst (v := 0) hx hb dX11_weatherRefusal_32 (by decide) ?_
    refine lv_iload_n hx hb dX11_weatherRefusal_33 rfl (lv_at hl 3 rfl) ?_
    refine lv_aload_n hx hb dX11_weatherRefusal_34 rfl (lv_at hl 1 rfl) ?_
    refine q_get X iX11_weatherRefusal_11 hP (by decide) h0 rfl 1 (by decide) (List.mem_of_getElem? (i := 1) rfl) (v := .ref (ad 3)) rfl dX11_weatherRefusal_35 ?_
    refine q_get X iX11_weatherRefusal_6 hP (by decide) h3 rfl 3 (by decide) (List.mem_of_getElem? (i := 2) rfl) (v := .int 0) rfl dX11_weatherRefusal_38 ?_
    refine va_mmin hx hb (X.2.2.2.1.trans hl.1.symm) X.2.2.2.2.2.1 (X.2.2.2.2.1 _ (List.mem_of_getElem? (i := 3) rfl)) (X.2.2.2.2.1 _ (List.mem_of_getElem? (i := 4) rfl)) (X.2.2.2.2.1 _ (List.mem_of_getElem? (i := 5) rfl)) (X.2.2.2.2.1 _ (List.mem_of_getElem? (i := 6) rfl)) (Nat.le_of_ble_eq_true rfl) (Nat.le_of_ble_eq_true rfl) (Nat.le_of_ble_eq_true rfl) (Nat.le_of_ble_eq_true rfl) dX11_weatherRefusal_41 ?_
    refine lv_topi (fun z_1 ez_1 => ?_)
    refine q_calli (q := (RX11, TX11, 14)) (As := [.int vs, .int 0, .int z_1]) (rest := []) X (k_refusal l D cs ad hj g vs 0 z_1 h0 h3) (cwV 3 X.2.2.2.2.1 gg_X11_weatherRefusal_X11_refusal rfl rfl rfl (by decide +kernel) ⟨Nat.le_of_ble_eq_true rfl, Nat.le_of_ble_eq_true rfl⟩) (by decide) h0 rfl hP hA hS rfl hl.1 rfl (Nat.le_of_ble_eq_true rfl) dX11_weatherRefusal_44 ⟨Nat.le_of_ble_eq_true rfl, Nat.le_of_ble_eq_true rfl⟩ (fun r_4 g_3 H locs hw_2 hP hS => ?_)
    obtain ⟨hw_2a, hw_2b⟩ := hw_2
    subst hw_2a
    rw [hw_2b] at hP
    exact q_iret X hP hS ⟨rfl, rfl⟩ dX11_weatherRefusal_47
  · refine lv_iload_n hx hb dX11_weatherRefusal_5 rfl (lv_at hl 2 rfl) ?_
    refine lv_iconst (v := 5) hx hb dX11_weatherRefusal_6 (by decide) ?_
    refine lv_icmp_gt (tgt := 14) hx hb dX11_weatherRefusal_7 (by decide) (fun hc_7 => ?_) (fun hc_7 => ?_)
    · refine lv_iconst (v := 0) hx hb dX11_weatherRefusal_14 (by decide) ?_
      refine lv_istore (lv' := [(4, .int 0), (0, .ref (ad 0)), (1, .int vs), (2, .int vn), (3, .int vo)]) hx hb dX11_weatherRefusal_15 hl (by decide) rfl (fun ls hl => ?_)
      refine lv_aload_n hx hb dX11_weatherRefusal_17 rfl (lv_at hl 1 rfl) ?_
      refine lv_iload_n hx hb dX11_weatherRefusal_18 rfl (lv_at hl 2 rfl) ?_
      refine lv_iload hx hb dX11_weatherRefusal_19 (lv_at hl 0 rfl) ?_
      refine lv_if_eq (tgt := 32) hx hb dX11_weatherRefusal_21 (by decide) (fun _ => ?_) (fun h => absurd h (by decide))
      refine lv_iconst (v := 0) hx hb dX11_weatherRefusal_32 (by decide) ?_
      refine lv_iload_n hx hb dX11_weatherRefusal_33 rfl (lv_at hl 3 rfl) ?_
      refine lv_aload_n hx hb dX11_weatherRefusal_34 rfl (lv_at hl 1 rfl) ?_
      refine q_get X iX11_weatherRefusal_11 hP (by decide) h0 rfl 1 (by decide) (List.mem_of_getElem? (i := 1) rfl) (v := .ref (ad 3)) rfl dX11_weatherRefusal_35 ?_
      refine q_get X iX11_weatherRefusal_6 hP (by decide) h3 rfl 3 (by decide) (List.mem_of_getElem? (i := 2) rfl) (v := .int 0) rfl dX11_weatherRefusal_38 ?_
      refine va_mmin hx hb (X.2.2.2.1.trans hl.1.symm) X.2.2.2.2.2.1 (X.2.2.2.2.1 _ (List.mem_of_getElem? (i := 3) rfl)) (X.2.2.2.2.1 _ (List.mem_of_getElem? (i := 4) rfl)) (X.2.2.2.2.1 _ (List.mem_of_getElem? (i := 5) rfl)) (X.2.2.2.2.1 _ (List.mem_of_getElem? (i := 6) rfl)) (Nat.le_of_ble_eq_true rfl) (Nat.le_of_ble_eq_true rfl) (Nat.le_of_ble_eq_true rfl) (Nat.le_of_ble_eq_true rfl) dX11_weatherRefusal_41 ?_
      refine lv_topi (fun z_5 ez_5 => ?_)
      refine q_calli (q := (RX11, TX11, 14)) (As := [.int vs, .int 0, .int z_5]) (rest := []) X (k_refusal l D cs ad hj g vs 0 z_5 h0 h3) (cwV 3 X.2.2.2.2.1 gg_X11_weatherRefusal_X11_refusal rfl rfl rfl (by decide +kernel) ⟨Nat.le_of_ble_eq_true rfl, Nat.le_of_ble_eq_true rfl⟩) (by decide) h0 rfl hP hA hS rfl hl.1 rfl (Nat.le_of_ble_eq_true rfl) dX11_weatherRefusal_44 ⟨Nat.le_of_ble_eq_true rfl, Nat.le_of_ble_eq_true rfl⟩ (fun r_8 g_7 H locs hw_6 hP hS => ?_)
      obtain ⟨hw_6a, hw_6b⟩ := hw_6
      subst hw_6a
      rw [hw_6b] at hP
      exact q_iret X hP hS ⟨rfl, rfl⟩ dX11_weatherRefusal_47
    · refine lv_iconst (v := 1) hx hb dX11_weatherRefusal_10 (by decide) ?_
      refine lv_goto (tgt := 15) hx hb dX11_weatherRefusal_11 (by decide) ?_
      refine lv_istore (lv' := [(4, .int 1), (0, .ref (ad 0)), (1, .int vs), (2, .int vn), (3, .int vo)]) hx hb dX11_weatherRefusal_15 hl (by decide) rfl (fun ls hl => ?_)
      refine lv_aload_n hx hb dX11_weatherRefusal_17 rfl (lv_at hl 1 rfl) ?_
      refine lv_iload_n hx hb dX11_weatherRefusal_18 rfl (lv_at hl 2 rfl) ?_
      refine lv_iload hx hb dX11_weatherRefusal_19 (lv_at hl 0 rfl) ?_
      refine lv_if_eq (tgt := 32) hx hb dX11_weatherRefusal_21 (by decide) (fun h => absurd h (by decide)) (fun _ => ?_)
      refine lv_iload_n hx hb dX11_weatherRefusal_24 rfl (lv_at hl 4 rfl) ?_
      refine lv_if_eq (tgt := 32) hx hb dX11_weatherRefusal_25 (by decide) (fun hc_25 => ?_) (fun hc_25 => ?_)
      · refine lv_iconst (v := 0) hx hb dX11_weatherRefusal_32 (by decide) ?_
        refine lv_iload_n hx hb dX11_weatherRefusal_33 rfl (lv_at hl 3 rfl) ?_
        refine lv_aload_n hx hb dX11_weatherRefusal_34 rfl (lv_at hl 1 rfl) ?_
        refine q_get X iX11_weatherRefusal_11 hP (by decide) h0 rfl 1 (by decide) (List.mem_of_getElem? (i := 1) rfl) (v := .ref (ad 3)) rfl dX11_weatherRefusal_35 ?_
        refine q_get X iX11_weatherRefusal_6 hP (by decide) h3 rfl 3 (by decide) (List.mem_of_getElem? (i := 2) rfl) (v := .int 0) rfl dX11_weatherRefusal_38 ?_
        refine va_mmin hx hb (X.2.2.2.1.trans hl.1.symm) X.2.2.2.2.2.1 (X.2.2.2.2.1 _ (List.mem_of_getElem? (i := 3) rfl)) (X.2.2.2.2.1 _ (List.mem_of_getElem? (i := 4) rfl)) (X.2.2.2.2.1 _ (List.mem_of_getElem? (i := 5) rfl)) (X.2.2.2.2.1 _ (List.mem_of_getElem? (i := 6) rfl)) (Nat.le_of_ble_eq_true rfl) (Nat.le_of_ble_eq_true rfl) (Nat.le_of_ble_eq_true rfl) (Nat.le_of_ble_eq_true rfl) dX11_weatherRefusal_41 ?_
        refine lv_topi (fun z_9 ez_9 => ?_)
        refine q_calli (q := (RX11, TX11, 14)) (As := [.int vs, .int 0, .int z_9]) (rest := []) X (k_refusal l D cs ad hj g vs 0 z_9 h0 h3) (cwV 3 X.2.2.2.2.1 gg_X11_weatherRefusal_X11_refusal rfl rfl rfl (by decide +kernel) ⟨Nat.le_of_ble_eq_true rfl, Nat.le_of_ble_eq_true rfl⟩) (by decide) h0 rfl hP hA hS rfl hl.1 rfl (Nat.le_of_ble_eq_true rfl) dX11_weatherRefusal_44 ⟨Nat.le_of_ble_eq_true rfl, Nat.le_of_ble_eq_true rfl⟩ (fun r_12 g_11 H locs hw_10 hP hS => ?_)
        obtain ⟨hw_10a, hw_10b⟩ := hw_10
        subst hw_10a
        rw [hw_10b] at hP
        exact q_iret X hP hS ⟨rfl, rfl⟩ dX11_weatherRefusal_47
      · refine lv_iconst (v := 1) hx hb dX11_weatherRefusal_28 (by decide) ?_
        refine lv_goto (tgt := 33) hx hb dX11_weatherRefusal_29 (by decide) ?_
        refine lv_iload_n hx hb dX11_weatherRefusal_33 rfl (lv_at hl 3 rfl) ?_
        refine lv_aload_n hx hb dX11_weatherRefusal_34 rfl (lv_at hl 1 rfl) ?_
        refine q_get X iX11_weatherRefusal_11 hP (by decide) h0 rfl 1 (by decide) (List.mem_of_getElem? (i := 1) rfl) (v := .ref (ad 3)) rfl dX11_weatherRefusal_35 ?_
        refine q_get X iX11_weatherRefusal_6 hP (by decide) h3 rfl 3 (by decide) (List.mem_of_getElem? (i := 2) rfl) (v := .int 0) rfl dX11_weatherRefusal_38 ?_
        refine va_mmin hx hb (X.2.2.2.1.trans hl.1.symm) X.2.2.2.2.2.1 (X.2.2.2.2.1 _ (List.mem_of_getElem? (i := 3) rfl)) (X.2.2.2.2.1 _ (List.mem_of_getElem? (i := 4) rfl)) (X.2.2.2.2.1 _ (List.mem_of_getElem? (i := 5) rfl)) (X.2.2.2.2.1 _ (List.mem_of_getElem? (i := 6) rfl)) (Nat.le_of_ble_eq_true rfl) (Nat.le_of_ble_eq_true rfl) (Nat.le_of_ble_eq_true rfl) (Nat.le_of_ble_eq_true rfl) dX11_weatherRefusal_41 ?_
        refine lv_topi (fun z_13 ez_13 => ?_)
        refine q_calli (q := (RX11, TX11, 14)) (As := [.int vs, .int 1, .int z_13]) (rest := []) X (k_refusal l D cs ad hj g vs 1 z_13 h0 h3) (cwV 3 X.2.2.2.2.1 gg_X11_weatherRefusal_X11_refusal rfl rfl rfl (by decide +kernel) ⟨Nat.le_of_ble_eq_true rfl, Nat.le_of_ble_eq_true rfl⟩) (by decide) h0 rfl hP hA hS rfl hl.1 rfl (Nat.le_of_ble_eq_true rfl) dX11_weatherRefusal_44 ⟨Nat.le_of_ble_eq_true rfl, Nat.le_of_ble_eq_true rfl⟩ (fun r_16 g_15 H locs hw_14 hP hS => ?_)
        obtain ⟨hw_14a, hw_14b⟩ := hw_14
        subst hw_14a
        rw [hw_14b] at hP
        exact q_iret X hP hS ⟨rfl, rfl⟩ dX11_weatherRefusal_47

theorem dX11_slams_0 : decode cX11_slams 0 = .ok (.aload_n 0, 1) := by decide +kernel
theorem dX11_slams_1 : decode cX11_slams 1 = .ok (.iload_n 1, 1) := by decide +kernel
theorem dX11_slams_2 : decode cX11_slams 2 = .ok (.iconst 1, 1) := by decide +kernel
theorem dX11_slams_3 : decode cX11_slams 3 = .ok (.aload_n 0, 1) := by decide +kernel
theorem dX11_slams_4 : decode cX11_slams 4 = .ok (.getfield 19, 3) := by decide +kernel
theorem dX11_slams_7 : decode cX11_slams 7 = .ok (.getfield 177, 3) := by decide +kernel
theorem dX11_slams_10 : decode cX11_slams 10 = .ok (.invokevirtual 260, 3) := by decide +kernel
theorem dX11_slams_13 : decode cX11_slams 13 = .ok (.istore_n 2, 1) := by decide +kernel
theorem dX11_slams_14 : decode cX11_slams 14 = .ok (.iload_n 2, 1) := by decide +kernel
theorem dX11_slams_15 : decode cX11_slams 15 = .ok (.ifCond .eq 5, 3) := by decide +kernel
theorem dX11_slams_18 : decode cX11_slams 18 = .ok (.iload_n 2, 1) := by decide +kernel
theorem dX11_slams_19 : decode cX11_slams 19 = .ok (.ireturn, 1) := by decide +kernel
def vX11_slams : List Cond := .code yX11_slams cX11_slams 3 (some .int) :: ([.fieldLink RX11 19 "IcicleClock" "now" "LIcicleClock$Street;", .fieldLink RX11 177 "IcicleClock$Street" "days" "I", .methodLink RX11 260 yX11_refusal, .instanceMethod yX11_refusal, .selects RX11 yX11_refusal yX11_refusal, .initialized RX11, .code yX11_refusal cX11_refusal 4 (some .int), .methodLink RX11 377 yX11_isSlot, .static yX11_isSlot, .code yX11_isSlot cX11_isSlot 1 (some .boolean), .methodLink RX11 195 yX11_isTold, .instanceMethod yX11_isTold, .selects RX11 yX11_isTold yX11_isTold, .code yX11_isTold cX11_isTold 1 (some .boolean), .fieldLink RX11 112 "IcicleClock$Street" "lines" "I"] ++ wsX110 ++ wsX60)
theorem iX11_slams_11 : ∀ w ∈ wsX110, w ∈ vX11_slams := fun _ h => List.mem_cons_of_mem _ (List.mem_append_left _ (List.mem_append_right _ h))
theorem iX11_slams_6 : ∀ w ∈ wsX60, w ∈ vX11_slams := fun _ h => List.mem_cons_of_mem _ (List.mem_append_right _ h)
set_option maxRecDepth 20000 in
theorem gg_X11_slams_X11_refusal : GoodIn vX11_slams (wsV RX11 260 RX11 yX11_refusal vX11_refusal) := goodIn_r _ [3, 4, 5, 6, 7, 8, 9, 6, 10, 11, 12, 13, 14, 1, 15, 16, 17, 18, 19, 20, 21, 22, 23, 24, 25, 26, 27, 28, 29, 30, 31, 32, 33, 34, 35, 36, 37, 38, 39, 40, 41, 42, 43, 44, 45, 46, 47] (by decide +kernel) (by decide +kernel)
set_option maxHeartbeats 4000000 in
set_option maxRecDepth 100000 in
theorem k_slams (l : Launch) (D : va_G) (cs : Nat → ClassId) (ad : Nat → Nat) (hj : wJ ad nW) (g : Nat → va_E) (vs : Int32) (h0 : g 0 = .inr (11, [.ref (ad 1), .ref (ad 3), .ref (ad 23), .ref (ad 43), .ref (ad 104), .ref (ad 105), .ref (ad 114), .ref (ad 116), .ref (ad 118), .ref (ad 120), .ref (ad 130), .ref (ad 140), .ref (ad 144), .ref (ad 190)])) (h3 : g 3 = .inr (6, [.int 0, .int 0, .int 0, .int 0, .int 0, .int 0, .int 0, .int 0, .ref (ad 4), .ref (ad 5), .ref (ad 6), .ref (ad 7), .ref (ad 8), .ref (ad 9), .ref (ad 10), .ref (ad 11), .ref (ad 12), .ref (ad 13)])) : cI l yX11_slams vX11_slams { frames := 2, cells := 0, slots := 0, locals := 43 } D cs ad nW [.ref (ad 0), .int vs] g (fun r g2 => r = (-2) ∧ g2 = g) := by
  refine Met.start (cc := cX11_slams) (maxL := 3) (ret := (some .int)) RX11 rfl (by decide) rfl (Nat.le_of_ble_eq_true rfl) ?_
  intro p e s m below meth c ls X hP hl
  have hx := X.1
  have hb := X.2.1
  have hS : va_S (wA ad nW) s.heap s.heap [] := va_S.rf
  have hA : ∀ i, i < nW → wA ad nW (ad i) := fun i h => ⟨i, h, rfl⟩
  have hl : lv_has ls 3 [(0, .ref (ad 0)), (1, .int vs)] := hl
  refine lv_aload_n hx hb dX11_slams_0 rfl (lv_at hl 0 rfl) ?_
  refine lv_iload_n hx hb dX11_slams_1 rfl (lv_at hl 1 rfl) ?_
  refine lv_iconst (v := 1) hx hb dX11_slams_2 (by decide) ?_
  refine lv_aload_n hx hb dX11_slams_3 rfl (lv_at hl 0 rfl) ?_
  refine q_get X iX11_slams_11 hP (by decide) h0 rfl 1 (by decide) (List.mem_of_getElem? (i := 1) rfl) (v := .ref (ad 3)) rfl dX11_slams_4 ?_
  refine q_get X iX11_slams_6 hP (by decide) h3 rfl 3 (by decide) (List.mem_of_getElem? (i := 2) rfl) (v := .int 0) rfl dX11_slams_7 ?_
  refine q_calli (q := (RX11, TX11, 14)) (As := [.int vs, .int 1, .int 0]) (rest := []) X (k_refusal l D cs ad hj g vs 1 0 h0 h3) (cwV 3 X.2.2.2.2.1 gg_X11_slams_X11_refusal rfl rfl rfl (by decide +kernel) ⟨Nat.le_of_ble_eq_true rfl, Nat.le_of_ble_eq_true rfl⟩) (by decide) h0 rfl hP hA hS rfl hl.1 rfl (Nat.le_of_ble_eq_true rfl) dX11_slams_10 ⟨Nat.le_of_ble_eq_true rfl, Nat.le_of_ble_eq_true rfl⟩ (fun r_3 g_2 H locs hw_1 hP hS => ?_)
  obtain ⟨hw_1a, hw_1b⟩ := hw_1
  subst hw_1a
  rw [hw_1b] at hP
  refine lv_istore_n (lv' := [(2, .int (-2)), (0, .ref (ad 0)), (1, .int vs)]) hx hb dX11_slams_13 rfl hl (by decide) rfl (fun ls hl => ?_)
  refine lv_iload_n hx hb dX11_slams_14 rfl (lv_at hl 0 rfl) ?_
  refine lv_if_eq (tgt := 20) hx hb dX11_slams_15 (by decide) (fun h => absurd h (by decide)) (fun _ => ?_)
  refine lv_iload_n hx hb dX11_slams_18 rfl (lv_at hl 0 rfl) ?_
  exact q_iret X hP hS ⟨rfl, rfl⟩ dX11_slams_19

theorem dX11_slam_0 : decode cX11_slam 0 = .ok (.aload_n 0, 1) := by decide +kernel
theorem dX11_slam_1 : decode cX11_slam 1 = .ok (.iload_n 1, 1) := by decide +kernel
theorem dX11_slam_2 : decode cX11_slam 2 = .ok (.iconst 1, 1) := by decide +kernel
theorem dX11_slam_3 : decode cX11_slam 3 = .ok (.aload_n 0, 1) := by decide +kernel
theorem dX11_slam_4 : decode cX11_slam 4 = .ok (.getfield 19, 3) := by decide +kernel
theorem dX11_slam_7 : decode cX11_slam 7 = .ok (.getfield 177, 3) := by decide +kernel
theorem dX11_slam_10 : decode cX11_slam 10 = .ok (.invokevirtual 260, 3) := by decide +kernel
theorem dX11_slam_13 : decode cX11_slam 13 = .ok (.istore_n 2, 1) := by decide +kernel
theorem dX11_slam_14 : decode cX11_slam 14 = .ok (.iload_n 2, 1) := by decide +kernel
theorem dX11_slam_15 : decode cX11_slam 15 = .ok (.ifCond .eq 5, 3) := by decide +kernel
theorem dX11_slam_18 : decode cX11_slam 18 = .ok (.iload_n 2, 1) := by decide +kernel
theorem dX11_slam_19 : decode cX11_slam 19 = .ok (.ireturn, 1) := by decide +kernel
def vX11_slam : List Cond := .code yX11_slam cX11_slam 3 (some .int) :: ([.fieldLink RX11 19 "IcicleClock" "now" "LIcicleClock$Street;", .fieldLink RX11 177 "IcicleClock$Street" "days" "I", .methodLink RX11 260 yX11_refusal, .instanceMethod yX11_refusal, .selects RX11 yX11_refusal yX11_refusal, .initialized RX11, .code yX11_refusal cX11_refusal 4 (some .int), .methodLink RX11 377 yX11_isSlot, .static yX11_isSlot, .code yX11_isSlot cX11_isSlot 1 (some .boolean), .methodLink RX11 195 yX11_isTold, .instanceMethod yX11_isTold, .selects RX11 yX11_isTold yX11_isTold, .code yX11_isTold cX11_isTold 1 (some .boolean), .fieldLink RX11 112 "IcicleClock$Street" "lines" "I"] ++ wsX110 ++ wsX60)
theorem iX11_slam_11 : ∀ w ∈ wsX110, w ∈ vX11_slam := fun _ h => List.mem_cons_of_mem _ (List.mem_append_left _ (List.mem_append_right _ h))
theorem iX11_slam_6 : ∀ w ∈ wsX60, w ∈ vX11_slam := fun _ h => List.mem_cons_of_mem _ (List.mem_append_right _ h)
set_option maxRecDepth 20000 in
theorem gg_X11_slam_X11_refusal : GoodIn vX11_slam (wsV RX11 260 RX11 yX11_refusal vX11_refusal) := goodIn_r _ [3, 4, 5, 6, 7, 8, 9, 6, 10, 11, 12, 13, 14, 1, 15, 16, 17, 18, 19, 20, 21, 22, 23, 24, 25, 26, 27, 28, 29, 30, 31, 32, 33, 34, 35, 36, 37, 38, 39, 40, 41, 42, 43, 44, 45, 46, 47] (by decide +kernel) (by decide +kernel)
set_option maxHeartbeats 4000000 in
set_option maxRecDepth 100000 in
theorem k_slam (l : Launch) (D : va_G) (cs : Nat → ClassId) (ad : Nat → Nat) (hj : wJ ad nW) (g : Nat → va_E) (vs : Int32) (h0 : g 0 = .inr (11, [.ref (ad 1), .ref (ad 3), .ref (ad 23), .ref (ad 43), .ref (ad 104), .ref (ad 105), .ref (ad 114), .ref (ad 116), .ref (ad 118), .ref (ad 120), .ref (ad 130), .ref (ad 140), .ref (ad 144), .ref (ad 190)])) (h3 : g 3 = .inr (6, [.int 0, .int 0, .int 0, .int 0, .int 0, .int 0, .int 0, .int 0, .ref (ad 4), .ref (ad 5), .ref (ad 6), .ref (ad 7), .ref (ad 8), .ref (ad 9), .ref (ad 10), .ref (ad 11), .ref (ad 12), .ref (ad 13)])) : cI l yX11_slam vX11_slam { frames := 2, cells := 0, slots := 0, locals := 43 } D cs ad nW [.ref (ad 0), .int vs] g (fun r g2 => r = (-2) ∧ g2 = g) := by
  refine Met.start (cc := cX11_slam) (maxL := 3) (ret := (some .int)) RX11 rfl (by decide) rfl (Nat.le_of_ble_eq_true rfl) ?_
  intro p e s m below meth c ls X hP hl
  have hx := X.1
  have hb := X.2.1
  have hS : va_S (wA ad nW) s.heap s.heap [] := va_S.rf
  have hA : ∀ i, i < nW → wA ad nW (ad i) := fun i h => ⟨i, h, rfl⟩
  have hl : lv_has ls 3 [(0, .ref (ad 0)), (1, .int vs)] := hl
  refine lv_aload_n hx hb dX11_slam_0 rfl (lv_at hl 0 rfl) ?_
  refine lv_iload_n hx hb dX11_slam_1 rfl (lv_at hl 1 rfl) ?_
  refine lv_iconst (v := 1) hx hb dX11_slam_2 (by decide) ?_
  refine lv_aload_n hx hb dX11_slam_3 rfl (lv_at hl 0 rfl) ?_
  refine q_get X iX11_slam_11 hP (by decide) h0 rfl 1 (by decide) (List.mem_of_getElem? (i := 1) rfl) (v := .ref (ad 3)) rfl dX11_slam_4 ?_
  refine q_get X iX11_slam_6 hP (by decide) h3 rfl 3 (by decide) (List.mem_of_getElem? (i := 2) rfl) (v := .int 0) rfl dX11_slam_7 ?_
  refine q_calli (q := (RX11, TX11, 14)) (As := [.int vs, .int 1, .int 0]) (rest := []) X (k_refusal l D cs ad hj g vs 1 0 h0 h3) (cwV 3 X.2.2.2.2.1 gg_X11_slam_X11_refusal rfl rfl rfl (by decide +kernel) ⟨Nat.le_of_ble_eq_true rfl, Nat.le_of_ble_eq_true rfl⟩) (by decide) h0 rfl hP hA hS rfl hl.1 rfl (Nat.le_of_ble_eq_true rfl) dX11_slam_10 ⟨Nat.le_of_ble_eq_true rfl, Nat.le_of_ble_eq_true rfl⟩ (fun r_3 g_2 H locs hw_1 hP hS => ?_)
  obtain ⟨hw_1a, hw_1b⟩ := hw_1
  subst hw_1a
  rw [hw_1b] at hP
  refine lv_istore_n (lv' := [(2, .int (-2)), (0, .ref (ad 0)), (1, .int vs)]) hx hb dX11_slam_13 rfl hl (by decide) rfl (fun ls hl => ?_)
  refine lv_iload_n hx hb dX11_slam_14 rfl (lv_at hl 0 rfl) ?_
  refine lv_if_eq (tgt := 20) hx hb dX11_slam_15 (by decide) (fun h => absurd h (by decide)) (fun _ => ?_)
  refine lv_iload_n hx hb dX11_slam_18 rfl (lv_at hl 0 rfl) ?_
  exact q_iret X hP hS ⟨rfl, rfl⟩ dX11_slam_19

theorem dX11_calm_0 : decode cX11_calm 0 = .ok (.aload_n 0, 1) := by decide +kernel
theorem dX11_calm_1 : decode cX11_calm 1 = .ok (.iload_n 1, 1) := by decide +kernel
theorem dX11_calm_2 : decode cX11_calm 2 = .ok (.iconst 1, 1) := by decide +kernel
theorem dX11_calm_3 : decode cX11_calm 3 = .ok (.aload_n 0, 1) := by decide +kernel
theorem dX11_calm_4 : decode cX11_calm 4 = .ok (.getfield 19, 3) := by decide +kernel
theorem dX11_calm_7 : decode cX11_calm 7 = .ok (.getfield 177, 3) := by decide +kernel
theorem dX11_calm_10 : decode cX11_calm 10 = .ok (.invokevirtual 260, 3) := by decide +kernel
theorem dX11_calm_13 : decode cX11_calm 13 = .ok (.istore_n 2, 1) := by decide +kernel
theorem dX11_calm_14 : decode cX11_calm 14 = .ok (.iload_n 2, 1) := by decide +kernel
theorem dX11_calm_15 : decode cX11_calm 15 = .ok (.ifCond .eq 5, 3) := by decide +kernel
theorem dX11_calm_18 : decode cX11_calm 18 = .ok (.iload_n 2, 1) := by decide +kernel
theorem dX11_calm_19 : decode cX11_calm 19 = .ok (.ireturn, 1) := by decide +kernel
def vX11_calm : List Cond := .code yX11_calm cX11_calm 3 (some .int) :: ([.fieldLink RX11 19 "IcicleClock" "now" "LIcicleClock$Street;", .fieldLink RX11 177 "IcicleClock$Street" "days" "I", .methodLink RX11 260 yX11_refusal, .instanceMethod yX11_refusal, .selects RX11 yX11_refusal yX11_refusal, .initialized RX11, .code yX11_refusal cX11_refusal 4 (some .int), .methodLink RX11 377 yX11_isSlot, .static yX11_isSlot, .code yX11_isSlot cX11_isSlot 1 (some .boolean), .methodLink RX11 195 yX11_isTold, .instanceMethod yX11_isTold, .selects RX11 yX11_isTold yX11_isTold, .code yX11_isTold cX11_isTold 1 (some .boolean), .fieldLink RX11 112 "IcicleClock$Street" "lines" "I"] ++ wsX110 ++ wsX60)
theorem iX11_calm_11 : ∀ w ∈ wsX110, w ∈ vX11_calm := fun _ h => List.mem_cons_of_mem _ (List.mem_append_left _ (List.mem_append_right _ h))
theorem iX11_calm_6 : ∀ w ∈ wsX60, w ∈ vX11_calm := fun _ h => List.mem_cons_of_mem _ (List.mem_append_right _ h)
set_option maxRecDepth 20000 in
theorem gg_X11_calm_X11_refusal : GoodIn vX11_calm (wsV RX11 260 RX11 yX11_refusal vX11_refusal) := goodIn_r _ [3, 4, 5, 6, 7, 8, 9, 6, 10, 11, 12, 13, 14, 1, 15, 16, 17, 18, 19, 20, 21, 22, 23, 24, 25, 26, 27, 28, 29, 30, 31, 32, 33, 34, 35, 36, 37, 38, 39, 40, 41, 42, 43, 44, 45, 46, 47] (by decide +kernel) (by decide +kernel)
set_option maxHeartbeats 4000000 in
set_option maxRecDepth 100000 in
theorem k_calm (l : Launch) (D : va_G) (cs : Nat → ClassId) (ad : Nat → Nat) (hj : wJ ad nW) (g : Nat → va_E) (vs : Int32) (h0 : g 0 = .inr (11, [.ref (ad 1), .ref (ad 3), .ref (ad 23), .ref (ad 43), .ref (ad 104), .ref (ad 105), .ref (ad 114), .ref (ad 116), .ref (ad 118), .ref (ad 120), .ref (ad 130), .ref (ad 140), .ref (ad 144), .ref (ad 190)])) (h3 : g 3 = .inr (6, [.int 0, .int 0, .int 0, .int 0, .int 0, .int 0, .int 0, .int 0, .ref (ad 4), .ref (ad 5), .ref (ad 6), .ref (ad 7), .ref (ad 8), .ref (ad 9), .ref (ad 10), .ref (ad 11), .ref (ad 12), .ref (ad 13)])) : cI l yX11_calm vX11_calm { frames := 2, cells := 0, slots := 0, locals := 43 } D cs ad nW [.ref (ad 0), .int vs] g (fun r g2 => r = (-2) ∧ g2 = g) := by
  refine Met.start (cc := cX11_calm) (maxL := 3) (ret := (some .int)) RX11 rfl (by decide) rfl (Nat.le_of_ble_eq_true rfl) ?_
  intro p e s m below meth c ls X hP hl
  have hx := X.1
  have hb := X.2.1
  have hS : va_S (wA ad nW) s.heap s.heap [] := va_S.rf
  have hA : ∀ i, i < nW → wA ad nW (ad i) := fun i h => ⟨i, h, rfl⟩
  have hl : lv_has ls 3 [(0, .ref (ad 0)), (1, .int vs)] := hl
  refine lv_aload_n hx hb dX11_calm_0 rfl (lv_at hl 0 rfl) ?_
  refine lv_iload_n hx hb dX11_calm_1 rfl (lv_at hl 1 rfl) ?_
  refine lv_iconst (v := 1) hx hb dX11_calm_2 (by decide) ?_
  refine lv_aload_n hx hb dX11_calm_3 rfl (lv_at hl 0 rfl) ?_
  refine q_get X iX11_calm_11 hP (by decide) h0 rfl 1 (by decide) (List.mem_of_getElem? (i := 1) rfl) (v := .ref (ad 3)) rfl dX11_calm_4 ?_
  refine q_get X iX11_calm_6 hP (by decide) h3 rfl 3 (by decide) (List.mem_of_getElem? (i := 2) rfl) (v := .int 0) rfl dX11_calm_7 ?_
  refine q_calli (q := (RX11, TX11, 14)) (As := [.int vs, .int 1, .int 0]) (rest := []) X (k_refusal l D cs ad hj g vs 1 0 h0 h3) (cwV 3 X.2.2.2.2.1 gg_X11_calm_X11_refusal rfl rfl rfl (by decide +kernel) ⟨Nat.le_of_ble_eq_true rfl, Nat.le_of_ble_eq_true rfl⟩) (by decide) h0 rfl hP hA hS rfl hl.1 rfl (Nat.le_of_ble_eq_true rfl) dX11_calm_10 ⟨Nat.le_of_ble_eq_true rfl, Nat.le_of_ble_eq_true rfl⟩ (fun r_3 g_2 H locs hw_1 hP hS => ?_)
  obtain ⟨hw_1a, hw_1b⟩ := hw_1
  subst hw_1a
  rw [hw_1b] at hP
  refine lv_istore_n (lv' := [(2, .int (-2)), (0, .ref (ad 0)), (1, .int vs)]) hx hb dX11_calm_13 rfl hl (by decide) rfl (fun ls hl => ?_)
  refine lv_iload_n hx hb dX11_calm_14 rfl (lv_at hl 0 rfl) ?_
  refine lv_if_eq (tgt := 20) hx hb dX11_calm_15 (by decide) (fun h => absurd h (by decide)) (fun _ => ?_)
  refine lv_iload_n hx hb dX11_calm_18 rfl (lv_at hl 0 rfl) ?_
  exact q_iret X hP hS ⟨rfl, rfl⟩ dX11_calm_19

theorem dX11_ask_0 : decode cX11_ask 0 = .ok (.aload_n 0, 1) := by decide +kernel
theorem dX11_ask_1 : decode cX11_ask 1 = .ok (.iload_n 1, 1) := by decide +kernel
theorem dX11_ask_2 : decode cX11_ask 2 = .ok (.iconst 1, 1) := by decide +kernel
theorem dX11_ask_3 : decode cX11_ask 3 = .ok (.aload_n 0, 1) := by decide +kernel
theorem dX11_ask_4 : decode cX11_ask 4 = .ok (.getfield 19, 3) := by decide +kernel
theorem dX11_ask_7 : decode cX11_ask 7 = .ok (.getfield 177, 3) := by decide +kernel
theorem dX11_ask_10 : decode cX11_ask 10 = .ok (.invokevirtual 260, 3) := by decide +kernel
theorem dX11_ask_13 : decode cX11_ask 13 = .ok (.istore_n 2, 1) := by decide +kernel
theorem dX11_ask_14 : decode cX11_ask 14 = .ok (.iload_n 2, 1) := by decide +kernel
theorem dX11_ask_15 : decode cX11_ask 15 = .ok (.ifCond .eq 5, 3) := by decide +kernel
theorem dX11_ask_18 : decode cX11_ask 18 = .ok (.iload_n 2, 1) := by decide +kernel
theorem dX11_ask_19 : decode cX11_ask 19 = .ok (.ireturn, 1) := by decide +kernel
def vX11_ask : List Cond := .code yX11_ask cX11_ask 3 (some .int) :: ([.fieldLink RX11 19 "IcicleClock" "now" "LIcicleClock$Street;", .fieldLink RX11 177 "IcicleClock$Street" "days" "I", .methodLink RX11 260 yX11_refusal, .instanceMethod yX11_refusal, .selects RX11 yX11_refusal yX11_refusal, .initialized RX11, .code yX11_refusal cX11_refusal 4 (some .int), .methodLink RX11 377 yX11_isSlot, .static yX11_isSlot, .code yX11_isSlot cX11_isSlot 1 (some .boolean), .methodLink RX11 195 yX11_isTold, .instanceMethod yX11_isTold, .selects RX11 yX11_isTold yX11_isTold, .code yX11_isTold cX11_isTold 1 (some .boolean), .fieldLink RX11 112 "IcicleClock$Street" "lines" "I"] ++ wsX110 ++ wsX60)
theorem iX11_ask_11 : ∀ w ∈ wsX110, w ∈ vX11_ask := fun _ h => List.mem_cons_of_mem _ (List.mem_append_left _ (List.mem_append_right _ h))
theorem iX11_ask_6 : ∀ w ∈ wsX60, w ∈ vX11_ask := fun _ h => List.mem_cons_of_mem _ (List.mem_append_right _ h)
set_option maxRecDepth 20000 in
theorem gg_X11_ask_X11_refusal : GoodIn vX11_ask (wsV RX11 260 RX11 yX11_refusal vX11_refusal) := goodIn_r _ [3, 4, 5, 6, 7, 8, 9, 6, 10, 11, 12, 13, 14, 1, 15, 16, 17, 18, 19, 20, 21, 22, 23, 24, 25, 26, 27, 28, 29, 30, 31, 32, 33, 34, 35, 36, 37, 38, 39, 40, 41, 42, 43, 44, 45, 46, 47] (by decide +kernel) (by decide +kernel)
set_option maxHeartbeats 4000000 in
set_option maxRecDepth 100000 in
theorem k_ask (l : Launch) (D : va_G) (cs : Nat → ClassId) (ad : Nat → Nat) (hj : wJ ad nW) (g : Nat → va_E) (vs : Int32) (h0 : g 0 = .inr (11, [.ref (ad 1), .ref (ad 3), .ref (ad 23), .ref (ad 43), .ref (ad 104), .ref (ad 105), .ref (ad 114), .ref (ad 116), .ref (ad 118), .ref (ad 120), .ref (ad 130), .ref (ad 140), .ref (ad 144), .ref (ad 190)])) (h3 : g 3 = .inr (6, [.int 0, .int 0, .int 0, .int 0, .int 0, .int 0, .int 0, .int 0, .ref (ad 4), .ref (ad 5), .ref (ad 6), .ref (ad 7), .ref (ad 8), .ref (ad 9), .ref (ad 10), .ref (ad 11), .ref (ad 12), .ref (ad 13)])) : cI l yX11_ask vX11_ask { frames := 2, cells := 0, slots := 0, locals := 43 } D cs ad nW [.ref (ad 0), .int vs] g (fun r g2 => r = (-2) ∧ g2 = g) := by
  refine Met.start (cc := cX11_ask) (maxL := 3) (ret := (some .int)) RX11 rfl (by decide) rfl (Nat.le_of_ble_eq_true rfl) ?_
  intro p e s m below meth c ls X hP hl
  have hx := X.1
  have hb := X.2.1
  have hS : va_S (wA ad nW) s.heap s.heap [] := va_S.rf
  have hA : ∀ i, i < nW → wA ad nW (ad i) := fun i h => ⟨i, h, rfl⟩
  have hl : lv_has ls 3 [(0, .ref (ad 0)), (1, .int vs)] := hl
  refine lv_aload_n hx hb dX11_ask_0 rfl (lv_at hl 0 rfl) ?_
  refine lv_iload_n hx hb dX11_ask_1 rfl (lv_at hl 1 rfl) ?_
  refine lv_iconst (v := 1) hx hb dX11_ask_2 (by decide) ?_
  refine lv_aload_n hx hb dX11_ask_3 rfl (lv_at hl 0 rfl) ?_
  refine q_get X iX11_ask_11 hP (by decide) h0 rfl 1 (by decide) (List.mem_of_getElem? (i := 1) rfl) (v := .ref (ad 3)) rfl dX11_ask_4 ?_
  refine q_get X iX11_ask_6 hP (by decide) h3 rfl 3 (by decide) (List.mem_of_getElem? (i := 2) rfl) (v := .int 0) rfl dX11_ask_7 ?_
  refine q_calli (q := (RX11, TX11, 14)) (As := [.int vs, .int 1, .int 0]) (rest := []) X (k_refusal l D cs ad hj g vs 1 0 h0 h3) (cwV 3 X.2.2.2.2.1 gg_X11_ask_X11_refusal rfl rfl rfl (by decide +kernel) ⟨Nat.le_of_ble_eq_true rfl, Nat.le_of_ble_eq_true rfl⟩) (by decide) h0 rfl hP hA hS rfl hl.1 rfl (Nat.le_of_ble_eq_true rfl) dX11_ask_10 ⟨Nat.le_of_ble_eq_true rfl, Nat.le_of_ble_eq_true rfl⟩ (fun r_3 g_2 H locs hw_1 hP hS => ?_)
  obtain ⟨hw_1a, hw_1b⟩ := hw_1
  subst hw_1a
  rw [hw_1b] at hP
  refine lv_istore_n (lv' := [(2, .int (-2)), (0, .ref (ad 0)), (1, .int vs)]) hx hb dX11_ask_13 rfl hl (by decide) rfl (fun ls hl => ?_)
  refine lv_iload_n hx hb dX11_ask_14 rfl (lv_at hl 0 rfl) ?_
  refine lv_if_eq (tgt := 20) hx hb dX11_ask_15 (by decide) (fun h => absurd h (by decide)) (fun _ => ?_)
  refine lv_iload_n hx hb dX11_ask_18 rfl (lv_at hl 0 rfl) ?_
  exact q_iret X hP hS ⟨rfl, rfl⟩ dX11_ask_19

theorem dX11_weathers_0 : decode cX11_weathers 0 = .ok (.aload_n 0, 1) := by decide +kernel
theorem dX11_weathers_1 : decode cX11_weathers 1 = .ok (.iload_n 1, 1) := by decide +kernel
theorem dX11_weathers_2 : decode cX11_weathers 2 = .ok (.iload_n 2, 1) := by decide +kernel
theorem dX11_weathers_3 : decode cX11_weathers 3 = .ok (.iconst 1, 1) := by decide +kernel
theorem dX11_weathers_4 : decode cX11_weathers 4 = .ok (.invokevirtual 281, 3) := by decide +kernel
theorem dX11_weathers_7 : decode cX11_weathers 7 = .ok (.istore_n 3, 1) := by decide +kernel
theorem dX11_weathers_8 : decode cX11_weathers 8 = .ok (.iload_n 3, 1) := by decide +kernel
theorem dX11_weathers_9 : decode cX11_weathers 9 = .ok (.ifCond .eq 5, 3) := by decide +kernel
theorem dX11_weathers_12 : decode cX11_weathers 12 = .ok (.iload_n 3, 1) := by decide +kernel
theorem dX11_weathers_13 : decode cX11_weathers 13 = .ok (.ireturn, 1) := by decide +kernel
def vX11_weathers : List Cond := .code yX11_weathers cX11_weathers 4 (some .int) :: ([.methodLink RX11 281 yX11_weatherRefusal, .instanceMethod yX11_weatherRefusal, .selects RX11 yX11_weatherRefusal yX11_weatherRefusal, .initialized RX11, .code yX11_weatherRefusal cX11_weatherRefusal 5 (some .int), .fieldLink RX11 19 "IcicleClock" "now" "LIcicleClock$Street;", .fieldLink RX11 177 "IcicleClock$Street" "days" "I", .methodLink RX11 220 Lib.Math.min.name, .static Lib.Math.min.name, .initialized "java/lang/Math", .code Lib.Math.min.name Lib.Math.min.code 2 (some .int), .methodLink RX11 260 yX11_refusal, .instanceMethod yX11_refusal, .selects RX11 yX11_refusal yX11_refusal, .code yX11_refusal cX11_refusal 4 (some .int), .methodLink RX11 377 yX11_isSlot, .static yX11_isSlot, .code yX11_isSlot cX11_isSlot 1 (some .boolean), .methodLink RX11 195 yX11_isTold, .instanceMethod yX11_isTold, .selects RX11 yX11_isTold yX11_isTold, .code yX11_isTold cX11_isTold 1 (some .boolean), .fieldLink RX11 112 "IcicleClock$Street" "lines" "I"] ++ wsX110 ++ wsX60)
theorem iX11_weathers_11 : ∀ w ∈ wsX110, w ∈ vX11_weathers := fun _ h => List.mem_cons_of_mem _ (List.mem_append_left _ (List.mem_append_right _ h))
theorem iX11_weathers_6 : ∀ w ∈ wsX60, w ∈ vX11_weathers := fun _ h => List.mem_cons_of_mem _ (List.mem_append_right _ h)
set_option maxRecDepth 20000 in
theorem gg_X11_weathers_X11_weatherRefusal : GoodIn vX11_weathers (wsV RX11 281 RX11 yX11_weatherRefusal vX11_weatherRefusal) := goodIn_r _ [1, 2, 3, 4, 5, 6, 7, 8, 9, 10, 11, 12, 13, 14, 4, 15, 16, 17, 18, 19, 20, 21, 22, 23, 24, 25, 26, 27, 28, 29, 30, 31, 32, 33, 34, 35, 36, 37, 38, 39, 40, 41, 42, 43, 44, 45, 46, 47, 48, 49, 50, 51, 52, 53, 54, 55] (by decide +kernel) (by decide +kernel)
set_option maxHeartbeats 4000000 in
set_option maxRecDepth 100000 in
theorem k_weathers (l : Launch) (D : va_G) (cs : Nat → ClassId) (ad : Nat → Nat) (hj : wJ ad nW) (g : Nat → va_E) (vs : Int32) (vn : Int32) (h0 : g 0 = .inr (11, [.ref (ad 1), .ref (ad 3), .ref (ad 23), .ref (ad 43), .ref (ad 104), .ref (ad 105), .ref (ad 114), .ref (ad 116), .ref (ad 118), .ref (ad 120), .ref (ad 130), .ref (ad 140), .ref (ad 144), .ref (ad 190)])) (h3 : g 3 = .inr (6, [.int 0, .int 0, .int 0, .int 0, .int 0, .int 0, .int 0, .int 0, .ref (ad 4), .ref (ad 5), .ref (ad 6), .ref (ad 7), .ref (ad 8), .ref (ad 9), .ref (ad 10), .ref (ad 11), .ref (ad 12), .ref (ad 13)])) : cI l yX11_weathers vX11_weathers { frames := 3, cells := 0, slots := 0, locals := 67 } D cs ad nW [.ref (ad 0), .int vs, .int vn] g (fun r g2 => r = (-2) ∧ g2 = g) := by
  refine Met.start (cc := cX11_weathers) (maxL := 4) (ret := (some .int)) RX11 rfl (by decide) rfl (Nat.le_of_ble_eq_true rfl) ?_
  intro p e s m below meth c ls X hP hl
  have hx := X.1
  have hb := X.2.1
  have hS : va_S (wA ad nW) s.heap s.heap [] := va_S.rf
  have hA : ∀ i, i < nW → wA ad nW (ad i) := fun i h => ⟨i, h, rfl⟩
  have hl : lv_has ls 4 [(0, .ref (ad 0)), (1, .int vs), (2, .int vn)] := hl
  refine lv_aload_n hx hb dX11_weathers_0 rfl (lv_at hl 0 rfl) ?_
  refine lv_iload_n hx hb dX11_weathers_1 rfl (lv_at hl 1 rfl) ?_
  refine lv_iload_n hx hb dX11_weathers_2 rfl (lv_at hl 2 rfl) ?_
  refine lv_iconst (v := 1) hx hb dX11_weathers_3 (by decide) ?_
  refine q_calli (q := (RX11, TX11, 14)) (As := [.int vs, .int vn, .int 1]) (rest := []) X (k_weatherRefusal l D cs ad hj g vs vn 1 h0 h3) (cwV 3 X.2.2.2.2.1 gg_X11_weathers_X11_weatherRefusal rfl rfl rfl (by decide +kernel) ⟨Nat.le_of_ble_eq_true rfl, Nat.le_of_ble_eq_true rfl⟩) (by decide) h0 rfl hP hA hS rfl hl.1 rfl (Nat.le_of_ble_eq_true rfl) dX11_weathers_4 ⟨Nat.le_of_ble_eq_true rfl, Nat.le_of_ble_eq_true rfl⟩ (fun r_3 g_2 H locs hw_1 hP hS => ?_)
  obtain ⟨hw_1a, hw_1b⟩ := hw_1
  subst hw_1a
  rw [hw_1b] at hP
  refine lv_istore_n (lv' := [(3, .int (-2)), (0, .ref (ad 0)), (1, .int vs), (2, .int vn)]) hx hb dX11_weathers_7 rfl hl (by decide) rfl (fun ls hl => ?_)
  refine lv_iload_n hx hb dX11_weathers_8 rfl (lv_at hl 0 rfl) ?_
  refine lv_if_eq (tgt := 14) hx hb dX11_weathers_9 (by decide) (fun h => absurd h (by decide)) (fun _ => ?_)
  refine lv_iload_n hx hb dX11_weathers_12 rfl (lv_at hl 0 rfl) ?_
  exact q_iret X hP hS ⟨rfl, rfl⟩ dX11_weathers_13

theorem dX11_weather_0 : decode cX11_weather 0 = .ok (.aload_n 0, 1) := by decide +kernel
theorem dX11_weather_1 : decode cX11_weather 1 = .ok (.iload_n 1, 1) := by decide +kernel
theorem dX11_weather_2 : decode cX11_weather 2 = .ok (.iload_n 2, 1) := by decide +kernel
theorem dX11_weather_3 : decode cX11_weather 3 = .ok (.iload_n 3, 1) := by decide +kernel
theorem dX11_weather_4 : decode cX11_weather 4 = .ok (.ifCond .lt 12, 3) := by decide +kernel
theorem dX11_weather_16 : decode cX11_weather 16 = .ok (.iconst 0, 1) := by decide +kernel
theorem dX11_weather_17 : decode cX11_weather 17 = .ok (.invokevirtual 281, 3) := by decide +kernel
theorem dX11_weather_20 : decode cX11_weather 20 = .ok (.istore 4, 2) := by decide +kernel
theorem dX11_weather_22 : decode cX11_weather 22 = .ok (.iload 4, 2) := by decide +kernel
theorem dX11_weather_24 : decode cX11_weather 24 = .ok (.ifCond .eq 6, 3) := by decide +kernel
theorem dX11_weather_27 : decode cX11_weather 27 = .ok (.iload 4, 2) := by decide +kernel
theorem dX11_weather_29 : decode cX11_weather 29 = .ok (.ireturn, 1) := by decide +kernel
theorem dX11_weather_7 : decode cX11_weather 7 = .ok (.iload_n 3, 1) := by decide +kernel
theorem dX11_weather_8 : decode cX11_weather 8 = .ok (.iload_n 2, 1) := by decide +kernel
theorem dX11_weather_9 : decode cX11_weather 9 = .ok (.if_icmp .ge 7, 3) := by decide +kernel
theorem dX11_weather_12 : decode cX11_weather 12 = .ok (.iconst 1, 1) := by decide +kernel
theorem dX11_weather_13 : decode cX11_weather 13 = .ok (.goto 4, 3) := by decide +kernel
def vX11_weather : List Cond := .code yX11_weather cX11_weather 5 (some .int) :: ([.methodLink RX11 281 yX11_weatherRefusal, .instanceMethod yX11_weatherRefusal, .selects RX11 yX11_weatherRefusal yX11_weatherRefusal, .initialized RX11, .code yX11_weatherRefusal cX11_weatherRefusal 5 (some .int), .fieldLink RX11 19 "IcicleClock" "now" "LIcicleClock$Street;", .fieldLink RX11 177 "IcicleClock$Street" "days" "I", .methodLink RX11 220 Lib.Math.min.name, .static Lib.Math.min.name, .initialized "java/lang/Math", .code Lib.Math.min.name Lib.Math.min.code 2 (some .int), .methodLink RX11 260 yX11_refusal, .instanceMethod yX11_refusal, .selects RX11 yX11_refusal yX11_refusal, .code yX11_refusal cX11_refusal 4 (some .int), .methodLink RX11 377 yX11_isSlot, .static yX11_isSlot, .code yX11_isSlot cX11_isSlot 1 (some .boolean), .methodLink RX11 195 yX11_isTold, .instanceMethod yX11_isTold, .selects RX11 yX11_isTold yX11_isTold, .code yX11_isTold cX11_isTold 1 (some .boolean), .fieldLink RX11 112 "IcicleClock$Street" "lines" "I"] ++ wsX110 ++ wsX60)
theorem iX11_weather_11 : ∀ w ∈ wsX110, w ∈ vX11_weather := fun _ h => List.mem_cons_of_mem _ (List.mem_append_left _ (List.mem_append_right _ h))
theorem iX11_weather_6 : ∀ w ∈ wsX60, w ∈ vX11_weather := fun _ h => List.mem_cons_of_mem _ (List.mem_append_right _ h)
set_option maxRecDepth 20000 in
theorem gg_X11_weather_X11_weatherRefusal : GoodIn vX11_weather (wsV RX11 281 RX11 yX11_weatherRefusal vX11_weatherRefusal) := goodIn_r _ [1, 2, 3, 4, 5, 6, 7, 8, 9, 10, 11, 12, 13, 14, 4, 15, 16, 17, 18, 19, 20, 21, 22, 23, 24, 25, 26, 27, 28, 29, 30, 31, 32, 33, 34, 35, 36, 37, 38, 39, 40, 41, 42, 43, 44, 45, 46, 47, 48, 49, 50, 51, 52, 53, 54, 55] (by decide +kernel) (by decide +kernel)
set_option maxHeartbeats 4000000 in
set_option maxRecDepth 100000 in
theorem k_weather (l : Launch) (D : va_G) (cs : Nat → ClassId) (ad : Nat → Nat) (hj : wJ ad nW) (g : Nat → va_E) (vs : Int32) (vn : Int32) (vd : Int32) (h0 : g 0 = .inr (11, [.ref (ad 1), .ref (ad 3), .ref (ad 23), .ref (ad 43), .ref (ad 104), .ref (ad 105), .ref (ad 114), .ref (ad 116), .ref (ad 118), .ref (ad 120), .ref (ad 130), .ref (ad 140), .ref (ad 144), .ref (ad 190)])) (h3 : g 3 = .inr (6, [.int 0, .int 0, .int 0, .int 0, .int 0, .int 0, .int 0, .int 0, .ref (ad 4), .ref (ad 5), .ref (ad 6), .ref (ad 7), .ref (ad 8), .ref (ad 9), .ref (ad 10), .ref (ad 11), .ref (ad 12), .ref (ad 13)])) : cI l yX11_weather vX11_weather { frames := 3, cells := 0, slots := 0, locals := 67 } D cs ad nW [.ref (ad 0), .int vs, .int vn, .int vd] g (fun r g2 => r = (-2) ∧ g2 = g) := by
  refine Met.start (cc := cX11_weather) (maxL := 5) (ret := (some .int)) RX11 rfl (by decide) rfl (Nat.le_of_ble_eq_true rfl) ?_
  intro p e s m below meth c ls X hP hl
  have hx := X.1
  have hb := X.2.1
  have hS : va_S (wA ad nW) s.heap s.heap [] := va_S.rf
  have hA : ∀ i, i < nW → wA ad nW (ad i) := fun i h => ⟨i, h, rfl⟩
  have hl : lv_has ls 5 [(0, .ref (ad 0)), (1, .int vs), (2, .int vn), (3, .int vd)] := hl
  refine lv_aload_n hx hb dX11_weather_0 rfl (lv_at hl 0 rfl) ?_
  refine lv_iload_n hx hb dX11_weather_1 rfl (lv_at hl 1 rfl) ?_
  refine lv_iload_n hx hb dX11_weather_2 rfl (lv_at hl 2 rfl) ?_
  refine lv_iload_n hx hb dX11_weather_3 rfl (lv_at hl 3 rfl) ?_
  refine lv_if_lt (tgt := 16) hx hb dX11_weather_4 (by decide) (fun hc_4 => ?_) (fun hc_4 => ?_)
  · refine lv_iconst (v := 0) hx hb dX11_weather_16 (by decide) ?_
    refine q_calli (q := (RX11, TX11, 14)) (As := [.int vs, .int vn, .int 0]) (rest := []) X (k_weatherRefusal l D cs ad hj g vs vn 0 h0 h3) (cwV 3 X.2.2.2.2.1 gg_X11_weather_X11_weatherRefusal rfl rfl rfl (by decide +kernel) ⟨Nat.le_of_ble_eq_true rfl, Nat.le_of_ble_eq_true rfl⟩) (by decide) h0 rfl hP hA hS rfl hl.1 rfl (Nat.le_of_ble_eq_true rfl) dX11_weather_17 ⟨Nat.le_of_ble_eq_true rfl, Nat.le_of_ble_eq_true rfl⟩ (fun r_3 g_2 H locs hw_1 hP hS => ?_)
    obtain ⟨hw_1a, hw_1b⟩ := hw_1
    subst hw_1a
    rw [hw_1b] at hP
    refine lv_istore (lv' := [(4, .int (-2)), (0, .ref (ad 0)), (1, .int vs), (2, .int vn), (3, .int vd)]) hx hb dX11_weather_20 hl (by decide) rfl (fun ls hl => ?_)
    refine lv_iload hx hb dX11_weather_22 (lv_at hl 0 rfl) ?_
    refine lv_if_eq (tgt := 30) hx hb dX11_weather_24 (by decide) (fun h => absurd h (by decide)) (fun _ => ?_)
    refine lv_iload hx hb dX11_weather_27 (lv_at hl 0 rfl) ?_
    exact q_iret X hP hS ⟨rfl, rfl⟩ dX11_weather_29
  · refine lv_iload_n hx hb dX11_weather_7 rfl (lv_at hl 3 rfl) ?_
    refine lv_iload_n hx hb dX11_weather_8 rfl (lv_at hl 2 rfl) ?_
    refine lv_icmp_ge (tgt := 16) hx hb dX11_weather_9 (by decide) (fun hc_9 => ?_) (fun hc_9 => ?_)
    · refine lv_iconst (v := 0) hx hb dX11_weather_16 (by decide) ?_
      refine q_calli (q := (RX11, TX11, 14)) (As := [.int vs, .int vn, .int 0]) (rest := []) X (k_weatherRefusal l D cs ad hj g vs vn 0 h0 h3) (cwV 3 X.2.2.2.2.1 gg_X11_weather_X11_weatherRefusal rfl rfl rfl (by decide +kernel) ⟨Nat.le_of_ble_eq_true rfl, Nat.le_of_ble_eq_true rfl⟩) (by decide) h0 rfl hP hA hS rfl hl.1 rfl (Nat.le_of_ble_eq_true rfl) dX11_weather_17 ⟨Nat.le_of_ble_eq_true rfl, Nat.le_of_ble_eq_true rfl⟩ (fun r_6 g_5 H locs hw_4 hP hS => ?_)
      obtain ⟨hw_4a, hw_4b⟩ := hw_4
      subst hw_4a
      rw [hw_4b] at hP
      refine lv_istore (lv' := [(4, .int (-2)), (0, .ref (ad 0)), (1, .int vs), (2, .int vn), (3, .int vd)]) hx hb dX11_weather_20 hl (by decide) rfl (fun ls hl => ?_)
      refine lv_iload hx hb dX11_weather_22 (lv_at hl 0 rfl) ?_
      refine lv_if_eq (tgt := 30) hx hb dX11_weather_24 (by decide) (fun h => absurd h (by decide)) (fun _ => ?_)
      refine lv_iload hx hb dX11_weather_27 (lv_at hl 0 rfl) ?_
      exact q_iret X hP hS ⟨rfl, rfl⟩ dX11_weather_29
    · refine lv_iconst (v := 1) hx hb dX11_weather_12 (by decide) ?_
      refine lv_goto (tgt := 17) hx hb dX11_weather_13 (by decide) ?_
      refine q_calli (q := (RX11, TX11, 14)) (As := [.int vs, .int vn, .int 1]) (rest := []) X (k_weatherRefusal l D cs ad hj g vs vn 1 h0 h3) (cwV 3 X.2.2.2.2.1 gg_X11_weather_X11_weatherRefusal rfl rfl rfl (by decide +kernel) ⟨Nat.le_of_ble_eq_true rfl, Nat.le_of_ble_eq_true rfl⟩) (by decide) h0 rfl hP hA hS rfl hl.1 rfl (Nat.le_of_ble_eq_true rfl) dX11_weather_17 ⟨Nat.le_of_ble_eq_true rfl, Nat.le_of_ble_eq_true rfl⟩ (fun r_9 g_8 H locs hw_7 hP hS => ?_)
      obtain ⟨hw_7a, hw_7b⟩ := hw_7
      subst hw_7a
      rw [hw_7b] at hP
      refine lv_istore (lv' := [(4, .int (-2)), (0, .ref (ad 0)), (1, .int vs), (2, .int vn), (3, .int vd)]) hx hb dX11_weather_20 hl (by decide) rfl (fun ls hl => ?_)
      refine lv_iload hx hb dX11_weather_22 (lv_at hl 0 rfl) ?_
      refine lv_if_eq (tgt := 30) hx hb dX11_weather_24 (by decide) (fun h => absurd h (by decide)) (fun _ => ?_)
      refine lv_iload hx hb dX11_weather_27 (lv_at hl 0 rfl) ?_
      exact q_iret X hP hS ⟨rfl, rfl⟩ dX11_weather_29

theorem dX11_warmth_0 : decode cX11_warmth 0 = .ok (.aload_n 0, 1) := by decide +kernel
theorem dX11_warmth_1 : decode cX11_warmth 1 = .ok (.iload_n 1, 1) := by decide +kernel
theorem dX11_warmth_2 : decode cX11_warmth 2 = .ok (.iload_n 2, 1) := by decide +kernel
theorem dX11_warmth_3 : decode cX11_warmth 3 = .ok (.iload_n 3, 1) := by decide +kernel
theorem dX11_warmth_4 : decode cX11_warmth 4 = .ok (.invokestatic 151, 3) := by decide +kernel
theorem dX11_warmth_7 : decode cX11_warmth 7 = .ok (.invokevirtual 281, 3) := by decide +kernel
theorem dX11_warmth_10 : decode cX11_warmth 10 = .ok (.istore 4, 2) := by decide +kernel
theorem dX11_warmth_12 : decode cX11_warmth 12 = .ok (.iload 4, 2) := by decide +kernel
theorem dX11_warmth_14 : decode cX11_warmth 14 = .ok (.ifCond .eq 6, 3) := by decide +kernel
theorem dX11_warmth_17 : decode cX11_warmth 17 = .ok (.iload 4, 2) := by decide +kernel
theorem dX11_warmth_19 : decode cX11_warmth 19 = .ok (.ireturn, 1) := by decide +kernel
def vX11_warmth : List Cond := .code yX11_warmth cX11_warmth 5 (some .int) :: ([.methodLink RX11 151 yX11_isEither, .static yX11_isEither, .initialized RX11, .code yX11_isEither cX11_isEither 1 (some .boolean), .methodLink RX11 281 yX11_weatherRefusal, .instanceMethod yX11_weatherRefusal, .selects RX11 yX11_weatherRefusal yX11_weatherRefusal, .code yX11_weatherRefusal cX11_weatherRefusal 5 (some .int), .fieldLink RX11 19 "IcicleClock" "now" "LIcicleClock$Street;", .fieldLink RX11 177 "IcicleClock$Street" "days" "I", .methodLink RX11 220 Lib.Math.min.name, .static Lib.Math.min.name, .initialized "java/lang/Math", .code Lib.Math.min.name Lib.Math.min.code 2 (some .int), .methodLink RX11 260 yX11_refusal, .instanceMethod yX11_refusal, .selects RX11 yX11_refusal yX11_refusal, .code yX11_refusal cX11_refusal 4 (some .int), .methodLink RX11 377 yX11_isSlot, .static yX11_isSlot, .code yX11_isSlot cX11_isSlot 1 (some .boolean), .methodLink RX11 195 yX11_isTold, .instanceMethod yX11_isTold, .selects RX11 yX11_isTold yX11_isTold, .code yX11_isTold cX11_isTold 1 (some .boolean), .fieldLink RX11 112 "IcicleClock$Street" "lines" "I"] ++ wsX110 ++ wsX60)
theorem iX11_warmth_11 : ∀ w ∈ wsX110, w ∈ vX11_warmth := fun _ h => List.mem_cons_of_mem _ (List.mem_append_left _ (List.mem_append_right _ h))
theorem iX11_warmth_6 : ∀ w ∈ wsX60, w ∈ vX11_warmth := fun _ h => List.mem_cons_of_mem _ (List.mem_append_right _ h)
set_option maxRecDepth 20000 in
theorem gg_X11_warmth_X11_isEither : GoodIn vX11_warmth (wsS RX11 151 yX11_isEither vX11_isEither) := goodIn_r _ [1, 2, 3, 4] (by decide +kernel) (by decide +kernel)
set_option maxRecDepth 20000 in
theorem gg_X11_warmth_X11_weatherRefusal : GoodIn vX11_warmth (wsV RX11 281 RX11 yX11_weatherRefusal vX11_weatherRefusal) := goodIn_r _ [5, 6, 7, 3, 8, 9, 10, 11, 12, 13, 14, 15, 16, 17, 3, 18, 19, 20, 21, 22, 23, 24, 25, 26, 27, 28, 29, 30, 31, 32, 33, 34, 35, 36, 37, 38, 39, 40, 41, 42, 43, 44, 45, 46, 47, 48, 49, 50, 51, 52, 53, 54, 55, 56, 57, 58] (by decide +kernel) (by decide +kernel)
set_option maxHeartbeats 4000000 in
set_option maxRecDepth 100000 in
theorem k_warmth (l : Launch) (D : va_G) (cs : Nat → ClassId) (ad : Nat → Nat) (hj : wJ ad nW) (g : Nat → va_E) (vs : Int32) (vn : Int32) (vw : Int32) (h0 : g 0 = .inr (11, [.ref (ad 1), .ref (ad 3), .ref (ad 23), .ref (ad 43), .ref (ad 104), .ref (ad 105), .ref (ad 114), .ref (ad 116), .ref (ad 118), .ref (ad 120), .ref (ad 130), .ref (ad 140), .ref (ad 144), .ref (ad 190)])) (h3 : g 3 = .inr (6, [.int 0, .int 0, .int 0, .int 0, .int 0, .int 0, .int 0, .int 0, .ref (ad 4), .ref (ad 5), .ref (ad 6), .ref (ad 7), .ref (ad 8), .ref (ad 9), .ref (ad 10), .ref (ad 11), .ref (ad 12), .ref (ad 13)])) : cI l yX11_warmth vX11_warmth { frames := 3, cells := 0, slots := 0, locals := 67 } D cs ad nW [.ref (ad 0), .int vs, .int vn, .int vw] g (fun r g2 => r = (-2) ∧ g2 = g) := by
  refine Met.start (cc := cX11_warmth) (maxL := 5) (ret := (some .int)) RX11 rfl (by decide) rfl (Nat.le_of_ble_eq_true rfl) ?_
  intro p e s m below meth c ls X hP hl
  have hx := X.1
  have hb := X.2.1
  have hS : va_S (wA ad nW) s.heap s.heap [] := va_S.rf
  have hA : ∀ i, i < nW → wA ad nW (ad i) := fun i h => ⟨i, h, rfl⟩
  have hl : lv_has ls 5 [(0, .ref (ad 0)), (1, .int vs), (2, .int vn), (3, .int vw)] := hl
  refine lv_aload_n hx hb dX11_warmth_0 rfl (lv_at hl 0 rfl) ?_
  refine lv_iload_n hx hb dX11_warmth_1 rfl (lv_at hl 1 rfl) ?_
  refine lv_iload_n hx hb dX11_warmth_2 rfl (lv_at hl 2 rfl) ?_
  refine lv_iload_n hx hb dX11_warmth_3 rfl (lv_at hl 3 rfl) ?_
  refine q_callSi (As := [.int vw]) (rest := [.int vn, .int vs, .ref (ad 0)]) X (k_isEither l D cs ad hj g vw ) (cwS 1 X.2.2.2.2.1 gg_X11_warmth_X11_isEither rfl rfl rfl (by decide +kernel) ⟨Nat.le_of_ble_eq_true rfl, Nat.le_of_ble_eq_true rfl⟩) hP hA hS rfl hl.1 rfl (Nat.le_of_ble_eq_true rfl) dX11_warmth_4 ⟨Nat.le_of_ble_eq_true rfl, Nat.le_of_ble_eq_true rfl⟩ (fun r_3 g_2 H locs hw_1 hP hS => ?_)
  obtain ⟨hw_1b, hw_1⟩ := hw_1
  rw [hw_1b] at hP
  refine q_calli (q := (RX11, TX11, 14)) (As := [.int vs, .int vn, .int r_3]) (rest := []) X (k_weatherRefusal l D cs ad hj g vs vn r_3 h0 h3) (cwV 3 X.2.2.2.2.1 gg_X11_warmth_X11_weatherRefusal rfl rfl rfl (by decide +kernel) ⟨Nat.le_of_ble_eq_true rfl, Nat.le_of_ble_eq_true rfl⟩) (by decide) h0 rfl hP hA hS rfl hl.1 rfl (Nat.le_of_ble_eq_true rfl) dX11_warmth_7 ⟨Nat.le_of_ble_eq_true rfl, Nat.le_of_ble_eq_true rfl⟩ (fun r_6 g_5 H locs hw_4 hP hS => ?_)
  obtain ⟨hw_4a, hw_4b⟩ := hw_4
  subst hw_4a
  rw [hw_4b] at hP
  refine lv_istore (lv' := [(4, .int (-2)), (0, .ref (ad 0)), (1, .int vs), (2, .int vn), (3, .int vw)]) hx hb dX11_warmth_10 hl (by decide) rfl (fun ls hl => ?_)
  refine lv_iload hx hb dX11_warmth_12 (lv_at hl 0 rfl) ?_
  refine lv_if_eq (tgt := 20) hx hb dX11_warmth_14 (by decide) (fun h => absurd h (by decide)) (fun _ => ?_)
  refine lv_iload hx hb dX11_warmth_17 (lv_at hl 0 rfl) ?_
  exact q_iret X hP hS ⟨rfl, rfl⟩ dX11_warmth_19

theorem dX11_chance_0 : decode cX11_chance 0 = .ok (.aload_n 0, 1) := by decide +kernel
theorem dX11_chance_1 : decode cX11_chance 1 = .ok (.iload_n 1, 1) := by decide +kernel
theorem dX11_chance_2 : decode cX11_chance 2 = .ok (.invokevirtual 136, 3) := by decide +kernel
theorem dX11_chance_5 : decode cX11_chance 5 = .ok (.ifCond .eq 18, 3) := by decide +kernel
theorem dX11_chance_23 : decode cX11_chance 23 = .ok (.ldc2_w 300, 3) := by decide +kernel
theorem dX11_chance_26 : decode cX11_chance 26 = .ok (.lreturn, 1) := by decide +kernel
def vX11_chance : List Cond := .code yX11_chance cX11_chance 10 (some .long) :: ([.methodLink RX11 136 yX11_isIcicle, .instanceMethod yX11_isIcicle, .selects RX11 yX11_isIcicle yX11_isIcicle, .initialized RX11, .code yX11_isIcicle cX11_isIcicle 2 (some .boolean), .fieldLink RX11 19 "IcicleClock" "now" "LIcicleClock$Street;", .fieldLink RX11 160 "IcicleClock$Street" "icicles" "I", .constantLong RX11 300 (-2)] ++ wsX110 ++ wsX60)
theorem iX11_chance_11 : ∀ w ∈ wsX110, w ∈ vX11_chance := fun _ h => List.mem_cons_of_mem _ (List.mem_append_left _ (List.mem_append_right _ h))
theorem iX11_chance_6 : ∀ w ∈ wsX60, w ∈ vX11_chance := fun _ h => List.mem_cons_of_mem _ (List.mem_append_right _ h)
set_option maxRecDepth 20000 in
theorem gg_X11_chance_X11_isIcicle : GoodIn vX11_chance (wsV RX11 136 RX11 yX11_isIcicle vX11_isIcicle) := goodIn_r _ [1, 2, 3, 4, 5, 6, 7, 9, 10, 11, 12, 13, 14, 15, 16, 17, 18, 19, 20, 21, 22, 23, 24, 25, 26, 27, 28, 29, 30, 31, 32, 33, 34, 35, 36, 37, 38, 39, 40] (by decide +kernel) (by decide +kernel)
set_option maxHeartbeats 4000000 in
set_option maxRecDepth 100000 in
theorem k_chance (l : Launch) (D : va_G) (cs : Nat → ClassId) (ad : Nat → Nat) (hj : wJ ad nW) (g : Nat → va_E) (vi : Int32) (vd : Int32) (vw : Int32) (h0 : g 0 = .inr (11, [.ref (ad 1), .ref (ad 3), .ref (ad 23), .ref (ad 43), .ref (ad 104), .ref (ad 105), .ref (ad 114), .ref (ad 116), .ref (ad 118), .ref (ad 120), .ref (ad 130), .ref (ad 140), .ref (ad 144), .ref (ad 190)])) (h3 : g 3 = .inr (6, [.int 0, .int 0, .int 0, .int 0, .int 0, .int 0, .int 0, .int 0, .ref (ad 4), .ref (ad 5), .ref (ad 6), .ref (ad 7), .ref (ad 8), .ref (ad 9), .ref (ad 10), .ref (ad 11), .ref (ad 12), .ref (ad 13)])) : cJ l yX11_chance vX11_chance { frames := 1, cells := 0, slots := 0, locals := 21 } D cs ad nW [.ref (ad 0), .int vi, .int vd, .int vw] g (fun r g2 => r = (-2) ∧ g2 = g) := by
  refine Met.start (cc := cX11_chance) (maxL := 10) (ret := (some .long)) RX11 rfl (by decide) rfl (Nat.le_of_ble_eq_true rfl) ?_
  intro p e s m below meth c ls X hP hl
  have hx := X.1
  have hb := X.2.1
  have hS : va_S (wA ad nW) s.heap s.heap [] := va_S.rf
  have hA : ∀ i, i < nW → wA ad nW (ad i) := fun i h => ⟨i, h, rfl⟩
  have hl : lv_has ls 10 [(0, .ref (ad 0)), (1, .int vi), (2, .int vd), (3, .int vw)] := hl
  refine lv_aload_n hx hb dX11_chance_0 rfl (lv_at hl 0 rfl) ?_
  refine lv_iload_n hx hb dX11_chance_1 rfl (lv_at hl 1 rfl) ?_
  refine q_calli (q := (RX11, TX11, 14)) (As := [.int vi]) (rest := []) X (k_isIcicle l D cs ad hj g vi h0 h3) (cwV 1 X.2.2.2.2.1 gg_X11_chance_X11_isIcicle rfl rfl rfl (by decide +kernel) ⟨Nat.le_of_ble_eq_true rfl, Nat.le_of_ble_eq_true rfl⟩) (by decide) h0 rfl hP hA hS rfl hl.1 rfl (Nat.le_of_ble_eq_true rfl) dX11_chance_2 ⟨Nat.le_of_ble_eq_true rfl, Nat.le_of_ble_eq_true rfl⟩ (fun r_3 g_2 H locs hw_1 hP hS => ?_)
  obtain ⟨hw_1a, hw_1b⟩ := hw_1
  subst hw_1a
  rw [hw_1b] at hP
  refine lv_if_eq (tgt := 23) hx hb dX11_chance_5 (by decide) (fun _ => ?_) (fun h => absurd h (by decide))
  refine lv_ldc2 (v := (-2)) hx hb X.2.2.2.2.2.1 (X.2.2.2.2.1 _ (List.mem_of_getElem? (i := 8) rfl)) dX11_chance_23 ?_
  exact q_lret X hP hS ⟨rfl, rfl⟩ dX11_chance_26

theorem dX11_likely_0 : decode cX11_likely 0 = .ok (.aload_n 0, 1) := by decide +kernel
theorem dX11_likely_1 : decode cX11_likely 1 = .ok (.iload_n 1, 1) := by decide +kernel
theorem dX11_likely_2 : decode cX11_likely 2 = .ok (.invokevirtual 136, 3) := by decide +kernel
theorem dX11_likely_5 : decode cX11_likely 5 = .ok (.ifCond .ne 6, 3) := by decide +kernel
theorem dX11_likely_8 : decode cX11_likely 8 = .ok (.bipush (-2), 2) := by decide +kernel
theorem dX11_likely_10 : decode cX11_likely 10 = .ok (.ireturn, 1) := by decide +kernel
def vX11_likely : List Cond := .code yX11_likely cX11_likely 2 (some .int) :: ([.methodLink RX11 136 yX11_isIcicle, .instanceMethod yX11_isIcicle, .selects RX11 yX11_isIcicle yX11_isIcicle, .initialized RX11, .code yX11_isIcicle cX11_isIcicle 2 (some .boolean), .fieldLink RX11 19 "IcicleClock" "now" "LIcicleClock$Street;", .fieldLink RX11 160 "IcicleClock$Street" "icicles" "I"] ++ wsX110 ++ wsX60)
theorem iX11_likely_11 : ∀ w ∈ wsX110, w ∈ vX11_likely := fun _ h => List.mem_cons_of_mem _ (List.mem_append_left _ (List.mem_append_right _ h))
theorem iX11_likely_6 : ∀ w ∈ wsX60, w ∈ vX11_likely := fun _ h => List.mem_cons_of_mem _ (List.mem_append_right _ h)
set_option maxRecDepth 20000 in
theorem gg_X11_likely_X11_isIcicle : GoodIn vX11_likely (wsV RX11 136 RX11 yX11_isIcicle vX11_isIcicle) := goodIn_r _ [1, 2, 3, 4, 5, 6, 7, 8, 9, 10, 11, 12, 13, 14, 15, 16, 17, 18, 19, 20, 21, 22, 23, 24, 25, 26, 27, 28, 29, 30, 31, 32, 33, 34, 35, 36, 37, 38, 39] (by decide +kernel) (by decide +kernel)
set_option maxHeartbeats 4000000 in
set_option maxRecDepth 100000 in
theorem k_likely (l : Launch) (D : va_G) (cs : Nat → ClassId) (ad : Nat → Nat) (hj : wJ ad nW) (g : Nat → va_E) (vi : Int32) (h0 : g 0 = .inr (11, [.ref (ad 1), .ref (ad 3), .ref (ad 23), .ref (ad 43), .ref (ad 104), .ref (ad 105), .ref (ad 114), .ref (ad 116), .ref (ad 118), .ref (ad 120), .ref (ad 130), .ref (ad 140), .ref (ad 144), .ref (ad 190)])) (h3 : g 3 = .inr (6, [.int 0, .int 0, .int 0, .int 0, .int 0, .int 0, .int 0, .int 0, .ref (ad 4), .ref (ad 5), .ref (ad 6), .ref (ad 7), .ref (ad 8), .ref (ad 9), .ref (ad 10), .ref (ad 11), .ref (ad 12), .ref (ad 13)])) : cI l yX11_likely vX11_likely { frames := 1, cells := 0, slots := 0, locals := 21 } D cs ad nW [.ref (ad 0), .int vi] g (fun r g2 => r = (-2) ∧ g2 = g) := by
  refine Met.start (cc := cX11_likely) (maxL := 2) (ret := (some .int)) RX11 rfl (by decide) rfl (Nat.le_of_ble_eq_true rfl) ?_
  intro p e s m below meth c ls X hP hl
  have hx := X.1
  have hb := X.2.1
  have hS : va_S (wA ad nW) s.heap s.heap [] := va_S.rf
  have hA : ∀ i, i < nW → wA ad nW (ad i) := fun i h => ⟨i, h, rfl⟩
  have hl : lv_has ls 2 [(0, .ref (ad 0)), (1, .int vi)] := hl
  refine lv_aload_n hx hb dX11_likely_0 rfl (lv_at hl 0 rfl) ?_
  refine lv_iload_n hx hb dX11_likely_1 rfl (lv_at hl 1 rfl) ?_
  refine q_calli (q := (RX11, TX11, 14)) (As := [.int vi]) (rest := []) X (k_isIcicle l D cs ad hj g vi h0 h3) (cwV 1 X.2.2.2.2.1 gg_X11_likely_X11_isIcicle rfl rfl rfl (by decide +kernel) ⟨Nat.le_of_ble_eq_true rfl, Nat.le_of_ble_eq_true rfl⟩) (by decide) h0 rfl hP hA hS rfl hl.1 rfl (Nat.le_of_ble_eq_true rfl) dX11_likely_2 ⟨Nat.le_of_ble_eq_true rfl, Nat.le_of_ble_eq_true rfl⟩ (fun r_3 g_2 H locs hw_1 hP hS => ?_)
  obtain ⟨hw_1a, hw_1b⟩ := hw_1
  subst hw_1a
  rw [hw_1b] at hP
  refine lv_if_ne (tgt := 11) hx hb dX11_likely_5 (by decide) (fun h => absurd h (by decide)) (fun _ => ?_)
  refine lv_bipush (v := (-2)) hx hb dX11_likely_8 (by decide) ?_
  exact q_iret X hP hS ⟨rfl, rfl⟩ dX11_likely_10

theorem dX11_surest_0 : decode cX11_surest 0 = .ok (.aload_n 0, 1) := by decide +kernel
theorem dX11_surest_1 : decode cX11_surest 1 = .ok (.iload_n 1, 1) := by decide +kernel
theorem dX11_surest_2 : decode cX11_surest 2 = .ok (.invokevirtual 136, 3) := by decide +kernel
theorem dX11_surest_5 : decode cX11_surest 5 = .ok (.ifCond .eq 11, 3) := by decide +kernel
theorem dX11_surest_16 : decode cX11_surest 16 = .ok (.bipush (-2), 2) := by decide +kernel
theorem dX11_surest_18 : decode cX11_surest 18 = .ok (.ireturn, 1) := by decide +kernel
def vX11_surest : List Cond := .code yX11_surest cX11_surest 7 (some .int) :: ([.methodLink RX11 136 yX11_isIcicle, .instanceMethod yX11_isIcicle, .selects RX11 yX11_isIcicle yX11_isIcicle, .initialized RX11, .code yX11_isIcicle cX11_isIcicle 2 (some .boolean), .fieldLink RX11 19 "IcicleClock" "now" "LIcicleClock$Street;", .fieldLink RX11 160 "IcicleClock$Street" "icicles" "I"] ++ wsX110 ++ wsX60)
theorem iX11_surest_11 : ∀ w ∈ wsX110, w ∈ vX11_surest := fun _ h => List.mem_cons_of_mem _ (List.mem_append_left _ (List.mem_append_right _ h))
theorem iX11_surest_6 : ∀ w ∈ wsX60, w ∈ vX11_surest := fun _ h => List.mem_cons_of_mem _ (List.mem_append_right _ h)
set_option maxRecDepth 20000 in
theorem gg_X11_surest_X11_isIcicle : GoodIn vX11_surest (wsV RX11 136 RX11 yX11_isIcicle vX11_isIcicle) := goodIn_r _ [1, 2, 3, 4, 5, 6, 7, 8, 9, 10, 11, 12, 13, 14, 15, 16, 17, 18, 19, 20, 21, 22, 23, 24, 25, 26, 27, 28, 29, 30, 31, 32, 33, 34, 35, 36, 37, 38, 39] (by decide +kernel) (by decide +kernel)
set_option maxHeartbeats 4000000 in
set_option maxRecDepth 100000 in
theorem k_surest (l : Launch) (D : va_G) (cs : Nat → ClassId) (ad : Nat → Nat) (hj : wJ ad nW) (g : Nat → va_E) (vi : Int32) (vd : Int32) (h0 : g 0 = .inr (11, [.ref (ad 1), .ref (ad 3), .ref (ad 23), .ref (ad 43), .ref (ad 104), .ref (ad 105), .ref (ad 114), .ref (ad 116), .ref (ad 118), .ref (ad 120), .ref (ad 130), .ref (ad 140), .ref (ad 144), .ref (ad 190)])) (h3 : g 3 = .inr (6, [.int 0, .int 0, .int 0, .int 0, .int 0, .int 0, .int 0, .int 0, .ref (ad 4), .ref (ad 5), .ref (ad 6), .ref (ad 7), .ref (ad 8), .ref (ad 9), .ref (ad 10), .ref (ad 11), .ref (ad 12), .ref (ad 13)])) : cI l yX11_surest vX11_surest { frames := 1, cells := 0, slots := 0, locals := 21 } D cs ad nW [.ref (ad 0), .int vi, .int vd] g (fun r g2 => r = (-2) ∧ g2 = g) := by
  refine Met.start (cc := cX11_surest) (maxL := 7) (ret := (some .int)) RX11 rfl (by decide) rfl (Nat.le_of_ble_eq_true rfl) ?_
  intro p e s m below meth c ls X hP hl
  have hx := X.1
  have hb := X.2.1
  have hS : va_S (wA ad nW) s.heap s.heap [] := va_S.rf
  have hA : ∀ i, i < nW → wA ad nW (ad i) := fun i h => ⟨i, h, rfl⟩
  have hl : lv_has ls 7 [(0, .ref (ad 0)), (1, .int vi), (2, .int vd)] := hl
  refine lv_aload_n hx hb dX11_surest_0 rfl (lv_at hl 0 rfl) ?_
  refine lv_iload_n hx hb dX11_surest_1 rfl (lv_at hl 1 rfl) ?_
  refine q_calli (q := (RX11, TX11, 14)) (As := [.int vi]) (rest := []) X (k_isIcicle l D cs ad hj g vi h0 h3) (cwV 1 X.2.2.2.2.1 gg_X11_surest_X11_isIcicle rfl rfl rfl (by decide +kernel) ⟨Nat.le_of_ble_eq_true rfl, Nat.le_of_ble_eq_true rfl⟩) (by decide) h0 rfl hP hA hS rfl hl.1 rfl (Nat.le_of_ble_eq_true rfl) dX11_surest_2 ⟨Nat.le_of_ble_eq_true rfl, Nat.le_of_ble_eq_true rfl⟩ (fun r_3 g_2 H locs hw_1 hP hS => ?_)
  obtain ⟨hw_1a, hw_1b⟩ := hw_1
  subst hw_1a
  rw [hw_1b] at hP
  refine lv_if_eq (tgt := 16) hx hb dX11_surest_5 (by decide) (fun _ => ?_) (fun h => absurd h (by decide))
  refine lv_bipush (v := (-2)) hx hb dX11_surest_16 (by decide) ?_
  exact q_iret X hP hS ⟨rfl, rfl⟩ dX11_surest_18

theorem dX11_walk_0 : decode cX11_walk 0 = .ok (.aload_n 0, 1) := by decide +kernel
theorem dX11_walk_1 : decode cX11_walk 1 = .ok (.getfield 19, 3) := by decide +kernel
theorem dX11_walk_4 : decode cX11_walk 4 = .ok (.getfield 177, 3) := by decide +kernel
theorem dX11_walk_7 : decode cX11_walk 7 = .ok (.ifCond .eq 13, 3) := by decide +kernel
theorem dX11_walk_20 : decode cX11_walk 20 = .ok (.bipush (-2), 2) := by decide +kernel
theorem dX11_walk_22 : decode cX11_walk 22 = .ok (.ireturn, 1) := by decide +kernel
def vX11_walk : List Cond := .code yX11_walk cX11_walk 1 (some .int) :: ([.fieldLink RX11 19 "IcicleClock" "now" "LIcicleClock$Street;", .fieldLink RX11 177 "IcicleClock$Street" "days" "I"] ++ wsX110 ++ wsX60)
theorem iX11_walk_11 : ∀ w ∈ wsX110, w ∈ vX11_walk := fun _ h => List.mem_cons_of_mem _ (List.mem_append_left _ (List.mem_append_right _ h))
theorem iX11_walk_6 : ∀ w ∈ wsX60, w ∈ vX11_walk := fun _ h => List.mem_cons_of_mem _ (List.mem_append_right _ h)
set_option maxHeartbeats 4000000 in
set_option maxRecDepth 100000 in
theorem k_walk (l : Launch) (D : va_G) (cs : Nat → ClassId) (ad : Nat → Nat) (hj : wJ ad nW) (g : Nat → va_E) (h0 : g 0 = .inr (11, [.ref (ad 1), .ref (ad 3), .ref (ad 23), .ref (ad 43), .ref (ad 104), .ref (ad 105), .ref (ad 114), .ref (ad 116), .ref (ad 118), .ref (ad 120), .ref (ad 130), .ref (ad 140), .ref (ad 144), .ref (ad 190)])) (h3 : g 3 = .inr (6, [.int 0, .int 0, .int 0, .int 0, .int 0, .int 0, .int 0, .int 0, .ref (ad 4), .ref (ad 5), .ref (ad 6), .ref (ad 7), .ref (ad 8), .ref (ad 9), .ref (ad 10), .ref (ad 11), .ref (ad 12), .ref (ad 13)])) : cI l yX11_walk vX11_walk { frames := 0, cells := 0, slots := 0, locals := 0 } D cs ad nW [.ref (ad 0)] g (fun r g2 => r = (-2) ∧ g2 = g) := by
  refine Met.start (cc := cX11_walk) (maxL := 1) (ret := (some .int)) RX11 rfl (by decide) rfl (Nat.le_of_ble_eq_true rfl) ?_
  intro p e s m below meth c ls X hP hl
  have hx := X.1
  have hb := X.2.1
  have hS : va_S (wA ad nW) s.heap s.heap [] := va_S.rf
  have hA : ∀ i, i < nW → wA ad nW (ad i) := fun i h => ⟨i, h, rfl⟩
  have hl : lv_has ls 1 [(0, .ref (ad 0))] := hl
  refine lv_aload_n hx hb dX11_walk_0 rfl (lv_at hl 0 rfl) ?_
  refine q_get X iX11_walk_11 hP (by decide) h0 rfl 1 (by decide) (List.mem_of_getElem? (i := 1) rfl) (v := .ref (ad 3)) rfl dX11_walk_1 ?_
  refine q_get X iX11_walk_6 hP (by decide) h3 rfl 3 (by decide) (List.mem_of_getElem? (i := 2) rfl) (v := .int 0) rfl dX11_walk_4 ?_
  refine lv_if_eq (tgt := 20) hx hb dX11_walk_7 (by decide) (fun _ => ?_) (fun h => absurd h (by decide))
  refine lv_bipush (v := (-2)) hx hb dX11_walk_20 (by decide) ?_
  exact q_iret X hP hS ⟨rfl, rfl⟩ dX11_walk_22

theorem dX11_walks_0 : decode cX11_walks 0 = .ok (.aload_n 0, 1) := by decide +kernel
theorem dX11_walks_1 : decode cX11_walks 1 = .ok (.iload_n 1, 1) := by decide +kernel
theorem dX11_walks_2 : decode cX11_walks 2 = .ok (.invokevirtual 121, 3) := by decide +kernel
theorem dX11_walks_5 : decode cX11_walks 5 = .ok (.ifCond .eq 13, 3) := by decide +kernel
theorem dX11_walks_18 : decode cX11_walks 18 = .ok (.bipush (-2), 2) := by decide +kernel
theorem dX11_walks_20 : decode cX11_walks 20 = .ok (.ireturn, 1) := by decide +kernel
def vX11_walks : List Cond := .code yX11_walks cX11_walks 2 (some .int) :: ([.methodLink RX11 121 yX11_isDay, .instanceMethod yX11_isDay, .selects RX11 yX11_isDay yX11_isDay, .initialized RX11, .code yX11_isDay cX11_isDay 2 (some .boolean), .fieldLink RX11 19 "IcicleClock" "now" "LIcicleClock$Street;", .fieldLink RX11 177 "IcicleClock$Street" "days" "I"] ++ wsX110 ++ wsX60)
theorem iX11_walks_11 : ∀ w ∈ wsX110, w ∈ vX11_walks := fun _ h => List.mem_cons_of_mem _ (List.mem_append_left _ (List.mem_append_right _ h))
theorem iX11_walks_6 : ∀ w ∈ wsX60, w ∈ vX11_walks := fun _ h => List.mem_cons_of_mem _ (List.mem_append_right _ h)
set_option maxRecDepth 20000 in
theorem gg_X11_walks_X11_isDay : GoodIn vX11_walks (wsV RX11 121 RX11 yX11_isDay vX11_isDay) := goodIn_r _ [1, 2, 3, 4, 5, 6, 7, 8, 9, 10, 11, 12, 13, 14, 15, 16, 17, 18, 19, 20, 21, 22, 23, 24, 25, 26, 27, 28, 29, 30, 31, 32, 33, 34, 35, 36, 37, 38, 39] (by decide +kernel) (by decide +kernel)
set_option maxHeartbeats 4000000 in
set_option maxRecDepth 100000 in
theorem k_walks (l : Launch) (D : va_G) (cs : Nat → ClassId) (ad : Nat → Nat) (hj : wJ ad nW) (g : Nat → va_E) (vd : Int32) (h0 : g 0 = .inr (11, [.ref (ad 1), .ref (ad 3), .ref (ad 23), .ref (ad 43), .ref (ad 104), .ref (ad 105), .ref (ad 114), .ref (ad 116), .ref (ad 118), .ref (ad 120), .ref (ad 130), .ref (ad 140), .ref (ad 144), .ref (ad 190)])) (h3 : g 3 = .inr (6, [.int 0, .int 0, .int 0, .int 0, .int 0, .int 0, .int 0, .int 0, .ref (ad 4), .ref (ad 5), .ref (ad 6), .ref (ad 7), .ref (ad 8), .ref (ad 9), .ref (ad 10), .ref (ad 11), .ref (ad 12), .ref (ad 13)])) : cI l yX11_walks vX11_walks { frames := 1, cells := 0, slots := 0, locals := 21 } D cs ad nW [.ref (ad 0), .int vd] g (fun r g2 => r = (-2) ∧ g2 = g) := by
  refine Met.start (cc := cX11_walks) (maxL := 2) (ret := (some .int)) RX11 rfl (by decide) rfl (Nat.le_of_ble_eq_true rfl) ?_
  intro p e s m below meth c ls X hP hl
  have hx := X.1
  have hb := X.2.1
  have hS : va_S (wA ad nW) s.heap s.heap [] := va_S.rf
  have hA : ∀ i, i < nW → wA ad nW (ad i) := fun i h => ⟨i, h, rfl⟩
  have hl : lv_has ls 2 [(0, .ref (ad 0)), (1, .int vd)] := hl
  refine lv_aload_n hx hb dX11_walks_0 rfl (lv_at hl 0 rfl) ?_
  refine lv_iload_n hx hb dX11_walks_1 rfl (lv_at hl 1 rfl) ?_
  refine q_calli (q := (RX11, TX11, 14)) (As := [.int vd]) (rest := []) X (k_isDay l D cs ad hj g vd h0 h3) (cwV 1 X.2.2.2.2.1 gg_X11_walks_X11_isDay rfl rfl rfl (by decide +kernel) ⟨Nat.le_of_ble_eq_true rfl, Nat.le_of_ble_eq_true rfl⟩) (by decide) h0 rfl hP hA hS rfl hl.1 rfl (Nat.le_of_ble_eq_true rfl) dX11_walks_2 ⟨Nat.le_of_ble_eq_true rfl, Nat.le_of_ble_eq_true rfl⟩ (fun r_3 g_2 H locs hw_1 hP hS => ?_)
  obtain ⟨hw_1a, hw_1b⟩ := hw_1
  subst hw_1a
  rw [hw_1b] at hP
  refine lv_if_eq (tgt := 18) hx hb dX11_walks_5 (by decide) (fun _ => ?_) (fun h => absurd h (by decide))
  refine lv_bipush (v := (-2)) hx hb dX11_walks_18 (by decide) ?_
  exact q_iret X hP hS ⟨rfl, rfl⟩ dX11_walks_20

theorem dX11_ways_0 : decode cX11_ways 0 = .ok (.aload_n 0, 1) := by decide +kernel
theorem dX11_ways_1 : decode cX11_ways 1 = .ok (.getfield 19, 3) := by decide +kernel
theorem dX11_ways_4 : decode cX11_ways 4 = .ok (.getfield 177, 3) := by decide +kernel
theorem dX11_ways_7 : decode cX11_ways 7 = .ok (.ifCond .eq 13, 3) := by decide +kernel
theorem dX11_ways_20 : decode cX11_ways 20 = .ok (.bipush (-2), 2) := by decide +kernel
theorem dX11_ways_22 : decode cX11_ways 22 = .ok (.ireturn, 1) := by decide +kernel
def vX11_ways : List Cond := .code yX11_ways cX11_ways 1 (some .int) :: ([.fieldLink RX11 19 "IcicleClock" "now" "LIcicleClock$Street;", .fieldLink RX11 177 "IcicleClock$Street" "days" "I"] ++ wsX110 ++ wsX60)
theorem iX11_ways_11 : ∀ w ∈ wsX110, w ∈ vX11_ways := fun _ h => List.mem_cons_of_mem _ (List.mem_append_left _ (List.mem_append_right _ h))
theorem iX11_ways_6 : ∀ w ∈ wsX60, w ∈ vX11_ways := fun _ h => List.mem_cons_of_mem _ (List.mem_append_right _ h)
set_option maxHeartbeats 4000000 in
set_option maxRecDepth 100000 in
theorem k_ways (l : Launch) (D : va_G) (cs : Nat → ClassId) (ad : Nat → Nat) (hj : wJ ad nW) (g : Nat → va_E) (h0 : g 0 = .inr (11, [.ref (ad 1), .ref (ad 3), .ref (ad 23), .ref (ad 43), .ref (ad 104), .ref (ad 105), .ref (ad 114), .ref (ad 116), .ref (ad 118), .ref (ad 120), .ref (ad 130), .ref (ad 140), .ref (ad 144), .ref (ad 190)])) (h3 : g 3 = .inr (6, [.int 0, .int 0, .int 0, .int 0, .int 0, .int 0, .int 0, .int 0, .ref (ad 4), .ref (ad 5), .ref (ad 6), .ref (ad 7), .ref (ad 8), .ref (ad 9), .ref (ad 10), .ref (ad 11), .ref (ad 12), .ref (ad 13)])) : cI l yX11_ways vX11_ways { frames := 0, cells := 0, slots := 0, locals := 0 } D cs ad nW [.ref (ad 0)] g (fun r g2 => r = (-2) ∧ g2 = g) := by
  refine Met.start (cc := cX11_ways) (maxL := 1) (ret := (some .int)) RX11 rfl (by decide) rfl (Nat.le_of_ble_eq_true rfl) ?_
  intro p e s m below meth c ls X hP hl
  have hx := X.1
  have hb := X.2.1
  have hS : va_S (wA ad nW) s.heap s.heap [] := va_S.rf
  have hA : ∀ i, i < nW → wA ad nW (ad i) := fun i h => ⟨i, h, rfl⟩
  have hl : lv_has ls 1 [(0, .ref (ad 0))] := hl
  refine lv_aload_n hx hb dX11_ways_0 rfl (lv_at hl 0 rfl) ?_
  refine q_get X iX11_ways_11 hP (by decide) h0 rfl 1 (by decide) (List.mem_of_getElem? (i := 1) rfl) (v := .ref (ad 3)) rfl dX11_ways_1 ?_
  refine q_get X iX11_ways_6 hP (by decide) h3 rfl 3 (by decide) (List.mem_of_getElem? (i := 2) rfl) (v := .int 0) rfl dX11_ways_4 ?_
  refine lv_if_eq (tgt := 20) hx hb dX11_ways_7 (by decide) (fun _ => ?_) (fun h => absurd h (by decide))
  refine lv_bipush (v := (-2)) hx hb dX11_ways_20 (by decide) ?_
  exact q_iret X hP hS ⟨rfl, rfl⟩ dX11_ways_22

theorem dX11_rests_0 : decode cX11_rests 0 = .ok (.aload_n 0, 1) := by decide +kernel
theorem dX11_rests_1 : decode cX11_rests 1 = .ok (.invokevirtual 195, 3) := by decide +kernel
theorem dX11_rests_4 : decode cX11_rests 4 = .ok (.ifCond .ne 6, 3) := by decide +kernel
theorem dX11_rests_7 : decode cX11_rests 7 = .ok (.bipush (-2), 2) := by decide +kernel
theorem dX11_rests_9 : decode cX11_rests 9 = .ok (.ireturn, 1) := by decide +kernel
def vX11_rests : List Cond := .code yX11_rests cX11_rests 1 (some .int) :: ([.methodLink RX11 195 yX11_isTold, .instanceMethod yX11_isTold, .selects RX11 yX11_isTold yX11_isTold, .initialized RX11, .code yX11_isTold cX11_isTold 1 (some .boolean), .fieldLink RX11 19 "IcicleClock" "now" "LIcicleClock$Street;", .fieldLink RX11 112 "IcicleClock$Street" "lines" "I"] ++ wsX110 ++ wsX60)
theorem iX11_rests_11 : ∀ w ∈ wsX110, w ∈ vX11_rests := fun _ h => List.mem_cons_of_mem _ (List.mem_append_left _ (List.mem_append_right _ h))
theorem iX11_rests_6 : ∀ w ∈ wsX60, w ∈ vX11_rests := fun _ h => List.mem_cons_of_mem _ (List.mem_append_right _ h)
set_option maxRecDepth 20000 in
theorem gg_X11_rests_X11_isTold : GoodIn vX11_rests (wsV RX11 195 RX11 yX11_isTold vX11_isTold) := goodIn_r _ [1, 2, 3, 4, 5, 6, 7, 8, 9, 10, 11, 12, 13, 14, 15, 16, 17, 18, 19, 20, 21, 22, 23, 24, 25, 26, 27, 28, 29, 30, 31, 32, 33, 34, 35, 36, 37, 38, 39] (by decide +kernel) (by decide +kernel)
set_option maxHeartbeats 4000000 in
set_option maxRecDepth 100000 in
theorem k_rests (l : Launch) (D : va_G) (cs : Nat → ClassId) (ad : Nat → Nat) (hj : wJ ad nW) (g : Nat → va_E) (h0 : g 0 = .inr (11, [.ref (ad 1), .ref (ad 3), .ref (ad 23), .ref (ad 43), .ref (ad 104), .ref (ad 105), .ref (ad 114), .ref (ad 116), .ref (ad 118), .ref (ad 120), .ref (ad 130), .ref (ad 140), .ref (ad 144), .ref (ad 190)])) (h3 : g 3 = .inr (6, [.int 0, .int 0, .int 0, .int 0, .int 0, .int 0, .int 0, .int 0, .ref (ad 4), .ref (ad 5), .ref (ad 6), .ref (ad 7), .ref (ad 8), .ref (ad 9), .ref (ad 10), .ref (ad 11), .ref (ad 12), .ref (ad 13)])) : cI l yX11_rests vX11_rests { frames := 1, cells := 0, slots := 0, locals := 20 } D cs ad nW [.ref (ad 0)] g (fun r g2 => r = (-2) ∧ g2 = g) := by
  refine Met.start (cc := cX11_rests) (maxL := 1) (ret := (some .int)) RX11 rfl (by decide) rfl (Nat.le_of_ble_eq_true rfl) ?_
  intro p e s m below meth c ls X hP hl
  have hx := X.1
  have hb := X.2.1
  have hS : va_S (wA ad nW) s.heap s.heap [] := va_S.rf
  have hA : ∀ i, i < nW → wA ad nW (ad i) := fun i h => ⟨i, h, rfl⟩
  have hl : lv_has ls 1 [(0, .ref (ad 0))] := hl
  refine lv_aload_n hx hb dX11_rests_0 rfl (lv_at hl 0 rfl) ?_
  refine q_calli (q := (RX11, TX11, 14)) (As := []) (rest := []) X (k_isTold l D cs ad hj g  h0 h3) (cwV 0 X.2.2.2.2.1 gg_X11_rests_X11_isTold rfl rfl rfl (by decide +kernel) ⟨Nat.le_of_ble_eq_true rfl, Nat.le_of_ble_eq_true rfl⟩) (by decide) h0 rfl hP hA hS rfl hl.1 rfl (Nat.le_of_ble_eq_true rfl) dX11_rests_1 ⟨Nat.le_of_ble_eq_true rfl, Nat.le_of_ble_eq_true rfl⟩ (fun r_3 g_2 H locs hw_1 hP hS => ?_)
  obtain ⟨hw_1a, hw_1b⟩ := hw_1
  subst hw_1a
  rw [hw_1b] at hP
  refine lv_if_ne (tgt := 10) hx hb dX11_rests_4 (by decide) (fun h => absurd h (by decide)) (fun _ => ?_)
  refine lv_bipush (v := (-2)) hx hb dX11_rests_7 (by decide) ?_
  exact q_iret X hP hS ⟨rfl, rfl⟩ dX11_rests_9

theorem dX11_rest_0 : decode cX11_rest 0 = .ok (.aload_n 0, 1) := by decide +kernel
theorem dX11_rest_1 : decode cX11_rest 1 = .ok (.invokevirtual 195, 3) := by decide +kernel
theorem dX11_rest_4 : decode cX11_rest 4 = .ok (.ifCond .ne 6, 3) := by decide +kernel
theorem dX11_rest_7 : decode cX11_rest 7 = .ok (.bipush (-2), 2) := by decide +kernel
theorem dX11_rest_9 : decode cX11_rest 9 = .ok (.ireturn, 1) := by decide +kernel
def vX11_rest : List Cond := .code yX11_rest cX11_rest 1 (some .int) :: ([.methodLink RX11 195 yX11_isTold, .instanceMethod yX11_isTold, .selects RX11 yX11_isTold yX11_isTold, .initialized RX11, .code yX11_isTold cX11_isTold 1 (some .boolean), .fieldLink RX11 19 "IcicleClock" "now" "LIcicleClock$Street;", .fieldLink RX11 112 "IcicleClock$Street" "lines" "I"] ++ wsX110 ++ wsX60)
theorem iX11_rest_11 : ∀ w ∈ wsX110, w ∈ vX11_rest := fun _ h => List.mem_cons_of_mem _ (List.mem_append_left _ (List.mem_append_right _ h))
theorem iX11_rest_6 : ∀ w ∈ wsX60, w ∈ vX11_rest := fun _ h => List.mem_cons_of_mem _ (List.mem_append_right _ h)
set_option maxRecDepth 20000 in
theorem gg_X11_rest_X11_isTold : GoodIn vX11_rest (wsV RX11 195 RX11 yX11_isTold vX11_isTold) := goodIn_r _ [1, 2, 3, 4, 5, 6, 7, 8, 9, 10, 11, 12, 13, 14, 15, 16, 17, 18, 19, 20, 21, 22, 23, 24, 25, 26, 27, 28, 29, 30, 31, 32, 33, 34, 35, 36, 37, 38, 39] (by decide +kernel) (by decide +kernel)
set_option maxHeartbeats 4000000 in
set_option maxRecDepth 100000 in
theorem k_rest (l : Launch) (D : va_G) (cs : Nat → ClassId) (ad : Nat → Nat) (hj : wJ ad nW) (g : Nat → va_E) (h0 : g 0 = .inr (11, [.ref (ad 1), .ref (ad 3), .ref (ad 23), .ref (ad 43), .ref (ad 104), .ref (ad 105), .ref (ad 114), .ref (ad 116), .ref (ad 118), .ref (ad 120), .ref (ad 130), .ref (ad 140), .ref (ad 144), .ref (ad 190)])) (h3 : g 3 = .inr (6, [.int 0, .int 0, .int 0, .int 0, .int 0, .int 0, .int 0, .int 0, .ref (ad 4), .ref (ad 5), .ref (ad 6), .ref (ad 7), .ref (ad 8), .ref (ad 9), .ref (ad 10), .ref (ad 11), .ref (ad 12), .ref (ad 13)])) : cI l yX11_rest vX11_rest { frames := 1, cells := 0, slots := 0, locals := 20 } D cs ad nW [.ref (ad 0)] g (fun r g2 => r = (-2) ∧ g2 = g) := by
  refine Met.start (cc := cX11_rest) (maxL := 1) (ret := (some .int)) RX11 rfl (by decide) rfl (Nat.le_of_ble_eq_true rfl) ?_
  intro p e s m below meth c ls X hP hl
  have hx := X.1
  have hb := X.2.1
  have hS : va_S (wA ad nW) s.heap s.heap [] := va_S.rf
  have hA : ∀ i, i < nW → wA ad nW (ad i) := fun i h => ⟨i, h, rfl⟩
  have hl : lv_has ls 1 [(0, .ref (ad 0))] := hl
  refine lv_aload_n hx hb dX11_rest_0 rfl (lv_at hl 0 rfl) ?_
  refine q_calli (q := (RX11, TX11, 14)) (As := []) (rest := []) X (k_isTold l D cs ad hj g  h0 h3) (cwV 0 X.2.2.2.2.1 gg_X11_rest_X11_isTold rfl rfl rfl (by decide +kernel) ⟨Nat.le_of_ble_eq_true rfl, Nat.le_of_ble_eq_true rfl⟩) (by decide) h0 rfl hP hA hS rfl hl.1 rfl (Nat.le_of_ble_eq_true rfl) dX11_rest_1 ⟨Nat.le_of_ble_eq_true rfl, Nat.le_of_ble_eq_true rfl⟩ (fun r_3 g_2 H locs hw_1 hP hS => ?_)
  obtain ⟨hw_1a, hw_1b⟩ := hw_1
  subst hw_1a
  rw [hw_1b] at hP
  refine lv_if_ne (tgt := 10) hx hb dX11_rest_4 (by decide) (fun h => absurd h (by decide)) (fun _ => ?_)
  refine lv_bipush (v := (-2)) hx hb dX11_rest_7 (by decide) ?_
  exact q_iret X hP hS ⟨rfl, rfl⟩ dX11_rest_9

theorem dX11_door_0 : decode cX11_door 0 = .ok (.aload_n 0, 1) := by decide +kernel
theorem dX11_door_1 : decode cX11_door 1 = .ok (.iload_n 1, 1) := by decide +kernel
theorem dX11_door_2 : decode cX11_door 2 = .ok (.invokevirtual 129, 3) := by decide +kernel
theorem dX11_door_5 : decode cX11_door 5 = .ok (.ifCond .eq 11, 3) := by decide +kernel
theorem dX11_door_16 : decode cX11_door 16 = .ok (.bipush (-2), 2) := by decide +kernel
theorem dX11_door_18 : decode cX11_door 18 = .ok (.ireturn, 1) := by decide +kernel
def vX11_door : List Cond := .code yX11_door cX11_door 3 (some .int) :: ([.methodLink RX11 129 yX11_isEave, .instanceMethod yX11_isEave, .selects RX11 yX11_isEave yX11_isEave, .initialized RX11, .code yX11_isEave cX11_isEave 2 (some .boolean), .fieldLink RX11 19 "IcicleClock" "now" "LIcicleClock$Street;", .fieldLink RX11 208 "IcicleClock$Street" "eaves" "I"] ++ wsX110 ++ wsX60)
theorem iX11_door_11 : ∀ w ∈ wsX110, w ∈ vX11_door := fun _ h => List.mem_cons_of_mem _ (List.mem_append_left _ (List.mem_append_right _ h))
theorem iX11_door_6 : ∀ w ∈ wsX60, w ∈ vX11_door := fun _ h => List.mem_cons_of_mem _ (List.mem_append_right _ h)
set_option maxRecDepth 20000 in
theorem gg_X11_door_X11_isEave : GoodIn vX11_door (wsV RX11 129 RX11 yX11_isEave vX11_isEave) := goodIn_r _ [1, 2, 3, 4, 5, 6, 7, 8, 9, 10, 11, 12, 13, 14, 15, 16, 17, 18, 19, 20, 21, 22, 23, 24, 25, 26, 27, 28, 29, 30, 31, 32, 33, 34, 35, 36, 37, 38, 39] (by decide +kernel) (by decide +kernel)
set_option maxHeartbeats 4000000 in
set_option maxRecDepth 100000 in
theorem k_door (l : Launch) (D : va_G) (cs : Nat → ClassId) (ad : Nat → Nat) (hj : wJ ad nW) (g : Nat → va_E) (va : Int32) (vd : Int32) (h0 : g 0 = .inr (11, [.ref (ad 1), .ref (ad 3), .ref (ad 23), .ref (ad 43), .ref (ad 104), .ref (ad 105), .ref (ad 114), .ref (ad 116), .ref (ad 118), .ref (ad 120), .ref (ad 130), .ref (ad 140), .ref (ad 144), .ref (ad 190)])) (h3 : g 3 = .inr (6, [.int 0, .int 0, .int 0, .int 0, .int 0, .int 0, .int 0, .int 0, .ref (ad 4), .ref (ad 5), .ref (ad 6), .ref (ad 7), .ref (ad 8), .ref (ad 9), .ref (ad 10), .ref (ad 11), .ref (ad 12), .ref (ad 13)])) : cI l yX11_door vX11_door { frames := 1, cells := 0, slots := 0, locals := 21 } D cs ad nW [.ref (ad 0), .int va, .int vd] g (fun r g2 => r = (-2) ∧ g2 = g) := by
  refine Met.start (cc := cX11_door) (maxL := 3) (ret := (some .int)) RX11 rfl (by decide) rfl (Nat.le_of_ble_eq_true rfl) ?_
  intro p e s m below meth c ls X hP hl
  have hx := X.1
  have hb := X.2.1
  have hS : va_S (wA ad nW) s.heap s.heap [] := va_S.rf
  have hA : ∀ i, i < nW → wA ad nW (ad i) := fun i h => ⟨i, h, rfl⟩
  have hl : lv_has ls 3 [(0, .ref (ad 0)), (1, .int va), (2, .int vd)] := hl
  refine lv_aload_n hx hb dX11_door_0 rfl (lv_at hl 0 rfl) ?_
  refine lv_iload_n hx hb dX11_door_1 rfl (lv_at hl 1 rfl) ?_
  refine q_calli (q := (RX11, TX11, 14)) (As := [.int va]) (rest := []) X (k_isEave l D cs ad hj g va h0 h3) (cwV 1 X.2.2.2.2.1 gg_X11_door_X11_isEave rfl rfl rfl (by decide +kernel) ⟨Nat.le_of_ble_eq_true rfl, Nat.le_of_ble_eq_true rfl⟩) (by decide) h0 rfl hP hA hS rfl hl.1 rfl (Nat.le_of_ble_eq_true rfl) dX11_door_2 ⟨Nat.le_of_ble_eq_true rfl, Nat.le_of_ble_eq_true rfl⟩ (fun r_3 g_2 H locs hw_1 hP hS => ?_)
  obtain ⟨hw_1a, hw_1b⟩ := hw_1
  subst hw_1a
  rw [hw_1b] at hP
  refine lv_if_eq (tgt := 16) hx hb dX11_door_5 (by decide) (fun _ => ?_) (fun h => absurd h (by decide))
  refine lv_bipush (v := (-2)) hx hb dX11_door_16 (by decide) ?_
  exact q_iret X hP hS ⟨rfl, rfl⟩ dX11_door_18

theorem dX11_ring_0 : decode cX11_ring 0 = .ok (.aload_n 0, 1) := by decide +kernel
theorem dX11_ring_1 : decode cX11_ring 1 = .ok (.iload_n 1, 1) := by decide +kernel
theorem dX11_ring_2 : decode cX11_ring 2 = .ok (.invokevirtual 121, 3) := by decide +kernel
theorem dX11_ring_5 : decode cX11_ring 5 = .ok (.ifCond .ne 6, 3) := by decide +kernel
theorem dX11_ring_8 : decode cX11_ring 8 = .ok (.bipush (-2), 2) := by decide +kernel
theorem dX11_ring_10 : decode cX11_ring 10 = .ok (.ireturn, 1) := by decide +kernel
def vX11_ring : List Cond := .code yX11_ring cX11_ring 2 (some .int) :: ([.methodLink RX11 121 yX11_isDay, .instanceMethod yX11_isDay, .selects RX11 yX11_isDay yX11_isDay, .initialized RX11, .code yX11_isDay cX11_isDay 2 (some .boolean), .fieldLink RX11 19 "IcicleClock" "now" "LIcicleClock$Street;", .fieldLink RX11 177 "IcicleClock$Street" "days" "I"] ++ wsX110 ++ wsX60)
theorem iX11_ring_11 : ∀ w ∈ wsX110, w ∈ vX11_ring := fun _ h => List.mem_cons_of_mem _ (List.mem_append_left _ (List.mem_append_right _ h))
theorem iX11_ring_6 : ∀ w ∈ wsX60, w ∈ vX11_ring := fun _ h => List.mem_cons_of_mem _ (List.mem_append_right _ h)
set_option maxRecDepth 20000 in
theorem gg_X11_ring_X11_isDay : GoodIn vX11_ring (wsV RX11 121 RX11 yX11_isDay vX11_isDay) := goodIn_r _ [1, 2, 3, 4, 5, 6, 7, 8, 9, 10, 11, 12, 13, 14, 15, 16, 17, 18, 19, 20, 21, 22, 23, 24, 25, 26, 27, 28, 29, 30, 31, 32, 33, 34, 35, 36, 37, 38, 39] (by decide +kernel) (by decide +kernel)
set_option maxHeartbeats 4000000 in
set_option maxRecDepth 100000 in
theorem k_ring (l : Launch) (D : va_G) (cs : Nat → ClassId) (ad : Nat → Nat) (hj : wJ ad nW) (g : Nat → va_E) (vd : Int32) (h0 : g 0 = .inr (11, [.ref (ad 1), .ref (ad 3), .ref (ad 23), .ref (ad 43), .ref (ad 104), .ref (ad 105), .ref (ad 114), .ref (ad 116), .ref (ad 118), .ref (ad 120), .ref (ad 130), .ref (ad 140), .ref (ad 144), .ref (ad 190)])) (h3 : g 3 = .inr (6, [.int 0, .int 0, .int 0, .int 0, .int 0, .int 0, .int 0, .int 0, .ref (ad 4), .ref (ad 5), .ref (ad 6), .ref (ad 7), .ref (ad 8), .ref (ad 9), .ref (ad 10), .ref (ad 11), .ref (ad 12), .ref (ad 13)])) : cI l yX11_ring vX11_ring { frames := 1, cells := 0, slots := 0, locals := 21 } D cs ad nW [.ref (ad 0), .int vd] g (fun r g2 => r = (-2) ∧ g2 = g) := by
  refine Met.start (cc := cX11_ring) (maxL := 2) (ret := (some .int)) RX11 rfl (by decide) rfl (Nat.le_of_ble_eq_true rfl) ?_
  intro p e s m below meth c ls X hP hl
  have hx := X.1
  have hb := X.2.1
  have hS : va_S (wA ad nW) s.heap s.heap [] := va_S.rf
  have hA : ∀ i, i < nW → wA ad nW (ad i) := fun i h => ⟨i, h, rfl⟩
  have hl : lv_has ls 2 [(0, .ref (ad 0)), (1, .int vd)] := hl
  refine lv_aload_n hx hb dX11_ring_0 rfl (lv_at hl 0 rfl) ?_
  refine lv_iload_n hx hb dX11_ring_1 rfl (lv_at hl 1 rfl) ?_
  refine q_calli (q := (RX11, TX11, 14)) (As := [.int vd]) (rest := []) X (k_isDay l D cs ad hj g vd h0 h3) (cwV 1 X.2.2.2.2.1 gg_X11_ring_X11_isDay rfl rfl rfl (by decide +kernel) ⟨Nat.le_of_ble_eq_true rfl, Nat.le_of_ble_eq_true rfl⟩) (by decide) h0 rfl hP hA hS rfl hl.1 rfl (Nat.le_of_ble_eq_true rfl) dX11_ring_2 ⟨Nat.le_of_ble_eq_true rfl, Nat.le_of_ble_eq_true rfl⟩ (fun r_3 g_2 H locs hw_1 hP hS => ?_)
  obtain ⟨hw_1a, hw_1b⟩ := hw_1
  subst hw_1a
  rw [hw_1b] at hP
  refine lv_if_ne (tgt := 11) hx hb dX11_ring_5 (by decide) (fun h => absurd h (by decide)) (fun _ => ?_)
  refine lv_bipush (v := (-2)) hx hb dX11_ring_8 (by decide) ?_
  exact q_iret X hP hS ⟨rfl, rfl⟩ dX11_ring_10

theorem dX11_undo_0 : decode cX11_undo 0 = .ok (.aload_n 0, 1) := by decide +kernel
theorem dX11_undo_1 : decode cX11_undo 1 = .ok (.invokevirtual 195, 3) := by decide +kernel
theorem dX11_undo_4 : decode cX11_undo 4 = .ok (.ifCond .ne 6, 3) := by decide +kernel
theorem dX11_undo_7 : decode cX11_undo 7 = .ok (.bipush (-2), 2) := by decide +kernel
theorem dX11_undo_9 : decode cX11_undo 9 = .ok (.ireturn, 1) := by decide +kernel
def vX11_undo : List Cond := .code yX11_undo cX11_undo 1 (some .int) :: ([.methodLink RX11 195 yX11_isTold, .instanceMethod yX11_isTold, .selects RX11 yX11_isTold yX11_isTold, .initialized RX11, .code yX11_isTold cX11_isTold 1 (some .boolean), .fieldLink RX11 19 "IcicleClock" "now" "LIcicleClock$Street;", .fieldLink RX11 112 "IcicleClock$Street" "lines" "I"] ++ wsX110 ++ wsX60)
theorem iX11_undo_11 : ∀ w ∈ wsX110, w ∈ vX11_undo := fun _ h => List.mem_cons_of_mem _ (List.mem_append_left _ (List.mem_append_right _ h))
theorem iX11_undo_6 : ∀ w ∈ wsX60, w ∈ vX11_undo := fun _ h => List.mem_cons_of_mem _ (List.mem_append_right _ h)
set_option maxRecDepth 20000 in
theorem gg_X11_undo_X11_isTold : GoodIn vX11_undo (wsV RX11 195 RX11 yX11_isTold vX11_isTold) := goodIn_r _ [1, 2, 3, 4, 5, 6, 7, 8, 9, 10, 11, 12, 13, 14, 15, 16, 17, 18, 19, 20, 21, 22, 23, 24, 25, 26, 27, 28, 29, 30, 31, 32, 33, 34, 35, 36, 37, 38, 39] (by decide +kernel) (by decide +kernel)
set_option maxHeartbeats 4000000 in
set_option maxRecDepth 100000 in
theorem k_undo (l : Launch) (D : va_G) (cs : Nat → ClassId) (ad : Nat → Nat) (hj : wJ ad nW) (g : Nat → va_E) (h0 : g 0 = .inr (11, [.ref (ad 1), .ref (ad 3), .ref (ad 23), .ref (ad 43), .ref (ad 104), .ref (ad 105), .ref (ad 114), .ref (ad 116), .ref (ad 118), .ref (ad 120), .ref (ad 130), .ref (ad 140), .ref (ad 144), .ref (ad 190)])) (h3 : g 3 = .inr (6, [.int 0, .int 0, .int 0, .int 0, .int 0, .int 0, .int 0, .int 0, .ref (ad 4), .ref (ad 5), .ref (ad 6), .ref (ad 7), .ref (ad 8), .ref (ad 9), .ref (ad 10), .ref (ad 11), .ref (ad 12), .ref (ad 13)])) : cI l yX11_undo vX11_undo { frames := 1, cells := 0, slots := 0, locals := 20 } D cs ad nW [.ref (ad 0)] g (fun r g2 => r = (-2) ∧ g2 = g) := by
  refine Met.start (cc := cX11_undo) (maxL := 1) (ret := (some .int)) RX11 rfl (by decide) rfl (Nat.le_of_ble_eq_true rfl) ?_
  intro p e s m below meth c ls X hP hl
  have hx := X.1
  have hb := X.2.1
  have hS : va_S (wA ad nW) s.heap s.heap [] := va_S.rf
  have hA : ∀ i, i < nW → wA ad nW (ad i) := fun i h => ⟨i, h, rfl⟩
  have hl : lv_has ls 1 [(0, .ref (ad 0))] := hl
  refine lv_aload_n hx hb dX11_undo_0 rfl (lv_at hl 0 rfl) ?_
  refine q_calli (q := (RX11, TX11, 14)) (As := []) (rest := []) X (k_isTold l D cs ad hj g  h0 h3) (cwV 0 X.2.2.2.2.1 gg_X11_undo_X11_isTold rfl rfl rfl (by decide +kernel) ⟨Nat.le_of_ble_eq_true rfl, Nat.le_of_ble_eq_true rfl⟩) (by decide) h0 rfl hP hA hS rfl hl.1 rfl (Nat.le_of_ble_eq_true rfl) dX11_undo_1 ⟨Nat.le_of_ble_eq_true rfl, Nat.le_of_ble_eq_true rfl⟩ (fun r_3 g_2 H locs hw_1 hP hS => ?_)
  obtain ⟨hw_1a, hw_1b⟩ := hw_1
  subst hw_1a
  rw [hw_1b] at hP
  refine lv_if_ne (tgt := 10) hx hb dX11_undo_4 (by decide) (fun h => absurd h (by decide)) (fun _ => ?_)
  refine lv_bipush (v := (-2)) hx hb dX11_undo_7 (by decide) ?_
  exact q_iret X hP hS ⟨rfl, rfl⟩ dX11_undo_9

theorem dX11_anew_0 : decode cX11_anew 0 = .ok (.aload_n 0, 1) := by decide +kernel
theorem dX11_anew_1 : decode cX11_anew 1 = .ok (.invokevirtual 195, 3) := by decide +kernel
theorem dX11_anew_4 : decode cX11_anew 4 = .ok (.ifCond .ne 6, 3) := by decide +kernel
theorem dX11_anew_7 : decode cX11_anew 7 = .ok (.bipush (-2), 2) := by decide +kernel
theorem dX11_anew_9 : decode cX11_anew 9 = .ok (.ireturn, 1) := by decide +kernel
def vX11_anew : List Cond := .code yX11_anew cX11_anew 2 (some .int) :: ([.methodLink RX11 195 yX11_isTold, .instanceMethod yX11_isTold, .selects RX11 yX11_isTold yX11_isTold, .initialized RX11, .code yX11_isTold cX11_isTold 1 (some .boolean), .fieldLink RX11 19 "IcicleClock" "now" "LIcicleClock$Street;", .fieldLink RX11 112 "IcicleClock$Street" "lines" "I"] ++ wsX110 ++ wsX60)
theorem iX11_anew_11 : ∀ w ∈ wsX110, w ∈ vX11_anew := fun _ h => List.mem_cons_of_mem _ (List.mem_append_left _ (List.mem_append_right _ h))
theorem iX11_anew_6 : ∀ w ∈ wsX60, w ∈ vX11_anew := fun _ h => List.mem_cons_of_mem _ (List.mem_append_right _ h)
set_option maxRecDepth 20000 in
theorem gg_X11_anew_X11_isTold : GoodIn vX11_anew (wsV RX11 195 RX11 yX11_isTold vX11_isTold) := goodIn_r _ [1, 2, 3, 4, 5, 6, 7, 8, 9, 10, 11, 12, 13, 14, 15, 16, 17, 18, 19, 20, 21, 22, 23, 24, 25, 26, 27, 28, 29, 30, 31, 32, 33, 34, 35, 36, 37, 38, 39] (by decide +kernel) (by decide +kernel)
set_option maxHeartbeats 4000000 in
set_option maxRecDepth 100000 in
theorem k_anew (l : Launch) (D : va_G) (cs : Nat → ClassId) (ad : Nat → Nat) (hj : wJ ad nW) (g : Nat → va_E) (h0 : g 0 = .inr (11, [.ref (ad 1), .ref (ad 3), .ref (ad 23), .ref (ad 43), .ref (ad 104), .ref (ad 105), .ref (ad 114), .ref (ad 116), .ref (ad 118), .ref (ad 120), .ref (ad 130), .ref (ad 140), .ref (ad 144), .ref (ad 190)])) (h3 : g 3 = .inr (6, [.int 0, .int 0, .int 0, .int 0, .int 0, .int 0, .int 0, .int 0, .ref (ad 4), .ref (ad 5), .ref (ad 6), .ref (ad 7), .ref (ad 8), .ref (ad 9), .ref (ad 10), .ref (ad 11), .ref (ad 12), .ref (ad 13)])) : cI l yX11_anew vX11_anew { frames := 1, cells := 0, slots := 0, locals := 20 } D cs ad nW [.ref (ad 0)] g (fun r g2 => r = (-2) ∧ g2 = g) := by
  refine Met.start (cc := cX11_anew) (maxL := 2) (ret := (some .int)) RX11 rfl (by decide) rfl (Nat.le_of_ble_eq_true rfl) ?_
  intro p e s m below meth c ls X hP hl
  have hx := X.1
  have hb := X.2.1
  have hS : va_S (wA ad nW) s.heap s.heap [] := va_S.rf
  have hA : ∀ i, i < nW → wA ad nW (ad i) := fun i h => ⟨i, h, rfl⟩
  have hl : lv_has ls 2 [(0, .ref (ad 0))] := hl
  refine lv_aload_n hx hb dX11_anew_0 rfl (lv_at hl 0 rfl) ?_
  refine q_calli (q := (RX11, TX11, 14)) (As := []) (rest := []) X (k_isTold l D cs ad hj g  h0 h3) (cwV 0 X.2.2.2.2.1 gg_X11_anew_X11_isTold rfl rfl rfl (by decide +kernel) ⟨Nat.le_of_ble_eq_true rfl, Nat.le_of_ble_eq_true rfl⟩) (by decide) h0 rfl hP hA hS rfl hl.1 rfl (Nat.le_of_ble_eq_true rfl) dX11_anew_1 ⟨Nat.le_of_ble_eq_true rfl, Nat.le_of_ble_eq_true rfl⟩ (fun r_3 g_2 H locs hw_1 hP hS => ?_)
  obtain ⟨hw_1a, hw_1b⟩ := hw_1
  subst hw_1a
  rw [hw_1b] at hP
  refine lv_if_ne (tgt := 10) hx hb dX11_anew_4 (by decide) (fun h => absurd h (by decide)) (fun _ => ?_)
  refine lv_bipush (v := (-2)) hx hb dX11_anew_7 (by decide) ?_
  exact q_iret X hP hS ⟨rfl, rfl⟩ dX11_anew_9

theorem dX11_drawn_0 : decode cX11_drawn 0 = .ok (.aload_n 0, 1) := by decide +kernel
theorem dX11_drawn_1 : decode cX11_drawn 1 = .ok (.invokevirtual 195, 3) := by decide +kernel
theorem dX11_drawn_4 : decode cX11_drawn 4 = .ok (.ifCond .eq 19, 3) := by decide +kernel
theorem dX11_drawn_23 : decode cX11_drawn 23 = .ok (.bipush (-2), 2) := by decide +kernel
theorem dX11_drawn_25 : decode cX11_drawn 25 = .ok (.ireturn, 1) := by decide +kernel
def vX11_drawn : List Cond := .code yX11_drawn cX11_drawn 4 (some .int) :: ([.methodLink RX11 195 yX11_isTold, .instanceMethod yX11_isTold, .selects RX11 yX11_isTold yX11_isTold, .initialized RX11, .code yX11_isTold cX11_isTold 1 (some .boolean), .fieldLink RX11 19 "IcicleClock" "now" "LIcicleClock$Street;", .fieldLink RX11 112 "IcicleClock$Street" "lines" "I"] ++ wsX110 ++ wsX60)
theorem iX11_drawn_11 : ∀ w ∈ wsX110, w ∈ vX11_drawn := fun _ h => List.mem_cons_of_mem _ (List.mem_append_left _ (List.mem_append_right _ h))
theorem iX11_drawn_6 : ∀ w ∈ wsX60, w ∈ vX11_drawn := fun _ h => List.mem_cons_of_mem _ (List.mem_append_right _ h)
set_option maxRecDepth 20000 in
theorem gg_X11_drawn_X11_isTold : GoodIn vX11_drawn (wsV RX11 195 RX11 yX11_isTold vX11_isTold) := goodIn_r _ [1, 2, 3, 4, 5, 6, 7, 8, 9, 10, 11, 12, 13, 14, 15, 16, 17, 18, 19, 20, 21, 22, 23, 24, 25, 26, 27, 28, 29, 30, 31, 32, 33, 34, 35, 36, 37, 38, 39] (by decide +kernel) (by decide +kernel)
set_option maxHeartbeats 4000000 in
set_option maxRecDepth 100000 in
theorem k_drawn (l : Launch) (D : va_G) (cs : Nat → ClassId) (ad : Nat → Nat) (hj : wJ ad nW) (g : Nat → va_E) (vs : Int32) (vw : Int32) (h0 : g 0 = .inr (11, [.ref (ad 1), .ref (ad 3), .ref (ad 23), .ref (ad 43), .ref (ad 104), .ref (ad 105), .ref (ad 114), .ref (ad 116), .ref (ad 118), .ref (ad 120), .ref (ad 130), .ref (ad 140), .ref (ad 144), .ref (ad 190)])) (h3 : g 3 = .inr (6, [.int 0, .int 0, .int 0, .int 0, .int 0, .int 0, .int 0, .int 0, .ref (ad 4), .ref (ad 5), .ref (ad 6), .ref (ad 7), .ref (ad 8), .ref (ad 9), .ref (ad 10), .ref (ad 11), .ref (ad 12), .ref (ad 13)])) : cI l yX11_drawn vX11_drawn { frames := 1, cells := 0, slots := 0, locals := 20 } D cs ad nW [.ref (ad 0), .int vs, .int vw] g (fun r g2 => r = (-2) ∧ g2 = g) := by
  refine Met.start (cc := cX11_drawn) (maxL := 4) (ret := (some .int)) RX11 rfl (by decide) rfl (Nat.le_of_ble_eq_true rfl) ?_
  intro p e s m below meth c ls X hP hl
  have hx := X.1
  have hb := X.2.1
  have hS : va_S (wA ad nW) s.heap s.heap [] := va_S.rf
  have hA : ∀ i, i < nW → wA ad nW (ad i) := fun i h => ⟨i, h, rfl⟩
  have hl : lv_has ls 4 [(0, .ref (ad 0)), (1, .int vs), (2, .int vw)] := hl
  refine lv_aload_n hx hb dX11_drawn_0 rfl (lv_at hl 0 rfl) ?_
  refine q_calli (q := (RX11, TX11, 14)) (As := []) (rest := []) X (k_isTold l D cs ad hj g  h0 h3) (cwV 0 X.2.2.2.2.1 gg_X11_drawn_X11_isTold rfl rfl rfl (by decide +kernel) ⟨Nat.le_of_ble_eq_true rfl, Nat.le_of_ble_eq_true rfl⟩) (by decide) h0 rfl hP hA hS rfl hl.1 rfl (Nat.le_of_ble_eq_true rfl) dX11_drawn_1 ⟨Nat.le_of_ble_eq_true rfl, Nat.le_of_ble_eq_true rfl⟩ (fun r_3 g_2 H locs hw_1 hP hS => ?_)
  obtain ⟨hw_1a, hw_1b⟩ := hw_1
  subst hw_1a
  rw [hw_1b] at hP
  refine lv_if_eq (tgt := 23) hx hb dX11_drawn_4 (by decide) (fun _ => ?_) (fun h => absurd h (by decide))
  refine lv_bipush (v := (-2)) hx hb dX11_drawn_23 (by decide) ?_
  exact q_iret X hP hS ⟨rfl, rfl⟩ dX11_drawn_25

theorem dX11_luck_0 : decode cX11_luck 0 = .ok (.aload_n 0, 1) := by decide +kernel
theorem dX11_luck_1 : decode cX11_luck 1 = .ok (.iload_n 3, 1) := by decide +kernel
theorem dX11_luck_2 : decode cX11_luck 2 = .ok (.invokevirtual 136, 3) := by decide +kernel
theorem dX11_luck_5 : decode cX11_luck 5 = .ok (.ifCond .eq 30, 3) := by decide +kernel
theorem dX11_luck_35 : decode cX11_luck 35 = .ok (.bipush (-2), 2) := by decide +kernel
theorem dX11_luck_37 : decode cX11_luck 37 = .ok (.ireturn, 1) := by decide +kernel
def vX11_luck : List Cond := .code yX11_luck cX11_luck 7 (some .int) :: ([.methodLink RX11 136 yX11_isIcicle, .instanceMethod yX11_isIcicle, .selects RX11 yX11_isIcicle yX11_isIcicle, .initialized RX11, .code yX11_isIcicle cX11_isIcicle 2 (some .boolean), .fieldLink RX11 19 "IcicleClock" "now" "LIcicleClock$Street;", .fieldLink RX11 160 "IcicleClock$Street" "icicles" "I"] ++ wsX110 ++ wsX60)
theorem iX11_luck_11 : ∀ w ∈ wsX110, w ∈ vX11_luck := fun _ h => List.mem_cons_of_mem _ (List.mem_append_left _ (List.mem_append_right _ h))
theorem iX11_luck_6 : ∀ w ∈ wsX60, w ∈ vX11_luck := fun _ h => List.mem_cons_of_mem _ (List.mem_append_right _ h)
set_option maxRecDepth 20000 in
theorem gg_X11_luck_X11_isIcicle : GoodIn vX11_luck (wsV RX11 136 RX11 yX11_isIcicle vX11_isIcicle) := goodIn_r _ [1, 2, 3, 4, 5, 6, 7, 8, 9, 10, 11, 12, 13, 14, 15, 16, 17, 18, 19, 20, 21, 22, 23, 24, 25, 26, 27, 28, 29, 30, 31, 32, 33, 34, 35, 36, 37, 38, 39] (by decide +kernel) (by decide +kernel)
set_option maxHeartbeats 4000000 in
set_option maxRecDepth 100000 in
theorem k_luck (l : Launch) (D : va_G) (cs : Nat → ClassId) (ad : Nat → Nat) (hj : wJ ad nW) (g : Nat → va_E) (vs : Int32) (vn : Int32) (vi : Int32) (vd : Int32) (h0 : g 0 = .inr (11, [.ref (ad 1), .ref (ad 3), .ref (ad 23), .ref (ad 43), .ref (ad 104), .ref (ad 105), .ref (ad 114), .ref (ad 116), .ref (ad 118), .ref (ad 120), .ref (ad 130), .ref (ad 140), .ref (ad 144), .ref (ad 190)])) (h3 : g 3 = .inr (6, [.int 0, .int 0, .int 0, .int 0, .int 0, .int 0, .int 0, .int 0, .ref (ad 4), .ref (ad 5), .ref (ad 6), .ref (ad 7), .ref (ad 8), .ref (ad 9), .ref (ad 10), .ref (ad 11), .ref (ad 12), .ref (ad 13)])) : cI l yX11_luck vX11_luck { frames := 1, cells := 0, slots := 0, locals := 21 } D cs ad nW [.ref (ad 0), .int vs, .int vn, .int vi, .int vd] g (fun r g2 => r = (-2) ∧ g2 = g) := by
  refine Met.start (cc := cX11_luck) (maxL := 7) (ret := (some .int)) RX11 rfl (by decide) rfl (Nat.le_of_ble_eq_true rfl) ?_
  intro p e s m below meth c ls X hP hl
  have hx := X.1
  have hb := X.2.1
  have hS : va_S (wA ad nW) s.heap s.heap [] := va_S.rf
  have hA : ∀ i, i < nW → wA ad nW (ad i) := fun i h => ⟨i, h, rfl⟩
  have hl : lv_has ls 7 [(0, .ref (ad 0)), (1, .int vs), (2, .int vn), (3, .int vi), (4, .int vd)] := hl
  refine lv_aload_n hx hb dX11_luck_0 rfl (lv_at hl 0 rfl) ?_
  refine lv_iload_n hx hb dX11_luck_1 rfl (lv_at hl 3 rfl) ?_
  refine q_calli (q := (RX11, TX11, 14)) (As := [.int vi]) (rest := []) X (k_isIcicle l D cs ad hj g vi h0 h3) (cwV 1 X.2.2.2.2.1 gg_X11_luck_X11_isIcicle rfl rfl rfl (by decide +kernel) ⟨Nat.le_of_ble_eq_true rfl, Nat.le_of_ble_eq_true rfl⟩) (by decide) h0 rfl hP hA hS rfl hl.1 rfl (Nat.le_of_ble_eq_true rfl) dX11_luck_2 ⟨Nat.le_of_ble_eq_true rfl, Nat.le_of_ble_eq_true rfl⟩ (fun r_3 g_2 H locs hw_1 hP hS => ?_)
  obtain ⟨hw_1a, hw_1b⟩ := hw_1
  subst hw_1a
  rw [hw_1b] at hP
  refine lv_if_eq (tgt := 35) hx hb dX11_luck_5 (by decide) (fun _ => ?_) (fun h => absurd h (by decide))
  refine lv_bipush (v := (-2)) hx hb dX11_luck_35 (by decide) ?_
  exact q_iret X hP hS ⟨rfl, rfl⟩ dX11_luck_37

theorem dX11_hung_0 : decode cX11_hung 0 = .ok (.aload_n 0, 1) := by decide +kernel
theorem dX11_hung_1 : decode cX11_hung 1 = .ok (.iload_n 1, 1) := by decide +kernel
theorem dX11_hung_2 : decode cX11_hung 2 = .ok (.invokevirtual 136, 3) := by decide +kernel
theorem dX11_hung_5 : decode cX11_hung 5 = .ok (.ifCond .eq 14, 3) := by decide +kernel
theorem dX11_hung_19 : decode cX11_hung 19 = .ok (.bipush (-2), 2) := by decide +kernel
theorem dX11_hung_21 : decode cX11_hung 21 = .ok (.ireturn, 1) := by decide +kernel
def vX11_hung : List Cond := .code yX11_hung cX11_hung 4 (some .int) :: ([.methodLink RX11 136 yX11_isIcicle, .instanceMethod yX11_isIcicle, .selects RX11 yX11_isIcicle yX11_isIcicle, .initialized RX11, .code yX11_isIcicle cX11_isIcicle 2 (some .boolean), .fieldLink RX11 19 "IcicleClock" "now" "LIcicleClock$Street;", .fieldLink RX11 160 "IcicleClock$Street" "icicles" "I"] ++ wsX110 ++ wsX60)
theorem iX11_hung_11 : ∀ w ∈ wsX110, w ∈ vX11_hung := fun _ h => List.mem_cons_of_mem _ (List.mem_append_left _ (List.mem_append_right _ h))
theorem iX11_hung_6 : ∀ w ∈ wsX60, w ∈ vX11_hung := fun _ h => List.mem_cons_of_mem _ (List.mem_append_right _ h)
set_option maxRecDepth 20000 in
theorem gg_X11_hung_X11_isIcicle : GoodIn vX11_hung (wsV RX11 136 RX11 yX11_isIcicle vX11_isIcicle) := goodIn_r _ [1, 2, 3, 4, 5, 6, 7, 8, 9, 10, 11, 12, 13, 14, 15, 16, 17, 18, 19, 20, 21, 22, 23, 24, 25, 26, 27, 28, 29, 30, 31, 32, 33, 34, 35, 36, 37, 38, 39] (by decide +kernel) (by decide +kernel)
set_option maxHeartbeats 4000000 in
set_option maxRecDepth 100000 in
theorem k_hung (l : Launch) (D : va_G) (cs : Nat → ClassId) (ad : Nat → Nat) (hj : wJ ad nW) (g : Nat → va_E) (vi : Int32) (vn : Int32) (h0 : g 0 = .inr (11, [.ref (ad 1), .ref (ad 3), .ref (ad 23), .ref (ad 43), .ref (ad 104), .ref (ad 105), .ref (ad 114), .ref (ad 116), .ref (ad 118), .ref (ad 120), .ref (ad 130), .ref (ad 140), .ref (ad 144), .ref (ad 190)])) (h3 : g 3 = .inr (6, [.int 0, .int 0, .int 0, .int 0, .int 0, .int 0, .int 0, .int 0, .ref (ad 4), .ref (ad 5), .ref (ad 6), .ref (ad 7), .ref (ad 8), .ref (ad 9), .ref (ad 10), .ref (ad 11), .ref (ad 12), .ref (ad 13)])) : cI l yX11_hung vX11_hung { frames := 1, cells := 0, slots := 0, locals := 21 } D cs ad nW [.ref (ad 0), .int vi, .int vn] g (fun r g2 => r = (-2) ∧ g2 = g) := by
  refine Met.start (cc := cX11_hung) (maxL := 4) (ret := (some .int)) RX11 rfl (by decide) rfl (Nat.le_of_ble_eq_true rfl) ?_
  intro p e s m below meth c ls X hP hl
  have hx := X.1
  have hb := X.2.1
  have hS : va_S (wA ad nW) s.heap s.heap [] := va_S.rf
  have hA : ∀ i, i < nW → wA ad nW (ad i) := fun i h => ⟨i, h, rfl⟩
  have hl : lv_has ls 4 [(0, .ref (ad 0)), (1, .int vi), (2, .int vn)] := hl
  refine lv_aload_n hx hb dX11_hung_0 rfl (lv_at hl 0 rfl) ?_
  refine lv_iload_n hx hb dX11_hung_1 rfl (lv_at hl 1 rfl) ?_
  refine q_calli (q := (RX11, TX11, 14)) (As := [.int vi]) (rest := []) X (k_isIcicle l D cs ad hj g vi h0 h3) (cwV 1 X.2.2.2.2.1 gg_X11_hung_X11_isIcicle rfl rfl rfl (by decide +kernel) ⟨Nat.le_of_ble_eq_true rfl, Nat.le_of_ble_eq_true rfl⟩) (by decide) h0 rfl hP hA hS rfl hl.1 rfl (Nat.le_of_ble_eq_true rfl) dX11_hung_2 ⟨Nat.le_of_ble_eq_true rfl, Nat.le_of_ble_eq_true rfl⟩ (fun r_3 g_2 H locs hw_1 hP hS => ?_)
  obtain ⟨hw_1a, hw_1b⟩ := hw_1
  subst hw_1a
  rw [hw_1b] at hP
  refine lv_if_eq (tgt := 19) hx hb dX11_hung_5 (by decide) (fun _ => ?_) (fun h => absurd h (by decide))
  refine lv_bipush (v := (-2)) hx hb dX11_hung_19 (by decide) ?_
  exact q_iret X hP hS ⟨rfl, rfl⟩ dX11_hung_21
end
section
theorem dX11_end_0 : decode cX11_end 0 = .ok (.iload_n 1, 1) := by decide +kernel
theorem dX11_end_1 : decode cX11_end 1 = .ok (.ifCond .lt 14, 3) := by decide +kernel
theorem dX11_end_15 : decode cX11_end 15 = .ok (.iconst (-1), 1) := by decide +kernel
theorem dX11_end_16 : decode cX11_end 16 = .ok (.ireturn, 1) := by decide +kernel
theorem dX11_end_4 : decode cX11_end 4 = .ok (.iload_n 1, 1) := by decide +kernel
theorem dX11_end_5 : decode cX11_end 5 = .ok (.aload_n 0, 1) := by decide +kernel
theorem dX11_end_6 : decode cX11_end 6 = .ok (.getfield 12, 3) := by decide +kernel
theorem dX11_end_9 : decode cX11_end 9 = .ok (.getfield 93, 3) := by decide +kernel
theorem dX11_end_12 : decode cX11_end 12 = .ok (.if_icmp .le 5, 3) := by decide +kernel
theorem dX11_end_17 : decode cX11_end 17 = .ok (.aload_n 0, 1) := by decide +kernel
theorem dX11_end_18 : decode cX11_end 18 = .ok (.getfield 12, 3) := by decide +kernel
theorem dX11_end_21 : decode cX11_end 21 = .ok (.iload_n 1, 1) := by decide +kernel
theorem dX11_end_22 : decode cX11_end 22 = .ok (.putfield 93, 3) := by decide +kernel
theorem dX11_end_25 : decode cX11_end 25 = .ok (.iload_n 1, 1) := by decide +kernel
theorem dX11_end_26 : decode cX11_end 26 = .ok (.ireturn, 1) := by decide +kernel
def vX11_end : List Cond := .code yX11_end cX11_end 2 (some .int) :: ([.fieldLink RX11 12 "IcicleClock" "tape" "LIcicleClock$Tape;", .fieldLink RX11 93 "IcicleClock$Tape" "filled" "I"] ++ wsX110 ++ wsX70)
theorem iX11_end_11 : ∀ w ∈ wsX110, w ∈ vX11_end := fun _ h => List.mem_cons_of_mem _ (List.mem_append_left _ (List.mem_append_right _ h))
theorem iX11_end_7 : ∀ w ∈ wsX70, w ∈ vX11_end := fun _ h => List.mem_cons_of_mem _ (List.mem_append_right _ h)
set_option maxHeartbeats 4000000 in
set_option maxRecDepth 100000 in
theorem k_end (l : Launch) (D : va_G) (cs : Nat → ClassId) (ad : Nat → Nat) (hj : wJ ad nW) (g : Nat → va_E) (vn : Int32) (h0 : g 0 = .inr (11, [.ref (ad 1), .ref (ad 3), .ref (ad 23), .ref (ad 43), .ref (ad 104), .ref (ad 105), .ref (ad 114), .ref (ad 116), .ref (ad 118), .ref (ad 120), .ref (ad 130), .ref (ad 140), .ref (ad 144), .ref (ad 190)])) (h1 : g 1 = .inr (7, [.ref (ad 2), .int 0, .int 0, .int (-1), .int 0, .int 0, .int 0])) : cI l yX11_end vX11_end { frames := 0, cells := 0, slots := 0, locals := 0 } D cs ad nW [.ref (ad 0), .int vn] g (fun r g2 => r = aEnd vn) := by
  refine Met.start (cc := cX11_end) (maxL := 2) (ret := (some .int)) RX11 rfl (by decide) rfl (Nat.le_of_ble_eq_true rfl) ?_
  intro p e s m below meth c ls X hP hl
  have hx := X.1
  have hb := X.2.1
  have hS : va_S (wA ad nW) s.heap s.heap [] := va_S.rf
  have hA : ∀ i, i < nW → wA ad nW (ad i) := fun i h => ⟨i, h, rfl⟩
  have hl : lv_has ls 2 [(0, .ref (ad 0)), (1, .int vn)] := hl
  refine lv_iload_n hx hb dX11_end_0 rfl (lv_at hl 1 rfl) ?_
  refine lv_if_lt (tgt := 15) hx hb dX11_end_1 (by decide) (fun hc_1 => ?_) (fun hc_1 => ?_)
  · refine lv_iconst (v := (-1)) hx hb dX11_end_15 (by decide) ?_
    exact q_iret X hP hS (by first | exact aEnd_ne (fun h => absurd hc_1 (by rw [h]; decide)) | exact aEnd_ne (fun h => absurd (Int32.le_of_eq h) hc_12)) dX11_end_16
  · refine lv_iload_n hx hb dX11_end_4 rfl (lv_at hl 1 rfl) ?_
    refine lv_aload_n hx hb dX11_end_5 rfl (lv_at hl 0 rfl) ?_
    refine q_get X iX11_end_11 hP (by decide) h0 rfl 0 (by decide) (List.mem_of_getElem? (i := 1) rfl) (v := .ref (ad 1)) rfl dX11_end_6 ?_
    refine q_get X iX11_end_7 hP (by decide) h1 rfl 1 (by decide) (List.mem_of_getElem? (i := 2) rfl) (v := .int 0) rfl dX11_end_9 ?_
    refine lv_icmp_le (tgt := 17) hx hb dX11_end_12 (by decide) (fun hc_12 => ?_) (fun hc_12 => ?_)
    · refine lv_aload_n hx hb dX11_end_17 rfl (lv_at hl 0 rfl) ?_
      refine q_get X iX11_end_11 hP (by decide) h0 rfl 0 (by decide) (List.mem_of_getElem? (i := 1) rfl) (v := .ref (ad 1)) rfl dX11_end_18 ?_
      refine lv_iload_n hx hb dX11_end_21 rfl (lv_at hl 1 rfl) ?_
      refine q_put X iX11_end_7 tyX7 tyX7_ok nmX7 hP hj hA hS (by decide) h1 rfl 1 (by decide) (List.mem_of_getElem? (i := 2) rfl) rfl (ty := .int) (v := .int vn) (by decide +kernel) rfl rfl (Nat.le_of_ble_eq_true rfl) dX11_end_22 (fun H locs hP hS => ?_)
      generalize eg_1 : va_up g 1 _ = g_1 at hP
      have h_2 : g_1 0 = .inr (11, [.ref (ad 1), .ref (ad 3), .ref (ad 23), .ref (ad 43), .ref (ad 104), .ref (ad 105), .ref (ad 114), .ref (ad 116), .ref (ad 118), .ref (ad 120), .ref (ad 130), .ref (ad 140), .ref (ad 144), .ref (ad 190)]) := by rw [← eg_1, va_up_ne _ _ (by decide)]; exact h0
      have h_3 : g_1 1 = .inr (7, [.ref (ad 2), .int vn, .int 0, .int (-1), .int 0, .int 0, .int 0]) := by rw [← eg_1]; exact va_up_self _ _ _
      refine lv_iload_n hx hb dX11_end_25 rfl (lv_at hl 1 rfl) ?_
      exact q_iret X hP hS (by rw [i_eq hc_1 hc_12]; exact (if_pos rfl).symm) dX11_end_26
    · refine lv_iconst (v := (-1)) hx hb dX11_end_15 (by decide) ?_
      exact q_iret X hP hS (by first | exact aEnd_ne (fun h => absurd hc_1 (by rw [h]; decide)) | exact aEnd_ne (fun h => absurd (Int32.le_of_eq h) hc_12)) dX11_end_16

theorem dX11_fault_0 : decode cX11_fault 0 = .ok (.iload_n 1, 1) := by decide +kernel
theorem dX11_fault_1 : decode cX11_fault 1 = .ok (.ifCond .ne 11, 3) := by decide +kernel
theorem dX11_fault_12 : decode cX11_fault 12 = .ok (.iload_n 1, 1) := by decide +kernel
theorem dX11_fault_13 : decode cX11_fault 13 = .ok (.iconst 1, 1) := by decide +kernel
theorem dX11_fault_14 : decode cX11_fault 14 = .ok (.if_icmp .ne 13, 3) := by decide +kernel
theorem dX11_fault_27 : decode cX11_fault 27 = .ok (.iconst (-1), 1) := by decide +kernel
theorem dX11_fault_28 : decode cX11_fault 28 = .ok (.ireturn, 1) := by decide +kernel
theorem dX11_fault_17 : decode cX11_fault 17 = .ok (.aload_n 0, 1) := by decide +kernel
theorem dX11_fault_18 : decode cX11_fault 18 = .ok (.getfield 12, 3) := by decide +kernel
theorem dX11_fault_21 : decode cX11_fault 21 = .ok (.getfield 118, 3) := by decide +kernel
theorem dX11_fault_24 : decode cX11_fault 24 = .ok (.goto 4, 3) := by decide +kernel
theorem dX11_fault_4 : decode cX11_fault 4 = .ok (.aload_n 0, 1) := by decide +kernel
theorem dX11_fault_5 : decode cX11_fault 5 = .ok (.getfield 12, 3) := by decide +kernel
theorem dX11_fault_8 : decode cX11_fault 8 = .ok (.getfield 115, 3) := by decide +kernel
theorem dX11_fault_11 : decode cX11_fault 11 = .ok (.ireturn, 1) := by decide +kernel
def vX11_fault : List Cond := .code yX11_fault cX11_fault 2 (some .int) :: ([.fieldLink RX11 12 "IcicleClock" "tape" "LIcicleClock$Tape;", .fieldLink RX11 118 "IcicleClock$Tape" "faultPlace" "I", .fieldLink RX11 115 "IcicleClock$Tape" "fault" "I"] ++ wsX110 ++ wsX70)
theorem iX11_fault_11 : ∀ w ∈ wsX110, w ∈ vX11_fault := fun _ h => List.mem_cons_of_mem _ (List.mem_append_left _ (List.mem_append_right _ h))
theorem iX11_fault_7 : ∀ w ∈ wsX70, w ∈ vX11_fault := fun _ h => List.mem_cons_of_mem _ (List.mem_append_right _ h)
set_option maxHeartbeats 4000000 in
set_option maxRecDepth 100000 in
theorem k_fault (l : Launch) (D : va_G) (cs : Nat → ClassId) (ad : Nat → Nat) (hj : wJ ad nW) (g : Nat → va_E) (vw : Int32) (h0 : g 0 = .inr (11, [.ref (ad 1), .ref (ad 3), .ref (ad 23), .ref (ad 43), .ref (ad 104), .ref (ad 105), .ref (ad 114), .ref (ad 116), .ref (ad 118), .ref (ad 120), .ref (ad 130), .ref (ad 140), .ref (ad 144), .ref (ad 190)])) (h1 : g 1 = .inr (7, [.ref (ad 2), .int 0, .int 0, .int (-1), .int 0, .int 0, .int 0])) : cI l yX11_fault vX11_fault { frames := 0, cells := 0, slots := 0, locals := 0 } D cs ad nW [.ref (ad 0), .int vw] g (fun r g2 => r = aEnd vw) := by
  refine Met.start (cc := cX11_fault) (maxL := 2) (ret := (some .int)) RX11 rfl (by decide) rfl (Nat.le_of_ble_eq_true rfl) ?_
  intro p e s m below meth c ls X hP hl
  have hx := X.1
  have hb := X.2.1
  have hS : va_S (wA ad nW) s.heap s.heap [] := va_S.rf
  have hA : ∀ i, i < nW → wA ad nW (ad i) := fun i h => ⟨i, h, rfl⟩
  have hl : lv_has ls 2 [(0, .ref (ad 0)), (1, .int vw)] := hl
  refine lv_iload_n hx hb dX11_fault_0 rfl (lv_at hl 1 rfl) ?_
  refine lv_if_ne (tgt := 12) hx hb dX11_fault_1 (by decide) (fun hc_1 => ?_) (fun hc_1 => ?_)
  · refine lv_iload_n hx hb dX11_fault_12 rfl (lv_at hl 1 rfl) ?_
    refine lv_iconst (v := 1) hx hb dX11_fault_13 (by decide) ?_
    refine lv_icmp_ne (tgt := 27) hx hb dX11_fault_14 (by decide) (fun hc_14 => ?_) (fun hc_14 => ?_)
    · refine lv_iconst (v := (-1)) hx hb dX11_fault_27 (by decide) ?_
      exact q_iret X hP hS (aEnd_ne hc_1) dX11_fault_28
    · refine lv_aload_n hx hb dX11_fault_17 rfl (lv_at hl 0 rfl) ?_
      refine q_get X iX11_fault_11 hP (by decide) h0 rfl 0 (by decide) (List.mem_of_getElem? (i := 1) rfl) (v := .ref (ad 1)) rfl dX11_fault_18 ?_
      refine q_get X iX11_fault_7 hP (by decide) h1 rfl 3 (by decide) (List.mem_of_getElem? (i := 2) rfl) (v := .int (-1)) rfl dX11_fault_21 ?_
      refine lv_goto (tgt := 28) hx hb dX11_fault_24 (by decide) ?_
      exact q_iret X hP hS (aEnd_ne hc_1) dX11_fault_28
  · refine lv_aload_n hx hb dX11_fault_4 rfl (lv_at hl 0 rfl) ?_
    refine q_get X iX11_fault_11 hP (by decide) h0 rfl 0 (by decide) (List.mem_of_getElem? (i := 1) rfl) (v := .ref (ad 1)) rfl dX11_fault_5 ?_
    refine q_get X iX11_fault_7 hP (by decide) h1 rfl 2 (by decide) (List.mem_of_getElem? (i := 3) rfl) (v := .int 0) rfl dX11_fault_8 ?_
    exact q_iret X hP hS (by rw [show vw = 0 from hc_1]; exact (if_pos rfl).symm) dX11_fault_11

theorem dX11_back_0 : decode cX11_back 0 = .ok (.iload_n 1, 1) := by decide +kernel
theorem dX11_back_1 : decode cX11_back 1 = .ok (.ifCond .lt 8, 3) := by decide +kernel
theorem dX11_back_9 : decode cX11_back 9 = .ok (.bipush (-2), 2) := by decide +kernel
theorem dX11_back_11 : decode cX11_back 11 = .ok (.ireturn, 1) := by decide +kernel
theorem dX11_back_4 : decode cX11_back 4 = .ok (.iload_n 1, 1) := by decide +kernel
theorem dX11_back_5 : decode cX11_back 5 = .ok (.iconst 3, 1) := by decide +kernel
theorem dX11_back_6 : decode cX11_back 6 = .ok (.if_icmp .lt 6, 3) := by decide +kernel
theorem dX11_back_12 : decode cX11_back 12 = .ok (.aload_n 0, 1) := by decide +kernel
theorem dX11_back_13 : decode cX11_back 13 = .ok (.getfield 30, 3) := by decide +kernel
theorem dX11_back_16 : decode cX11_back 16 = .ok (.iload_n 1, 1) := by decide +kernel
theorem dX11_back_17 : decode cX11_back 17 = .ok (.baload, 1) := by decide +kernel
theorem dX11_back_18 : decode cX11_back 18 = .ok (.ifCond .ne 6, 3) := by decide +kernel
theorem dX11_back_21 : decode cX11_back 21 = .ok (.bipush (-6), 2) := by decide +kernel
theorem dX11_back_23 : decode cX11_back 23 = .ok (.ireturn, 1) := by decide +kernel
def vX11_back : List Cond := .code yX11_back cX11_back 2 (some .int) :: ([.fieldLink RX11 30 "IcicleClock" "kept" "[Z"] ++ wsX110)
theorem iX11_back_11 : ∀ w ∈ wsX110, w ∈ vX11_back := fun _ h => List.mem_cons_of_mem _ (List.mem_append_right _ h)
set_option maxHeartbeats 4000000 in
set_option maxRecDepth 100000 in
theorem k_back (l : Launch) (D : va_G) (cs : Nat → ClassId) (ad : Nat → Nat) (hj : wJ ad nW) (g : Nat → va_E) (vk : Int32) (h0 : g 0 = .inr (11, [.ref (ad 1), .ref (ad 3), .ref (ad 23), .ref (ad 43), .ref (ad 104), .ref (ad 105), .ref (ad 114), .ref (ad 116), .ref (ad 118), .ref (ad 120), .ref (ad 130), .ref (ad 140), .ref (ad 144), .ref (ad 190)])) (h104 : g 104 = .inl (cs 3, 3, .inl (fun _ => 0))) : cI l yX11_back vX11_back { frames := 0, cells := 0, slots := 0, locals := 0 } D cs ad nW [.ref (ad 0), .int vk] g (fun r g2 => r = aBack vk) := by
  refine Met.start (cc := cX11_back) (maxL := 2) (ret := (some .int)) RX11 rfl (by decide) rfl (Nat.le_of_ble_eq_true rfl) ?_
  intro p e s m below meth c ls X hP hl
  have hx := X.1
  have hb := X.2.1
  have hS : va_S (wA ad nW) s.heap s.heap [] := va_S.rf
  have hA : ∀ i, i < nW → wA ad nW (ad i) := fun i h => ⟨i, h, rfl⟩
  have hl : lv_has ls 2 [(0, .ref (ad 0)), (1, .int vk)] := hl
  refine lv_iload_n hx hb dX11_back_0 rfl (lv_at hl 1 rfl) ?_
  refine lv_if_lt (tgt := 9) hx hb dX11_back_1 (by decide) (fun hc_1 => ?_) (fun hc_1 => ?_)
  · refine lv_bipush (v := (-2)) hx hb dX11_back_9 (by decide) ?_
    exact q_iret X hP hS (by unfold aBack; first | rw [if_pos hc_1] | rw [if_neg hc_1, if_neg hc_6]) dX11_back_11
  · refine lv_iload_n hx hb dX11_back_4 rfl (lv_at hl 1 rfl) ?_
    refine lv_iconst (v := 3) hx hb dX11_back_5 (by decide) ?_
    refine lv_icmp_lt (tgt := 12) hx hb dX11_back_6 (by decide) (fun hc_6 => ?_) (fun hc_6 => ?_)
    · rcases in3 hc_1 hc_6 with rfl | rfl | rfl
      · refine lv_aload_n hx hb dX11_back_12 rfl (lv_at hl 0 rfl) ?_
        refine q_get X iX11_back_11 hP (by decide) h0 rfl 4 (by decide) (List.mem_of_getElem? (i := 1) rfl) (v := .ref (ad 104)) rfl dX11_back_13 ?_
        refine lv_iload_n hx hb dX11_back_16 rfl (lv_at hl 1 rfl) ?_
        refine q_zald X hP (by decide) h104 (by unfold vp_in; decide) dX11_back_17 ?_
        refine lv_if_ne (tgt := 24) hx hb dX11_back_18 (by decide) (fun h => absurd h (by decide)) (fun _ => ?_)
        refine lv_bipush (v := (-6)) hx hb dX11_back_21 (by decide) ?_
        exact q_iret X hP hS (by unfold aBack; rfl) dX11_back_23
      · refine lv_aload_n hx hb dX11_back_12 rfl (lv_at hl 0 rfl) ?_
        refine q_get X iX11_back_11 hP (by decide) h0 rfl 4 (by decide) (List.mem_of_getElem? (i := 1) rfl) (v := .ref (ad 104)) rfl dX11_back_13 ?_
        refine lv_iload_n hx hb dX11_back_16 rfl (lv_at hl 1 rfl) ?_
        refine q_zald X hP (by decide) h104 (by unfold vp_in; decide) dX11_back_17 ?_
        refine lv_if_ne (tgt := 24) hx hb dX11_back_18 (by decide) (fun h => absurd h (by decide)) (fun _ => ?_)
        refine lv_bipush (v := (-6)) hx hb dX11_back_21 (by decide) ?_
        exact q_iret X hP hS (by unfold aBack; rfl) dX11_back_23
      · refine lv_aload_n hx hb dX11_back_12 rfl (lv_at hl 0 rfl) ?_
        refine q_get X iX11_back_11 hP (by decide) h0 rfl 4 (by decide) (List.mem_of_getElem? (i := 1) rfl) (v := .ref (ad 104)) rfl dX11_back_13 ?_
        refine lv_iload_n hx hb dX11_back_16 rfl (lv_at hl 1 rfl) ?_
        refine q_zald X hP (by decide) h104 (by unfold vp_in; decide) dX11_back_17 ?_
        refine lv_if_ne (tgt := 24) hx hb dX11_back_18 (by decide) (fun h => absurd h (by decide)) (fun _ => ?_)
        refine lv_bipush (v := (-6)) hx hb dX11_back_21 (by decide) ?_
        exact q_iret X hP hS (by unfold aBack; rfl) dX11_back_23
    · refine lv_bipush (v := (-2)) hx hb dX11_back_9 (by decide) ?_
      exact q_iret X hP hS (by unfold aBack; first | rw [if_pos hc_1] | rw [if_neg hc_1, if_neg hc_6]) dX11_back_11

theorem dX11_write_0 : decode cX11_write 0 = .ok (.iload_n 1, 1) := by decide +kernel
theorem dX11_write_1 : decode cX11_write 1 = .ok (.invokestatic 377, 3) := by decide +kernel
theorem dX11_write_4 : decode cX11_write 4 = .ok (.ifCond .ne 6, 3) := by decide +kernel
theorem dX11_write_10 : decode cX11_write 10 = .ok (.aload_n 0, 1) := by decide +kernel
theorem dX11_write_11 : decode cX11_write 11 = .ok (.getfield 36, 3) := by decide +kernel
theorem dX11_write_14 : decode cX11_write 14 = .ok (.iload_n 1, 1) := by decide +kernel
theorem dX11_write_15 : decode cX11_write 15 = .ok (.aaload, 1) := by decide +kernel
theorem dX11_write_16 : decode cX11_write 16 = .ok (.astore 5, 2) := by decide +kernel
theorem dX11_write_18 : decode cX11_write 18 = .ok (.aload 5, 2) := by decide +kernel
theorem dX11_write_20 : decode cX11_write 20 = .ok (.getfield 384, 3) := by decide +kernel
theorem dX11_write_23 : decode cX11_write 23 = .ok (.ifCond .ne 6, 3) := by decide +kernel
theorem dX11_write_26 : decode cX11_write 26 = .ok (.bipush (-6), 2) := by decide +kernel
theorem dX11_write_28 : decode cX11_write 28 = .ok (.ireturn, 1) := by decide +kernel
theorem dX11_write_7 : decode cX11_write 7 = .ok (.bipush (-2), 2) := by decide +kernel
theorem dX11_write_9 : decode cX11_write 9 = .ok (.ireturn, 1) := by decide +kernel
def vX11_write : List Cond := .code yX11_write cX11_write 6 (some .int) :: ([.methodLink RX11 377 yX11_isSlot, .static yX11_isSlot, .initialized RX11, .code yX11_isSlot cX11_isSlot 1 (some .boolean), .fieldLink RX11 36 "IcicleClock" "slots" "[LIcicleClock$Slot;", .fieldLink RX11 384 "IcicleClock$Slot" "laid" "Z"] ++ wsX110 ++ wsX50)
theorem iX11_write_11 : ∀ w ∈ wsX110, w ∈ vX11_write := fun _ h => List.mem_cons_of_mem _ (List.mem_append_left _ (List.mem_append_right _ h))
theorem iX11_write_5 : ∀ w ∈ wsX50, w ∈ vX11_write := fun _ h => List.mem_cons_of_mem _ (List.mem_append_right _ h)
set_option maxRecDepth 20000 in
theorem gg_X11_write_X11_isSlot : GoodIn vX11_write (wsS RX11 377 yX11_isSlot vX11_isSlot) := goodIn_r _ [1, 2, 3, 4] (by decide +kernel) (by decide +kernel)
set_option maxHeartbeats 4000000 in
set_option maxRecDepth 100000 in
theorem k_write (l : Launch) (D : va_G) (cs : Nat → ClassId) (ad : Nat → Nat) (hj : wJ ad nW) (g : Nat → va_E) (vs : Int32) (vi : Int32) (vv : Int64) (h0 : g 0 = .inr (11, [.ref (ad 1), .ref (ad 3), .ref (ad 23), .ref (ad 43), .ref (ad 104), .ref (ad 105), .ref (ad 114), .ref (ad 116), .ref (ad 118), .ref (ad 120), .ref (ad 130), .ref (ad 140), .ref (ad 144), .ref (ad 190)])) (h105 : g 105 = .inl (cs 4, 4, .inr (.inr (.inr (.inr (fun k => if k < 4 then some (ad (106 + 2 * k)) else none)))))) (h106 : g 106 = .inr (5, [.ref (ad 107), .int 0, .int 0, .int 0])) (h108 : g 108 = .inr (5, [.ref (ad 109), .int 0, .int 0, .int 0])) (h110 : g 110 = .inr (5, [.ref (ad 111), .int 0, .int 0, .int 0])) (h112 : g 112 = .inr (5, [.ref (ad 113), .int 0, .int 0, .int 0])) : cI l yX11_write vX11_write { frames := 1, cells := 0, slots := 0, locals := 20 } D cs ad nW [.ref (ad 0), .int vs, .int vi, .long vv] g (fun r g2 => r = aWr vs) := by
  refine Met.start (cc := cX11_write) (maxL := 6) (ret := (some .int)) RX11 rfl (by decide) rfl (Nat.le_of_ble_eq_true rfl) ?_
  intro p e s m below meth c ls X hP hl
  have hx := X.1
  have hb := X.2.1
  have hS : va_S (wA ad nW) s.heap s.heap [] := va_S.rf
  have hA : ∀ i, i < nW → wA ad nW (ad i) := fun i h => ⟨i, h, rfl⟩
  have hl : lv_has ls 6 [(0, .ref (ad 0)), (1, .int vs), (2, .int vi), (3, .long vv)] := hl
  refine lv_iload_n hx hb dX11_write_0 rfl (lv_at hl 1 rfl) ?_
  refine q_callSi (As := [.int vs]) (rest := []) X (k_isSlot l D cs ad hj g vs ) (cwS 1 X.2.2.2.2.1 gg_X11_write_X11_isSlot rfl rfl rfl (by decide +kernel) ⟨Nat.le_of_ble_eq_true rfl, Nat.le_of_ble_eq_true rfl⟩) hP hA hS rfl hl.1 rfl (Nat.le_of_ble_eq_true rfl) dX11_write_1 ⟨Nat.le_of_ble_eq_true rfl, Nat.le_of_ble_eq_true rfl⟩ (fun r_3 g_2 H locs hw_1 hP hS => ?_)
  obtain ⟨hw_1b, hw_1⟩ := hw_1
  rw [hw_1b] at hP
  refine lv_if_ne (tgt := 10) hx hb dX11_write_4 (by decide) (fun hc_4 => ?_) (fun hc_4 => ?_)
  · rcases inS_4 (hw_1.elim (fun q => q.2) (fun q => absurd q.1 hc_4)) with rfl | rfl | rfl | rfl
    · refine lv_aload_n hx hb dX11_write_10 rfl (lv_at hl 0 rfl) ?_
      refine q_get X iX11_write_11 hP (by decide) h0 rfl 5 (by decide) (List.mem_of_getElem? (i := 5) rfl) (v := .ref (ad 105)) rfl dX11_write_11 ?_
      refine lv_iload_n hx hb dX11_write_14 rfl (lv_at hl 1 rfl) ?_
      refine q_aald X hP 4 rfl (by decide) h105 (by unfold vp_in; decide) (v := ad 106) rfl dX11_write_15 ?_
      refine lv_astore (lv' := [(5, .ref (ad 106)), (0, .ref (ad 0)), (1, .int 0), (2, .int vi), (3, .long vv)]) hx hb dX11_write_16 hl (by decide) rfl (fun ls hl => ?_)
      refine lv_aload hx hb dX11_write_18 (lv_at hl 0 rfl) ?_
      refine q_get X iX11_write_5 hP (by decide) h106 rfl 1 (by decide) (List.mem_of_getElem? (i := 6) rfl) (v := .int 0) rfl dX11_write_20 ?_
      refine lv_if_ne (tgt := 29) hx hb dX11_write_23 (by decide) (fun h => absurd h (by decide)) (fun _ => ?_)
      refine lv_bipush (v := (-6)) hx hb dX11_write_26 (by decide) ?_
      exact q_iret X hP hS (by first | rfl | (unfold aWr; rfl)) dX11_write_28
    · refine lv_aload_n hx hb dX11_write_10 rfl (lv_at hl 0 rfl) ?_
      refine q_get X iX11_write_11 hP (by decide) h0 rfl 5 (by decide) (List.mem_of_getElem? (i := 5) rfl) (v := .ref (ad 105)) rfl dX11_write_11 ?_
      refine lv_iload_n hx hb dX11_write_14 rfl (lv_at hl 1 rfl) ?_
      refine q_aald X hP 4 rfl (by decide) h105 (by unfold vp_in; decide) (v := ad 108) rfl dX11_write_15 ?_
      refine lv_astore (lv' := [(5, .ref (ad 108)), (0, .ref (ad 0)), (1, .int 1), (2, .int vi), (3, .long vv)]) hx hb dX11_write_16 hl (by decide) rfl (fun ls hl => ?_)
      refine lv_aload hx hb dX11_write_18 (lv_at hl 0 rfl) ?_
      refine q_get X iX11_write_5 hP (by decide) h108 rfl 1 (by decide) (List.mem_of_getElem? (i := 6) rfl) (v := .int 0) rfl dX11_write_20 ?_
      refine lv_if_ne (tgt := 29) hx hb dX11_write_23 (by decide) (fun h => absurd h (by decide)) (fun _ => ?_)
      refine lv_bipush (v := (-6)) hx hb dX11_write_26 (by decide) ?_
      exact q_iret X hP hS (by first | rfl | (unfold aWr; rfl)) dX11_write_28
    · refine lv_aload_n hx hb dX11_write_10 rfl (lv_at hl 0 rfl) ?_
      refine q_get X iX11_write_11 hP (by decide) h0 rfl 5 (by decide) (List.mem_of_getElem? (i := 5) rfl) (v := .ref (ad 105)) rfl dX11_write_11 ?_
      refine lv_iload_n hx hb dX11_write_14 rfl (lv_at hl 1 rfl) ?_
      refine q_aald X hP 4 rfl (by decide) h105 (by unfold vp_in; decide) (v := ad 110) rfl dX11_write_15 ?_
      refine lv_astore (lv' := [(5, .ref (ad 110)), (0, .ref (ad 0)), (1, .int 2), (2, .int vi), (3, .long vv)]) hx hb dX11_write_16 hl (by decide) rfl (fun ls hl => ?_)
      refine lv_aload hx hb dX11_write_18 (lv_at hl 0 rfl) ?_
      refine q_get X iX11_write_5 hP (by decide) h110 rfl 1 (by decide) (List.mem_of_getElem? (i := 6) rfl) (v := .int 0) rfl dX11_write_20 ?_
      refine lv_if_ne (tgt := 29) hx hb dX11_write_23 (by decide) (fun h => absurd h (by decide)) (fun _ => ?_)
      refine lv_bipush (v := (-6)) hx hb dX11_write_26 (by decide) ?_
      exact q_iret X hP hS (by first | rfl | (unfold aWr; rfl)) dX11_write_28
    · refine lv_aload_n hx hb dX11_write_10 rfl (lv_at hl 0 rfl) ?_
      refine q_get X iX11_write_11 hP (by decide) h0 rfl 5 (by decide) (List.mem_of_getElem? (i := 5) rfl) (v := .ref (ad 105)) rfl dX11_write_11 ?_
      refine lv_iload_n hx hb dX11_write_14 rfl (lv_at hl 1 rfl) ?_
      refine q_aald X hP 4 rfl (by decide) h105 (by unfold vp_in; decide) (v := ad 112) rfl dX11_write_15 ?_
      refine lv_astore (lv' := [(5, .ref (ad 112)), (0, .ref (ad 0)), (1, .int 3), (2, .int vi), (3, .long vv)]) hx hb dX11_write_16 hl (by decide) rfl (fun ls hl => ?_)
      refine lv_aload hx hb dX11_write_18 (lv_at hl 0 rfl) ?_
      refine q_get X iX11_write_5 hP (by decide) h112 rfl 1 (by decide) (List.mem_of_getElem? (i := 6) rfl) (v := .int 0) rfl dX11_write_20 ?_
      refine lv_if_ne (tgt := 29) hx hb dX11_write_23 (by decide) (fun h => absurd h (by decide)) (fun _ => ?_)
      refine lv_bipush (v := (-6)) hx hb dX11_write_26 (by decide) ?_
      exact q_iret X hP hS (by first | rfl | (unfold aWr; rfl)) dX11_write_28
  · refine lv_bipush (v := (-2)) hx hb dX11_write_7 (by decide) ?_
    exact q_iret X hP hS (aWr_out (hw_1.elim (fun q => absurd (q.1.symm.trans hc_4) (by decide)) (fun q => q.2))).symm dX11_write_9

theorem dX11_paste_0 : decode cX11_paste 0 = .ok (.iload_n 1, 1) := by decide +kernel
theorem dX11_paste_1 : decode cX11_paste 1 = .ok (.invokestatic 377, 3) := by decide +kernel
theorem dX11_paste_4 : decode cX11_paste 4 = .ok (.ifCond .eq 10, 3) := by decide +kernel
theorem dX11_paste_14 : decode cX11_paste 14 = .ok (.bipush (-2), 2) := by decide +kernel
theorem dX11_paste_16 : decode cX11_paste 16 = .ok (.ireturn, 1) := by decide +kernel
theorem dX11_paste_7 : decode cX11_paste 7 = .ok (.iload_n 3, 1) := by decide +kernel
theorem dX11_paste_8 : decode cX11_paste 8 = .ok (.invokestatic 377, 3) := by decide +kernel
theorem dX11_paste_11 : decode cX11_paste 11 = .ok (.ifCond .ne 6, 3) := by decide +kernel
theorem dX11_paste_17 : decode cX11_paste 17 = .ok (.aload_n 0, 1) := by decide +kernel
theorem dX11_paste_18 : decode cX11_paste 18 = .ok (.getfield 36, 3) := by decide +kernel
theorem dX11_paste_21 : decode cX11_paste 21 = .ok (.iload_n 1, 1) := by decide +kernel
theorem dX11_paste_22 : decode cX11_paste 22 = .ok (.aaload, 1) := by decide +kernel
theorem dX11_paste_23 : decode cX11_paste 23 = .ok (.astore 6, 2) := by decide +kernel
theorem dX11_paste_25 : decode cX11_paste 25 = .ok (.aload_n 0, 1) := by decide +kernel
theorem dX11_paste_26 : decode cX11_paste 26 = .ok (.getfield 36, 3) := by decide +kernel
theorem dX11_paste_29 : decode cX11_paste 29 = .ok (.iload_n 3, 1) := by decide +kernel
theorem dX11_paste_30 : decode cX11_paste 30 = .ok (.aaload, 1) := by decide +kernel
theorem dX11_paste_31 : decode cX11_paste 31 = .ok (.astore 7, 2) := by decide +kernel
theorem dX11_paste_33 : decode cX11_paste 33 = .ok (.aload 6, 2) := by decide +kernel
theorem dX11_paste_35 : decode cX11_paste 35 = .ok (.getfield 384, 3) := by decide +kernel
theorem dX11_paste_38 : decode cX11_paste 38 = .ok (.ifCond .eq 11, 3) := by decide +kernel
theorem dX11_paste_49 : decode cX11_paste 49 = .ok (.bipush (-6), 2) := by decide +kernel
theorem dX11_paste_51 : decode cX11_paste 51 = .ok (.ireturn, 1) := by decide +kernel
def vX11_paste : List Cond := .code yX11_paste cX11_paste 8 (some .int) :: ([.methodLink RX11 377 yX11_isSlot, .static yX11_isSlot, .initialized RX11, .code yX11_isSlot cX11_isSlot 1 (some .boolean), .fieldLink RX11 36 "IcicleClock" "slots" "[LIcicleClock$Slot;", .fieldLink RX11 384 "IcicleClock$Slot" "laid" "Z"] ++ wsX110 ++ wsX50)
theorem iX11_paste_11 : ∀ w ∈ wsX110, w ∈ vX11_paste := fun _ h => List.mem_cons_of_mem _ (List.mem_append_left _ (List.mem_append_right _ h))
theorem iX11_paste_5 : ∀ w ∈ wsX50, w ∈ vX11_paste := fun _ h => List.mem_cons_of_mem _ (List.mem_append_right _ h)
set_option maxRecDepth 20000 in
theorem gg_X11_paste_X11_isSlot : GoodIn vX11_paste (wsS RX11 377 yX11_isSlot vX11_isSlot) := goodIn_r _ [1, 2, 3, 4] (by decide +kernel) (by decide +kernel)
set_option maxHeartbeats 4000000 in
set_option maxRecDepth 100000 in
theorem k_paste (l : Launch) (D : va_G) (cs : Nat → ClassId) (ad : Nat → Nat) (hj : wJ ad nW) (g : Nat → va_E) (vs : Int32) (vi : Int32) (vt : Int32) (vk : Int32) (vn : Int32) (h0 : g 0 = .inr (11, [.ref (ad 1), .ref (ad 3), .ref (ad 23), .ref (ad 43), .ref (ad 104), .ref (ad 105), .ref (ad 114), .ref (ad 116), .ref (ad 118), .ref (ad 120), .ref (ad 130), .ref (ad 140), .ref (ad 144), .ref (ad 190)])) (h105 : g 105 = .inl (cs 4, 4, .inr (.inr (.inr (.inr (fun k => if k < 4 then some (ad (106 + 2 * k)) else none)))))) (h106 : g 106 = .inr (5, [.ref (ad 107), .int 0, .int 0, .int 0])) (h108 : g 108 = .inr (5, [.ref (ad 109), .int 0, .int 0, .int 0])) (h110 : g 110 = .inr (5, [.ref (ad 111), .int 0, .int 0, .int 0])) (h112 : g 112 = .inr (5, [.ref (ad 113), .int 0, .int 0, .int 0])) : cI l yX11_paste vX11_paste { frames := 1, cells := 0, slots := 0, locals := 20 } D cs ad nW [.ref (ad 0), .int vs, .int vi, .int vt, .int vk, .int vn] g (fun r g2 => r = aPst vs vt) := by
  refine Met.start (cc := cX11_paste) (maxL := 8) (ret := (some .int)) RX11 rfl (by decide) rfl (Nat.le_of_ble_eq_true rfl) ?_
  intro p e s m below meth c ls X hP hl
  have hx := X.1
  have hb := X.2.1
  have hS : va_S (wA ad nW) s.heap s.heap [] := va_S.rf
  have hA : ∀ i, i < nW → wA ad nW (ad i) := fun i h => ⟨i, h, rfl⟩
  have hl : lv_has ls 8 [(0, .ref (ad 0)), (1, .int vs), (2, .int vi), (3, .int vt), (4, .int vk), (5, .int vn)] := hl
  refine lv_iload_n hx hb dX11_paste_0 rfl (lv_at hl 1 rfl) ?_
  refine q_callSi (As := [.int vs]) (rest := []) X (k_isSlot l D cs ad hj g vs ) (cwS 1 X.2.2.2.2.1 gg_X11_paste_X11_isSlot rfl rfl rfl (by decide +kernel) ⟨Nat.le_of_ble_eq_true rfl, Nat.le_of_ble_eq_true rfl⟩) hP hA hS rfl hl.1 rfl (Nat.le_of_ble_eq_true rfl) dX11_paste_1 ⟨Nat.le_of_ble_eq_true rfl, Nat.le_of_ble_eq_true rfl⟩ (fun r_3 g_2 H locs hw_1 hP hS => ?_)
  obtain ⟨hw_1b, hw_1⟩ := hw_1
  rw [hw_1b] at hP
  refine lv_if_eq (tgt := 14) hx hb dX11_paste_4 (by decide) (fun hc_4 => ?_) (fun hc_4 => ?_)
  · refine lv_bipush (v := (-2)) hx hb dX11_paste_14 (by decide) ?_
    exact q_iret X hP hS (by first | exact (aPst_out (hw_1.elim (fun q => absurd (q.1.symm.trans hc_4) (by decide)) (fun q => q.2))).symm | exact ((aPst_in (hw_1.elim (fun q => q.2) (fun q => absurd q.1 hc_4))).trans (aWr_out (hw_4.elim (fun q => absurd (q.1.symm.trans hc_11) (by decide)) (fun q => q.2)))).symm) dX11_paste_16
  · refine lv_iload_n hx hb dX11_paste_7 rfl (lv_at hl 3 rfl) ?_
    refine q_callSi (As := [.int vt]) (rest := []) X (k_isSlot l D cs ad hj g vt ) (cwS 1 X.2.2.2.2.1 gg_X11_paste_X11_isSlot rfl rfl rfl (by decide +kernel) ⟨Nat.le_of_ble_eq_true rfl, Nat.le_of_ble_eq_true rfl⟩) hP hA hS rfl hl.1 rfl (Nat.le_of_ble_eq_true rfl) dX11_paste_8 ⟨Nat.le_of_ble_eq_true rfl, Nat.le_of_ble_eq_true rfl⟩ (fun r_6 g_5 H locs hw_4 hP hS => ?_)
    obtain ⟨hw_4b, hw_4⟩ := hw_4
    rw [hw_4b] at hP
    refine lv_if_ne (tgt := 17) hx hb dX11_paste_11 (by decide) (fun hc_11 => ?_) (fun hc_11 => ?_)
    · rcases inS_4 (hw_1.elim (fun q => q.2) (fun q => absurd q.1 hc_4)) with rfl | rfl | rfl | rfl
      · refine lv_aload_n hx hb dX11_paste_17 rfl (lv_at hl 0 rfl) ?_
        refine q_get X iX11_paste_11 hP (by decide) h0 rfl 5 (by decide) (List.mem_of_getElem? (i := 5) rfl) (v := .ref (ad 105)) rfl dX11_paste_18 ?_
        refine lv_iload_n hx hb dX11_paste_21 rfl (lv_at hl 1 rfl) ?_
        refine q_aald X hP 4 rfl (by decide) h105 (by unfold vp_in; decide) (v := ad 106) rfl dX11_paste_22 ?_
        refine lv_astore (lv' := [(6, .ref (ad 106)), (0, .ref (ad 0)), (1, .int 0), (2, .int vi), (3, .int vt), (4, .int vk), (5, .int vn)]) hx hb dX11_paste_23 hl (by decide) rfl (fun ls hl => ?_)
        rcases inS_4 (hw_4.elim (fun q => q.2) (fun q => absurd q.1 hc_11)) with rfl | rfl | rfl | rfl
        · refine lv_aload_n hx hb dX11_paste_25 rfl (lv_at hl 1 rfl) ?_
          refine q_get X iX11_paste_11 hP (by decide) h0 rfl 5 (by decide) (List.mem_of_getElem? (i := 5) rfl) (v := .ref (ad 105)) rfl dX11_paste_26 ?_
          refine lv_iload_n hx hb dX11_paste_29 rfl (lv_at hl 4 rfl) ?_
          refine q_aald X hP 4 rfl (by decide) h105 (by unfold vp_in; decide) (v := ad 106) rfl dX11_paste_30 ?_
          refine lv_astore (lv' := [(7, .ref (ad 106)), (6, .ref (ad 106)), (0, .ref (ad 0)), (1, .int 0), (2, .int vi), (3, .int 0), (4, .int vk), (5, .int vn)]) hx hb dX11_paste_31 hl (by decide) rfl (fun ls hl => ?_)
          refine lv_aload hx hb dX11_paste_33 (lv_at hl 1 rfl) ?_
          refine q_get X iX11_paste_5 hP (by decide) h106 rfl 1 (by decide) (List.mem_of_getElem? (i := 6) rfl) (v := .int 0) rfl dX11_paste_35 ?_
          refine lv_if_eq (tgt := 49) hx hb dX11_paste_38 (by decide) (fun _ => ?_) (fun h => absurd h (by decide))
          refine lv_bipush (v := (-6)) hx hb dX11_paste_49 (by decide) ?_
          exact q_iret X hP hS (by first | rfl | (unfold aPst aWr; rfl)) dX11_paste_51
        · refine lv_aload_n hx hb dX11_paste_25 rfl (lv_at hl 1 rfl) ?_
          refine q_get X iX11_paste_11 hP (by decide) h0 rfl 5 (by decide) (List.mem_of_getElem? (i := 5) rfl) (v := .ref (ad 105)) rfl dX11_paste_26 ?_
          refine lv_iload_n hx hb dX11_paste_29 rfl (lv_at hl 4 rfl) ?_
          refine q_aald X hP 4 rfl (by decide) h105 (by unfold vp_in; decide) (v := ad 108) rfl dX11_paste_30 ?_
          refine lv_astore (lv' := [(7, .ref (ad 108)), (6, .ref (ad 106)), (0, .ref (ad 0)), (1, .int 0), (2, .int vi), (3, .int 1), (4, .int vk), (5, .int vn)]) hx hb dX11_paste_31 hl (by decide) rfl (fun ls hl => ?_)
          refine lv_aload hx hb dX11_paste_33 (lv_at hl 1 rfl) ?_
          refine q_get X iX11_paste_5 hP (by decide) h106 rfl 1 (by decide) (List.mem_of_getElem? (i := 6) rfl) (v := .int 0) rfl dX11_paste_35 ?_
          refine lv_if_eq (tgt := 49) hx hb dX11_paste_38 (by decide) (fun _ => ?_) (fun h => absurd h (by decide))
          refine lv_bipush (v := (-6)) hx hb dX11_paste_49 (by decide) ?_
          exact q_iret X hP hS (by first | rfl | (unfold aPst aWr; rfl)) dX11_paste_51
        · refine lv_aload_n hx hb dX11_paste_25 rfl (lv_at hl 1 rfl) ?_
          refine q_get X iX11_paste_11 hP (by decide) h0 rfl 5 (by decide) (List.mem_of_getElem? (i := 5) rfl) (v := .ref (ad 105)) rfl dX11_paste_26 ?_
          refine lv_iload_n hx hb dX11_paste_29 rfl (lv_at hl 4 rfl) ?_
          refine q_aald X hP 4 rfl (by decide) h105 (by unfold vp_in; decide) (v := ad 110) rfl dX11_paste_30 ?_
          refine lv_astore (lv' := [(7, .ref (ad 110)), (6, .ref (ad 106)), (0, .ref (ad 0)), (1, .int 0), (2, .int vi), (3, .int 2), (4, .int vk), (5, .int vn)]) hx hb dX11_paste_31 hl (by decide) rfl (fun ls hl => ?_)
          refine lv_aload hx hb dX11_paste_33 (lv_at hl 1 rfl) ?_
          refine q_get X iX11_paste_5 hP (by decide) h106 rfl 1 (by decide) (List.mem_of_getElem? (i := 6) rfl) (v := .int 0) rfl dX11_paste_35 ?_
          refine lv_if_eq (tgt := 49) hx hb dX11_paste_38 (by decide) (fun _ => ?_) (fun h => absurd h (by decide))
          refine lv_bipush (v := (-6)) hx hb dX11_paste_49 (by decide) ?_
          exact q_iret X hP hS (by first | rfl | (unfold aPst aWr; rfl)) dX11_paste_51
        · refine lv_aload_n hx hb dX11_paste_25 rfl (lv_at hl 1 rfl) ?_
          refine q_get X iX11_paste_11 hP (by decide) h0 rfl 5 (by decide) (List.mem_of_getElem? (i := 5) rfl) (v := .ref (ad 105)) rfl dX11_paste_26 ?_
          refine lv_iload_n hx hb dX11_paste_29 rfl (lv_at hl 4 rfl) ?_
          refine q_aald X hP 4 rfl (by decide) h105 (by unfold vp_in; decide) (v := ad 112) rfl dX11_paste_30 ?_
          refine lv_astore (lv' := [(7, .ref (ad 112)), (6, .ref (ad 106)), (0, .ref (ad 0)), (1, .int 0), (2, .int vi), (3, .int 3), (4, .int vk), (5, .int vn)]) hx hb dX11_paste_31 hl (by decide) rfl (fun ls hl => ?_)
          refine lv_aload hx hb dX11_paste_33 (lv_at hl 1 rfl) ?_
          refine q_get X iX11_paste_5 hP (by decide) h106 rfl 1 (by decide) (List.mem_of_getElem? (i := 6) rfl) (v := .int 0) rfl dX11_paste_35 ?_
          refine lv_if_eq (tgt := 49) hx hb dX11_paste_38 (by decide) (fun _ => ?_) (fun h => absurd h (by decide))
          refine lv_bipush (v := (-6)) hx hb dX11_paste_49 (by decide) ?_
          exact q_iret X hP hS (by first | rfl | (unfold aPst aWr; rfl)) dX11_paste_51
      · refine lv_aload_n hx hb dX11_paste_17 rfl (lv_at hl 0 rfl) ?_
        refine q_get X iX11_paste_11 hP (by decide) h0 rfl 5 (by decide) (List.mem_of_getElem? (i := 5) rfl) (v := .ref (ad 105)) rfl dX11_paste_18 ?_
        refine lv_iload_n hx hb dX11_paste_21 rfl (lv_at hl 1 rfl) ?_
        refine q_aald X hP 4 rfl (by decide) h105 (by unfold vp_in; decide) (v := ad 108) rfl dX11_paste_22 ?_
        refine lv_astore (lv' := [(6, .ref (ad 108)), (0, .ref (ad 0)), (1, .int 1), (2, .int vi), (3, .int vt), (4, .int vk), (5, .int vn)]) hx hb dX11_paste_23 hl (by decide) rfl (fun ls hl => ?_)
        rcases inS_4 (hw_4.elim (fun q => q.2) (fun q => absurd q.1 hc_11)) with rfl | rfl | rfl | rfl
        · refine lv_aload_n hx hb dX11_paste_25 rfl (lv_at hl 1 rfl) ?_
          refine q_get X iX11_paste_11 hP (by decide) h0 rfl 5 (by decide) (List.mem_of_getElem? (i := 5) rfl) (v := .ref (ad 105)) rfl dX11_paste_26 ?_
          refine lv_iload_n hx hb dX11_paste_29 rfl (lv_at hl 4 rfl) ?_
          refine q_aald X hP 4 rfl (by decide) h105 (by unfold vp_in; decide) (v := ad 106) rfl dX11_paste_30 ?_
          refine lv_astore (lv' := [(7, .ref (ad 106)), (6, .ref (ad 108)), (0, .ref (ad 0)), (1, .int 1), (2, .int vi), (3, .int 0), (4, .int vk), (5, .int vn)]) hx hb dX11_paste_31 hl (by decide) rfl (fun ls hl => ?_)
          refine lv_aload hx hb dX11_paste_33 (lv_at hl 1 rfl) ?_
          refine q_get X iX11_paste_5 hP (by decide) h108 rfl 1 (by decide) (List.mem_of_getElem? (i := 6) rfl) (v := .int 0) rfl dX11_paste_35 ?_
          refine lv_if_eq (tgt := 49) hx hb dX11_paste_38 (by decide) (fun _ => ?_) (fun h => absurd h (by decide))
          refine lv_bipush (v := (-6)) hx hb dX11_paste_49 (by decide) ?_
          exact q_iret X hP hS (by first | rfl | (unfold aPst aWr; rfl)) dX11_paste_51
        · refine lv_aload_n hx hb dX11_paste_25 rfl (lv_at hl 1 rfl) ?_
          refine q_get X iX11_paste_11 hP (by decide) h0 rfl 5 (by decide) (List.mem_of_getElem? (i := 5) rfl) (v := .ref (ad 105)) rfl dX11_paste_26 ?_
          refine lv_iload_n hx hb dX11_paste_29 rfl (lv_at hl 4 rfl) ?_
          refine q_aald X hP 4 rfl (by decide) h105 (by unfold vp_in; decide) (v := ad 108) rfl dX11_paste_30 ?_
          refine lv_astore (lv' := [(7, .ref (ad 108)), (6, .ref (ad 108)), (0, .ref (ad 0)), (1, .int 1), (2, .int vi), (3, .int 1), (4, .int vk), (5, .int vn)]) hx hb dX11_paste_31 hl (by decide) rfl (fun ls hl => ?_)
          refine lv_aload hx hb dX11_paste_33 (lv_at hl 1 rfl) ?_
          refine q_get X iX11_paste_5 hP (by decide) h108 rfl 1 (by decide) (List.mem_of_getElem? (i := 6) rfl) (v := .int 0) rfl dX11_paste_35 ?_
          refine lv_if_eq (tgt := 49) hx hb dX11_paste_38 (by decide) (fun _ => ?_) (fun h => absurd h (by decide))
          refine lv_bipush (v := (-6)) hx hb dX11_paste_49 (by decide) ?_
          exact q_iret X hP hS (by first | rfl | (unfold aPst aWr; rfl)) dX11_paste_51
        · refine lv_aload_n hx hb dX11_paste_25 rfl (lv_at hl 1 rfl) ?_
          refine q_get X iX11_paste_11 hP (by decide) h0 rfl 5 (by decide) (List.mem_of_getElem? (i := 5) rfl) (v := .ref (ad 105)) rfl dX11_paste_26 ?_
          refine lv_iload_n hx hb dX11_paste_29 rfl (lv_at hl 4 rfl) ?_
          refine q_aald X hP 4 rfl (by decide) h105 (by unfold vp_in; decide) (v := ad 110) rfl dX11_paste_30 ?_
          refine lv_astore (lv' := [(7, .ref (ad 110)), (6, .ref (ad 108)), (0, .ref (ad 0)), (1, .int 1), (2, .int vi), (3, .int 2), (4, .int vk), (5, .int vn)]) hx hb dX11_paste_31 hl (by decide) rfl (fun ls hl => ?_)
          refine lv_aload hx hb dX11_paste_33 (lv_at hl 1 rfl) ?_
          refine q_get X iX11_paste_5 hP (by decide) h108 rfl 1 (by decide) (List.mem_of_getElem? (i := 6) rfl) (v := .int 0) rfl dX11_paste_35 ?_
          refine lv_if_eq (tgt := 49) hx hb dX11_paste_38 (by decide) (fun _ => ?_) (fun h => absurd h (by decide))
          refine lv_bipush (v := (-6)) hx hb dX11_paste_49 (by decide) ?_
          exact q_iret X hP hS (by first | rfl | (unfold aPst aWr; rfl)) dX11_paste_51
        · refine lv_aload_n hx hb dX11_paste_25 rfl (lv_at hl 1 rfl) ?_
          refine q_get X iX11_paste_11 hP (by decide) h0 rfl 5 (by decide) (List.mem_of_getElem? (i := 5) rfl) (v := .ref (ad 105)) rfl dX11_paste_26 ?_
          refine lv_iload_n hx hb dX11_paste_29 rfl (lv_at hl 4 rfl) ?_
          refine q_aald X hP 4 rfl (by decide) h105 (by unfold vp_in; decide) (v := ad 112) rfl dX11_paste_30 ?_
          refine lv_astore (lv' := [(7, .ref (ad 112)), (6, .ref (ad 108)), (0, .ref (ad 0)), (1, .int 1), (2, .int vi), (3, .int 3), (4, .int vk), (5, .int vn)]) hx hb dX11_paste_31 hl (by decide) rfl (fun ls hl => ?_)
          refine lv_aload hx hb dX11_paste_33 (lv_at hl 1 rfl) ?_
          refine q_get X iX11_paste_5 hP (by decide) h108 rfl 1 (by decide) (List.mem_of_getElem? (i := 6) rfl) (v := .int 0) rfl dX11_paste_35 ?_
          refine lv_if_eq (tgt := 49) hx hb dX11_paste_38 (by decide) (fun _ => ?_) (fun h => absurd h (by decide))
          refine lv_bipush (v := (-6)) hx hb dX11_paste_49 (by decide) ?_
          exact q_iret X hP hS (by first | rfl | (unfold aPst aWr; rfl)) dX11_paste_51
      · refine lv_aload_n hx hb dX11_paste_17 rfl (lv_at hl 0 rfl) ?_
        refine q_get X iX11_paste_11 hP (by decide) h0 rfl 5 (by decide) (List.mem_of_getElem? (i := 5) rfl) (v := .ref (ad 105)) rfl dX11_paste_18 ?_
        refine lv_iload_n hx hb dX11_paste_21 rfl (lv_at hl 1 rfl) ?_
        refine q_aald X hP 4 rfl (by decide) h105 (by unfold vp_in; decide) (v := ad 110) rfl dX11_paste_22 ?_
        refine lv_astore (lv' := [(6, .ref (ad 110)), (0, .ref (ad 0)), (1, .int 2), (2, .int vi), (3, .int vt), (4, .int vk), (5, .int vn)]) hx hb dX11_paste_23 hl (by decide) rfl (fun ls hl => ?_)
        rcases inS_4 (hw_4.elim (fun q => q.2) (fun q => absurd q.1 hc_11)) with rfl | rfl | rfl | rfl
        · refine lv_aload_n hx hb dX11_paste_25 rfl (lv_at hl 1 rfl) ?_
          refine q_get X iX11_paste_11 hP (by decide) h0 rfl 5 (by decide) (List.mem_of_getElem? (i := 5) rfl) (v := .ref (ad 105)) rfl dX11_paste_26 ?_
          refine lv_iload_n hx hb dX11_paste_29 rfl (lv_at hl 4 rfl) ?_
          refine q_aald X hP 4 rfl (by decide) h105 (by unfold vp_in; decide) (v := ad 106) rfl dX11_paste_30 ?_
          refine lv_astore (lv' := [(7, .ref (ad 106)), (6, .ref (ad 110)), (0, .ref (ad 0)), (1, .int 2), (2, .int vi), (3, .int 0), (4, .int vk), (5, .int vn)]) hx hb dX11_paste_31 hl (by decide) rfl (fun ls hl => ?_)
          refine lv_aload hx hb dX11_paste_33 (lv_at hl 1 rfl) ?_
          refine q_get X iX11_paste_5 hP (by decide) h110 rfl 1 (by decide) (List.mem_of_getElem? (i := 6) rfl) (v := .int 0) rfl dX11_paste_35 ?_
          refine lv_if_eq (tgt := 49) hx hb dX11_paste_38 (by decide) (fun _ => ?_) (fun h => absurd h (by decide))
          refine lv_bipush (v := (-6)) hx hb dX11_paste_49 (by decide) ?_
          exact q_iret X hP hS (by first | rfl | (unfold aPst aWr; rfl)) dX11_paste_51
        · refine lv_aload_n hx hb dX11_paste_25 rfl (lv_at hl 1 rfl) ?_
          refine q_get X iX11_paste_11 hP (by decide) h0 rfl 5 (by decide) (List.mem_of_getElem? (i := 5) rfl) (v := .ref (ad 105)) rfl dX11_paste_26 ?_
          refine lv_iload_n hx hb dX11_paste_29 rfl (lv_at hl 4 rfl) ?_
          refine q_aald X hP 4 rfl (by decide) h105 (by unfold vp_in; decide) (v := ad 108) rfl dX11_paste_30 ?_
          refine lv_astore (lv' := [(7, .ref (ad 108)), (6, .ref (ad 110)), (0, .ref (ad 0)), (1, .int 2), (2, .int vi), (3, .int 1), (4, .int vk), (5, .int vn)]) hx hb dX11_paste_31 hl (by decide) rfl (fun ls hl => ?_)
          refine lv_aload hx hb dX11_paste_33 (lv_at hl 1 rfl) ?_
          refine q_get X iX11_paste_5 hP (by decide) h110 rfl 1 (by decide) (List.mem_of_getElem? (i := 6) rfl) (v := .int 0) rfl dX11_paste_35 ?_
          refine lv_if_eq (tgt := 49) hx hb dX11_paste_38 (by decide) (fun _ => ?_) (fun h => absurd h (by decide))
          refine lv_bipush (v := (-6)) hx hb dX11_paste_49 (by decide) ?_
          exact q_iret X hP hS (by first | rfl | (unfold aPst aWr; rfl)) dX11_paste_51
        · refine lv_aload_n hx hb dX11_paste_25 rfl (lv_at hl 1 rfl) ?_
          refine q_get X iX11_paste_11 hP (by decide) h0 rfl 5 (by decide) (List.mem_of_getElem? (i := 5) rfl) (v := .ref (ad 105)) rfl dX11_paste_26 ?_
          refine lv_iload_n hx hb dX11_paste_29 rfl (lv_at hl 4 rfl) ?_
          refine q_aald X hP 4 rfl (by decide) h105 (by unfold vp_in; decide) (v := ad 110) rfl dX11_paste_30 ?_
          refine lv_astore (lv' := [(7, .ref (ad 110)), (6, .ref (ad 110)), (0, .ref (ad 0)), (1, .int 2), (2, .int vi), (3, .int 2), (4, .int vk), (5, .int vn)]) hx hb dX11_paste_31 hl (by decide) rfl (fun ls hl => ?_)
          refine lv_aload hx hb dX11_paste_33 (lv_at hl 1 rfl) ?_
          refine q_get X iX11_paste_5 hP (by decide) h110 rfl 1 (by decide) (List.mem_of_getElem? (i := 6) rfl) (v := .int 0) rfl dX11_paste_35 ?_
          refine lv_if_eq (tgt := 49) hx hb dX11_paste_38 (by decide) (fun _ => ?_) (fun h => absurd h (by decide))
          refine lv_bipush (v := (-6)) hx hb dX11_paste_49 (by decide) ?_
          exact q_iret X hP hS (by first | rfl | (unfold aPst aWr; rfl)) dX11_paste_51
        · refine lv_aload_n hx hb dX11_paste_25 rfl (lv_at hl 1 rfl) ?_
          refine q_get X iX11_paste_11 hP (by decide) h0 rfl 5 (by decide) (List.mem_of_getElem? (i := 5) rfl) (v := .ref (ad 105)) rfl dX11_paste_26 ?_
          refine lv_iload_n hx hb dX11_paste_29 rfl (lv_at hl 4 rfl) ?_
          refine q_aald X hP 4 rfl (by decide) h105 (by unfold vp_in; decide) (v := ad 112) rfl dX11_paste_30 ?_
          refine lv_astore (lv' := [(7, .ref (ad 112)), (6, .ref (ad 110)), (0, .ref (ad 0)), (1, .int 2), (2, .int vi), (3, .int 3), (4, .int vk), (5, .int vn)]) hx hb dX11_paste_31 hl (by decide) rfl (fun ls hl => ?_)
          refine lv_aload hx hb dX11_paste_33 (lv_at hl 1 rfl) ?_
          refine q_get X iX11_paste_5 hP (by decide) h110 rfl 1 (by decide) (List.mem_of_getElem? (i := 6) rfl) (v := .int 0) rfl dX11_paste_35 ?_
          refine lv_if_eq (tgt := 49) hx hb dX11_paste_38 (by decide) (fun _ => ?_) (fun h => absurd h (by decide))
          refine lv_bipush (v := (-6)) hx hb dX11_paste_49 (by decide) ?_
          exact q_iret X hP hS (by first | rfl | (unfold aPst aWr; rfl)) dX11_paste_51
      · refine lv_aload_n hx hb dX11_paste_17 rfl (lv_at hl 0 rfl) ?_
        refine q_get X iX11_paste_11 hP (by decide) h0 rfl 5 (by decide) (List.mem_of_getElem? (i := 5) rfl) (v := .ref (ad 105)) rfl dX11_paste_18 ?_
        refine lv_iload_n hx hb dX11_paste_21 rfl (lv_at hl 1 rfl) ?_
        refine q_aald X hP 4 rfl (by decide) h105 (by unfold vp_in; decide) (v := ad 112) rfl dX11_paste_22 ?_
        refine lv_astore (lv' := [(6, .ref (ad 112)), (0, .ref (ad 0)), (1, .int 3), (2, .int vi), (3, .int vt), (4, .int vk), (5, .int vn)]) hx hb dX11_paste_23 hl (by decide) rfl (fun ls hl => ?_)
        rcases inS_4 (hw_4.elim (fun q => q.2) (fun q => absurd q.1 hc_11)) with rfl | rfl | rfl | rfl
        · refine lv_aload_n hx hb dX11_paste_25 rfl (lv_at hl 1 rfl) ?_
          refine q_get X iX11_paste_11 hP (by decide) h0 rfl 5 (by decide) (List.mem_of_getElem? (i := 5) rfl) (v := .ref (ad 105)) rfl dX11_paste_26 ?_
          refine lv_iload_n hx hb dX11_paste_29 rfl (lv_at hl 4 rfl) ?_
          refine q_aald X hP 4 rfl (by decide) h105 (by unfold vp_in; decide) (v := ad 106) rfl dX11_paste_30 ?_
          refine lv_astore (lv' := [(7, .ref (ad 106)), (6, .ref (ad 112)), (0, .ref (ad 0)), (1, .int 3), (2, .int vi), (3, .int 0), (4, .int vk), (5, .int vn)]) hx hb dX11_paste_31 hl (by decide) rfl (fun ls hl => ?_)
          refine lv_aload hx hb dX11_paste_33 (lv_at hl 1 rfl) ?_
          refine q_get X iX11_paste_5 hP (by decide) h112 rfl 1 (by decide) (List.mem_of_getElem? (i := 6) rfl) (v := .int 0) rfl dX11_paste_35 ?_
          refine lv_if_eq (tgt := 49) hx hb dX11_paste_38 (by decide) (fun _ => ?_) (fun h => absurd h (by decide))
          refine lv_bipush (v := (-6)) hx hb dX11_paste_49 (by decide) ?_
          exact q_iret X hP hS (by first | rfl | (unfold aPst aWr; rfl)) dX11_paste_51
        · refine lv_aload_n hx hb dX11_paste_25 rfl (lv_at hl 1 rfl) ?_
          refine q_get X iX11_paste_11 hP (by decide) h0 rfl 5 (by decide) (List.mem_of_getElem? (i := 5) rfl) (v := .ref (ad 105)) rfl dX11_paste_26 ?_
          refine lv_iload_n hx hb dX11_paste_29 rfl (lv_at hl 4 rfl) ?_
          refine q_aald X hP 4 rfl (by decide) h105 (by unfold vp_in; decide) (v := ad 108) rfl dX11_paste_30 ?_
          refine lv_astore (lv' := [(7, .ref (ad 108)), (6, .ref (ad 112)), (0, .ref (ad 0)), (1, .int 3), (2, .int vi), (3, .int 1), (4, .int vk), (5, .int vn)]) hx hb dX11_paste_31 hl (by decide) rfl (fun ls hl => ?_)
          refine lv_aload hx hb dX11_paste_33 (lv_at hl 1 rfl) ?_
          refine q_get X iX11_paste_5 hP (by decide) h112 rfl 1 (by decide) (List.mem_of_getElem? (i := 6) rfl) (v := .int 0) rfl dX11_paste_35 ?_
          refine lv_if_eq (tgt := 49) hx hb dX11_paste_38 (by decide) (fun _ => ?_) (fun h => absurd h (by decide))
          refine lv_bipush (v := (-6)) hx hb dX11_paste_49 (by decide) ?_
          exact q_iret X hP hS (by first | rfl | (unfold aPst aWr; rfl)) dX11_paste_51
        · refine lv_aload_n hx hb dX11_paste_25 rfl (lv_at hl 1 rfl) ?_
          refine q_get X iX11_paste_11 hP (by decide) h0 rfl 5 (by decide) (List.mem_of_getElem? (i := 5) rfl) (v := .ref (ad 105)) rfl dX11_paste_26 ?_
          refine lv_iload_n hx hb dX11_paste_29 rfl (lv_at hl 4 rfl) ?_
          refine q_aald X hP 4 rfl (by decide) h105 (by unfold vp_in; decide) (v := ad 110) rfl dX11_paste_30 ?_
          refine lv_astore (lv' := [(7, .ref (ad 110)), (6, .ref (ad 112)), (0, .ref (ad 0)), (1, .int 3), (2, .int vi), (3, .int 2), (4, .int vk), (5, .int vn)]) hx hb dX11_paste_31 hl (by decide) rfl (fun ls hl => ?_)
          refine lv_aload hx hb dX11_paste_33 (lv_at hl 1 rfl) ?_
          refine q_get X iX11_paste_5 hP (by decide) h112 rfl 1 (by decide) (List.mem_of_getElem? (i := 6) rfl) (v := .int 0) rfl dX11_paste_35 ?_
          refine lv_if_eq (tgt := 49) hx hb dX11_paste_38 (by decide) (fun _ => ?_) (fun h => absurd h (by decide))
          refine lv_bipush (v := (-6)) hx hb dX11_paste_49 (by decide) ?_
          exact q_iret X hP hS (by first | rfl | (unfold aPst aWr; rfl)) dX11_paste_51
        · refine lv_aload_n hx hb dX11_paste_25 rfl (lv_at hl 1 rfl) ?_
          refine q_get X iX11_paste_11 hP (by decide) h0 rfl 5 (by decide) (List.mem_of_getElem? (i := 5) rfl) (v := .ref (ad 105)) rfl dX11_paste_26 ?_
          refine lv_iload_n hx hb dX11_paste_29 rfl (lv_at hl 4 rfl) ?_
          refine q_aald X hP 4 rfl (by decide) h105 (by unfold vp_in; decide) (v := ad 112) rfl dX11_paste_30 ?_
          refine lv_astore (lv' := [(7, .ref (ad 112)), (6, .ref (ad 112)), (0, .ref (ad 0)), (1, .int 3), (2, .int vi), (3, .int 3), (4, .int vk), (5, .int vn)]) hx hb dX11_paste_31 hl (by decide) rfl (fun ls hl => ?_)
          refine lv_aload hx hb dX11_paste_33 (lv_at hl 1 rfl) ?_
          refine q_get X iX11_paste_5 hP (by decide) h112 rfl 1 (by decide) (List.mem_of_getElem? (i := 6) rfl) (v := .int 0) rfl dX11_paste_35 ?_
          refine lv_if_eq (tgt := 49) hx hb dX11_paste_38 (by decide) (fun _ => ?_) (fun h => absurd h (by decide))
          refine lv_bipush (v := (-6)) hx hb dX11_paste_49 (by decide) ?_
          exact q_iret X hP hS (by first | rfl | (unfold aPst aWr; rfl)) dX11_paste_51
    · refine lv_bipush (v := (-2)) hx hb dX11_paste_14 (by decide) ?_
      exact q_iret X hP hS (by first | exact (aPst_out (hw_1.elim (fun q => absurd (q.1.symm.trans hc_4) (by decide)) (fun q => q.2))).symm | exact ((aPst_in (hw_1.elim (fun q => q.2) (fun q => absurd q.1 hc_4))).trans (aWr_out (hw_4.elim (fun q => absurd (q.1.symm.trans hc_11) (by decide)) (fun q => q.2)))).symm) dX11_paste_16
end
section
theorem w_le (a b : Int32) : a.toInt64 ≤ b.toInt64 ↔ a ≤ b := by
  rw [Int64.le_iff_toInt_le, Int32.le_iff_toInt_le, Int32.toInt_toInt64, Int32.toInt_toInt64]
theorem w_lo {x : Int32} : (0 : Int64) ≤ x.toInt64 ↔ ¬ x < 0 := (w_le 0 x).trans Int32.not_lt.symm
theorem w_hi {x : Int32} (a b : Int32) (h : b.toInt = a.toInt + 1) : x.toInt64 ≤ a.toInt64 ↔ x < b := by
  rw [w_le, Int32.le_iff_toInt_le, Int32.lt_iff_toInt_lt, h]
  omega
theorem nb {r : Int32} {P Q : Prop} (h : (r = 1 ∧ P) ∨ (r = 0 ∧ Q)) : narrow .boolean (.int r) = .int r := by
  rcases h with ⟨rfl, -⟩ | ⟨rfl, -⟩ <;> rfl
theorem no_in {x a b : Int64} {r : Int32} (hab : b < a) (h : (r = 1 ∧ a ≤ x ∧ x ≤ b) ∨ (r = 0 ∧ ¬ (a ≤ x ∧ x ≤ b))) : r = 0 := by
  rcases h with h | h
  · exact absurd (Int64.le_trans h.2.1 h.2.2) (Int64.not_le.mpr hab)
  · exact h.1
theorem in_S {x : Int32} {r : Int32} (h : (r = 1 ∧ 0 ≤ x.toInt64 ∧ x.toInt64 ≤ 3) ∨ (r = 0 ∧ ¬ (0 ≤ x.toInt64 ∧ x.toInt64 ≤ 3))) : (r = 1 ∧ inS x) ∨ (r = 0 ∧ ¬ inS x) := by
  have e : (x.toInt64 ≤ 3) ↔ x < 4 := w_hi 3 4 (by decide)
  rcases h with h | h
  · exact Or.inl ⟨h.1, w_lo.mp h.2.1, e.mp h.2.2⟩
  · exact Or.inr ⟨h.1, fun q => h.2 ⟨w_lo.mpr q.1, e.mpr q.2⟩⟩
theorem in_3 {x : Int32} {r : Int32} (h : (r = 1 ∧ 0 ≤ x.toInt64 ∧ x.toInt64 ≤ 2) ∨ (r = 0 ∧ ¬ (0 ≤ x.toInt64 ∧ x.toInt64 ≤ 2))) : (r = 1 ∧ ¬ x < 0 ∧ x < 3) ∨ (r = 0 ∧ ¬ (¬ x < 0 ∧ x < 3)) := by
  have e : (x.toInt64 ≤ 2) ↔ x < 3 := w_hi 2 3 (by decide)
  rcases h with h | h
  · exact Or.inl ⟨h.1, w_lo.mp h.2.1, e.mp h.2.2⟩
  · exact Or.inr ⟨h.1, fun q => h.2 ⟨w_lo.mpr q.1, e.mpr q.2⟩⟩
end
section
theorem dX12_in_0 : decode cX12_in 0 = .ok (.lload_n 0, 1) := by decide +kernel
theorem dX12_in_1 : decode cX12_in 1 = .ok (.lload_n 2, 1) := by decide +kernel
theorem dX12_in_2 : decode cX12_in 2 = .ok (.lcmp, 1) := by decide +kernel
theorem dX12_in_3 : decode cX12_in 3 = .ok (.ifCond .lt 14, 3) := by decide +kernel
theorem dX12_in_17 : decode cX12_in 17 = .ok (.iconst 0, 1) := by decide +kernel
theorem dX12_in_18 : decode cX12_in 18 = .ok (.ireturn, 1) := by decide +kernel
theorem dX12_in_6 : decode cX12_in 6 = .ok (.lload_n 0, 1) := by decide +kernel
theorem dX12_in_7 : decode cX12_in 7 = .ok (.lload 4, 2) := by decide +kernel
theorem dX12_in_9 : decode cX12_in 9 = .ok (.lcmp, 1) := by decide +kernel
theorem dX12_in_10 : decode cX12_in 10 = .ok (.ifCond .gt 7, 3) := by decide +kernel
theorem dX12_in_13 : decode cX12_in 13 = .ok (.iconst 1, 1) := by decide +kernel
theorem dX12_in_14 : decode cX12_in 14 = .ok (.goto 4, 3) := by decide +kernel
def vX12_in : List Cond := .code yX12_in cX12_in 6 (some .boolean) :: ([])
set_option maxHeartbeats 4000000 in
set_option maxRecDepth 100000 in
theorem m_in (l : Launch) (D : va_G) (cs : Nat → ClassId) (ad : Nat → Nat) (hj : wJ ad nW) (g : Nat → va_E) (v : Int64) (lo : Int64) (hi : Int64) : cI l yX12_in vX12_in { frames := 0, cells := 0, slots := 0, locals := 0 } D cs ad nW [.long v, .long lo, .long hi] g (fun r g2 => g2 = g ∧ ((r = 1 ∧ lo ≤ v ∧ v ≤ hi) ∨ (r = 0 ∧ ¬ (lo ≤ v ∧ v ≤ hi)))) := by
  refine Met.start (cc := cX12_in) (maxL := 6) (ret := (some .boolean)) RX12 rfl (by decide) rfl (Nat.le_of_ble_eq_true rfl) ?_
  intro p e s m below meth c ls X hP hl
  have hx := X.1
  have hb := X.2.1
  have hS : va_S (wA ad nW) s.heap s.heap [] := va_S.rf
  have hA : ∀ i, i < nW → wA ad nW (ad i) := fun i h => ⟨i, h, rfl⟩
  have hl : lv_has ls 6 [(0, .long v), (2, .long lo), (4, .long hi)] := hl
  refine lv_lload_n hx hb dX12_in_0 rfl (lv_at hl 0 rfl) ?_
  refine lv_lload_n hx hb dX12_in_1 rfl (lv_at hl 1 rfl) ?_
  refine W.lcmp hx hb dX12_in_2 ?_
  refine lv_if_lt (tgt := 17) hx hb dX12_in_3 (by decide) (fun hc_3 => ?_) (fun hc_3 => ?_)
  · refine lv_iconst (v := 0) hx hb dX12_in_17 (by decide) ?_
    exact q_zret X hP hS rfl ⟨rfl, by first | exact Or.inr ⟨rfl, fun h => absurd h.1 (Int64.not_le.mpr ((lg_cmp_lt _ _).mp hc_3))⟩ | exact Or.inr ⟨rfl, fun h => absurd h.2 (Int64.not_le.mpr ((lg_cmp_gt _ _).mp hc_10))⟩ | exact Or.inl ⟨rfl, Int64.not_lt.mp (fun q => hc_3 ((lg_cmp_lt _ _).mpr q)), Int64.not_lt.mp (fun q => hc_10 ((lg_cmp_gt _ _).mpr q))⟩⟩ dX12_in_18
  · refine lv_lload_n hx hb dX12_in_6 rfl (lv_at hl 0 rfl) ?_
    refine lv_lload hx hb dX12_in_7 (lv_at hl 2 rfl) ?_
    refine W.lcmp hx hb dX12_in_9 ?_
    refine lv_if_gt (tgt := 17) hx hb dX12_in_10 (by decide) (fun hc_10 => ?_) (fun hc_10 => ?_)
    · refine lv_iconst (v := 0) hx hb dX12_in_17 (by decide) ?_
      exact q_zret X hP hS rfl ⟨rfl, by first | exact Or.inr ⟨rfl, fun h => absurd h.1 (Int64.not_le.mpr ((lg_cmp_lt _ _).mp hc_3))⟩ | exact Or.inr ⟨rfl, fun h => absurd h.2 (Int64.not_le.mpr ((lg_cmp_gt _ _).mp hc_10))⟩ | exact Or.inl ⟨rfl, Int64.not_lt.mp (fun q => hc_3 ((lg_cmp_lt _ _).mpr q)), Int64.not_lt.mp (fun q => hc_10 ((lg_cmp_gt _ _).mpr q))⟩⟩ dX12_in_18
    · refine lv_iconst (v := 1) hx hb dX12_in_13 (by decide) ?_
      refine lv_goto (tgt := 18) hx hb dX12_in_14 (by decide) ?_
      exact q_zret X hP hS rfl ⟨rfl, by first | exact Or.inr ⟨rfl, fun h => absurd h.1 (Int64.not_le.mpr ((lg_cmp_lt _ _).mp hc_3))⟩ | exact Or.inr ⟨rfl, fun h => absurd h.2 (Int64.not_le.mpr ((lg_cmp_gt _ _).mp hc_10))⟩ | exact Or.inl ⟨rfl, Int64.not_lt.mp (fun q => hc_3 ((lg_cmp_lt _ _).mpr q)), Int64.not_lt.mp (fun q => hc_10 ((lg_cmp_gt _ _).mpr q))⟩⟩ dX12_in_18

theorem dX12_isDay_0 : decode cX12_isDay 0 = .ok (.iload_n 1, 1) := by decide +kernel
theorem dX12_isDay_1 : decode cX12_isDay 1 = .ok (.i2l, 1) := by decide +kernel
theorem dX12_isDay_2 : decode cX12_isDay 2 = .ok (.lconst 0, 1) := by decide +kernel
theorem dX12_isDay_3 : decode cX12_isDay 3 = .ok (.aload_n 0, 1) := by decide +kernel
theorem dX12_isDay_4 : decode cX12_isDay 4 = .ok (.getfield 9, 3) := by decide +kernel
theorem dX12_isDay_7 : decode cX12_isDay 7 = .ok (.iconst 3, 1) := by decide +kernel
theorem dX12_isDay_8 : decode cX12_isDay 8 = .ok (.iaload, 1) := by decide +kernel
theorem dX12_isDay_9 : decode cX12_isDay 9 = .ok (.iconst 1, 1) := by decide +kernel
theorem dX12_isDay_10 : decode cX12_isDay 10 = .ok (.isub, 1) := by decide +kernel
theorem dX12_isDay_11 : decode cX12_isDay 11 = .ok (.i2l, 1) := by decide +kernel
theorem dX12_isDay_12 : decode cX12_isDay 12 = .ok (.invokestatic 82, 3) := by decide +kernel
theorem dX12_isDay_15 : decode cX12_isDay 15 = .ok (.ireturn, 1) := by decide +kernel
def vX12_isDay : List Cond := .code yX12_isDay cX12_isDay 2 (some .boolean) :: ([.fieldLink RX12 9 "IcicleClockModel" "world" "[I", .methodLink RX12 82 yX12_in, .static yX12_in, .initialized RX12, .code yX12_in cX12_in 6 (some .boolean)] ++ wsX120)
theorem iX12_isDay_12 : ∀ w ∈ wsX120, w ∈ vX12_isDay := fun _ h => List.mem_cons_of_mem _ (List.mem_append_right _ h)
set_option maxRecDepth 20000 in
theorem gg_X12_isDay_X12_in : GoodIn vX12_isDay (wsS RX12 82 yX12_in vX12_in) := goodIn_r _ [2, 3, 4, 5] (by decide +kernel) (by decide +kernel)
set_option maxHeartbeats 4000000 in
set_option maxRecDepth 100000 in
theorem m_isDay (l : Launch) (D : va_G) (cs : Nat → ClassId) (ad : Nat → Nat) (hj : wJ ad nW) (g : Nat → va_E) (x : Int32) (h197 : g 197 = .inr (12, [.int 0, .ref (ad 198), .ref (ad 199), .ref (ad 200), .ref (ad 201), .int 0, .ref (ad 202), .int 0, .int 0, .int 0, .int 0, .int 0, .int 0, .int (-1), .ref (ad 203), .ref (ad 204), .ref (ad 205), .int 0, .int 0, .ref (ad 206), .ref (ad 207), .ref (ad 208), .int 0, .int 0, .int 0, .int 0, .int 0, .ref (ad 209), .ref (ad 210), .ref (ad 211), .long 0, .long 0, .ref (ad 212), .ref (ad 213), .int 0, .int 0, .ref (ad 214), .ref (ad 215), .ref (ad 216), .ref (ad 217)])) (h198 : g 198 = .inl (cs 1, 118, .inl (fun _ => 0))) : cI l yX12_isDay vX12_isDay { frames := 1, cells := 0, slots := 0, locals := 25 } D cs ad nW [.ref (ad 197), .int x] g (fun r g2 => r = 0 ∧ g2 = g) := by
  refine Met.start (cc := cX12_isDay) (maxL := 2) (ret := (some .boolean)) RX12 rfl (by decide) rfl (Nat.le_of_ble_eq_true rfl) ?_
  intro p e s m below meth c ls X hP hl
  have hx := X.1
  have hb := X.2.1
  have hS : va_S (wA ad nW) s.heap s.heap [] := va_S.rf
  have hA : ∀ i, i < nW → wA ad nW (ad i) := fun i h => ⟨i, h, rfl⟩
  have hl : lv_has ls 2 [(0, .ref (ad 197)), (1, .int x)] := hl
  refine lv_iload_n hx hb dX12_isDay_0 rfl (lv_at hl 1 rfl) ?_
  refine lv_i2l (v := x.toInt64) hx hb dX12_isDay_1 rfl ?_
  refine lv_lconst (v := 0) hx hb dX12_isDay_2 (by decide) ?_
  refine lv_aload_n hx hb dX12_isDay_3 rfl (lv_at hl 0 rfl) ?_
  refine q_get X iX12_isDay_12 hP (by decide) h197 rfl 1 (by decide) (List.mem_of_getElem? (i := 1) rfl) (v := .ref (ad 198)) rfl dX12_isDay_4 ?_
  refine lv_iconst (v := 3) hx hb dX12_isDay_7 (by decide) ?_
  refine q_iald X hP (by decide) h198 (by unfold vp_in; decide) dX12_isDay_8 ?_
  refine lv_iconst (v := 1) hx hb dX12_isDay_9 (by decide) ?_
  refine lv_isub hx hb dX12_isDay_10 ?_
  refine lv_topi (fun z_1 ez_1 => ?_)
  obtain rfl : z_1 = (-1) := ez_1.trans (by decide)
  refine lv_i2l (v := (-1)) hx hb dX12_isDay_11 (by decide) ?_
  refine q_callSi (As := [.long (x.toInt64), .long 0, .long (-1)]) (rest := []) X (m_in l D cs ad hj g (x.toInt64) 0 (-1) ) (cwS 3 X.2.2.2.2.1 gg_X12_isDay_X12_in rfl rfl rfl (by decide +kernel) ⟨Nat.le_of_ble_eq_true rfl, Nat.le_of_ble_eq_true rfl⟩) hP hA hS rfl hl.1 rfl (Nat.le_of_ble_eq_true rfl) dX12_isDay_12 ⟨Nat.le_of_ble_eq_true rfl, Nat.le_of_ble_eq_true rfl⟩ (fun r_4 g_3 H locs hw_2 hP hS => ?_)
  obtain ⟨hw_2b, hw_2⟩ := hw_2
  rw [hw_2b] at hP
  obtain rfl : r_4 = 0 := no_in (by decide) hw_2
  exact q_zret X hP hS rfl ⟨rfl, rfl⟩ dX12_isDay_15

theorem dX12_isEave_0 : decode cX12_isEave 0 = .ok (.iload_n 1, 1) := by decide +kernel
theorem dX12_isEave_1 : decode cX12_isEave 1 = .ok (.i2l, 1) := by decide +kernel
theorem dX12_isEave_2 : decode cX12_isEave 2 = .ok (.lconst 0, 1) := by decide +kernel
theorem dX12_isEave_3 : decode cX12_isEave 3 = .ok (.aload_n 0, 1) := by decide +kernel
theorem dX12_isEave_4 : decode cX12_isEave 4 = .ok (.getfield 9, 3) := by decide +kernel
theorem dX12_isEave_7 : decode cX12_isEave 7 = .ok (.iconst 4, 1) := by decide +kernel
theorem dX12_isEave_8 : decode cX12_isEave 8 = .ok (.iaload, 1) := by decide +kernel
theorem dX12_isEave_9 : decode cX12_isEave 9 = .ok (.iconst 1, 1) := by decide +kernel
theorem dX12_isEave_10 : decode cX12_isEave 10 = .ok (.isub, 1) := by decide +kernel
theorem dX12_isEave_11 : decode cX12_isEave 11 = .ok (.i2l, 1) := by decide +kernel
theorem dX12_isEave_12 : decode cX12_isEave 12 = .ok (.invokestatic 82, 3) := by decide +kernel
theorem dX12_isEave_15 : decode cX12_isEave 15 = .ok (.ireturn, 1) := by decide +kernel
def vX12_isEave : List Cond := .code yX12_isEave cX12_isEave 2 (some .boolean) :: ([.fieldLink RX12 9 "IcicleClockModel" "world" "[I", .methodLink RX12 82 yX12_in, .static yX12_in, .initialized RX12, .code yX12_in cX12_in 6 (some .boolean)] ++ wsX120)
theorem iX12_isEave_12 : ∀ w ∈ wsX120, w ∈ vX12_isEave := fun _ h => List.mem_cons_of_mem _ (List.mem_append_right _ h)
set_option maxRecDepth 20000 in
theorem gg_X12_isEave_X12_in : GoodIn vX12_isEave (wsS RX12 82 yX12_in vX12_in) := goodIn_r _ [2, 3, 4, 5] (by decide +kernel) (by decide +kernel)
set_option maxHeartbeats 4000000 in
set_option maxRecDepth 100000 in
theorem m_isEave (l : Launch) (D : va_G) (cs : Nat → ClassId) (ad : Nat → Nat) (hj : wJ ad nW) (g : Nat → va_E) (x : Int32) (h197 : g 197 = .inr (12, [.int 0, .ref (ad 198), .ref (ad 199), .ref (ad 200), .ref (ad 201), .int 0, .ref (ad 202), .int 0, .int 0, .int 0, .int 0, .int 0, .int 0, .int (-1), .ref (ad 203), .ref (ad 204), .ref (ad 205), .int 0, .int 0, .ref (ad 206), .ref (ad 207), .ref (ad 208), .int 0, .int 0, .int 0, .int 0, .int 0, .ref (ad 209), .ref (ad 210), .ref (ad 211), .long 0, .long 0, .ref (ad 212), .ref (ad 213), .int 0, .int 0, .ref (ad 214), .ref (ad 215), .ref (ad 216), .ref (ad 217)])) (h198 : g 198 = .inl (cs 1, 118, .inl (fun _ => 0))) : cI l yX12_isEave vX12_isEave { frames := 1, cells := 0, slots := 0, locals := 25 } D cs ad nW [.ref (ad 197), .int x] g (fun r g2 => r = 0 ∧ g2 = g) := by
  refine Met.start (cc := cX12_isEave) (maxL := 2) (ret := (some .boolean)) RX12 rfl (by decide) rfl (Nat.le_of_ble_eq_true rfl) ?_
  intro p e s m below meth c ls X hP hl
  have hx := X.1
  have hb := X.2.1
  have hS : va_S (wA ad nW) s.heap s.heap [] := va_S.rf
  have hA : ∀ i, i < nW → wA ad nW (ad i) := fun i h => ⟨i, h, rfl⟩
  have hl : lv_has ls 2 [(0, .ref (ad 197)), (1, .int x)] := hl
  refine lv_iload_n hx hb dX12_isEave_0 rfl (lv_at hl 1 rfl) ?_
  refine lv_i2l (v := x.toInt64) hx hb dX12_isEave_1 rfl ?_
  refine lv_lconst (v := 0) hx hb dX12_isEave_2 (by decide) ?_
  refine lv_aload_n hx hb dX12_isEave_3 rfl (lv_at hl 0 rfl) ?_
  refine q_get X iX12_isEave_12 hP (by decide) h197 rfl 1 (by decide) (List.mem_of_getElem? (i := 1) rfl) (v := .ref (ad 198)) rfl dX12_isEave_4 ?_
  refine lv_iconst (v := 4) hx hb dX12_isEave_7 (by decide) ?_
  refine q_iald X hP (by decide) h198 (by unfold vp_in; decide) dX12_isEave_8 ?_
  refine lv_iconst (v := 1) hx hb dX12_isEave_9 (by decide) ?_
  refine lv_isub hx hb dX12_isEave_10 ?_
  refine lv_topi (fun z_1 ez_1 => ?_)
  obtain rfl : z_1 = (-1) := ez_1.trans (by decide)
  refine lv_i2l (v := (-1)) hx hb dX12_isEave_11 (by decide) ?_
  refine q_callSi (As := [.long (x.toInt64), .long 0, .long (-1)]) (rest := []) X (m_in l D cs ad hj g (x.toInt64) 0 (-1) ) (cwS 3 X.2.2.2.2.1 gg_X12_isEave_X12_in rfl rfl rfl (by decide +kernel) ⟨Nat.le_of_ble_eq_true rfl, Nat.le_of_ble_eq_true rfl⟩) hP hA hS rfl hl.1 rfl (Nat.le_of_ble_eq_true rfl) dX12_isEave_12 ⟨Nat.le_of_ble_eq_true rfl, Nat.le_of_ble_eq_true rfl⟩ (fun r_4 g_3 H locs hw_2 hP hS => ?_)
  obtain ⟨hw_2b, hw_2⟩ := hw_2
  rw [hw_2b] at hP
  obtain rfl : r_4 = 0 := no_in (by decide) hw_2
  exact q_zret X hP hS rfl ⟨rfl, rfl⟩ dX12_isEave_15

theorem dX12_isWork_0 : decode cX12_isWork 0 = .ok (.iload_n 1, 1) := by decide +kernel
theorem dX12_isWork_1 : decode cX12_isWork 1 = .ok (.i2l, 1) := by decide +kernel
theorem dX12_isWork_2 : decode cX12_isWork 2 = .ok (.lconst 0, 1) := by decide +kernel
theorem dX12_isWork_3 : decode cX12_isWork 3 = .ok (.aload_n 0, 1) := by decide +kernel
theorem dX12_isWork_4 : decode cX12_isWork 4 = .ok (.getfield 9, 3) := by decide +kernel
theorem dX12_isWork_7 : decode cX12_isWork 7 = .ok (.bipush 6, 2) := by decide +kernel
theorem dX12_isWork_9 : decode cX12_isWork 9 = .ok (.iaload, 1) := by decide +kernel
theorem dX12_isWork_10 : decode cX12_isWork 10 = .ok (.iconst 1, 1) := by decide +kernel
theorem dX12_isWork_11 : decode cX12_isWork 11 = .ok (.isub, 1) := by decide +kernel
theorem dX12_isWork_12 : decode cX12_isWork 12 = .ok (.i2l, 1) := by decide +kernel
theorem dX12_isWork_13 : decode cX12_isWork 13 = .ok (.invokestatic 82, 3) := by decide +kernel
theorem dX12_isWork_16 : decode cX12_isWork 16 = .ok (.ireturn, 1) := by decide +kernel
def vX12_isWork : List Cond := .code yX12_isWork cX12_isWork 2 (some .boolean) :: ([.fieldLink RX12 9 "IcicleClockModel" "world" "[I", .methodLink RX12 82 yX12_in, .static yX12_in, .initialized RX12, .code yX12_in cX12_in 6 (some .boolean)] ++ wsX120)
theorem iX12_isWork_12 : ∀ w ∈ wsX120, w ∈ vX12_isWork := fun _ h => List.mem_cons_of_mem _ (List.mem_append_right _ h)
set_option maxRecDepth 20000 in
theorem gg_X12_isWork_X12_in : GoodIn vX12_isWork (wsS RX12 82 yX12_in vX12_in) := goodIn_r _ [2, 3, 4, 5] (by decide +kernel) (by decide +kernel)
set_option maxHeartbeats 4000000 in
set_option maxRecDepth 100000 in
theorem m_isWork (l : Launch) (D : va_G) (cs : Nat → ClassId) (ad : Nat → Nat) (hj : wJ ad nW) (g : Nat → va_E) (x : Int32) (h197 : g 197 = .inr (12, [.int 0, .ref (ad 198), .ref (ad 199), .ref (ad 200), .ref (ad 201), .int 0, .ref (ad 202), .int 0, .int 0, .int 0, .int 0, .int 0, .int 0, .int (-1), .ref (ad 203), .ref (ad 204), .ref (ad 205), .int 0, .int 0, .ref (ad 206), .ref (ad 207), .ref (ad 208), .int 0, .int 0, .int 0, .int 0, .int 0, .ref (ad 209), .ref (ad 210), .ref (ad 211), .long 0, .long 0, .ref (ad 212), .ref (ad 213), .int 0, .int 0, .ref (ad 214), .ref (ad 215), .ref (ad 216), .ref (ad 217)])) (h198 : g 198 = .inl (cs 1, 118, .inl (fun _ => 0))) : cI l yX12_isWork vX12_isWork { frames := 1, cells := 0, slots := 0, locals := 25 } D cs ad nW [.ref (ad 197), .int x] g (fun r g2 => r = 0 ∧ g2 = g) := by
  refine Met.start (cc := cX12_isWork) (maxL := 2) (ret := (some .boolean)) RX12 rfl (by decide) rfl (Nat.le_of_ble_eq_true rfl) ?_
  intro p e s m below meth c ls X hP hl
  have hx := X.1
  have hb := X.2.1
  have hS : va_S (wA ad nW) s.heap s.heap [] := va_S.rf
  have hA : ∀ i, i < nW → wA ad nW (ad i) := fun i h => ⟨i, h, rfl⟩
  have hl : lv_has ls 2 [(0, .ref (ad 197)), (1, .int x)] := hl
  refine lv_iload_n hx hb dX12_isWork_0 rfl (lv_at hl 1 rfl) ?_
  refine lv_i2l (v := x.toInt64) hx hb dX12_isWork_1 rfl ?_
  refine lv_lconst (v := 0) hx hb dX12_isWork_2 (by decide) ?_
  refine lv_aload_n hx hb dX12_isWork_3 rfl (lv_at hl 0 rfl) ?_
  refine q_get X iX12_isWork_12 hP (by decide) h197 rfl 1 (by decide) (List.mem_of_getElem? (i := 1) rfl) (v := .ref (ad 198)) rfl dX12_isWork_4 ?_
  refine lv_bipush (v := 6) hx hb dX12_isWork_7 (by decide) ?_
  refine q_iald X hP (by decide) h198 (by unfold vp_in; decide) dX12_isWork_9 ?_
  refine lv_iconst (v := 1) hx hb dX12_isWork_10 (by decide) ?_
  refine lv_isub hx hb dX12_isWork_11 ?_
  refine lv_topi (fun z_1 ez_1 => ?_)
  obtain rfl : z_1 = (-1) := ez_1.trans (by decide)
  refine lv_i2l (v := (-1)) hx hb dX12_isWork_12 (by decide) ?_
  refine q_callSi (As := [.long (x.toInt64), .long 0, .long (-1)]) (rest := []) X (m_in l D cs ad hj g (x.toInt64) 0 (-1) ) (cwS 3 X.2.2.2.2.1 gg_X12_isWork_X12_in rfl rfl rfl (by decide +kernel) ⟨Nat.le_of_ble_eq_true rfl, Nat.le_of_ble_eq_true rfl⟩) hP hA hS rfl hl.1 rfl (Nat.le_of_ble_eq_true rfl) dX12_isWork_13 ⟨Nat.le_of_ble_eq_true rfl, Nat.le_of_ble_eq_true rfl⟩ (fun r_4 g_3 H locs hw_2 hP hS => ?_)
  obtain ⟨hw_2b, hw_2⟩ := hw_2
  rw [hw_2b] at hP
  obtain rfl : r_4 = 0 := no_in (by decide) hw_2
  exact q_zret X hP hS rfl ⟨rfl, rfl⟩ dX12_isWork_16

theorem dX12_isIcicle_0 : decode cX12_isIcicle 0 = .ok (.lload_n 1, 1) := by decide +kernel
theorem dX12_isIcicle_1 : decode cX12_isIcicle 1 = .ok (.lconst 0, 1) := by decide +kernel
theorem dX12_isIcicle_2 : decode cX12_isIcicle 2 = .ok (.aload_n 0, 1) := by decide +kernel
theorem dX12_isIcicle_3 : decode cX12_isIcicle 3 = .ok (.getfield 9, 3) := by decide +kernel
theorem dX12_isIcicle_6 : decode cX12_isIcicle 6 = .ok (.iconst 5, 1) := by decide +kernel
theorem dX12_isIcicle_7 : decode cX12_isIcicle 7 = .ok (.iaload, 1) := by decide +kernel
theorem dX12_isIcicle_8 : decode cX12_isIcicle 8 = .ok (.iconst 1, 1) := by decide +kernel
theorem dX12_isIcicle_9 : decode cX12_isIcicle 9 = .ok (.isub, 1) := by decide +kernel
theorem dX12_isIcicle_10 : decode cX12_isIcicle 10 = .ok (.i2l, 1) := by decide +kernel
theorem dX12_isIcicle_11 : decode cX12_isIcicle 11 = .ok (.invokestatic 82, 3) := by decide +kernel
theorem dX12_isIcicle_14 : decode cX12_isIcicle 14 = .ok (.ireturn, 1) := by decide +kernel
def vX12_isIcicle : List Cond := .code yX12_isIcicle cX12_isIcicle 3 (some .boolean) :: ([.fieldLink RX12 9 "IcicleClockModel" "world" "[I", .methodLink RX12 82 yX12_in, .static yX12_in, .initialized RX12, .code yX12_in cX12_in 6 (some .boolean)] ++ wsX120)
theorem iX12_isIcicle_12 : ∀ w ∈ wsX120, w ∈ vX12_isIcicle := fun _ h => List.mem_cons_of_mem _ (List.mem_append_right _ h)
set_option maxRecDepth 20000 in
theorem gg_X12_isIcicle_X12_in : GoodIn vX12_isIcicle (wsS RX12 82 yX12_in vX12_in) := goodIn_r _ [2, 3, 4, 5] (by decide +kernel) (by decide +kernel)
set_option maxHeartbeats 4000000 in
set_option maxRecDepth 100000 in
theorem m_isIcicle (l : Launch) (D : va_G) (cs : Nat → ClassId) (ad : Nat → Nat) (hj : wJ ad nW) (g : Nat → va_E) (x : Int64) (h197 : g 197 = .inr (12, [.int 0, .ref (ad 198), .ref (ad 199), .ref (ad 200), .ref (ad 201), .int 0, .ref (ad 202), .int 0, .int 0, .int 0, .int 0, .int 0, .int 0, .int (-1), .ref (ad 203), .ref (ad 204), .ref (ad 205), .int 0, .int 0, .ref (ad 206), .ref (ad 207), .ref (ad 208), .int 0, .int 0, .int 0, .int 0, .int 0, .ref (ad 209), .ref (ad 210), .ref (ad 211), .long 0, .long 0, .ref (ad 212), .ref (ad 213), .int 0, .int 0, .ref (ad 214), .ref (ad 215), .ref (ad 216), .ref (ad 217)])) (h198 : g 198 = .inl (cs 1, 118, .inl (fun _ => 0))) : cI l yX12_isIcicle vX12_isIcicle { frames := 1, cells := 0, slots := 0, locals := 25 } D cs ad nW [.ref (ad 197), .long x] g (fun r g2 => r = 0 ∧ g2 = g) := by
  refine Met.start (cc := cX12_isIcicle) (maxL := 3) (ret := (some .boolean)) RX12 rfl (by decide) rfl (Nat.le_of_ble_eq_true rfl) ?_
  intro p e s m below meth c ls X hP hl
  have hx := X.1
  have hb := X.2.1
  have hS : va_S (wA ad nW) s.heap s.heap [] := va_S.rf
  have hA : ∀ i, i < nW → wA ad nW (ad i) := fun i h => ⟨i, h, rfl⟩
  have hl : lv_has ls 3 [(0, .ref (ad 197)), (1, .long x)] := hl
  refine lv_lload_n hx hb dX12_isIcicle_0 rfl (lv_at hl 1 rfl) ?_
  refine lv_lconst (v := 0) hx hb dX12_isIcicle_1 (by decide) ?_
  refine lv_aload_n hx hb dX12_isIcicle_2 rfl (lv_at hl 0 rfl) ?_
  refine q_get X iX12_isIcicle_12 hP (by decide) h197 rfl 1 (by decide) (List.mem_of_getElem? (i := 1) rfl) (v := .ref (ad 198)) rfl dX12_isIcicle_3 ?_
  refine lv_iconst (v := 5) hx hb dX12_isIcicle_6 (by decide) ?_
  refine q_iald X hP (by decide) h198 (by unfold vp_in; decide) dX12_isIcicle_7 ?_
  refine lv_iconst (v := 1) hx hb dX12_isIcicle_8 (by decide) ?_
  refine lv_isub hx hb dX12_isIcicle_9 ?_
  refine lv_topi (fun z_1 ez_1 => ?_)
  obtain rfl : z_1 = (-1) := ez_1.trans (by decide)
  refine lv_i2l (v := (-1)) hx hb dX12_isIcicle_10 (by decide) ?_
  refine q_callSi (As := [.long x, .long 0, .long (-1)]) (rest := []) X (m_in l D cs ad hj g x 0 (-1) ) (cwS 3 X.2.2.2.2.1 gg_X12_isIcicle_X12_in rfl rfl rfl (by decide +kernel) ⟨Nat.le_of_ble_eq_true rfl, Nat.le_of_ble_eq_true rfl⟩) hP hA hS rfl hl.1 rfl (Nat.le_of_ble_eq_true rfl) dX12_isIcicle_11 ⟨Nat.le_of_ble_eq_true rfl, Nat.le_of_ble_eq_true rfl⟩ (fun r_4 g_3 H locs hw_2 hP hS => ?_)
  obtain ⟨hw_2b, hw_2⟩ := hw_2
  rw [hw_2b] at hP
  obtain rfl : r_4 = 0 := no_in (by decide) hw_2
  exact q_zret X hP hS rfl ⟨rfl, rfl⟩ dX12_isIcicle_14

theorem dX12_isStreet_0 : decode cX12_isStreet 0 = .ok (.aload_n 0, 1) := by decide +kernel
theorem dX12_isStreet_1 : decode cX12_isStreet 1 = .ok (.getfield 9, 3) := by decide +kernel
theorem dX12_isStreet_4 : decode cX12_isStreet 4 = .ok (.bipush 8, 2) := by decide +kernel
theorem dX12_isStreet_6 : decode cX12_isStreet 6 = .ok (.iaload, 1) := by decide +kernel
theorem dX12_isStreet_7 : decode cX12_isStreet 7 = .ok (.ifCond .le 7, 3) := by decide +kernel
theorem dX12_isStreet_14 : decode cX12_isStreet 14 = .ok (.iconst 0, 1) := by decide +kernel
theorem dX12_isStreet_15 : decode cX12_isStreet 15 = .ok (.ireturn, 1) := by decide +kernel
def vX12_isStreet : List Cond := .code yX12_isStreet cX12_isStreet 1 (some .boolean) :: ([.fieldLink RX12 9 "IcicleClockModel" "world" "[I"] ++ wsX120)
theorem iX12_isStreet_12 : ∀ w ∈ wsX120, w ∈ vX12_isStreet := fun _ h => List.mem_cons_of_mem _ (List.mem_append_right _ h)
set_option maxHeartbeats 4000000 in
set_option maxRecDepth 100000 in
theorem m_isStreet (l : Launch) (D : va_G) (cs : Nat → ClassId) (ad : Nat → Nat) (hj : wJ ad nW) (g : Nat → va_E) (h197 : g 197 = .inr (12, [.int 0, .ref (ad 198), .ref (ad 199), .ref (ad 200), .ref (ad 201), .int 0, .ref (ad 202), .int 0, .int 0, .int 0, .int 0, .int 0, .int 0, .int (-1), .ref (ad 203), .ref (ad 204), .ref (ad 205), .int 0, .int 0, .ref (ad 206), .ref (ad 207), .ref (ad 208), .int 0, .int 0, .int 0, .int 0, .int 0, .ref (ad 209), .ref (ad 210), .ref (ad 211), .long 0, .long 0, .ref (ad 212), .ref (ad 213), .int 0, .int 0, .ref (ad 214), .ref (ad 215), .ref (ad 216), .ref (ad 217)])) (h198 : g 198 = .inl (cs 1, 118, .inl (fun _ => 0))) : cI l yX12_isStreet vX12_isStreet { frames := 0, cells := 0, slots := 0, locals := 0 } D cs ad nW [.ref (ad 197)] g (fun r g2 => r = 0 ∧ g2 = g) := by
  refine Met.start (cc := cX12_isStreet) (maxL := 1) (ret := (some .boolean)) RX12 rfl (by decide) rfl (Nat.le_of_ble_eq_true rfl) ?_
  intro p e s m below meth c ls X hP hl
  have hx := X.1
  have hb := X.2.1
  have hS : va_S (wA ad nW) s.heap s.heap [] := va_S.rf
  have hA : ∀ i, i < nW → wA ad nW (ad i) := fun i h => ⟨i, h, rfl⟩
  have hl : lv_has ls 1 [(0, .ref (ad 197))] := hl
  refine lv_aload_n hx hb dX12_isStreet_0 rfl (lv_at hl 0 rfl) ?_
  refine q_get X iX12_isStreet_12 hP (by decide) h197 rfl 1 (by decide) (List.mem_of_getElem? (i := 1) rfl) (v := .ref (ad 198)) rfl dX12_isStreet_1 ?_
  refine lv_bipush (v := 8) hx hb dX12_isStreet_4 (by decide) ?_
  refine q_iald X hP (by decide) h198 (by unfold vp_in; decide) dX12_isStreet_6 ?_
  refine lv_if_le (tgt := 14) hx hb dX12_isStreet_7 (by decide) (fun _ => ?_) (fun h => absurd h (by decide))
  refine lv_iconst (v := 0) hx hb dX12_isStreet_14 (by decide) ?_
  exact q_zret X hP hS rfl ⟨rfl, rfl⟩ dX12_isStreet_15

theorem dX12_isSlot_0 : decode cX12_isSlot 0 = .ok (.iload_n 0, 1) := by decide +kernel
theorem dX12_isSlot_1 : decode cX12_isSlot 1 = .ok (.i2l, 1) := by decide +kernel
theorem dX12_isSlot_2 : decode cX12_isSlot 2 = .ok (.lconst 0, 1) := by decide +kernel
theorem dX12_isSlot_3 : decode cX12_isSlot 3 = .ok (.ldc2_w 431, 3) := by decide +kernel
theorem dX12_isSlot_6 : decode cX12_isSlot 6 = .ok (.invokestatic 82, 3) := by decide +kernel
theorem dX12_isSlot_9 : decode cX12_isSlot 9 = .ok (.ireturn, 1) := by decide +kernel
def vX12_isSlot : List Cond := .code yX12_isSlot cX12_isSlot 1 (some .boolean) :: ([.constantLong RX12 431 (3), .methodLink RX12 82 yX12_in, .static yX12_in, .initialized RX12, .code yX12_in cX12_in 6 (some .boolean)])
set_option maxRecDepth 20000 in
theorem gg_X12_isSlot_X12_in : GoodIn vX12_isSlot (wsS RX12 82 yX12_in vX12_in) := goodIn_r _ [2, 3, 4, 5] (by decide +kernel) (by decide +kernel)
set_option maxHeartbeats 4000000 in
set_option maxRecDepth 100000 in
theorem m_isSlot (l : Launch) (D : va_G) (cs : Nat → ClassId) (ad : Nat → Nat) (hj : wJ ad nW) (g : Nat → va_E) (x : Int32) : cI l yX12_isSlot vX12_isSlot { frames := 1, cells := 0, slots := 0, locals := 25 } D cs ad nW [.int x] g (fun r g2 => g2 = g ∧ ((r = 1 ∧ inS x) ∨ (r = 0 ∧ ¬ inS x))) := by
  refine Met.start (cc := cX12_isSlot) (maxL := 1) (ret := (some .boolean)) RX12 rfl (by decide) rfl (Nat.le_of_ble_eq_true rfl) ?_
  intro p e s m below meth c ls X hP hl
  have hx := X.1
  have hb := X.2.1
  have hS : va_S (wA ad nW) s.heap s.heap [] := va_S.rf
  have hA : ∀ i, i < nW → wA ad nW (ad i) := fun i h => ⟨i, h, rfl⟩
  have hl : lv_has ls 1 [(0, .int x)] := hl
  refine lv_iload_n hx hb dX12_isSlot_0 rfl (lv_at hl 0 rfl) ?_
  refine lv_i2l (v := x.toInt64) hx hb dX12_isSlot_1 rfl ?_
  refine lv_lconst (v := 0) hx hb dX12_isSlot_2 (by decide) ?_
  refine lv_ldc2 (v := 3) hx hb X.2.2.2.2.2.1 (X.2.2.2.2.1 _ (List.mem_of_getElem? (i := 1) rfl)) dX12_isSlot_3 ?_
  refine q_callSi (As := [.long (x.toInt64), .long 0, .long 3]) (rest := []) X (m_in l D cs ad hj g (x.toInt64) 0 3 ) (cwS 3 X.2.2.2.2.1 gg_X12_isSlot_X12_in rfl rfl rfl (by decide +kernel) ⟨Nat.le_of_ble_eq_true rfl, Nat.le_of_ble_eq_true rfl⟩) hP hA hS rfl hl.1 rfl (Nat.le_of_ble_eq_true rfl) dX12_isSlot_6 ⟨Nat.le_of_ble_eq_true rfl, Nat.le_of_ble_eq_true rfl⟩ (fun r_3 g_2 H locs hw_1 hP hS => ?_)
  obtain ⟨hw_1b, hw_1⟩ := hw_1
  rw [hw_1b] at hP
  exact q_zret X hP hS (nb hw_1) ⟨rfl, in_S hw_1⟩ dX12_isSlot_9

theorem dX12_isSeed_0 : decode cX12_isSeed 0 = .ok (.iload_n 0, 1) := by decide +kernel
theorem dX12_isSeed_1 : decode cX12_isSeed 1 = .ok (.i2l, 1) := by decide +kernel
theorem dX12_isSeed_2 : decode cX12_isSeed 2 = .ok (.lconst 0, 1) := by decide +kernel
theorem dX12_isSeed_3 : decode cX12_isSeed 3 = .ok (.ldc2_w 416, 3) := by decide +kernel
theorem dX12_isSeed_6 : decode cX12_isSeed 6 = .ok (.invokestatic 82, 3) := by decide +kernel
theorem dX12_isSeed_9 : decode cX12_isSeed 9 = .ok (.ireturn, 1) := by decide +kernel
def vX12_isSeed : List Cond := .code yX12_isSeed cX12_isSeed 1 (some .boolean) :: ([.constantLong RX12 416 (2000000000), .methodLink RX12 82 yX12_in, .static yX12_in, .initialized RX12, .code yX12_in cX12_in 6 (some .boolean)])
set_option maxRecDepth 20000 in
theorem gg_X12_isSeed_X12_in : GoodIn vX12_isSeed (wsS RX12 82 yX12_in vX12_in) := goodIn_r _ [2, 3, 4, 5] (by decide +kernel) (by decide +kernel)
set_option maxHeartbeats 4000000 in
set_option maxRecDepth 100000 in
theorem m_isSeed (l : Launch) (D : va_G) (cs : Nat → ClassId) (ad : Nat → Nat) (hj : wJ ad nW) (g : Nat → va_E) (x : Int32) : cI l yX12_isSeed vX12_isSeed { frames := 1, cells := 0, slots := 0, locals := 25 } D cs ad nW [.int x] g (fun r g2 => g2 = g ∧ (r = 0 ∨ r = 1)) := by
  refine Met.start (cc := cX12_isSeed) (maxL := 1) (ret := (some .boolean)) RX12 rfl (by decide) rfl (Nat.le_of_ble_eq_true rfl) ?_
  intro p e s m below meth c ls X hP hl
  have hx := X.1
  have hb := X.2.1
  have hS : va_S (wA ad nW) s.heap s.heap [] := va_S.rf
  have hA : ∀ i, i < nW → wA ad nW (ad i) := fun i h => ⟨i, h, rfl⟩
  have hl : lv_has ls 1 [(0, .int x)] := hl
  refine lv_iload_n hx hb dX12_isSeed_0 rfl (lv_at hl 0 rfl) ?_
  refine lv_i2l (v := x.toInt64) hx hb dX12_isSeed_1 rfl ?_
  refine lv_lconst (v := 0) hx hb dX12_isSeed_2 (by decide) ?_
  refine lv_ldc2 (v := 2000000000) hx hb X.2.2.2.2.2.1 (X.2.2.2.2.1 _ (List.mem_of_getElem? (i := 1) rfl)) dX12_isSeed_3 ?_
  refine q_callSi (As := [.long (x.toInt64), .long 0, .long 2000000000]) (rest := []) X (m_in l D cs ad hj g (x.toInt64) 0 2000000000 ) (cwS 3 X.2.2.2.2.1 gg_X12_isSeed_X12_in rfl rfl rfl (by decide +kernel) ⟨Nat.le_of_ble_eq_true rfl, Nat.le_of_ble_eq_true rfl⟩) hP hA hS rfl hl.1 rfl (Nat.le_of_ble_eq_true rfl) dX12_isSeed_6 ⟨Nat.le_of_ble_eq_true rfl, Nat.le_of_ble_eq_true rfl⟩ (fun r_3 g_2 H locs hw_1 hP hS => ?_)
  obtain ⟨hw_1b, hw_1⟩ := hw_1
  rw [hw_1b] at hP
  exact q_zret X hP hS (nb hw_1) ⟨rfl, hw_1.elim (fun q => Or.inr q.1) (fun q => Or.inl q.1)⟩ dX12_isSeed_9

theorem dX12_areThen_0 : decode cX12_areThen 0 = .ok (.aload_n 0, 1) := by decide +kernel
theorem dX12_areThen_1 : decode cX12_areThen 1 = .ok (.iload_n 1, 1) := by decide +kernel
theorem dX12_areThen_2 : decode cX12_areThen 2 = .ok (.i2l, 1) := by decide +kernel
theorem dX12_areThen_3 : decode cX12_areThen 3 = .ok (.invokevirtual 221, 3) := by decide +kernel
theorem dX12_areThen_6 : decode cX12_areThen 6 = .ok (.ifCond .eq 11, 3) := by decide +kernel
theorem dX12_areThen_17 : decode cX12_areThen 17 = .ok (.iconst 0, 1) := by decide +kernel
theorem dX12_areThen_18 : decode cX12_areThen 18 = .ok (.ireturn, 1) := by decide +kernel
def vX12_areThen : List Cond := .code yX12_areThen cX12_areThen 3 (some .boolean) :: ([.methodLink RX12 221 yX12_isIcicle, .instanceMethod yX12_isIcicle, .selects RX12 yX12_isIcicle yX12_isIcicle, .initialized RX12, .code yX12_isIcicle cX12_isIcicle 3 (some .boolean), .fieldLink RX12 9 "IcicleClockModel" "world" "[I", .methodLink RX12 82 yX12_in, .static yX12_in, .code yX12_in cX12_in 6 (some .boolean)] ++ wsX120)
theorem iX12_areThen_12 : ∀ w ∈ wsX120, w ∈ vX12_areThen := fun _ h => List.mem_cons_of_mem _ (List.mem_append_right _ h)
set_option maxRecDepth 20000 in
theorem gg_X12_areThen_X12_isIcicle : GoodIn vX12_areThen (wsV RX12 221 RX12 yX12_isIcicle vX12_isIcicle) := goodIn_r _ [1, 2, 3, 4, 5, 6, 7, 8, 4, 9, 10, 11, 12, 13, 14, 15, 16, 17, 18, 19, 20, 21, 22, 23, 24, 25, 26, 27, 28, 29, 30, 31, 32, 33, 34, 35, 36, 37, 38, 39, 40, 41, 42, 43, 44, 45, 46, 47, 48, 49] (by decide +kernel) (by decide +kernel)
set_option maxHeartbeats 4000000 in
set_option maxRecDepth 100000 in
theorem m_areThen (l : Launch) (D : va_G) (cs : Nat → ClassId) (ad : Nat → Nat) (hj : wJ ad nW) (g : Nat → va_E) (vi : Int32) (vd : Int32) (h197 : g 197 = .inr (12, [.int 0, .ref (ad 198), .ref (ad 199), .ref (ad 200), .ref (ad 201), .int 0, .ref (ad 202), .int 0, .int 0, .int 0, .int 0, .int 0, .int 0, .int (-1), .ref (ad 203), .ref (ad 204), .ref (ad 205), .int 0, .int 0, .ref (ad 206), .ref (ad 207), .ref (ad 208), .int 0, .int 0, .int 0, .int 0, .int 0, .ref (ad 209), .ref (ad 210), .ref (ad 211), .long 0, .long 0, .ref (ad 212), .ref (ad 213), .int 0, .int 0, .ref (ad 214), .ref (ad 215), .ref (ad 216), .ref (ad 217)])) (h198 : g 198 = .inl (cs 1, 118, .inl (fun _ => 0))) : cI l yX12_areThen vX12_areThen { frames := 2, cells := 0, slots := 0, locals := 47 } D cs ad nW [.ref (ad 197), .int vi, .int vd] g (fun r g2 => r = 0 ∧ g2 = g) := by
  refine Met.start (cc := cX12_areThen) (maxL := 3) (ret := (some .boolean)) RX12 rfl (by decide) rfl (Nat.le_of_ble_eq_true rfl) ?_
  intro p e s m below meth c ls X hP hl
  have hx := X.1
  have hb := X.2.1
  have hS : va_S (wA ad nW) s.heap s.heap [] := va_S.rf
  have hA : ∀ i, i < nW → wA ad nW (ad i) := fun i h => ⟨i, h, rfl⟩
  have hl : lv_has ls 3 [(0, .ref (ad 197)), (1, .int vi), (2, .int vd)] := hl
  refine lv_aload_n hx hb dX12_areThen_0 rfl (lv_at hl 0 rfl) ?_
  refine lv_iload_n hx hb dX12_areThen_1 rfl (lv_at hl 1 rfl) ?_
  refine lv_i2l (v := vi.toInt64) hx hb dX12_areThen_2 rfl ?_
  refine q_calli (q := (RX12, TX12, 40)) (As := [.long (vi.toInt64)]) (rest := []) X (m_isIcicle l D cs ad hj g (vi.toInt64) h197 h198) (cwV 1 X.2.2.2.2.1 gg_X12_areThen_X12_isIcicle rfl rfl rfl (by decide +kernel) ⟨Nat.le_of_ble_eq_true rfl, Nat.le_of_ble_eq_true rfl⟩) (by decide) h197 rfl hP hA hS rfl hl.1 rfl (Nat.le_of_ble_eq_true rfl) dX12_areThen_3 ⟨Nat.le_of_ble_eq_true rfl, Nat.le_of_ble_eq_true rfl⟩ (fun r_3 g_2 H locs hw_1 hP hS => ?_)
  obtain ⟨hw_1a, hw_1b⟩ := hw_1
  subst hw_1a
  rw [hw_1b] at hP
  refine lv_if_eq (tgt := 17) hx hb dX12_areThen_6 (by decide) (fun _ => ?_) (fun h => absurd h (by decide))
  refine lv_iconst (v := 0) hx hb dX12_areThen_17 (by decide) ?_
  exact q_zret X hP hS rfl ⟨rfl, rfl⟩ dX12_areThen_18

theorem dX12_isRound_0 : decode cX12_isRound 0 = .ok (.aload_n 0, 1) := by decide +kernel
theorem dX12_isRound_1 : decode cX12_isRound 1 = .ok (.iload_n 1, 1) := by decide +kernel
theorem dX12_isRound_2 : decode cX12_isRound 2 = .ok (.invokevirtual 212, 3) := by decide +kernel
theorem dX12_isRound_5 : decode cX12_isRound 5 = .ok (.ifCond .eq 27, 3) := by decide +kernel
theorem dX12_isRound_32 : decode cX12_isRound 32 = .ok (.iconst 0, 1) := by decide +kernel
theorem dX12_isRound_33 : decode cX12_isRound 33 = .ok (.ireturn, 1) := by decide +kernel
def vX12_isRound : List Cond := .code yX12_isRound cX12_isRound 3 (some .boolean) :: ([.methodLink RX12 212 yX12_isEave, .instanceMethod yX12_isEave, .selects RX12 yX12_isEave yX12_isEave, .initialized RX12, .code yX12_isEave cX12_isEave 2 (some .boolean), .fieldLink RX12 9 "IcicleClockModel" "world" "[I", .methodLink RX12 82 yX12_in, .static yX12_in, .code yX12_in cX12_in 6 (some .boolean)] ++ wsX120)
theorem iX12_isRound_12 : ∀ w ∈ wsX120, w ∈ vX12_isRound := fun _ h => List.mem_cons_of_mem _ (List.mem_append_right _ h)
set_option maxRecDepth 20000 in
theorem gg_X12_isRound_X12_isEave : GoodIn vX12_isRound (wsV RX12 212 RX12 yX12_isEave vX12_isEave) := goodIn_r _ [1, 2, 3, 4, 5, 6, 7, 8, 4, 9, 10, 11, 12, 13, 14, 15, 16, 17, 18, 19, 20, 21, 22, 23, 24, 25, 26, 27, 28, 29, 30, 31, 32, 33, 34, 35, 36, 37, 38, 39, 40, 41, 42, 43, 44, 45, 46, 47, 48, 49] (by decide +kernel) (by decide +kernel)
set_option maxHeartbeats 4000000 in
set_option maxRecDepth 100000 in
theorem m_isRound (l : Launch) (D : va_G) (cs : Nat → ClassId) (ad : Nat → Nat) (hj : wJ ad nW) (g : Nat → va_E) (vf : Int32) (vk : Int32) (h197 : g 197 = .inr (12, [.int 0, .ref (ad 198), .ref (ad 199), .ref (ad 200), .ref (ad 201), .int 0, .ref (ad 202), .int 0, .int 0, .int 0, .int 0, .int 0, .int 0, .int (-1), .ref (ad 203), .ref (ad 204), .ref (ad 205), .int 0, .int 0, .ref (ad 206), .ref (ad 207), .ref (ad 208), .int 0, .int 0, .int 0, .int 0, .int 0, .ref (ad 209), .ref (ad 210), .ref (ad 211), .long 0, .long 0, .ref (ad 212), .ref (ad 213), .int 0, .int 0, .ref (ad 214), .ref (ad 215), .ref (ad 216), .ref (ad 217)])) (h198 : g 198 = .inl (cs 1, 118, .inl (fun _ => 0))) : cI l yX12_isRound vX12_isRound { frames := 2, cells := 0, slots := 0, locals := 46 } D cs ad nW [.ref (ad 197), .int vf, .int vk] g (fun r g2 => r = 0 ∧ g2 = g) := by
  refine Met.start (cc := cX12_isRound) (maxL := 3) (ret := (some .boolean)) RX12 rfl (by decide) rfl (Nat.le_of_ble_eq_true rfl) ?_
  intro p e s m below meth c ls X hP hl
  have hx := X.1
  have hb := X.2.1
  have hS : va_S (wA ad nW) s.heap s.heap [] := va_S.rf
  have hA : ∀ i, i < nW → wA ad nW (ad i) := fun i h => ⟨i, h, rfl⟩
  have hl : lv_has ls 3 [(0, .ref (ad 197)), (1, .int vf), (2, .int vk)] := hl
  refine lv_aload_n hx hb dX12_isRound_0 rfl (lv_at hl 0 rfl) ?_
  refine lv_iload_n hx hb dX12_isRound_1 rfl (lv_at hl 1 rfl) ?_
  refine q_calli (q := (RX12, TX12, 40)) (As := [.int vf]) (rest := []) X (m_isEave l D cs ad hj g vf h197 h198) (cwV 1 X.2.2.2.2.1 gg_X12_isRound_X12_isEave rfl rfl rfl (by decide +kernel) ⟨Nat.le_of_ble_eq_true rfl, Nat.le_of_ble_eq_true rfl⟩) (by decide) h197 rfl hP hA hS rfl hl.1 rfl (Nat.le_of_ble_eq_true rfl) dX12_isRound_2 ⟨Nat.le_of_ble_eq_true rfl, Nat.le_of_ble_eq_true rfl⟩ (fun r_3 g_2 H locs hw_1 hP hS => ?_)
  obtain ⟨hw_1a, hw_1b⟩ := hw_1
  subst hw_1a
  rw [hw_1b] at hP
  refine lv_if_eq (tgt := 32) hx hb dX12_isRound_5 (by decide) (fun _ => ?_) (fun h => absurd h (by decide))
  refine lv_iconst (v := 0) hx hb dX12_isRound_32 (by decide) ?_
  exact q_zret X hP hS rfl ⟨rfl, rfl⟩ dX12_isRound_33

theorem dX12_day_0 : decode cX12_day 0 = .ok (.aload_n 0, 1) := by decide +kernel
theorem dX12_day_1 : decode cX12_day 1 = .ok (.iload_n 1, 1) := by decide +kernel
theorem dX12_day_2 : decode cX12_day 2 = .ok (.invokevirtual 205, 3) := by decide +kernel
theorem dX12_day_5 : decode cX12_day 5 = .ok (.ifCond .eq 11, 3) := by decide +kernel
theorem dX12_day_16 : decode cX12_day 16 = .ok (.sipush (-1000), 3) := by decide +kernel
theorem dX12_day_19 : decode cX12_day 19 = .ok (.ireturn, 1) := by decide +kernel
def vX12_day : List Cond := .code yX12_day cX12_day 2 (some .int) :: ([.methodLink RX12 205 yX12_isDay, .instanceMethod yX12_isDay, .selects RX12 yX12_isDay yX12_isDay, .initialized RX12, .code yX12_isDay cX12_isDay 2 (some .boolean), .fieldLink RX12 9 "IcicleClockModel" "world" "[I", .methodLink RX12 82 yX12_in, .static yX12_in, .code yX12_in cX12_in 6 (some .boolean)] ++ wsX120)
theorem iX12_day_12 : ∀ w ∈ wsX120, w ∈ vX12_day := fun _ h => List.mem_cons_of_mem _ (List.mem_append_right _ h)
set_option maxRecDepth 20000 in
theorem gg_X12_day_X12_isDay : GoodIn vX12_day (wsV RX12 205 RX12 yX12_isDay vX12_isDay) := goodIn_r _ [1, 2, 3, 4, 5, 6, 7, 8, 4, 9, 10, 11, 12, 13, 14, 15, 16, 17, 18, 19, 20, 21, 22, 23, 24, 25, 26, 27, 28, 29, 30, 31, 32, 33, 34, 35, 36, 37, 38, 39, 40, 41, 42, 43, 44, 45, 46, 47, 48, 49] (by decide +kernel) (by decide +kernel)
set_option maxHeartbeats 4000000 in
set_option maxRecDepth 100000 in
theorem m_day (l : Launch) (D : va_G) (cs : Nat → ClassId) (ad : Nat → Nat) (hj : wJ ad nW) (g : Nat → va_E) (vd : Int32) (h197 : g 197 = .inr (12, [.int 0, .ref (ad 198), .ref (ad 199), .ref (ad 200), .ref (ad 201), .int 0, .ref (ad 202), .int 0, .int 0, .int 0, .int 0, .int 0, .int 0, .int (-1), .ref (ad 203), .ref (ad 204), .ref (ad 205), .int 0, .int 0, .ref (ad 206), .ref (ad 207), .ref (ad 208), .int 0, .int 0, .int 0, .int 0, .int 0, .ref (ad 209), .ref (ad 210), .ref (ad 211), .long 0, .long 0, .ref (ad 212), .ref (ad 213), .int 0, .int 0, .ref (ad 214), .ref (ad 215), .ref (ad 216), .ref (ad 217)])) (h198 : g 198 = .inl (cs 1, 118, .inl (fun _ => 0))) : cI l yX12_day vX12_day { frames := 2, cells := 0, slots := 0, locals := 46 } D cs ad nW [.ref (ad 197), .int vd] g (fun r g2 => r = (-1000) ∧ g2 = g) := by
  refine Met.start (cc := cX12_day) (maxL := 2) (ret := (some .int)) RX12 rfl (by decide) rfl (Nat.le_of_ble_eq_true rfl) ?_
  intro p e s m below meth c ls X hP hl
  have hx := X.1
  have hb := X.2.1
  have hS : va_S (wA ad nW) s.heap s.heap [] := va_S.rf
  have hA : ∀ i, i < nW → wA ad nW (ad i) := fun i h => ⟨i, h, rfl⟩
  have hl : lv_has ls 2 [(0, .ref (ad 197)), (1, .int vd)] := hl
  refine lv_aload_n hx hb dX12_day_0 rfl (lv_at hl 0 rfl) ?_
  refine lv_iload_n hx hb dX12_day_1 rfl (lv_at hl 1 rfl) ?_
  refine q_calli (q := (RX12, TX12, 40)) (As := [.int vd]) (rest := []) X (m_isDay l D cs ad hj g vd h197 h198) (cwV 1 X.2.2.2.2.1 gg_X12_day_X12_isDay rfl rfl rfl (by decide +kernel) ⟨Nat.le_of_ble_eq_true rfl, Nat.le_of_ble_eq_true rfl⟩) (by decide) h197 rfl hP hA hS rfl hl.1 rfl (Nat.le_of_ble_eq_true rfl) dX12_day_2 ⟨Nat.le_of_ble_eq_true rfl, Nat.le_of_ble_eq_true rfl⟩ (fun r_3 g_2 H locs hw_1 hP hS => ?_)
  obtain ⟨hw_1a, hw_1b⟩ := hw_1
  subst hw_1a
  rw [hw_1b] at hP
  refine lv_if_eq (tgt := 16) hx hb dX12_day_5 (by decide) (fun _ => ?_) (fun h => absurd h (by decide))
  refine lv_sipush (v := (-1000)) hx hb dX12_day_16 (by decide) ?_
  exact q_iret X hP hS ⟨rfl, rfl⟩ dX12_day_19

theorem dX12_melt_0 : decode cX12_melt 0 = .ok (.aload_n 0, 1) := by decide +kernel
theorem dX12_melt_1 : decode cX12_melt 1 = .ok (.iload_n 1, 1) := by decide +kernel
theorem dX12_melt_2 : decode cX12_melt 2 = .ok (.invokevirtual 212, 3) := by decide +kernel
theorem dX12_melt_5 : decode cX12_melt 5 = .ok (.ifCond .eq 27, 3) := by decide +kernel
theorem dX12_melt_32 : decode cX12_melt 32 = .ok (.sipush (-1000), 3) := by decide +kernel
theorem dX12_melt_35 : decode cX12_melt 35 = .ok (.ireturn, 1) := by decide +kernel
def vX12_melt : List Cond := .code yX12_melt cX12_melt 3 (some .int) :: ([.methodLink RX12 212 yX12_isEave, .instanceMethod yX12_isEave, .selects RX12 yX12_isEave yX12_isEave, .initialized RX12, .code yX12_isEave cX12_isEave 2 (some .boolean), .fieldLink RX12 9 "IcicleClockModel" "world" "[I", .methodLink RX12 82 yX12_in, .static yX12_in, .code yX12_in cX12_in 6 (some .boolean)] ++ wsX120)
theorem iX12_melt_12 : ∀ w ∈ wsX120, w ∈ vX12_melt := fun _ h => List.mem_cons_of_mem _ (List.mem_append_right _ h)
set_option maxRecDepth 20000 in
theorem gg_X12_melt_X12_isEave : GoodIn vX12_melt (wsV RX12 212 RX12 yX12_isEave vX12_isEave) := goodIn_r _ [1, 2, 3, 4, 5, 6, 7, 8, 4, 9, 10, 11, 12, 13, 14, 15, 16, 17, 18, 19, 20, 21, 22, 23, 24, 25, 26, 27, 28, 29, 30, 31, 32, 33, 34, 35, 36, 37, 38, 39, 40, 41, 42, 43, 44, 45, 46, 47, 48, 49] (by decide +kernel) (by decide +kernel)
set_option maxHeartbeats 4000000 in
set_option maxRecDepth 100000 in
theorem m_melt (l : Launch) (D : va_G) (cs : Nat → ClassId) (ad : Nat → Nat) (hj : wJ ad nW) (g : Nat → va_E) (ve : Int32) (vd : Int32) (h197 : g 197 = .inr (12, [.int 0, .ref (ad 198), .ref (ad 199), .ref (ad 200), .ref (ad 201), .int 0, .ref (ad 202), .int 0, .int 0, .int 0, .int 0, .int 0, .int 0, .int (-1), .ref (ad 203), .ref (ad 204), .ref (ad 205), .int 0, .int 0, .ref (ad 206), .ref (ad 207), .ref (ad 208), .int 0, .int 0, .int 0, .int 0, .int 0, .ref (ad 209), .ref (ad 210), .ref (ad 211), .long 0, .long 0, .ref (ad 212), .ref (ad 213), .int 0, .int 0, .ref (ad 214), .ref (ad 215), .ref (ad 216), .ref (ad 217)])) (h198 : g 198 = .inl (cs 1, 118, .inl (fun _ => 0))) : cI l yX12_melt vX12_melt { frames := 2, cells := 0, slots := 0, locals := 46 } D cs ad nW [.ref (ad 197), .int ve, .int vd] g (fun r g2 => r = (-1000) ∧ g2 = g) := by
  refine Met.start (cc := cX12_melt) (maxL := 3) (ret := (some .int)) RX12 rfl (by decide) rfl (Nat.le_of_ble_eq_true rfl) ?_
  intro p e s m below meth c ls X hP hl
  have hx := X.1
  have hb := X.2.1
  have hS : va_S (wA ad nW) s.heap s.heap [] := va_S.rf
  have hA : ∀ i, i < nW → wA ad nW (ad i) := fun i h => ⟨i, h, rfl⟩
  have hl : lv_has ls 3 [(0, .ref (ad 197)), (1, .int ve), (2, .int vd)] := hl
  refine lv_aload_n hx hb dX12_melt_0 rfl (lv_at hl 0 rfl) ?_
  refine lv_iload_n hx hb dX12_melt_1 rfl (lv_at hl 1 rfl) ?_
  refine q_calli (q := (RX12, TX12, 40)) (As := [.int ve]) (rest := []) X (m_isEave l D cs ad hj g ve h197 h198) (cwV 1 X.2.2.2.2.1 gg_X12_melt_X12_isEave rfl rfl rfl (by decide +kernel) ⟨Nat.le_of_ble_eq_true rfl, Nat.le_of_ble_eq_true rfl⟩) (by decide) h197 rfl hP hA hS rfl hl.1 rfl (Nat.le_of_ble_eq_true rfl) dX12_melt_2 ⟨Nat.le_of_ble_eq_true rfl, Nat.le_of_ble_eq_true rfl⟩ (fun r_3 g_2 H locs hw_1 hP hS => ?_)
  obtain ⟨hw_1a, hw_1b⟩ := hw_1
  subst hw_1a
  rw [hw_1b] at hP
  refine lv_if_eq (tgt := 32) hx hb dX12_melt_5 (by decide) (fun _ => ?_) (fun h => absurd h (by decide))
  refine lv_sipush (v := (-1000)) hx hb dX12_melt_32 (by decide) ?_
  exact q_iret X hP hS ⟨rfl, rfl⟩ dX12_melt_35

theorem dX12_icicle_0 : decode cX12_icicle 0 = .ok (.aload_n 0, 1) := by decide +kernel
theorem dX12_icicle_1 : decode cX12_icicle 1 = .ok (.iload_n 1, 1) := by decide +kernel
theorem dX12_icicle_2 : decode cX12_icicle 2 = .ok (.i2l, 1) := by decide +kernel
theorem dX12_icicle_3 : decode cX12_icicle 3 = .ok (.invokevirtual 221, 3) := by decide +kernel
theorem dX12_icicle_6 : decode cX12_icicle 6 = .ok (.ifCond .eq 24, 3) := by decide +kernel
theorem dX12_icicle_30 : decode cX12_icicle 30 = .ok (.bipush (-2), 2) := by decide +kernel
theorem dX12_icicle_32 : decode cX12_icicle 32 = .ok (.ireturn, 1) := by decide +kernel
def vX12_icicle : List Cond := .code yX12_icicle cX12_icicle 3 (some .int) :: ([.methodLink RX12 221 yX12_isIcicle, .instanceMethod yX12_isIcicle, .selects RX12 yX12_isIcicle yX12_isIcicle, .initialized RX12, .code yX12_isIcicle cX12_isIcicle 3 (some .boolean), .fieldLink RX12 9 "IcicleClockModel" "world" "[I", .methodLink RX12 82 yX12_in, .static yX12_in, .code yX12_in cX12_in 6 (some .boolean)] ++ wsX120)
theorem iX12_icicle_12 : ∀ w ∈ wsX120, w ∈ vX12_icicle := fun _ h => List.mem_cons_of_mem _ (List.mem_append_right _ h)
set_option maxRecDepth 20000 in
theorem gg_X12_icicle_X12_isIcicle : GoodIn vX12_icicle (wsV RX12 221 RX12 yX12_isIcicle vX12_isIcicle) := goodIn_r _ [1, 2, 3, 4, 5, 6, 7, 8, 4, 9, 10, 11, 12, 13, 14, 15, 16, 17, 18, 19, 20, 21, 22, 23, 24, 25, 26, 27, 28, 29, 30, 31, 32, 33, 34, 35, 36, 37, 38, 39, 40, 41, 42, 43, 44, 45, 46, 47, 48, 49] (by decide +kernel) (by decide +kernel)
set_option maxHeartbeats 4000000 in
set_option maxRecDepth 100000 in
theorem m_icicle (l : Launch) (D : va_G) (cs : Nat → ClassId) (ad : Nat → Nat) (hj : wJ ad nW) (g : Nat → va_E) (vi : Int32) (vw : Int32) (h197 : g 197 = .inr (12, [.int 0, .ref (ad 198), .ref (ad 199), .ref (ad 200), .ref (ad 201), .int 0, .ref (ad 202), .int 0, .int 0, .int 0, .int 0, .int 0, .int 0, .int (-1), .ref (ad 203), .ref (ad 204), .ref (ad 205), .int 0, .int 0, .ref (ad 206), .ref (ad 207), .ref (ad 208), .int 0, .int 0, .int 0, .int 0, .int 0, .ref (ad 209), .ref (ad 210), .ref (ad 211), .long 0, .long 0, .ref (ad 212), .ref (ad 213), .int 0, .int 0, .ref (ad 214), .ref (ad 215), .ref (ad 216), .ref (ad 217)])) (h198 : g 198 = .inl (cs 1, 118, .inl (fun _ => 0))) : cI l yX12_icicle vX12_icicle { frames := 2, cells := 0, slots := 0, locals := 47 } D cs ad nW [.ref (ad 197), .int vi, .int vw] g (fun r g2 => r = (-2) ∧ g2 = g) := by
  refine Met.start (cc := cX12_icicle) (maxL := 3) (ret := (some .int)) RX12 rfl (by decide) rfl (Nat.le_of_ble_eq_true rfl) ?_
  intro p e s m below meth c ls X hP hl
  have hx := X.1
  have hb := X.2.1
  have hS : va_S (wA ad nW) s.heap s.heap [] := va_S.rf
  have hA : ∀ i, i < nW → wA ad nW (ad i) := fun i h => ⟨i, h, rfl⟩
  have hl : lv_has ls 3 [(0, .ref (ad 197)), (1, .int vi), (2, .int vw)] := hl
  refine lv_aload_n hx hb dX12_icicle_0 rfl (lv_at hl 0 rfl) ?_
  refine lv_iload_n hx hb dX12_icicle_1 rfl (lv_at hl 1 rfl) ?_
  refine lv_i2l (v := vi.toInt64) hx hb dX12_icicle_2 rfl ?_
  refine q_calli (q := (RX12, TX12, 40)) (As := [.long (vi.toInt64)]) (rest := []) X (m_isIcicle l D cs ad hj g (vi.toInt64) h197 h198) (cwV 1 X.2.2.2.2.1 gg_X12_icicle_X12_isIcicle rfl rfl rfl (by decide +kernel) ⟨Nat.le_of_ble_eq_true rfl, Nat.le_of_ble_eq_true rfl⟩) (by decide) h197 rfl hP hA hS rfl hl.1 rfl (Nat.le_of_ble_eq_true rfl) dX12_icicle_3 ⟨Nat.le_of_ble_eq_true rfl, Nat.le_of_ble_eq_true rfl⟩ (fun r_3 g_2 H locs hw_1 hP hS => ?_)
  obtain ⟨hw_1a, hw_1b⟩ := hw_1
  subst hw_1a
  rw [hw_1b] at hP
  refine lv_if_eq (tgt := 30) hx hb dX12_icicle_6 (by decide) (fun _ => ?_) (fun h => absurd h (by decide))
  refine lv_bipush (v := (-2)) hx hb dX12_icicle_30 (by decide) ?_
  exact q_iret X hP hS ⟨rfl, rfl⟩ dX12_icicle_32

theorem dX12_work_0 : decode cX12_work 0 = .ok (.aload_n 0, 1) := by decide +kernel
theorem dX12_work_1 : decode cX12_work 1 = .ok (.iload_n 1, 1) := by decide +kernel
theorem dX12_work_2 : decode cX12_work 2 = .ok (.invokevirtual 228, 3) := by decide +kernel
theorem dX12_work_5 : decode cX12_work 5 = .ok (.ifCond .eq 29, 3) := by decide +kernel
theorem dX12_work_34 : decode cX12_work 34 = .ok (.bipush (-2), 2) := by decide +kernel
theorem dX12_work_36 : decode cX12_work 36 = .ok (.ireturn, 1) := by decide +kernel
def vX12_work : List Cond := .code yX12_work cX12_work 3 (some .int) :: ([.methodLink RX12 228 yX12_isWork, .instanceMethod yX12_isWork, .selects RX12 yX12_isWork yX12_isWork, .initialized RX12, .code yX12_isWork cX12_isWork 2 (some .boolean), .fieldLink RX12 9 "IcicleClockModel" "world" "[I", .methodLink RX12 82 yX12_in, .static yX12_in, .code yX12_in cX12_in 6 (some .boolean)] ++ wsX120)
theorem iX12_work_12 : ∀ w ∈ wsX120, w ∈ vX12_work := fun _ h => List.mem_cons_of_mem _ (List.mem_append_right _ h)
set_option maxRecDepth 20000 in
theorem gg_X12_work_X12_isWork : GoodIn vX12_work (wsV RX12 228 RX12 yX12_isWork vX12_isWork) := goodIn_r _ [1, 2, 3, 4, 5, 6, 7, 8, 4, 9, 10, 11, 12, 13, 14, 15, 16, 17, 18, 19, 20, 21, 22, 23, 24, 25, 26, 27, 28, 29, 30, 31, 32, 33, 34, 35, 36, 37, 38, 39, 40, 41, 42, 43, 44, 45, 46, 47, 48, 49] (by decide +kernel) (by decide +kernel)
set_option maxHeartbeats 4000000 in
set_option maxRecDepth 100000 in
theorem m_work (l : Launch) (D : va_G) (cs : Nat → ClassId) (ad : Nat → Nat) (hj : wJ ad nW) (g : Nat → va_E) (vi : Int32) (vw : Int32) (h197 : g 197 = .inr (12, [.int 0, .ref (ad 198), .ref (ad 199), .ref (ad 200), .ref (ad 201), .int 0, .ref (ad 202), .int 0, .int 0, .int 0, .int 0, .int 0, .int 0, .int (-1), .ref (ad 203), .ref (ad 204), .ref (ad 205), .int 0, .int 0, .ref (ad 206), .ref (ad 207), .ref (ad 208), .int 0, .int 0, .int 0, .int 0, .int 0, .ref (ad 209), .ref (ad 210), .ref (ad 211), .long 0, .long 0, .ref (ad 212), .ref (ad 213), .int 0, .int 0, .ref (ad 214), .ref (ad 215), .ref (ad 216), .ref (ad 217)])) (h198 : g 198 = .inl (cs 1, 118, .inl (fun _ => 0))) : cI l yX12_work vX12_work { frames := 2, cells := 0, slots := 0, locals := 46 } D cs ad nW [.ref (ad 197), .int vi, .int vw] g (fun r g2 => r = (-2) ∧ g2 = g) := by
  refine Met.start (cc := cX12_work) (maxL := 3) (ret := (some .int)) RX12 rfl (by decide) rfl (Nat.le_of_ble_eq_true rfl) ?_
  intro p e s m below meth c ls X hP hl
  have hx := X.1
  have hb := X.2.1
  have hS : va_S (wA ad nW) s.heap s.heap [] := va_S.rf
  have hA : ∀ i, i < nW → wA ad nW (ad i) := fun i h => ⟨i, h, rfl⟩
  have hl : lv_has ls 3 [(0, .ref (ad 197)), (1, .int vi), (2, .int vw)] := hl
  refine lv_aload_n hx hb dX12_work_0 rfl (lv_at hl 0 rfl) ?_
  refine lv_iload_n hx hb dX12_work_1 rfl (lv_at hl 1 rfl) ?_
  refine q_calli (q := (RX12, TX12, 40)) (As := [.int vi]) (rest := []) X (m_isWork l D cs ad hj g vi h197 h198) (cwV 1 X.2.2.2.2.1 gg_X12_work_X12_isWork rfl rfl rfl (by decide +kernel) ⟨Nat.le_of_ble_eq_true rfl, Nat.le_of_ble_eq_true rfl⟩) (by decide) h197 rfl hP hA hS rfl hl.1 rfl (Nat.le_of_ble_eq_true rfl) dX12_work_2 ⟨Nat.le_of_ble_eq_true rfl, Nat.le_of_ble_eq_true rfl⟩ (fun r_3 g_2 H locs hw_1 hP hS => ?_)
  obtain ⟨hw_1a, hw_1b⟩ := hw_1
  subst hw_1a
  rw [hw_1b] at hP
  refine lv_if_eq (tgt := 34) hx hb dX12_work_5 (by decide) (fun _ => ?_) (fun h => absurd h (by decide))
  refine lv_bipush (v := (-2)) hx hb dX12_work_34 (by decide) ?_
  exact q_iret X hP hS ⟨rfl, rfl⟩ dX12_work_36

theorem dX12_eave_0 : decode cX12_eave 0 = .ok (.aload_n 0, 1) := by decide +kernel
theorem dX12_eave_1 : decode cX12_eave 1 = .ok (.iload_n 1, 1) := by decide +kernel
theorem dX12_eave_2 : decode cX12_eave 2 = .ok (.invokevirtual 212, 3) := by decide +kernel
theorem dX12_eave_5 : decode cX12_eave 5 = .ok (.ifCond .ne 6, 3) := by decide +kernel
theorem dX12_eave_8 : decode cX12_eave 8 = .ok (.bipush (-2), 2) := by decide +kernel
theorem dX12_eave_10 : decode cX12_eave 10 = .ok (.ireturn, 1) := by decide +kernel
def vX12_eave : List Cond := .code yX12_eave cX12_eave 4 (some .int) :: ([.methodLink RX12 212 yX12_isEave, .instanceMethod yX12_isEave, .selects RX12 yX12_isEave yX12_isEave, .initialized RX12, .code yX12_isEave cX12_isEave 2 (some .boolean), .fieldLink RX12 9 "IcicleClockModel" "world" "[I", .methodLink RX12 82 yX12_in, .static yX12_in, .code yX12_in cX12_in 6 (some .boolean)] ++ wsX120)
theorem iX12_eave_12 : ∀ w ∈ wsX120, w ∈ vX12_eave := fun _ h => List.mem_cons_of_mem _ (List.mem_append_right _ h)
set_option maxRecDepth 20000 in
theorem gg_X12_eave_X12_isEave : GoodIn vX12_eave (wsV RX12 212 RX12 yX12_isEave vX12_isEave) := goodIn_r _ [1, 2, 3, 4, 5, 6, 7, 8, 4, 9, 10, 11, 12, 13, 14, 15, 16, 17, 18, 19, 20, 21, 22, 23, 24, 25, 26, 27, 28, 29, 30, 31, 32, 33, 34, 35, 36, 37, 38, 39, 40, 41, 42, 43, 44, 45, 46, 47, 48, 49] (by decide +kernel) (by decide +kernel)
set_option maxHeartbeats 4000000 in
set_option maxRecDepth 100000 in
theorem m_eave (l : Launch) (D : va_G) (cs : Nat → ClassId) (ad : Nat → Nat) (hj : wJ ad nW) (g : Nat → va_E) (vd : Int32) (h197 : g 197 = .inr (12, [.int 0, .ref (ad 198), .ref (ad 199), .ref (ad 200), .ref (ad 201), .int 0, .ref (ad 202), .int 0, .int 0, .int 0, .int 0, .int 0, .int 0, .int (-1), .ref (ad 203), .ref (ad 204), .ref (ad 205), .int 0, .int 0, .ref (ad 206), .ref (ad 207), .ref (ad 208), .int 0, .int 0, .int 0, .int 0, .int 0, .ref (ad 209), .ref (ad 210), .ref (ad 211), .long 0, .long 0, .ref (ad 212), .ref (ad 213), .int 0, .int 0, .ref (ad 214), .ref (ad 215), .ref (ad 216), .ref (ad 217)])) (h198 : g 198 = .inl (cs 1, 118, .inl (fun _ => 0))) : cI l yX12_eave vX12_eave { frames := 2, cells := 0, slots := 0, locals := 46 } D cs ad nW [.ref (ad 197), .int vd] g (fun r g2 => r = (-2) ∧ g2 = g) := by
  refine Met.start (cc := cX12_eave) (maxL := 4) (ret := (some .int)) RX12 rfl (by decide) rfl (Nat.le_of_ble_eq_true rfl) ?_
  intro p e s m below meth c ls X hP hl
  have hx := X.1
  have hb := X.2.1
  have hS : va_S (wA ad nW) s.heap s.heap [] := va_S.rf
  have hA : ∀ i, i < nW → wA ad nW (ad i) := fun i h => ⟨i, h, rfl⟩
  have hl : lv_has ls 4 [(0, .ref (ad 197)), (1, .int vd)] := hl
  refine lv_aload_n hx hb dX12_eave_0 rfl (lv_at hl 0 rfl) ?_
  refine lv_iload_n hx hb dX12_eave_1 rfl (lv_at hl 1 rfl) ?_
  refine q_calli (q := (RX12, TX12, 40)) (As := [.int vd]) (rest := []) X (m_isEave l D cs ad hj g vd h197 h198) (cwV 1 X.2.2.2.2.1 gg_X12_eave_X12_isEave rfl rfl rfl (by decide +kernel) ⟨Nat.le_of_ble_eq_true rfl, Nat.le_of_ble_eq_true rfl⟩) (by decide) h197 rfl hP hA hS rfl hl.1 rfl (Nat.le_of_ble_eq_true rfl) dX12_eave_2 ⟨Nat.le_of_ble_eq_true rfl, Nat.le_of_ble_eq_true rfl⟩ (fun r_3 g_2 H locs hw_1 hP hS => ?_)
  obtain ⟨hw_1a, hw_1b⟩ := hw_1
  subst hw_1a
  rw [hw_1b] at hP
  refine lv_if_ne (tgt := 11) hx hb dX12_eave_5 (by decide) (fun h => absurd h (by decide)) (fun _ => ?_)
  refine lv_bipush (v := (-2)) hx hb dX12_eave_8 (by decide) ?_
  exact q_iret X hP hS ⟨rfl, rfl⟩ dX12_eave_10

theorem dX12_falls_0 : decode cX12_falls 0 = .ok (.aload_n 0, 1) := by decide +kernel
theorem dX12_falls_1 : decode cX12_falls 1 = .ok (.iload_n 1, 1) := by decide +kernel
theorem dX12_falls_2 : decode cX12_falls 2 = .ok (.i2l, 1) := by decide +kernel
theorem dX12_falls_3 : decode cX12_falls 3 = .ok (.invokevirtual 221, 3) := by decide +kernel
theorem dX12_falls_6 : decode cX12_falls 6 = .ok (.ifCond .ne 6, 3) := by decide +kernel
theorem dX12_falls_9 : decode cX12_falls 9 = .ok (.bipush (-2), 2) := by decide +kernel
theorem dX12_falls_11 : decode cX12_falls 11 = .ok (.ireturn, 1) := by decide +kernel
def vX12_falls : List Cond := .code yX12_falls cX12_falls 2 (some .int) :: ([.methodLink RX12 221 yX12_isIcicle, .instanceMethod yX12_isIcicle, .selects RX12 yX12_isIcicle yX12_isIcicle, .initialized RX12, .code yX12_isIcicle cX12_isIcicle 3 (some .boolean), .fieldLink RX12 9 "IcicleClockModel" "world" "[I", .methodLink RX12 82 yX12_in, .static yX12_in, .code yX12_in cX12_in 6 (some .boolean)] ++ wsX120)
theorem iX12_falls_12 : ∀ w ∈ wsX120, w ∈ vX12_falls := fun _ h => List.mem_cons_of_mem _ (List.mem_append_right _ h)
set_option maxRecDepth 20000 in
theorem gg_X12_falls_X12_isIcicle : GoodIn vX12_falls (wsV RX12 221 RX12 yX12_isIcicle vX12_isIcicle) := goodIn_r _ [1, 2, 3, 4, 5, 6, 7, 8, 4, 9, 10, 11, 12, 13, 14, 15, 16, 17, 18, 19, 20, 21, 22, 23, 24, 25, 26, 27, 28, 29, 30, 31, 32, 33, 34, 35, 36, 37, 38, 39, 40, 41, 42, 43, 44, 45, 46, 47, 48, 49] (by decide +kernel) (by decide +kernel)
set_option maxHeartbeats 4000000 in
set_option maxRecDepth 100000 in
theorem m_falls (l : Launch) (D : va_G) (cs : Nat → ClassId) (ad : Nat → Nat) (hj : wJ ad nW) (g : Nat → va_E) (vi : Int32) (h197 : g 197 = .inr (12, [.int 0, .ref (ad 198), .ref (ad 199), .ref (ad 200), .ref (ad 201), .int 0, .ref (ad 202), .int 0, .int 0, .int 0, .int 0, .int 0, .int 0, .int (-1), .ref (ad 203), .ref (ad 204), .ref (ad 205), .int 0, .int 0, .ref (ad 206), .ref (ad 207), .ref (ad 208), .int 0, .int 0, .int 0, .int 0, .int 0, .ref (ad 209), .ref (ad 210), .ref (ad 211), .long 0, .long 0, .ref (ad 212), .ref (ad 213), .int 0, .int 0, .ref (ad 214), .ref (ad 215), .ref (ad 216), .ref (ad 217)])) (h198 : g 198 = .inl (cs 1, 118, .inl (fun _ => 0))) : cI l yX12_falls vX12_falls { frames := 2, cells := 0, slots := 0, locals := 47 } D cs ad nW [.ref (ad 197), .int vi] g (fun r g2 => r = (-2) ∧ g2 = g) := by
  refine Met.start (cc := cX12_falls) (maxL := 2) (ret := (some .int)) RX12 rfl (by decide) rfl (Nat.le_of_ble_eq_true rfl) ?_
  intro p e s m below meth c ls X hP hl
  have hx := X.1
  have hb := X.2.1
  have hS : va_S (wA ad nW) s.heap s.heap [] := va_S.rf
  have hA : ∀ i, i < nW → wA ad nW (ad i) := fun i h => ⟨i, h, rfl⟩
  have hl : lv_has ls 2 [(0, .ref (ad 197)), (1, .int vi)] := hl
  refine lv_aload_n hx hb dX12_falls_0 rfl (lv_at hl 0 rfl) ?_
  refine lv_iload_n hx hb dX12_falls_1 rfl (lv_at hl 1 rfl) ?_
  refine lv_i2l (v := vi.toInt64) hx hb dX12_falls_2 rfl ?_
  refine q_calli (q := (RX12, TX12, 40)) (As := [.long (vi.toInt64)]) (rest := []) X (m_isIcicle l D cs ad hj g (vi.toInt64) h197 h198) (cwV 1 X.2.2.2.2.1 gg_X12_falls_X12_isIcicle rfl rfl rfl (by decide +kernel) ⟨Nat.le_of_ble_eq_true rfl, Nat.le_of_ble_eq_true rfl⟩) (by decide) h197 rfl hP hA hS rfl hl.1 rfl (Nat.le_of_ble_eq_true rfl) dX12_falls_3 ⟨Nat.le_of_ble_eq_true rfl, Nat.le_of_ble_eq_true rfl⟩ (fun r_3 g_2 H locs hw_1 hP hS => ?_)
  obtain ⟨hw_1a, hw_1b⟩ := hw_1
  subst hw_1a
  rw [hw_1b] at hP
  refine lv_if_ne (tgt := 12) hx hb dX12_falls_6 (by decide) (fun h => absurd h (by decide)) (fun _ => ?_)
  refine lv_bipush (v := (-2)) hx hb dX12_falls_9 (by decide) ?_
  exact q_iret X hP hS ⟨rfl, rfl⟩ dX12_falls_11

theorem dX12_length_0 : decode cX12_length 0 = .ok (.aload_n 0, 1) := by decide +kernel
theorem dX12_length_1 : decode cX12_length 1 = .ok (.iload_n 1, 1) := by decide +kernel
theorem dX12_length_2 : decode cX12_length 2 = .ok (.i2l, 1) := by decide +kernel
theorem dX12_length_3 : decode cX12_length 3 = .ok (.invokevirtual 221, 3) := by decide +kernel
theorem dX12_length_6 : decode cX12_length 6 = .ok (.ifCond .eq 11, 3) := by decide +kernel
theorem dX12_length_17 : decode cX12_length 17 = .ok (.bipush (-2), 2) := by decide +kernel
theorem dX12_length_19 : decode cX12_length 19 = .ok (.ireturn, 1) := by decide +kernel
def vX12_length : List Cond := .code yX12_length cX12_length 3 (some .int) :: ([.methodLink RX12 221 yX12_isIcicle, .instanceMethod yX12_isIcicle, .selects RX12 yX12_isIcicle yX12_isIcicle, .initialized RX12, .code yX12_isIcicle cX12_isIcicle 3 (some .boolean), .fieldLink RX12 9 "IcicleClockModel" "world" "[I", .methodLink RX12 82 yX12_in, .static yX12_in, .code yX12_in cX12_in 6 (some .boolean)] ++ wsX120)
theorem iX12_length_12 : ∀ w ∈ wsX120, w ∈ vX12_length := fun _ h => List.mem_cons_of_mem _ (List.mem_append_right _ h)
set_option maxRecDepth 20000 in
theorem gg_X12_length_X12_isIcicle : GoodIn vX12_length (wsV RX12 221 RX12 yX12_isIcicle vX12_isIcicle) := goodIn_r _ [1, 2, 3, 4, 5, 6, 7, 8, 4, 9, 10, 11, 12, 13, 14, 15, 16, 17, 18, 19, 20, 21, 22, 23, 24, 25, 26, 27, 28, 29, 30, 31, 32, 33, 34, 35, 36, 37, 38, 39, 40, 41, 42, 43, 44, 45, 46, 47, 48, 49] (by decide +kernel) (by decide +kernel)
set_option maxHeartbeats 4000000 in
set_option maxRecDepth 100000 in
theorem m_length (l : Launch) (D : va_G) (cs : Nat → ClassId) (ad : Nat → Nat) (hj : wJ ad nW) (g : Nat → va_E) (vi : Int32) (vd : Int32) (h197 : g 197 = .inr (12, [.int 0, .ref (ad 198), .ref (ad 199), .ref (ad 200), .ref (ad 201), .int 0, .ref (ad 202), .int 0, .int 0, .int 0, .int 0, .int 0, .int 0, .int (-1), .ref (ad 203), .ref (ad 204), .ref (ad 205), .int 0, .int 0, .ref (ad 206), .ref (ad 207), .ref (ad 208), .int 0, .int 0, .int 0, .int 0, .int 0, .ref (ad 209), .ref (ad 210), .ref (ad 211), .long 0, .long 0, .ref (ad 212), .ref (ad 213), .int 0, .int 0, .ref (ad 214), .ref (ad 215), .ref (ad 216), .ref (ad 217)])) (h198 : g 198 = .inl (cs 1, 118, .inl (fun _ => 0))) : cI l yX12_length vX12_length { frames := 2, cells := 0, slots := 0, locals := 47 } D cs ad nW [.ref (ad 197), .int vi, .int vd] g (fun r g2 => r = (-2) ∧ g2 = g) := by
  refine Met.start (cc := cX12_length) (maxL := 3) (ret := (some .int)) RX12 rfl (by decide) rfl (Nat.le_of_ble_eq_true rfl) ?_
  intro p e s m below meth c ls X hP hl
  have hx := X.1
  have hb := X.2.1
  have hS : va_S (wA ad nW) s.heap s.heap [] := va_S.rf
  have hA : ∀ i, i < nW → wA ad nW (ad i) := fun i h => ⟨i, h, rfl⟩
  have hl : lv_has ls 3 [(0, .ref (ad 197)), (1, .int vi), (2, .int vd)] := hl
  refine lv_aload_n hx hb dX12_length_0 rfl (lv_at hl 0 rfl) ?_
  refine lv_iload_n hx hb dX12_length_1 rfl (lv_at hl 1 rfl) ?_
  refine lv_i2l (v := vi.toInt64) hx hb dX12_length_2 rfl ?_
  refine q_calli (q := (RX12, TX12, 40)) (As := [.long (vi.toInt64)]) (rest := []) X (m_isIcicle l D cs ad hj g (vi.toInt64) h197 h198) (cwV 1 X.2.2.2.2.1 gg_X12_length_X12_isIcicle rfl rfl rfl (by decide +kernel) ⟨Nat.le_of_ble_eq_true rfl, Nat.le_of_ble_eq_true rfl⟩) (by decide) h197 rfl hP hA hS rfl hl.1 rfl (Nat.le_of_ble_eq_true rfl) dX12_length_3 ⟨Nat.le_of_ble_eq_true rfl, Nat.le_of_ble_eq_true rfl⟩ (fun r_3 g_2 H locs hw_1 hP hS => ?_)
  obtain ⟨hw_1a, hw_1b⟩ := hw_1
  subst hw_1a
  rw [hw_1b] at hP
  refine lv_if_eq (tgt := 17) hx hb dX12_length_6 (by decide) (fun _ => ?_) (fun h => absurd h (by decide))
  refine lv_bipush (v := (-2)) hx hb dX12_length_17 (by decide) ?_
  exact q_iret X hP hS ⟨rfl, rfl⟩ dX12_length_19

theorem dX12_longest_0 : decode cX12_longest 0 = .ok (.aload_n 0, 1) := by decide +kernel
theorem dX12_longest_1 : decode cX12_longest 1 = .ok (.iload_n 1, 1) := by decide +kernel
theorem dX12_longest_2 : decode cX12_longest 2 = .ok (.i2l, 1) := by decide +kernel
theorem dX12_longest_3 : decode cX12_longest 3 = .ok (.invokevirtual 221, 3) := by decide +kernel
theorem dX12_longest_6 : decode cX12_longest 6 = .ok (.ifCond .ne 6, 3) := by decide +kernel
theorem dX12_longest_9 : decode cX12_longest 9 = .ok (.bipush (-2), 2) := by decide +kernel
theorem dX12_longest_11 : decode cX12_longest 11 = .ok (.ireturn, 1) := by decide +kernel
def vX12_longest : List Cond := .code yX12_longest cX12_longest 4 (some .int) :: ([.methodLink RX12 221 yX12_isIcicle, .instanceMethod yX12_isIcicle, .selects RX12 yX12_isIcicle yX12_isIcicle, .initialized RX12, .code yX12_isIcicle cX12_isIcicle 3 (some .boolean), .fieldLink RX12 9 "IcicleClockModel" "world" "[I", .methodLink RX12 82 yX12_in, .static yX12_in, .code yX12_in cX12_in 6 (some .boolean)] ++ wsX120)
theorem iX12_longest_12 : ∀ w ∈ wsX120, w ∈ vX12_longest := fun _ h => List.mem_cons_of_mem _ (List.mem_append_right _ h)
set_option maxRecDepth 20000 in
theorem gg_X12_longest_X12_isIcicle : GoodIn vX12_longest (wsV RX12 221 RX12 yX12_isIcicle vX12_isIcicle) := goodIn_r _ [1, 2, 3, 4, 5, 6, 7, 8, 4, 9, 10, 11, 12, 13, 14, 15, 16, 17, 18, 19, 20, 21, 22, 23, 24, 25, 26, 27, 28, 29, 30, 31, 32, 33, 34, 35, 36, 37, 38, 39, 40, 41, 42, 43, 44, 45, 46, 47, 48, 49] (by decide +kernel) (by decide +kernel)
set_option maxHeartbeats 4000000 in
set_option maxRecDepth 100000 in
theorem m_longest (l : Launch) (D : va_G) (cs : Nat → ClassId) (ad : Nat → Nat) (hj : wJ ad nW) (g : Nat → va_E) (vi : Int32) (h197 : g 197 = .inr (12, [.int 0, .ref (ad 198), .ref (ad 199), .ref (ad 200), .ref (ad 201), .int 0, .ref (ad 202), .int 0, .int 0, .int 0, .int 0, .int 0, .int 0, .int (-1), .ref (ad 203), .ref (ad 204), .ref (ad 205), .int 0, .int 0, .ref (ad 206), .ref (ad 207), .ref (ad 208), .int 0, .int 0, .int 0, .int 0, .int 0, .ref (ad 209), .ref (ad 210), .ref (ad 211), .long 0, .long 0, .ref (ad 212), .ref (ad 213), .int 0, .int 0, .ref (ad 214), .ref (ad 215), .ref (ad 216), .ref (ad 217)])) (h198 : g 198 = .inl (cs 1, 118, .inl (fun _ => 0))) : cI l yX12_longest vX12_longest { frames := 2, cells := 0, slots := 0, locals := 47 } D cs ad nW [.ref (ad 197), .int vi] g (fun r g2 => r = (-2) ∧ g2 = g) := by
  refine Met.start (cc := cX12_longest) (maxL := 4) (ret := (some .int)) RX12 rfl (by decide) rfl (Nat.le_of_ble_eq_true rfl) ?_
  intro p e s m below meth c ls X hP hl
  have hx := X.1
  have hb := X.2.1
  have hS : va_S (wA ad nW) s.heap s.heap [] := va_S.rf
  have hA : ∀ i, i < nW → wA ad nW (ad i) := fun i h => ⟨i, h, rfl⟩
  have hl : lv_has ls 4 [(0, .ref (ad 197)), (1, .int vi)] := hl
  refine lv_aload_n hx hb dX12_longest_0 rfl (lv_at hl 0 rfl) ?_
  refine lv_iload_n hx hb dX12_longest_1 rfl (lv_at hl 1 rfl) ?_
  refine lv_i2l (v := vi.toInt64) hx hb dX12_longest_2 rfl ?_
  refine q_calli (q := (RX12, TX12, 40)) (As := [.long (vi.toInt64)]) (rest := []) X (m_isIcicle l D cs ad hj g (vi.toInt64) h197 h198) (cwV 1 X.2.2.2.2.1 gg_X12_longest_X12_isIcicle rfl rfl rfl (by decide +kernel) ⟨Nat.le_of_ble_eq_true rfl, Nat.le_of_ble_eq_true rfl⟩) (by decide) h197 rfl hP hA hS rfl hl.1 rfl (Nat.le_of_ble_eq_true rfl) dX12_longest_3 ⟨Nat.le_of_ble_eq_true rfl, Nat.le_of_ble_eq_true rfl⟩ (fun r_3 g_2 H locs hw_1 hP hS => ?_)
  obtain ⟨hw_1a, hw_1b⟩ := hw_1
  subst hw_1a
  rw [hw_1b] at hP
  refine lv_if_ne (tgt := 12) hx hb dX12_longest_6 (by decide) (fun h => absurd h (by decide)) (fun _ => ?_)
  refine lv_bipush (v := (-2)) hx hb dX12_longest_9 (by decide) ?_
  exact q_iret X hP hS ⟨rfl, rfl⟩ dX12_longest_11

theorem dX12_drops_0 : decode cX12_drops 0 = .ok (.aload_n 0, 1) := by decide +kernel
theorem dX12_drops_1 : decode cX12_drops 1 = .ok (.iload_n 1, 1) := by decide +kernel
theorem dX12_drops_2 : decode cX12_drops 2 = .ok (.invokevirtual 205, 3) := by decide +kernel
theorem dX12_drops_5 : decode cX12_drops 5 = .ok (.ifCond .ne 6, 3) := by decide +kernel
theorem dX12_drops_8 : decode cX12_drops 8 = .ok (.bipush (-2), 2) := by decide +kernel
theorem dX12_drops_10 : decode cX12_drops 10 = .ok (.ireturn, 1) := by decide +kernel
def vX12_drops : List Cond := .code yX12_drops cX12_drops 2 (some .int) :: ([.methodLink RX12 205 yX12_isDay, .instanceMethod yX12_isDay, .selects RX12 yX12_isDay yX12_isDay, .initialized RX12, .code yX12_isDay cX12_isDay 2 (some .boolean), .fieldLink RX12 9 "IcicleClockModel" "world" "[I", .methodLink RX12 82 yX12_in, .static yX12_in, .code yX12_in cX12_in 6 (some .boolean)] ++ wsX120)
theorem iX12_drops_12 : ∀ w ∈ wsX120, w ∈ vX12_drops := fun _ h => List.mem_cons_of_mem _ (List.mem_append_right _ h)
set_option maxRecDepth 20000 in
theorem gg_X12_drops_X12_isDay : GoodIn vX12_drops (wsV RX12 205 RX12 yX12_isDay vX12_isDay) := goodIn_r _ [1, 2, 3, 4, 5, 6, 7, 8, 4, 9, 10, 11, 12, 13, 14, 15, 16, 17, 18, 19, 20, 21, 22, 23, 24, 25, 26, 27, 28, 29, 30, 31, 32, 33, 34, 35, 36, 37, 38, 39, 40, 41, 42, 43, 44, 45, 46, 47, 48, 49] (by decide +kernel) (by decide +kernel)
set_option maxHeartbeats 4000000 in
set_option maxRecDepth 100000 in
theorem m_drops (l : Launch) (D : va_G) (cs : Nat → ClassId) (ad : Nat → Nat) (hj : wJ ad nW) (g : Nat → va_E) (vd : Int32) (h197 : g 197 = .inr (12, [.int 0, .ref (ad 198), .ref (ad 199), .ref (ad 200), .ref (ad 201), .int 0, .ref (ad 202), .int 0, .int 0, .int 0, .int 0, .int 0, .int 0, .int (-1), .ref (ad 203), .ref (ad 204), .ref (ad 205), .int 0, .int 0, .ref (ad 206), .ref (ad 207), .ref (ad 208), .int 0, .int 0, .int 0, .int 0, .int 0, .ref (ad 209), .ref (ad 210), .ref (ad 211), .long 0, .long 0, .ref (ad 212), .ref (ad 213), .int 0, .int 0, .ref (ad 214), .ref (ad 215), .ref (ad 216), .ref (ad 217)])) (h198 : g 198 = .inl (cs 1, 118, .inl (fun _ => 0))) : cI l yX12_drops vX12_drops { frames := 2, cells := 0, slots := 0, locals := 46 } D cs ad nW [.ref (ad 197), .int vd] g (fun r g2 => r = (-2) ∧ g2 = g) := by
  refine Met.start (cc := cX12_drops) (maxL := 2) (ret := (some .int)) RX12 rfl (by decide) rfl (Nat.le_of_ble_eq_true rfl) ?_
  intro p e s m below meth c ls X hP hl
  have hx := X.1
  have hb := X.2.1
  have hS : va_S (wA ad nW) s.heap s.heap [] := va_S.rf
  have hA : ∀ i, i < nW → wA ad nW (ad i) := fun i h => ⟨i, h, rfl⟩
  have hl : lv_has ls 2 [(0, .ref (ad 197)), (1, .int vd)] := hl
  refine lv_aload_n hx hb dX12_drops_0 rfl (lv_at hl 0 rfl) ?_
  refine lv_iload_n hx hb dX12_drops_1 rfl (lv_at hl 1 rfl) ?_
  refine q_calli (q := (RX12, TX12, 40)) (As := [.int vd]) (rest := []) X (m_isDay l D cs ad hj g vd h197 h198) (cwV 1 X.2.2.2.2.1 gg_X12_drops_X12_isDay rfl rfl rfl (by decide +kernel) ⟨Nat.le_of_ble_eq_true rfl, Nat.le_of_ble_eq_true rfl⟩) (by decide) h197 rfl hP hA hS rfl hl.1 rfl (Nat.le_of_ble_eq_true rfl) dX12_drops_2 ⟨Nat.le_of_ble_eq_true rfl, Nat.le_of_ble_eq_true rfl⟩ (fun r_3 g_2 H locs hw_1 hP hS => ?_)
  obtain ⟨hw_1a, hw_1b⟩ := hw_1
  subst hw_1a
  rw [hw_1b] at hP
  refine lv_if_ne (tgt := 11) hx hb dX12_drops_5 (by decide) (fun h => absurd h (by decide)) (fun _ => ?_)
  refine lv_bipush (v := (-2)) hx hb dX12_drops_8 (by decide) ?_
  exact q_iret X hP hS ⟨rfl, rfl⟩ dX12_drops_10

theorem dX12_hang_0 : decode cX12_hang 0 = .ok (.aload_n 0, 1) := by decide +kernel
theorem dX12_hang_1 : decode cX12_hang 1 = .ok (.iload_n 1, 1) := by decide +kernel
theorem dX12_hang_2 : decode cX12_hang 2 = .ok (.invokevirtual 205, 3) := by decide +kernel
theorem dX12_hang_5 : decode cX12_hang 5 = .ok (.ifCond .ne 6, 3) := by decide +kernel
theorem dX12_hang_8 : decode cX12_hang 8 = .ok (.bipush (-2), 2) := by decide +kernel
theorem dX12_hang_10 : decode cX12_hang 10 = .ok (.ireturn, 1) := by decide +kernel
def vX12_hang : List Cond := .code yX12_hang cX12_hang 4 (some .int) :: ([.methodLink RX12 205 yX12_isDay, .instanceMethod yX12_isDay, .selects RX12 yX12_isDay yX12_isDay, .initialized RX12, .code yX12_isDay cX12_isDay 2 (some .boolean), .fieldLink RX12 9 "IcicleClockModel" "world" "[I", .methodLink RX12 82 yX12_in, .static yX12_in, .code yX12_in cX12_in 6 (some .boolean)] ++ wsX120)
theorem iX12_hang_12 : ∀ w ∈ wsX120, w ∈ vX12_hang := fun _ h => List.mem_cons_of_mem _ (List.mem_append_right _ h)
set_option maxRecDepth 20000 in
theorem gg_X12_hang_X12_isDay : GoodIn vX12_hang (wsV RX12 205 RX12 yX12_isDay vX12_isDay) := goodIn_r _ [1, 2, 3, 4, 5, 6, 7, 8, 4, 9, 10, 11, 12, 13, 14, 15, 16, 17, 18, 19, 20, 21, 22, 23, 24, 25, 26, 27, 28, 29, 30, 31, 32, 33, 34, 35, 36, 37, 38, 39, 40, 41, 42, 43, 44, 45, 46, 47, 48, 49] (by decide +kernel) (by decide +kernel)
set_option maxHeartbeats 4000000 in
set_option maxRecDepth 100000 in
theorem m_hang (l : Launch) (D : va_G) (cs : Nat → ClassId) (ad : Nat → Nat) (hj : wJ ad nW) (g : Nat → va_E) (vd : Int32) (h197 : g 197 = .inr (12, [.int 0, .ref (ad 198), .ref (ad 199), .ref (ad 200), .ref (ad 201), .int 0, .ref (ad 202), .int 0, .int 0, .int 0, .int 0, .int 0, .int 0, .int (-1), .ref (ad 203), .ref (ad 204), .ref (ad 205), .int 0, .int 0, .ref (ad 206), .ref (ad 207), .ref (ad 208), .int 0, .int 0, .int 0, .int 0, .int 0, .ref (ad 209), .ref (ad 210), .ref (ad 211), .long 0, .long 0, .ref (ad 212), .ref (ad 213), .int 0, .int 0, .ref (ad 214), .ref (ad 215), .ref (ad 216), .ref (ad 217)])) (h198 : g 198 = .inl (cs 1, 118, .inl (fun _ => 0))) : cI l yX12_hang vX12_hang { frames := 2, cells := 0, slots := 0, locals := 46 } D cs ad nW [.ref (ad 197), .int vd] g (fun r g2 => r = (-2) ∧ g2 = g) := by
  refine Met.start (cc := cX12_hang) (maxL := 4) (ret := (some .int)) RX12 rfl (by decide) rfl (Nat.le_of_ble_eq_true rfl) ?_
  intro p e s m below meth c ls X hP hl
  have hx := X.1
  have hb := X.2.1
  have hS : va_S (wA ad nW) s.heap s.heap [] := va_S.rf
  have hA : ∀ i, i < nW → wA ad nW (ad i) := fun i h => ⟨i, h, rfl⟩
  have hl : lv_has ls 4 [(0, .ref (ad 197)), (1, .int vd)] := hl
  refine lv_aload_n hx hb dX12_hang_0 rfl (lv_at hl 0 rfl) ?_
  refine lv_iload_n hx hb dX12_hang_1 rfl (lv_at hl 1 rfl) ?_
  refine q_calli (q := (RX12, TX12, 40)) (As := [.int vd]) (rest := []) X (m_isDay l D cs ad hj g vd h197 h198) (cwV 1 X.2.2.2.2.1 gg_X12_hang_X12_isDay rfl rfl rfl (by decide +kernel) ⟨Nat.le_of_ble_eq_true rfl, Nat.le_of_ble_eq_true rfl⟩) (by decide) h197 rfl hP hA hS rfl hl.1 rfl (Nat.le_of_ble_eq_true rfl) dX12_hang_2 ⟨Nat.le_of_ble_eq_true rfl, Nat.le_of_ble_eq_true rfl⟩ (fun r_3 g_2 H locs hw_1 hP hS => ?_)
  obtain ⟨hw_1a, hw_1b⟩ := hw_1
  subst hw_1a
  rw [hw_1b] at hP
  refine lv_if_ne (tgt := 11) hx hb dX12_hang_5 (by decide) (fun h => absurd h (by decide)) (fun _ => ?_)
  refine lv_bipush (v := (-2)) hx hb dX12_hang_8 (by decide) ?_
  exact q_iret X hP hS ⟨rfl, rfl⟩ dX12_hang_10

theorem dX12_under_0 : decode cX12_under 0 = .ok (.aload_n 0, 1) := by decide +kernel
theorem dX12_under_1 : decode cX12_under 1 = .ok (.iload_n 1, 1) := by decide +kernel
theorem dX12_under_2 : decode cX12_under 2 = .ok (.invokevirtual 212, 3) := by decide +kernel
theorem dX12_under_5 : decode cX12_under 5 = .ok (.ifCond .ne 6, 3) := by decide +kernel
theorem dX12_under_8 : decode cX12_under 8 = .ok (.bipush (-2), 2) := by decide +kernel
theorem dX12_under_10 : decode cX12_under 10 = .ok (.ireturn, 1) := by decide +kernel
def vX12_under : List Cond := .code yX12_under cX12_under 4 (some .int) :: ([.methodLink RX12 212 yX12_isEave, .instanceMethod yX12_isEave, .selects RX12 yX12_isEave yX12_isEave, .initialized RX12, .code yX12_isEave cX12_isEave 2 (some .boolean), .fieldLink RX12 9 "IcicleClockModel" "world" "[I", .methodLink RX12 82 yX12_in, .static yX12_in, .code yX12_in cX12_in 6 (some .boolean)] ++ wsX120)
theorem iX12_under_12 : ∀ w ∈ wsX120, w ∈ vX12_under := fun _ h => List.mem_cons_of_mem _ (List.mem_append_right _ h)
set_option maxRecDepth 20000 in
theorem gg_X12_under_X12_isEave : GoodIn vX12_under (wsV RX12 212 RX12 yX12_isEave vX12_isEave) := goodIn_r _ [1, 2, 3, 4, 5, 6, 7, 8, 4, 9, 10, 11, 12, 13, 14, 15, 16, 17, 18, 19, 20, 21, 22, 23, 24, 25, 26, 27, 28, 29, 30, 31, 32, 33, 34, 35, 36, 37, 38, 39, 40, 41, 42, 43, 44, 45, 46, 47, 48, 49] (by decide +kernel) (by decide +kernel)
set_option maxHeartbeats 4000000 in
set_option maxRecDepth 100000 in
theorem m_under (l : Launch) (D : va_G) (cs : Nat → ClassId) (ad : Nat → Nat) (hj : wJ ad nW) (g : Nat → va_E) (vd : Int32) (h197 : g 197 = .inr (12, [.int 0, .ref (ad 198), .ref (ad 199), .ref (ad 200), .ref (ad 201), .int 0, .ref (ad 202), .int 0, .int 0, .int 0, .int 0, .int 0, .int 0, .int (-1), .ref (ad 203), .ref (ad 204), .ref (ad 205), .int 0, .int 0, .ref (ad 206), .ref (ad 207), .ref (ad 208), .int 0, .int 0, .int 0, .int 0, .int 0, .ref (ad 209), .ref (ad 210), .ref (ad 211), .long 0, .long 0, .ref (ad 212), .ref (ad 213), .int 0, .int 0, .ref (ad 214), .ref (ad 215), .ref (ad 216), .ref (ad 217)])) (h198 : g 198 = .inl (cs 1, 118, .inl (fun _ => 0))) : cI l yX12_under vX12_under { frames := 2, cells := 0, slots := 0, locals := 46 } D cs ad nW [.ref (ad 197), .int vd] g (fun r g2 => r = (-2) ∧ g2 = g) := by
  refine Met.start (cc := cX12_under) (maxL := 4) (ret := (some .int)) RX12 rfl (by decide) rfl (Nat.le_of_ble_eq_true rfl) ?_
  intro p e s m below meth c ls X hP hl
  have hx := X.1
  have hb := X.2.1
  have hS : va_S (wA ad nW) s.heap s.heap [] := va_S.rf
  have hA : ∀ i, i < nW → wA ad nW (ad i) := fun i h => ⟨i, h, rfl⟩
  have hl : lv_has ls 4 [(0, .ref (ad 197)), (1, .int vd)] := hl
  refine lv_aload_n hx hb dX12_under_0 rfl (lv_at hl 0 rfl) ?_
  refine lv_iload_n hx hb dX12_under_1 rfl (lv_at hl 1 rfl) ?_
  refine q_calli (q := (RX12, TX12, 40)) (As := [.int vd]) (rest := []) X (m_isEave l D cs ad hj g vd h197 h198) (cwV 1 X.2.2.2.2.1 gg_X12_under_X12_isEave rfl rfl rfl (by decide +kernel) ⟨Nat.le_of_ble_eq_true rfl, Nat.le_of_ble_eq_true rfl⟩) (by decide) h197 rfl hP hA hS rfl hl.1 rfl (Nat.le_of_ble_eq_true rfl) dX12_under_2 ⟨Nat.le_of_ble_eq_true rfl, Nat.le_of_ble_eq_true rfl⟩ (fun r_3 g_2 H locs hw_1 hP hS => ?_)
  obtain ⟨hw_1a, hw_1b⟩ := hw_1
  subst hw_1a
  rw [hw_1b] at hP
  refine lv_if_ne (tgt := 11) hx hb dX12_under_5 (by decide) (fun h => absurd h (by decide)) (fun _ => ?_)
  refine lv_bipush (v := (-2)) hx hb dX12_under_8 (by decide) ?_
  exact q_iret X hP hS ⟨rfl, rfl⟩ dX12_under_10

theorem dX12_rush_0 : decode cX12_rush 0 = .ok (.aload_n 0, 1) := by decide +kernel
theorem dX12_rush_1 : decode cX12_rush 1 = .ok (.invokevirtual 261, 3) := by decide +kernel
theorem dX12_rush_4 : decode cX12_rush 4 = .ok (.ifCond .ne 6, 3) := by decide +kernel
theorem dX12_rush_7 : decode cX12_rush 7 = .ok (.bipush (-2), 2) := by decide +kernel
theorem dX12_rush_9 : decode cX12_rush 9 = .ok (.ireturn, 1) := by decide +kernel
def vX12_rush : List Cond := .code yX12_rush cX12_rush 5 (some .int) :: ([.methodLink RX12 261 yX12_isStreet, .instanceMethod yX12_isStreet, .selects RX12 yX12_isStreet yX12_isStreet, .initialized RX12, .code yX12_isStreet cX12_isStreet 1 (some .boolean), .fieldLink RX12 9 "IcicleClockModel" "world" "[I"] ++ wsX120)
theorem iX12_rush_12 : ∀ w ∈ wsX120, w ∈ vX12_rush := fun _ h => List.mem_cons_of_mem _ (List.mem_append_right _ h)
set_option maxRecDepth 20000 in
theorem gg_X12_rush_X12_isStreet : GoodIn vX12_rush (wsV RX12 261 RX12 yX12_isStreet vX12_isStreet) := goodIn_r _ [1, 2, 3, 4, 5, 6, 7, 8, 9, 10, 11, 12, 13, 14, 15, 16, 17, 18, 19, 20, 21, 22, 23, 24, 25, 26, 27, 28, 29, 30, 31, 32, 33, 34, 35, 36, 37, 38, 39, 40, 41, 42, 43, 44, 45, 46] (by decide +kernel) (by decide +kernel)
set_option maxHeartbeats 4000000 in
set_option maxRecDepth 100000 in
theorem m_rush (l : Launch) (D : va_G) (cs : Nat → ClassId) (ad : Nat → Nat) (hj : wJ ad nW) (g : Nat → va_E) (h197 : g 197 = .inr (12, [.int 0, .ref (ad 198), .ref (ad 199), .ref (ad 200), .ref (ad 201), .int 0, .ref (ad 202), .int 0, .int 0, .int 0, .int 0, .int 0, .int 0, .int (-1), .ref (ad 203), .ref (ad 204), .ref (ad 205), .int 0, .int 0, .ref (ad 206), .ref (ad 207), .ref (ad 208), .int 0, .int 0, .int 0, .int 0, .int 0, .ref (ad 209), .ref (ad 210), .ref (ad 211), .long 0, .long 0, .ref (ad 212), .ref (ad 213), .int 0, .int 0, .ref (ad 214), .ref (ad 215), .ref (ad 216), .ref (ad 217)])) (h198 : g 198 = .inl (cs 1, 118, .inl (fun _ => 0))) : cI l yX12_rush vX12_rush { frames := 1, cells := 0, slots := 0, locals := 20 } D cs ad nW [.ref (ad 197)] g (fun r g2 => r = (-2) ∧ g2 = g) := by
  refine Met.start (cc := cX12_rush) (maxL := 5) (ret := (some .int)) RX12 rfl (by decide) rfl (Nat.le_of_ble_eq_true rfl) ?_
  intro p e s m below meth c ls X hP hl
  have hx := X.1
  have hb := X.2.1
  have hS : va_S (wA ad nW) s.heap s.heap [] := va_S.rf
  have hA : ∀ i, i < nW → wA ad nW (ad i) := fun i h => ⟨i, h, rfl⟩
  have hl : lv_has ls 5 [(0, .ref (ad 197))] := hl
  refine lv_aload_n hx hb dX12_rush_0 rfl (lv_at hl 0 rfl) ?_
  refine q_calli (q := (RX12, TX12, 40)) (As := []) (rest := []) X (m_isStreet l D cs ad hj g  h197 h198) (cwV 0 X.2.2.2.2.1 gg_X12_rush_X12_isStreet rfl rfl rfl (by decide +kernel) ⟨Nat.le_of_ble_eq_true rfl, Nat.le_of_ble_eq_true rfl⟩) (by decide) h197 rfl hP hA hS rfl hl.1 rfl (Nat.le_of_ble_eq_true rfl) dX12_rush_1 ⟨Nat.le_of_ble_eq_true rfl, Nat.le_of_ble_eq_true rfl⟩ (fun r_3 g_2 H locs hw_1 hP hS => ?_)
  obtain ⟨hw_1a, hw_1b⟩ := hw_1
  subst hw_1a
  rw [hw_1b] at hP
  refine lv_if_ne (tgt := 10) hx hb dX12_rush_4 (by decide) (fun h => absurd h (by decide)) (fun _ => ?_)
  refine lv_bipush (v := (-2)) hx hb dX12_rush_7 (by decide) ?_
  exact q_iret X hP hS ⟨rfl, rfl⟩ dX12_rush_9

theorem dX12_next_0 : decode cX12_next 0 = .ok (.aload_n 0, 1) := by decide +kernel
theorem dX12_next_1 : decode cX12_next 1 = .ok (.iload_n 1, 1) := by decide +kernel
theorem dX12_next_2 : decode cX12_next 2 = .ok (.invokevirtual 212, 3) := by decide +kernel
theorem dX12_next_5 : decode cX12_next 5 = .ok (.ifCond .eq 11, 3) := by decide +kernel
theorem dX12_next_16 : decode cX12_next 16 = .ok (.bipush (-2), 2) := by decide +kernel
theorem dX12_next_18 : decode cX12_next 18 = .ok (.ireturn, 1) := by decide +kernel
def vX12_next : List Cond := .code yX12_next cX12_next 4 (some .int) :: ([.methodLink RX12 212 yX12_isEave, .instanceMethod yX12_isEave, .selects RX12 yX12_isEave yX12_isEave, .initialized RX12, .code yX12_isEave cX12_isEave 2 (some .boolean), .fieldLink RX12 9 "IcicleClockModel" "world" "[I", .methodLink RX12 82 yX12_in, .static yX12_in, .code yX12_in cX12_in 6 (some .boolean)] ++ wsX120)
theorem iX12_next_12 : ∀ w ∈ wsX120, w ∈ vX12_next := fun _ h => List.mem_cons_of_mem _ (List.mem_append_right _ h)
set_option maxRecDepth 20000 in
theorem gg_X12_next_X12_isEave : GoodIn vX12_next (wsV RX12 212 RX12 yX12_isEave vX12_isEave) := goodIn_r _ [1, 2, 3, 4, 5, 6, 7, 8, 4, 9, 10, 11, 12, 13, 14, 15, 16, 17, 18, 19, 20, 21, 22, 23, 24, 25, 26, 27, 28, 29, 30, 31, 32, 33, 34, 35, 36, 37, 38, 39, 40, 41, 42, 43, 44, 45, 46, 47, 48, 49] (by decide +kernel) (by decide +kernel)
set_option maxHeartbeats 4000000 in
set_option maxRecDepth 100000 in
theorem m_next (l : Launch) (D : va_G) (cs : Nat → ClassId) (ad : Nat → Nat) (hj : wJ ad nW) (g : Nat → va_E) (va : Int32) (vd : Int32) (h197 : g 197 = .inr (12, [.int 0, .ref (ad 198), .ref (ad 199), .ref (ad 200), .ref (ad 201), .int 0, .ref (ad 202), .int 0, .int 0, .int 0, .int 0, .int 0, .int 0, .int (-1), .ref (ad 203), .ref (ad 204), .ref (ad 205), .int 0, .int 0, .ref (ad 206), .ref (ad 207), .ref (ad 208), .int 0, .int 0, .int 0, .int 0, .int 0, .ref (ad 209), .ref (ad 210), .ref (ad 211), .long 0, .long 0, .ref (ad 212), .ref (ad 213), .int 0, .int 0, .ref (ad 214), .ref (ad 215), .ref (ad 216), .ref (ad 217)])) (h198 : g 198 = .inl (cs 1, 118, .inl (fun _ => 0))) : cI l yX12_next vX12_next { frames := 2, cells := 0, slots := 0, locals := 46 } D cs ad nW [.ref (ad 197), .int va, .int vd] g (fun r g2 => r = (-2) ∧ g2 = g) := by
  refine Met.start (cc := cX12_next) (maxL := 4) (ret := (some .int)) RX12 rfl (by decide) rfl (Nat.le_of_ble_eq_true rfl) ?_
  intro p e s m below meth c ls X hP hl
  have hx := X.1
  have hb := X.2.1
  have hS : va_S (wA ad nW) s.heap s.heap [] := va_S.rf
  have hA : ∀ i, i < nW → wA ad nW (ad i) := fun i h => ⟨i, h, rfl⟩
  have hl : lv_has ls 4 [(0, .ref (ad 197)), (1, .int va), (2, .int vd)] := hl
  refine lv_aload_n hx hb dX12_next_0 rfl (lv_at hl 0 rfl) ?_
  refine lv_iload_n hx hb dX12_next_1 rfl (lv_at hl 1 rfl) ?_
  refine q_calli (q := (RX12, TX12, 40)) (As := [.int va]) (rest := []) X (m_isEave l D cs ad hj g va h197 h198) (cwV 1 X.2.2.2.2.1 gg_X12_next_X12_isEave rfl rfl rfl (by decide +kernel) ⟨Nat.le_of_ble_eq_true rfl, Nat.le_of_ble_eq_true rfl⟩) (by decide) h197 rfl hP hA hS rfl hl.1 rfl (Nat.le_of_ble_eq_true rfl) dX12_next_2 ⟨Nat.le_of_ble_eq_true rfl, Nat.le_of_ble_eq_true rfl⟩ (fun r_3 g_2 H locs hw_1 hP hS => ?_)
  obtain ⟨hw_1a, hw_1b⟩ := hw_1
  subst hw_1a
  rw [hw_1b] at hP
  refine lv_if_eq (tgt := 16) hx hb dX12_next_5 (by decide) (fun _ => ?_) (fun h => absurd h (by decide))
  refine lv_bipush (v := (-2)) hx hb dX12_next_16 (by decide) ?_
  exact q_iret X hP hS ⟨rfl, rfl⟩ dX12_next_18

theorem dX12_barest_0 : decode cX12_barest 0 = .ok (.aload_n 0, 1) := by decide +kernel
theorem dX12_barest_1 : decode cX12_barest 1 = .ok (.invokevirtual 261, 3) := by decide +kernel
theorem dX12_barest_4 : decode cX12_barest 4 = .ok (.ifCond .ne 6, 3) := by decide +kernel
theorem dX12_barest_7 : decode cX12_barest 7 = .ok (.bipush (-2), 2) := by decide +kernel
theorem dX12_barest_9 : decode cX12_barest 9 = .ok (.ireturn, 1) := by decide +kernel
def vX12_barest : List Cond := .code yX12_barest cX12_barest 6 (some .int) :: ([.methodLink RX12 261 yX12_isStreet, .instanceMethod yX12_isStreet, .selects RX12 yX12_isStreet yX12_isStreet, .initialized RX12, .code yX12_isStreet cX12_isStreet 1 (some .boolean), .fieldLink RX12 9 "IcicleClockModel" "world" "[I"] ++ wsX120)
theorem iX12_barest_12 : ∀ w ∈ wsX120, w ∈ vX12_barest := fun _ h => List.mem_cons_of_mem _ (List.mem_append_right _ h)
set_option maxRecDepth 20000 in
theorem gg_X12_barest_X12_isStreet : GoodIn vX12_barest (wsV RX12 261 RX12 yX12_isStreet vX12_isStreet) := goodIn_r _ [1, 2, 3, 4, 5, 6, 7, 8, 9, 10, 11, 12, 13, 14, 15, 16, 17, 18, 19, 20, 21, 22, 23, 24, 25, 26, 27, 28, 29, 30, 31, 32, 33, 34, 35, 36, 37, 38, 39, 40, 41, 42, 43, 44, 45, 46] (by decide +kernel) (by decide +kernel)
set_option maxHeartbeats 4000000 in
set_option maxRecDepth 100000 in
theorem m_barest (l : Launch) (D : va_G) (cs : Nat → ClassId) (ad : Nat → Nat) (hj : wJ ad nW) (g : Nat → va_E) (h197 : g 197 = .inr (12, [.int 0, .ref (ad 198), .ref (ad 199), .ref (ad 200), .ref (ad 201), .int 0, .ref (ad 202), .int 0, .int 0, .int 0, .int 0, .int 0, .int 0, .int (-1), .ref (ad 203), .ref (ad 204), .ref (ad 205), .int 0, .int 0, .ref (ad 206), .ref (ad 207), .ref (ad 208), .int 0, .int 0, .int 0, .int 0, .int 0, .ref (ad 209), .ref (ad 210), .ref (ad 211), .long 0, .long 0, .ref (ad 212), .ref (ad 213), .int 0, .int 0, .ref (ad 214), .ref (ad 215), .ref (ad 216), .ref (ad 217)])) (h198 : g 198 = .inl (cs 1, 118, .inl (fun _ => 0))) : cI l yX12_barest vX12_barest { frames := 1, cells := 0, slots := 0, locals := 20 } D cs ad nW [.ref (ad 197)] g (fun r g2 => r = (-2) ∧ g2 = g) := by
  refine Met.start (cc := cX12_barest) (maxL := 6) (ret := (some .int)) RX12 rfl (by decide) rfl (Nat.le_of_ble_eq_true rfl) ?_
  intro p e s m below meth c ls X hP hl
  have hx := X.1
  have hb := X.2.1
  have hS : va_S (wA ad nW) s.heap s.heap [] := va_S.rf
  have hA : ∀ i, i < nW → wA ad nW (ad i) := fun i h => ⟨i, h, rfl⟩
  have hl : lv_has ls 6 [(0, .ref (ad 197))] := hl
  refine lv_aload_n hx hb dX12_barest_0 rfl (lv_at hl 0 rfl) ?_
  refine q_calli (q := (RX12, TX12, 40)) (As := []) (rest := []) X (m_isStreet l D cs ad hj g  h197 h198) (cwV 0 X.2.2.2.2.1 gg_X12_barest_X12_isStreet rfl rfl rfl (by decide +kernel) ⟨Nat.le_of_ble_eq_true rfl, Nat.le_of_ble_eq_true rfl⟩) (by decide) h197 rfl hP hA hS rfl hl.1 rfl (Nat.le_of_ble_eq_true rfl) dX12_barest_1 ⟨Nat.le_of_ble_eq_true rfl, Nat.le_of_ble_eq_true rfl⟩ (fun r_3 g_2 H locs hw_1 hP hS => ?_)
  obtain ⟨hw_1a, hw_1b⟩ := hw_1
  subst hw_1a
  rw [hw_1b] at hP
  refine lv_if_ne (tgt := 10) hx hb dX12_barest_4 (by decide) (fun h => absurd h (by decide)) (fun _ => ?_)
  refine lv_bipush (v := (-2)) hx hb dX12_barest_7 (by decide) ?_
  exact q_iret X hP hS ⟨rfl, rfl⟩ dX12_barest_9

theorem dX12_time_0 : decode cX12_time 0 = .ok (.aload_n 0, 1) := by decide +kernel
theorem dX12_time_1 : decode cX12_time 1 = .ok (.iload_n 1, 1) := by decide +kernel
theorem dX12_time_2 : decode cX12_time 2 = .ok (.invokevirtual 212, 3) := by decide +kernel
theorem dX12_time_5 : decode cX12_time 5 = .ok (.ifCond .eq 11, 3) := by decide +kernel
theorem dX12_time_16 : decode cX12_time 16 = .ok (.bipush (-2), 2) := by decide +kernel
theorem dX12_time_18 : decode cX12_time 18 = .ok (.ireturn, 1) := by decide +kernel
def vX12_time : List Cond := .code yX12_time cX12_time 3 (some .int) :: ([.methodLink RX12 212 yX12_isEave, .instanceMethod yX12_isEave, .selects RX12 yX12_isEave yX12_isEave, .initialized RX12, .code yX12_isEave cX12_isEave 2 (some .boolean), .fieldLink RX12 9 "IcicleClockModel" "world" "[I", .methodLink RX12 82 yX12_in, .static yX12_in, .code yX12_in cX12_in 6 (some .boolean)] ++ wsX120)
theorem iX12_time_12 : ∀ w ∈ wsX120, w ∈ vX12_time := fun _ h => List.mem_cons_of_mem _ (List.mem_append_right _ h)
set_option maxRecDepth 20000 in
theorem gg_X12_time_X12_isEave : GoodIn vX12_time (wsV RX12 212 RX12 yX12_isEave vX12_isEave) := goodIn_r _ [1, 2, 3, 4, 5, 6, 7, 8, 4, 9, 10, 11, 12, 13, 14, 15, 16, 17, 18, 19, 20, 21, 22, 23, 24, 25, 26, 27, 28, 29, 30, 31, 32, 33, 34, 35, 36, 37, 38, 39, 40, 41, 42, 43, 44, 45, 46, 47, 48, 49] (by decide +kernel) (by decide +kernel)
set_option maxHeartbeats 4000000 in
set_option maxRecDepth 100000 in
theorem m_time (l : Launch) (D : va_G) (cs : Nat → ClassId) (ad : Nat → Nat) (hj : wJ ad nW) (g : Nat → va_E) (va : Int32) (vd : Int32) (h197 : g 197 = .inr (12, [.int 0, .ref (ad 198), .ref (ad 199), .ref (ad 200), .ref (ad 201), .int 0, .ref (ad 202), .int 0, .int 0, .int 0, .int 0, .int 0, .int 0, .int (-1), .ref (ad 203), .ref (ad 204), .ref (ad 205), .int 0, .int 0, .ref (ad 206), .ref (ad 207), .ref (ad 208), .int 0, .int 0, .int 0, .int 0, .int 0, .ref (ad 209), .ref (ad 210), .ref (ad 211), .long 0, .long 0, .ref (ad 212), .ref (ad 213), .int 0, .int 0, .ref (ad 214), .ref (ad 215), .ref (ad 216), .ref (ad 217)])) (h198 : g 198 = .inl (cs 1, 118, .inl (fun _ => 0))) : cI l yX12_time vX12_time { frames := 2, cells := 0, slots := 0, locals := 46 } D cs ad nW [.ref (ad 197), .int va, .int vd] g (fun r g2 => r = (-2) ∧ g2 = g) := by
  refine Met.start (cc := cX12_time) (maxL := 3) (ret := (some .int)) RX12 rfl (by decide) rfl (Nat.le_of_ble_eq_true rfl) ?_
  intro p e s m below meth c ls X hP hl
  have hx := X.1
  have hb := X.2.1
  have hS : va_S (wA ad nW) s.heap s.heap [] := va_S.rf
  have hA : ∀ i, i < nW → wA ad nW (ad i) := fun i h => ⟨i, h, rfl⟩
  have hl : lv_has ls 3 [(0, .ref (ad 197)), (1, .int va), (2, .int vd)] := hl
  refine lv_aload_n hx hb dX12_time_0 rfl (lv_at hl 0 rfl) ?_
  refine lv_iload_n hx hb dX12_time_1 rfl (lv_at hl 1 rfl) ?_
  refine q_calli (q := (RX12, TX12, 40)) (As := [.int va]) (rest := []) X (m_isEave l D cs ad hj g va h197 h198) (cwV 1 X.2.2.2.2.1 gg_X12_time_X12_isEave rfl rfl rfl (by decide +kernel) ⟨Nat.le_of_ble_eq_true rfl, Nat.le_of_ble_eq_true rfl⟩) (by decide) h197 rfl hP hA hS rfl hl.1 rfl (Nat.le_of_ble_eq_true rfl) dX12_time_2 ⟨Nat.le_of_ble_eq_true rfl, Nat.le_of_ble_eq_true rfl⟩ (fun r_3 g_2 H locs hw_1 hP hS => ?_)
  obtain ⟨hw_1a, hw_1b⟩ := hw_1
  subst hw_1a
  rw [hw_1b] at hP
  refine lv_if_eq (tgt := 16) hx hb dX12_time_5 (by decide) (fun _ => ?_) (fun h => absurd h (by decide))
  refine lv_bipush (v := (-2)) hx hb dX12_time_16 (by decide) ?_
  exact q_iret X hP hS ⟨rfl, rfl⟩ dX12_time_18

theorem dX12_hour_0 : decode cX12_hour 0 = .ok (.aload_n 0, 1) := by decide +kernel
theorem dX12_hour_1 : decode cX12_hour 1 = .ok (.iload_n 1, 1) := by decide +kernel
theorem dX12_hour_2 : decode cX12_hour 2 = .ok (.invokevirtual 205, 3) := by decide +kernel
theorem dX12_hour_5 : decode cX12_hour 5 = .ok (.ifCond .ne 6, 3) := by decide +kernel
theorem dX12_hour_8 : decode cX12_hour 8 = .ok (.bipush (-2), 2) := by decide +kernel
theorem dX12_hour_10 : decode cX12_hour 10 = .ok (.ireturn, 1) := by decide +kernel
def vX12_hour : List Cond := .code yX12_hour cX12_hour 2 (some .int) :: ([.methodLink RX12 205 yX12_isDay, .instanceMethod yX12_isDay, .selects RX12 yX12_isDay yX12_isDay, .initialized RX12, .code yX12_isDay cX12_isDay 2 (some .boolean), .fieldLink RX12 9 "IcicleClockModel" "world" "[I", .methodLink RX12 82 yX12_in, .static yX12_in, .code yX12_in cX12_in 6 (some .boolean)] ++ wsX120)
theorem iX12_hour_12 : ∀ w ∈ wsX120, w ∈ vX12_hour := fun _ h => List.mem_cons_of_mem _ (List.mem_append_right _ h)
set_option maxRecDepth 20000 in
theorem gg_X12_hour_X12_isDay : GoodIn vX12_hour (wsV RX12 205 RX12 yX12_isDay vX12_isDay) := goodIn_r _ [1, 2, 3, 4, 5, 6, 7, 8, 4, 9, 10, 11, 12, 13, 14, 15, 16, 17, 18, 19, 20, 21, 22, 23, 24, 25, 26, 27, 28, 29, 30, 31, 32, 33, 34, 35, 36, 37, 38, 39, 40, 41, 42, 43, 44, 45, 46, 47, 48, 49] (by decide +kernel) (by decide +kernel)
set_option maxHeartbeats 4000000 in
set_option maxRecDepth 100000 in
theorem m_hour (l : Launch) (D : va_G) (cs : Nat → ClassId) (ad : Nat → Nat) (hj : wJ ad nW) (g : Nat → va_E) (vd : Int32) (h197 : g 197 = .inr (12, [.int 0, .ref (ad 198), .ref (ad 199), .ref (ad 200), .ref (ad 201), .int 0, .ref (ad 202), .int 0, .int 0, .int 0, .int 0, .int 0, .int 0, .int (-1), .ref (ad 203), .ref (ad 204), .ref (ad 205), .int 0, .int 0, .ref (ad 206), .ref (ad 207), .ref (ad 208), .int 0, .int 0, .int 0, .int 0, .int 0, .ref (ad 209), .ref (ad 210), .ref (ad 211), .long 0, .long 0, .ref (ad 212), .ref (ad 213), .int 0, .int 0, .ref (ad 214), .ref (ad 215), .ref (ad 216), .ref (ad 217)])) (h198 : g 198 = .inl (cs 1, 118, .inl (fun _ => 0))) : cI l yX12_hour vX12_hour { frames := 2, cells := 0, slots := 0, locals := 46 } D cs ad nW [.ref (ad 197), .int vd] g (fun r g2 => r = (-2) ∧ g2 = g) := by
  refine Met.start (cc := cX12_hour) (maxL := 2) (ret := (some .int)) RX12 rfl (by decide) rfl (Nat.le_of_ble_eq_true rfl) ?_
  intro p e s m below meth c ls X hP hl
  have hx := X.1
  have hb := X.2.1
  have hS : va_S (wA ad nW) s.heap s.heap [] := va_S.rf
  have hA : ∀ i, i < nW → wA ad nW (ad i) := fun i h => ⟨i, h, rfl⟩
  have hl : lv_has ls 2 [(0, .ref (ad 197)), (1, .int vd)] := hl
  refine lv_aload_n hx hb dX12_hour_0 rfl (lv_at hl 0 rfl) ?_
  refine lv_iload_n hx hb dX12_hour_1 rfl (lv_at hl 1 rfl) ?_
  refine q_calli (q := (RX12, TX12, 40)) (As := [.int vd]) (rest := []) X (m_isDay l D cs ad hj g vd h197 h198) (cwV 1 X.2.2.2.2.1 gg_X12_hour_X12_isDay rfl rfl rfl (by decide +kernel) ⟨Nat.le_of_ble_eq_true rfl, Nat.le_of_ble_eq_true rfl⟩) (by decide) h197 rfl hP hA hS rfl hl.1 rfl (Nat.le_of_ble_eq_true rfl) dX12_hour_2 ⟨Nat.le_of_ble_eq_true rfl, Nat.le_of_ble_eq_true rfl⟩ (fun r_3 g_2 H locs hw_1 hP hS => ?_)
  obtain ⟨hw_1a, hw_1b⟩ := hw_1
  subst hw_1a
  rw [hw_1b] at hP
  refine lv_if_ne (tgt := 11) hx hb dX12_hour_5 (by decide) (fun h => absurd h (by decide)) (fun _ => ?_)
  refine lv_bipush (v := (-2)) hx hb dX12_hour_8 (by decide) ?_
  exact q_iret X hP hS ⟨rfl, rfl⟩ dX12_hour_10

theorem dX12_meet_0 : decode cX12_meet 0 = .ok (.aload_n 0, 1) := by decide +kernel
theorem dX12_meet_1 : decode cX12_meet 1 = .ok (.iload_n 1, 1) := by decide +kernel
theorem dX12_meet_2 : decode cX12_meet 2 = .ok (.invokevirtual 212, 3) := by decide +kernel
theorem dX12_meet_5 : decode cX12_meet 5 = .ok (.ifCond .eq 11, 3) := by decide +kernel
theorem dX12_meet_16 : decode cX12_meet 16 = .ok (.bipush (-2), 2) := by decide +kernel
theorem dX12_meet_18 : decode cX12_meet 18 = .ok (.ireturn, 1) := by decide +kernel
def vX12_meet : List Cond := .code yX12_meet cX12_meet 3 (some .int) :: ([.methodLink RX12 212 yX12_isEave, .instanceMethod yX12_isEave, .selects RX12 yX12_isEave yX12_isEave, .initialized RX12, .code yX12_isEave cX12_isEave 2 (some .boolean), .fieldLink RX12 9 "IcicleClockModel" "world" "[I", .methodLink RX12 82 yX12_in, .static yX12_in, .code yX12_in cX12_in 6 (some .boolean)] ++ wsX120)
theorem iX12_meet_12 : ∀ w ∈ wsX120, w ∈ vX12_meet := fun _ h => List.mem_cons_of_mem _ (List.mem_append_right _ h)
set_option maxRecDepth 20000 in
theorem gg_X12_meet_X12_isEave : GoodIn vX12_meet (wsV RX12 212 RX12 yX12_isEave vX12_isEave) := goodIn_r _ [1, 2, 3, 4, 5, 6, 7, 8, 4, 9, 10, 11, 12, 13, 14, 15, 16, 17, 18, 19, 20, 21, 22, 23, 24, 25, 26, 27, 28, 29, 30, 31, 32, 33, 34, 35, 36, 37, 38, 39, 40, 41, 42, 43, 44, 45, 46, 47, 48, 49] (by decide +kernel) (by decide +kernel)
set_option maxHeartbeats 4000000 in
set_option maxRecDepth 100000 in
theorem m_meet (l : Launch) (D : va_G) (cs : Nat → ClassId) (ad : Nat → Nat) (hj : wJ ad nW) (g : Nat → va_E) (va : Int32) (vb : Int32) (h197 : g 197 = .inr (12, [.int 0, .ref (ad 198), .ref (ad 199), .ref (ad 200), .ref (ad 201), .int 0, .ref (ad 202), .int 0, .int 0, .int 0, .int 0, .int 0, .int 0, .int (-1), .ref (ad 203), .ref (ad 204), .ref (ad 205), .int 0, .int 0, .ref (ad 206), .ref (ad 207), .ref (ad 208), .int 0, .int 0, .int 0, .int 0, .int 0, .ref (ad 209), .ref (ad 210), .ref (ad 211), .long 0, .long 0, .ref (ad 212), .ref (ad 213), .int 0, .int 0, .ref (ad 214), .ref (ad 215), .ref (ad 216), .ref (ad 217)])) (h198 : g 198 = .inl (cs 1, 118, .inl (fun _ => 0))) : cI l yX12_meet vX12_meet { frames := 2, cells := 0, slots := 0, locals := 46 } D cs ad nW [.ref (ad 197), .int va, .int vb] g (fun r g2 => r = (-2) ∧ g2 = g) := by
  refine Met.start (cc := cX12_meet) (maxL := 3) (ret := (some .int)) RX12 rfl (by decide) rfl (Nat.le_of_ble_eq_true rfl) ?_
  intro p e s m below meth c ls X hP hl
  have hx := X.1
  have hb := X.2.1
  have hS : va_S (wA ad nW) s.heap s.heap [] := va_S.rf
  have hA : ∀ i, i < nW → wA ad nW (ad i) := fun i h => ⟨i, h, rfl⟩
  have hl : lv_has ls 3 [(0, .ref (ad 197)), (1, .int va), (2, .int vb)] := hl
  refine lv_aload_n hx hb dX12_meet_0 rfl (lv_at hl 0 rfl) ?_
  refine lv_iload_n hx hb dX12_meet_1 rfl (lv_at hl 1 rfl) ?_
  refine q_calli (q := (RX12, TX12, 40)) (As := [.int va]) (rest := []) X (m_isEave l D cs ad hj g va h197 h198) (cwV 1 X.2.2.2.2.1 gg_X12_meet_X12_isEave rfl rfl rfl (by decide +kernel) ⟨Nat.le_of_ble_eq_true rfl, Nat.le_of_ble_eq_true rfl⟩) (by decide) h197 rfl hP hA hS rfl hl.1 rfl (Nat.le_of_ble_eq_true rfl) dX12_meet_2 ⟨Nat.le_of_ble_eq_true rfl, Nat.le_of_ble_eq_true rfl⟩ (fun r_3 g_2 H locs hw_1 hP hS => ?_)
  obtain ⟨hw_1a, hw_1b⟩ := hw_1
  subst hw_1a
  rw [hw_1b] at hP
  refine lv_if_eq (tgt := 16) hx hb dX12_meet_5 (by decide) (fun _ => ?_) (fun h => absurd h (by decide))
  refine lv_bipush (v := (-2)) hx hb dX12_meet_16 (by decide) ?_
  exact q_iret X hP hS ⟨rfl, rfl⟩ dX12_meet_18

theorem dX12_apart_0 : decode cX12_apart 0 = .ok (.aload_n 0, 1) := by decide +kernel
theorem dX12_apart_1 : decode cX12_apart 1 = .ok (.iload_n 1, 1) := by decide +kernel
theorem dX12_apart_2 : decode cX12_apart 2 = .ok (.invokevirtual 212, 3) := by decide +kernel
theorem dX12_apart_5 : decode cX12_apart 5 = .ok (.ifCond .eq 11, 3) := by decide +kernel
theorem dX12_apart_16 : decode cX12_apart 16 = .ok (.bipush (-2), 2) := by decide +kernel
theorem dX12_apart_18 : decode cX12_apart 18 = .ok (.ireturn, 1) := by decide +kernel
def vX12_apart : List Cond := .code yX12_apart cX12_apart 8 (some .int) :: ([.methodLink RX12 212 yX12_isEave, .instanceMethod yX12_isEave, .selects RX12 yX12_isEave yX12_isEave, .initialized RX12, .code yX12_isEave cX12_isEave 2 (some .boolean), .fieldLink RX12 9 "IcicleClockModel" "world" "[I", .methodLink RX12 82 yX12_in, .static yX12_in, .code yX12_in cX12_in 6 (some .boolean)] ++ wsX120)
theorem iX12_apart_12 : ∀ w ∈ wsX120, w ∈ vX12_apart := fun _ h => List.mem_cons_of_mem _ (List.mem_append_right _ h)
set_option maxRecDepth 20000 in
theorem gg_X12_apart_X12_isEave : GoodIn vX12_apart (wsV RX12 212 RX12 yX12_isEave vX12_isEave) := goodIn_r _ [1, 2, 3, 4, 5, 6, 7, 8, 4, 9, 10, 11, 12, 13, 14, 15, 16, 17, 18, 19, 20, 21, 22, 23, 24, 25, 26, 27, 28, 29, 30, 31, 32, 33, 34, 35, 36, 37, 38, 39, 40, 41, 42, 43, 44, 45, 46, 47, 48, 49] (by decide +kernel) (by decide +kernel)
set_option maxHeartbeats 4000000 in
set_option maxRecDepth 100000 in
theorem m_apart (l : Launch) (D : va_G) (cs : Nat → ClassId) (ad : Nat → Nat) (hj : wJ ad nW) (g : Nat → va_E) (va : Int32) (vb : Int32) (h197 : g 197 = .inr (12, [.int 0, .ref (ad 198), .ref (ad 199), .ref (ad 200), .ref (ad 201), .int 0, .ref (ad 202), .int 0, .int 0, .int 0, .int 0, .int 0, .int 0, .int (-1), .ref (ad 203), .ref (ad 204), .ref (ad 205), .int 0, .int 0, .ref (ad 206), .ref (ad 207), .ref (ad 208), .int 0, .int 0, .int 0, .int 0, .int 0, .ref (ad 209), .ref (ad 210), .ref (ad 211), .long 0, .long 0, .ref (ad 212), .ref (ad 213), .int 0, .int 0, .ref (ad 214), .ref (ad 215), .ref (ad 216), .ref (ad 217)])) (h198 : g 198 = .inl (cs 1, 118, .inl (fun _ => 0))) : cI l yX12_apart vX12_apart { frames := 2, cells := 0, slots := 0, locals := 46 } D cs ad nW [.ref (ad 197), .int va, .int vb] g (fun r g2 => r = (-2) ∧ g2 = g) := by
  refine Met.start (cc := cX12_apart) (maxL := 8) (ret := (some .int)) RX12 rfl (by decide) rfl (Nat.le_of_ble_eq_true rfl) ?_
  intro p e s m below meth c ls X hP hl
  have hx := X.1
  have hb := X.2.1
  have hS : va_S (wA ad nW) s.heap s.heap [] := va_S.rf
  have hA : ∀ i, i < nW → wA ad nW (ad i) := fun i h => ⟨i, h, rfl⟩
  have hl : lv_has ls 8 [(0, .ref (ad 197)), (1, .int va), (2, .int vb)] := hl
  refine lv_aload_n hx hb dX12_apart_0 rfl (lv_at hl 0 rfl) ?_
  refine lv_iload_n hx hb dX12_apart_1 rfl (lv_at hl 1 rfl) ?_
  refine q_calli (q := (RX12, TX12, 40)) (As := [.int va]) (rest := []) X (m_isEave l D cs ad hj g va h197 h198) (cwV 1 X.2.2.2.2.1 gg_X12_apart_X12_isEave rfl rfl rfl (by decide +kernel) ⟨Nat.le_of_ble_eq_true rfl, Nat.le_of_ble_eq_true rfl⟩) (by decide) h197 rfl hP hA hS rfl hl.1 rfl (Nat.le_of_ble_eq_true rfl) dX12_apart_2 ⟨Nat.le_of_ble_eq_true rfl, Nat.le_of_ble_eq_true rfl⟩ (fun r_3 g_2 H locs hw_1 hP hS => ?_)
  obtain ⟨hw_1a, hw_1b⟩ := hw_1
  subst hw_1a
  rw [hw_1b] at hP
  refine lv_if_eq (tgt := 16) hx hb dX12_apart_5 (by decide) (fun _ => ?_) (fun h => absurd h (by decide))
  refine lv_bipush (v := (-2)) hx hb dX12_apart_16 (by decide) ?_
  exact q_iret X hP hS ⟨rfl, rfl⟩ dX12_apart_18

theorem dX12_tells_0 : decode cX12_tells 0 = .ok (.aload_n 0, 1) := by decide +kernel
theorem dX12_tells_1 : decode cX12_tells 1 = .ok (.invokevirtual 261, 3) := by decide +kernel
theorem dX12_tells_4 : decode cX12_tells 4 = .ok (.ifCond .eq 15, 3) := by decide +kernel
theorem dX12_tells_19 : decode cX12_tells 19 = .ok (.bipush (-2), 2) := by decide +kernel
theorem dX12_tells_21 : decode cX12_tells 21 = .ok (.ireturn, 1) := by decide +kernel
def vX12_tells : List Cond := .code yX12_tells cX12_tells 4 (some .int) :: ([.methodLink RX12 261 yX12_isStreet, .instanceMethod yX12_isStreet, .selects RX12 yX12_isStreet yX12_isStreet, .initialized RX12, .code yX12_isStreet cX12_isStreet 1 (some .boolean), .fieldLink RX12 9 "IcicleClockModel" "world" "[I"] ++ wsX120)
theorem iX12_tells_12 : ∀ w ∈ wsX120, w ∈ vX12_tells := fun _ h => List.mem_cons_of_mem _ (List.mem_append_right _ h)
set_option maxRecDepth 20000 in
theorem gg_X12_tells_X12_isStreet : GoodIn vX12_tells (wsV RX12 261 RX12 yX12_isStreet vX12_isStreet) := goodIn_r _ [1, 2, 3, 4, 5, 6, 7, 8, 9, 10, 11, 12, 13, 14, 15, 16, 17, 18, 19, 20, 21, 22, 23, 24, 25, 26, 27, 28, 29, 30, 31, 32, 33, 34, 35, 36, 37, 38, 39, 40, 41, 42, 43, 44, 45, 46] (by decide +kernel) (by decide +kernel)
set_option maxHeartbeats 4000000 in
set_option maxRecDepth 100000 in
theorem m_tells (l : Launch) (D : va_G) (cs : Nat → ClassId) (ad : Nat → Nat) (hj : wJ ad nW) (g : Nat → va_E) (vh : Int32) (h197 : g 197 = .inr (12, [.int 0, .ref (ad 198), .ref (ad 199), .ref (ad 200), .ref (ad 201), .int 0, .ref (ad 202), .int 0, .int 0, .int 0, .int 0, .int 0, .int 0, .int (-1), .ref (ad 203), .ref (ad 204), .ref (ad 205), .int 0, .int 0, .ref (ad 206), .ref (ad 207), .ref (ad 208), .int 0, .int 0, .int 0, .int 0, .int 0, .ref (ad 209), .ref (ad 210), .ref (ad 211), .long 0, .long 0, .ref (ad 212), .ref (ad 213), .int 0, .int 0, .ref (ad 214), .ref (ad 215), .ref (ad 216), .ref (ad 217)])) (h198 : g 198 = .inl (cs 1, 118, .inl (fun _ => 0))) : cI l yX12_tells vX12_tells { frames := 1, cells := 0, slots := 0, locals := 20 } D cs ad nW [.ref (ad 197), .int vh] g (fun r g2 => r = (-2) ∧ g2 = g) := by
  refine Met.start (cc := cX12_tells) (maxL := 4) (ret := (some .int)) RX12 rfl (by decide) rfl (Nat.le_of_ble_eq_true rfl) ?_
  intro p e s m below meth c ls X hP hl
  have hx := X.1
  have hb := X.2.1
  have hS : va_S (wA ad nW) s.heap s.heap [] := va_S.rf
  have hA : ∀ i, i < nW → wA ad nW (ad i) := fun i h => ⟨i, h, rfl⟩
  have hl : lv_has ls 4 [(0, .ref (ad 197)), (1, .int vh)] := hl
  refine lv_aload_n hx hb dX12_tells_0 rfl (lv_at hl 0 rfl) ?_
  refine q_calli (q := (RX12, TX12, 40)) (As := []) (rest := []) X (m_isStreet l D cs ad hj g  h197 h198) (cwV 0 X.2.2.2.2.1 gg_X12_tells_X12_isStreet rfl rfl rfl (by decide +kernel) ⟨Nat.le_of_ble_eq_true rfl, Nat.le_of_ble_eq_true rfl⟩) (by decide) h197 rfl hP hA hS rfl hl.1 rfl (Nat.le_of_ble_eq_true rfl) dX12_tells_1 ⟨Nat.le_of_ble_eq_true rfl, Nat.le_of_ble_eq_true rfl⟩ (fun r_3 g_2 H locs hw_1 hP hS => ?_)
  obtain ⟨hw_1a, hw_1b⟩ := hw_1
  subst hw_1a
  rw [hw_1b] at hP
  refine lv_if_eq (tgt := 19) hx hb dX12_tells_4 (by decide) (fun _ => ?_) (fun h => absurd h (by decide))
  refine lv_bipush (v := (-2)) hx hb dX12_tells_19 (by decide) ?_
  exact q_iret X hP hS ⟨rfl, rfl⟩ dX12_tells_21

theorem dX12_late_0 : decode cX12_late 0 = .ok (.aload_n 0, 1) := by decide +kernel
theorem dX12_late_1 : decode cX12_late 1 = .ok (.iload_n 1, 1) := by decide +kernel
theorem dX12_late_2 : decode cX12_late 2 = .ok (.invokevirtual 228, 3) := by decide +kernel
theorem dX12_late_5 : decode cX12_late 5 = .ok (.ifCond .ne 7, 3) := by decide +kernel
theorem dX12_late_8 : decode cX12_late 8 = .ok (.sipush (-1000), 3) := by decide +kernel
theorem dX12_late_11 : decode cX12_late 11 = .ok (.ireturn, 1) := by decide +kernel
def vX12_late : List Cond := .code yX12_late cX12_late 2 (some .int) :: ([.methodLink RX12 228 yX12_isWork, .instanceMethod yX12_isWork, .selects RX12 yX12_isWork yX12_isWork, .initialized RX12, .code yX12_isWork cX12_isWork 2 (some .boolean), .fieldLink RX12 9 "IcicleClockModel" "world" "[I", .methodLink RX12 82 yX12_in, .static yX12_in, .code yX12_in cX12_in 6 (some .boolean)] ++ wsX120)
theorem iX12_late_12 : ∀ w ∈ wsX120, w ∈ vX12_late := fun _ h => List.mem_cons_of_mem _ (List.mem_append_right _ h)
set_option maxRecDepth 20000 in
theorem gg_X12_late_X12_isWork : GoodIn vX12_late (wsV RX12 228 RX12 yX12_isWork vX12_isWork) := goodIn_r _ [1, 2, 3, 4, 5, 6, 7, 8, 4, 9, 10, 11, 12, 13, 14, 15, 16, 17, 18, 19, 20, 21, 22, 23, 24, 25, 26, 27, 28, 29, 30, 31, 32, 33, 34, 35, 36, 37, 38, 39, 40, 41, 42, 43, 44, 45, 46, 47, 48, 49] (by decide +kernel) (by decide +kernel)
set_option maxHeartbeats 4000000 in
set_option maxRecDepth 100000 in
theorem m_late (l : Launch) (D : va_G) (cs : Nat → ClassId) (ad : Nat → Nat) (hj : wJ ad nW) (g : Nat → va_E) (vw : Int32) (h197 : g 197 = .inr (12, [.int 0, .ref (ad 198), .ref (ad 199), .ref (ad 200), .ref (ad 201), .int 0, .ref (ad 202), .int 0, .int 0, .int 0, .int 0, .int 0, .int 0, .int (-1), .ref (ad 203), .ref (ad 204), .ref (ad 205), .int 0, .int 0, .ref (ad 206), .ref (ad 207), .ref (ad 208), .int 0, .int 0, .int 0, .int 0, .int 0, .ref (ad 209), .ref (ad 210), .ref (ad 211), .long 0, .long 0, .ref (ad 212), .ref (ad 213), .int 0, .int 0, .ref (ad 214), .ref (ad 215), .ref (ad 216), .ref (ad 217)])) (h198 : g 198 = .inl (cs 1, 118, .inl (fun _ => 0))) : cI l yX12_late vX12_late { frames := 2, cells := 0, slots := 0, locals := 46 } D cs ad nW [.ref (ad 197), .int vw] g (fun r g2 => r = (-1000) ∧ g2 = g) := by
  refine Met.start (cc := cX12_late) (maxL := 2) (ret := (some .int)) RX12 rfl (by decide) rfl (Nat.le_of_ble_eq_true rfl) ?_
  intro p e s m below meth c ls X hP hl
  have hx := X.1
  have hb := X.2.1
  have hS : va_S (wA ad nW) s.heap s.heap [] := va_S.rf
  have hA : ∀ i, i < nW → wA ad nW (ad i) := fun i h => ⟨i, h, rfl⟩
  have hl : lv_has ls 2 [(0, .ref (ad 197)), (1, .int vw)] := hl
  refine lv_aload_n hx hb dX12_late_0 rfl (lv_at hl 0 rfl) ?_
  refine lv_iload_n hx hb dX12_late_1 rfl (lv_at hl 1 rfl) ?_
  refine q_calli (q := (RX12, TX12, 40)) (As := [.int vw]) (rest := []) X (m_isWork l D cs ad hj g vw h197 h198) (cwV 1 X.2.2.2.2.1 gg_X12_late_X12_isWork rfl rfl rfl (by decide +kernel) ⟨Nat.le_of_ble_eq_true rfl, Nat.le_of_ble_eq_true rfl⟩) (by decide) h197 rfl hP hA hS rfl hl.1 rfl (Nat.le_of_ble_eq_true rfl) dX12_late_2 ⟨Nat.le_of_ble_eq_true rfl, Nat.le_of_ble_eq_true rfl⟩ (fun r_3 g_2 H locs hw_1 hP hS => ?_)
  obtain ⟨hw_1a, hw_1b⟩ := hw_1
  subst hw_1a
  rw [hw_1b] at hP
  refine lv_if_ne (tgt := 12) hx hb dX12_late_5 (by decide) (fun h => absurd h (by decide)) (fun _ => ?_)
  refine lv_sipush (v := (-1000)) hx hb dX12_late_8 (by decide) ?_
  exact q_iret X hP hS ⟨rfl, rfl⟩ dX12_late_11

theorem dX12_lates_0 : decode cX12_lates 0 = .ok (.aload_n 0, 1) := by decide +kernel
theorem dX12_lates_1 : decode cX12_lates 1 = .ok (.invokevirtual 261, 3) := by decide +kernel
theorem dX12_lates_4 : decode cX12_lates 4 = .ok (.ifCond .ne 6, 3) := by decide +kernel
theorem dX12_lates_7 : decode cX12_lates 7 = .ok (.bipush (-2), 2) := by decide +kernel
theorem dX12_lates_9 : decode cX12_lates 9 = .ok (.ireturn, 1) := by decide +kernel
def vX12_lates : List Cond := .code yX12_lates cX12_lates 3 (some .int) :: ([.methodLink RX12 261 yX12_isStreet, .instanceMethod yX12_isStreet, .selects RX12 yX12_isStreet yX12_isStreet, .initialized RX12, .code yX12_isStreet cX12_isStreet 1 (some .boolean), .fieldLink RX12 9 "IcicleClockModel" "world" "[I"] ++ wsX120)
theorem iX12_lates_12 : ∀ w ∈ wsX120, w ∈ vX12_lates := fun _ h => List.mem_cons_of_mem _ (List.mem_append_right _ h)
set_option maxRecDepth 20000 in
theorem gg_X12_lates_X12_isStreet : GoodIn vX12_lates (wsV RX12 261 RX12 yX12_isStreet vX12_isStreet) := goodIn_r _ [1, 2, 3, 4, 5, 6, 7, 8, 9, 10, 11, 12, 13, 14, 15, 16, 17, 18, 19, 20, 21, 22, 23, 24, 25, 26, 27, 28, 29, 30, 31, 32, 33, 34, 35, 36, 37, 38, 39, 40, 41, 42, 43, 44, 45, 46] (by decide +kernel) (by decide +kernel)
set_option maxHeartbeats 4000000 in
set_option maxRecDepth 100000 in
theorem m_lates (l : Launch) (D : va_G) (cs : Nat → ClassId) (ad : Nat → Nat) (hj : wJ ad nW) (g : Nat → va_E) (h197 : g 197 = .inr (12, [.int 0, .ref (ad 198), .ref (ad 199), .ref (ad 200), .ref (ad 201), .int 0, .ref (ad 202), .int 0, .int 0, .int 0, .int 0, .int 0, .int 0, .int (-1), .ref (ad 203), .ref (ad 204), .ref (ad 205), .int 0, .int 0, .ref (ad 206), .ref (ad 207), .ref (ad 208), .int 0, .int 0, .int 0, .int 0, .int 0, .ref (ad 209), .ref (ad 210), .ref (ad 211), .long 0, .long 0, .ref (ad 212), .ref (ad 213), .int 0, .int 0, .ref (ad 214), .ref (ad 215), .ref (ad 216), .ref (ad 217)])) (h198 : g 198 = .inl (cs 1, 118, .inl (fun _ => 0))) : cI l yX12_lates vX12_lates { frames := 1, cells := 0, slots := 0, locals := 20 } D cs ad nW [.ref (ad 197)] g (fun r g2 => r = (-2) ∧ g2 = g) := by
  refine Met.start (cc := cX12_lates) (maxL := 3) (ret := (some .int)) RX12 rfl (by decide) rfl (Nat.le_of_ble_eq_true rfl) ?_
  intro p e s m below meth c ls X hP hl
  have hx := X.1
  have hb := X.2.1
  have hS : va_S (wA ad nW) s.heap s.heap [] := va_S.rf
  have hA : ∀ i, i < nW → wA ad nW (ad i) := fun i h => ⟨i, h, rfl⟩
  have hl : lv_has ls 3 [(0, .ref (ad 197))] := hl
  refine lv_aload_n hx hb dX12_lates_0 rfl (lv_at hl 0 rfl) ?_
  refine q_calli (q := (RX12, TX12, 40)) (As := []) (rest := []) X (m_isStreet l D cs ad hj g  h197 h198) (cwV 0 X.2.2.2.2.1 gg_X12_lates_X12_isStreet rfl rfl rfl (by decide +kernel) ⟨Nat.le_of_ble_eq_true rfl, Nat.le_of_ble_eq_true rfl⟩) (by decide) h197 rfl hP hA hS rfl hl.1 rfl (Nat.le_of_ble_eq_true rfl) dX12_lates_1 ⟨Nat.le_of_ble_eq_true rfl, Nat.le_of_ble_eq_true rfl⟩ (fun r_3 g_2 H locs hw_1 hP hS => ?_)
  obtain ⟨hw_1a, hw_1b⟩ := hw_1
  subst hw_1a
  rw [hw_1b] at hP
  refine lv_if_ne (tgt := 10) hx hb dX12_lates_4 (by decide) (fun h => absurd h (by decide)) (fun _ => ?_)
  refine lv_bipush (v := (-2)) hx hb dX12_lates_7 (by decide) ?_
  exact q_iret X hP hS ⟨rfl, rfl⟩ dX12_lates_9

theorem dX12_off_0 : decode cX12_off 0 = .ok (.aload_n 0, 1) := by decide +kernel
theorem dX12_off_1 : decode cX12_off 1 = .ok (.invokevirtual 261, 3) := by decide +kernel
theorem dX12_off_4 : decode cX12_off 4 = .ok (.ifCond .ne 6, 3) := by decide +kernel
theorem dX12_off_7 : decode cX12_off 7 = .ok (.bipush (-2), 2) := by decide +kernel
theorem dX12_off_9 : decode cX12_off 9 = .ok (.ireturn, 1) := by decide +kernel
def vX12_off : List Cond := .code yX12_off cX12_off 1 (some .int) :: ([.methodLink RX12 261 yX12_isStreet, .instanceMethod yX12_isStreet, .selects RX12 yX12_isStreet yX12_isStreet, .initialized RX12, .code yX12_isStreet cX12_isStreet 1 (some .boolean), .fieldLink RX12 9 "IcicleClockModel" "world" "[I"] ++ wsX120)
theorem iX12_off_12 : ∀ w ∈ wsX120, w ∈ vX12_off := fun _ h => List.mem_cons_of_mem _ (List.mem_append_right _ h)
set_option maxRecDepth 20000 in
theorem gg_X12_off_X12_isStreet : GoodIn vX12_off (wsV RX12 261 RX12 yX12_isStreet vX12_isStreet) := goodIn_r _ [1, 2, 3, 4, 5, 6, 7, 8, 9, 10, 11, 12, 13, 14, 15, 16, 17, 18, 19, 20, 21, 22, 23, 24, 25, 26, 27, 28, 29, 30, 31, 32, 33, 34, 35, 36, 37, 38, 39, 40, 41, 42, 43, 44, 45, 46] (by decide +kernel) (by decide +kernel)
set_option maxHeartbeats 4000000 in
set_option maxRecDepth 100000 in
theorem m_off (l : Launch) (D : va_G) (cs : Nat → ClassId) (ad : Nat → Nat) (hj : wJ ad nW) (g : Nat → va_E) (h197 : g 197 = .inr (12, [.int 0, .ref (ad 198), .ref (ad 199), .ref (ad 200), .ref (ad 201), .int 0, .ref (ad 202), .int 0, .int 0, .int 0, .int 0, .int 0, .int 0, .int (-1), .ref (ad 203), .ref (ad 204), .ref (ad 205), .int 0, .int 0, .ref (ad 206), .ref (ad 207), .ref (ad 208), .int 0, .int 0, .int 0, .int 0, .int 0, .ref (ad 209), .ref (ad 210), .ref (ad 211), .long 0, .long 0, .ref (ad 212), .ref (ad 213), .int 0, .int 0, .ref (ad 214), .ref (ad 215), .ref (ad 216), .ref (ad 217)])) (h198 : g 198 = .inl (cs 1, 118, .inl (fun _ => 0))) : cI l yX12_off vX12_off { frames := 1, cells := 0, slots := 0, locals := 20 } D cs ad nW [.ref (ad 197)] g (fun r g2 => r = (-2) ∧ g2 = g) := by
  refine Met.start (cc := cX12_off) (maxL := 1) (ret := (some .int)) RX12 rfl (by decide) rfl (Nat.le_of_ble_eq_true rfl) ?_
  intro p e s m below meth c ls X hP hl
  have hx := X.1
  have hb := X.2.1
  have hS : va_S (wA ad nW) s.heap s.heap [] := va_S.rf
  have hA : ∀ i, i < nW → wA ad nW (ad i) := fun i h => ⟨i, h, rfl⟩
  have hl : lv_has ls 1 [(0, .ref (ad 197))] := hl
  refine lv_aload_n hx hb dX12_off_0 rfl (lv_at hl 0 rfl) ?_
  refine q_calli (q := (RX12, TX12, 40)) (As := []) (rest := []) X (m_isStreet l D cs ad hj g  h197 h198) (cwV 0 X.2.2.2.2.1 gg_X12_off_X12_isStreet rfl rfl rfl (by decide +kernel) ⟨Nat.le_of_ble_eq_true rfl, Nat.le_of_ble_eq_true rfl⟩) (by decide) h197 rfl hP hA hS rfl hl.1 rfl (Nat.le_of_ble_eq_true rfl) dX12_off_1 ⟨Nat.le_of_ble_eq_true rfl, Nat.le_of_ble_eq_true rfl⟩ (fun r_3 g_2 H locs hw_1 hP hS => ?_)
  obtain ⟨hw_1a, hw_1b⟩ := hw_1
  subst hw_1a
  rw [hw_1b] at hP
  refine lv_if_ne (tgt := 10) hx hb dX12_off_4 (by decide) (fun h => absurd h (by decide)) (fun _ => ?_)
  refine lv_bipush (v := (-2)) hx hb dX12_off_7 (by decide) ?_
  exact q_iret X hP hS ⟨rfl, rfl⟩ dX12_off_9

theorem dX12_worst_0 : decode cX12_worst 0 = .ok (.aload_n 0, 1) := by decide +kernel
theorem dX12_worst_1 : decode cX12_worst 1 = .ok (.invokevirtual 261, 3) := by decide +kernel
theorem dX12_worst_4 : decode cX12_worst 4 = .ok (.ifCond .ne 6, 3) := by decide +kernel
theorem dX12_worst_7 : decode cX12_worst 7 = .ok (.bipush (-2), 2) := by decide +kernel
theorem dX12_worst_9 : decode cX12_worst 9 = .ok (.ireturn, 1) := by decide +kernel
def vX12_worst : List Cond := .code yX12_worst cX12_worst 5 (some .int) :: ([.methodLink RX12 261 yX12_isStreet, .instanceMethod yX12_isStreet, .selects RX12 yX12_isStreet yX12_isStreet, .initialized RX12, .code yX12_isStreet cX12_isStreet 1 (some .boolean), .fieldLink RX12 9 "IcicleClockModel" "world" "[I"] ++ wsX120)
theorem iX12_worst_12 : ∀ w ∈ wsX120, w ∈ vX12_worst := fun _ h => List.mem_cons_of_mem _ (List.mem_append_right _ h)
set_option maxRecDepth 20000 in
theorem gg_X12_worst_X12_isStreet : GoodIn vX12_worst (wsV RX12 261 RX12 yX12_isStreet vX12_isStreet) := goodIn_r _ [1, 2, 3, 4, 5, 6, 7, 8, 9, 10, 11, 12, 13, 14, 15, 16, 17, 18, 19, 20, 21, 22, 23, 24, 25, 26, 27, 28, 29, 30, 31, 32, 33, 34, 35, 36, 37, 38, 39, 40, 41, 42, 43, 44, 45, 46] (by decide +kernel) (by decide +kernel)
set_option maxHeartbeats 4000000 in
set_option maxRecDepth 100000 in
theorem m_worst (l : Launch) (D : va_G) (cs : Nat → ClassId) (ad : Nat → Nat) (hj : wJ ad nW) (g : Nat → va_E) (h197 : g 197 = .inr (12, [.int 0, .ref (ad 198), .ref (ad 199), .ref (ad 200), .ref (ad 201), .int 0, .ref (ad 202), .int 0, .int 0, .int 0, .int 0, .int 0, .int 0, .int (-1), .ref (ad 203), .ref (ad 204), .ref (ad 205), .int 0, .int 0, .ref (ad 206), .ref (ad 207), .ref (ad 208), .int 0, .int 0, .int 0, .int 0, .int 0, .ref (ad 209), .ref (ad 210), .ref (ad 211), .long 0, .long 0, .ref (ad 212), .ref (ad 213), .int 0, .int 0, .ref (ad 214), .ref (ad 215), .ref (ad 216), .ref (ad 217)])) (h198 : g 198 = .inl (cs 1, 118, .inl (fun _ => 0))) : cI l yX12_worst vX12_worst { frames := 1, cells := 0, slots := 0, locals := 20 } D cs ad nW [.ref (ad 197)] g (fun r g2 => r = (-2) ∧ g2 = g) := by
  refine Met.start (cc := cX12_worst) (maxL := 5) (ret := (some .int)) RX12 rfl (by decide) rfl (Nat.le_of_ble_eq_true rfl) ?_
  intro p e s m below meth c ls X hP hl
  have hx := X.1
  have hb := X.2.1
  have hS : va_S (wA ad nW) s.heap s.heap [] := va_S.rf
  have hA : ∀ i, i < nW → wA ad nW (ad i) := fun i h => ⟨i, h, rfl⟩
  have hl : lv_has ls 5 [(0, .ref (ad 197))] := hl
  refine lv_aload_n hx hb dX12_worst_0 rfl (lv_at hl 0 rfl) ?_
  refine q_calli (q := (RX12, TX12, 40)) (As := []) (rest := []) X (m_isStreet l D cs ad hj g  h197 h198) (cwV 0 X.2.2.2.2.1 gg_X12_worst_X12_isStreet rfl rfl rfl (by decide +kernel) ⟨Nat.le_of_ble_eq_true rfl, Nat.le_of_ble_eq_true rfl⟩) (by decide) h197 rfl hP hA hS rfl hl.1 rfl (Nat.le_of_ble_eq_true rfl) dX12_worst_1 ⟨Nat.le_of_ble_eq_true rfl, Nat.le_of_ble_eq_true rfl⟩ (fun r_3 g_2 H locs hw_1 hP hS => ?_)
  obtain ⟨hw_1a, hw_1b⟩ := hw_1
  subst hw_1a
  rw [hw_1b] at hP
  refine lv_if_ne (tgt := 10) hx hb dX12_worst_4 (by decide) (fun h => absurd h (by decide)) (fun _ => ?_)
  refine lv_bipush (v := (-2)) hx hb dX12_worst_7 (by decide) ?_
  exact q_iret X hP hS ⟨rfl, rfl⟩ dX12_worst_9

theorem dX12_size_0 : decode cX12_size 0 = .ok (.aload_n 0, 1) := by decide +kernel
theorem dX12_size_1 : decode cX12_size 1 = .ok (.iload_n 1, 1) := by decide +kernel
theorem dX12_size_2 : decode cX12_size 2 = .ok (.iload_n 2, 1) := by decide +kernel
theorem dX12_size_3 : decode cX12_size 3 = .ok (.invokevirtual 282, 3) := by decide +kernel
theorem dX12_size_6 : decode cX12_size 6 = .ok (.ifCond .ne 6, 3) := by decide +kernel
theorem dX12_size_9 : decode cX12_size 9 = .ok (.bipush (-2), 2) := by decide +kernel
theorem dX12_size_11 : decode cX12_size 11 = .ok (.ireturn, 1) := by decide +kernel
def vX12_size : List Cond := .code yX12_size cX12_size 4 (some .int) :: ([.methodLink RX12 282 yX12_areThen, .instanceMethod yX12_areThen, .selects RX12 yX12_areThen yX12_areThen, .initialized RX12, .code yX12_areThen cX12_areThen 3 (some .boolean), .methodLink RX12 221 yX12_isIcicle, .instanceMethod yX12_isIcicle, .selects RX12 yX12_isIcicle yX12_isIcicle, .code yX12_isIcicle cX12_isIcicle 3 (some .boolean), .fieldLink RX12 9 "IcicleClockModel" "world" "[I", .methodLink RX12 82 yX12_in, .static yX12_in, .code yX12_in cX12_in 6 (some .boolean)] ++ wsX120)
theorem iX12_size_12 : ∀ w ∈ wsX120, w ∈ vX12_size := fun _ h => List.mem_cons_of_mem _ (List.mem_append_right _ h)
set_option maxRecDepth 20000 in
theorem gg_X12_size_X12_areThen : GoodIn vX12_size (wsV RX12 282 RX12 yX12_areThen vX12_areThen) := goodIn_r _ [1, 2, 3, 4, 5, 6, 7, 8, 4, 9, 10, 11, 12, 13, 14, 15, 16, 17, 18, 19, 20, 21, 22, 23, 24, 25, 26, 27, 28, 29, 30, 31, 32, 33, 34, 35, 36, 37, 38, 39, 40, 41, 42, 43, 44, 45, 46, 47, 48, 49, 50, 51, 52, 53] (by decide +kernel) (by decide +kernel)
set_option maxHeartbeats 4000000 in
set_option maxRecDepth 100000 in
theorem m_size (l : Launch) (D : va_G) (cs : Nat → ClassId) (ad : Nat → Nat) (hj : wJ ad nW) (g : Nat → va_E) (vi : Int32) (vd : Int32) (h197 : g 197 = .inr (12, [.int 0, .ref (ad 198), .ref (ad 199), .ref (ad 200), .ref (ad 201), .int 0, .ref (ad 202), .int 0, .int 0, .int 0, .int 0, .int 0, .int 0, .int (-1), .ref (ad 203), .ref (ad 204), .ref (ad 205), .int 0, .int 0, .ref (ad 206), .ref (ad 207), .ref (ad 208), .int 0, .int 0, .int 0, .int 0, .int 0, .ref (ad 209), .ref (ad 210), .ref (ad 211), .long 0, .long 0, .ref (ad 212), .ref (ad 213), .int 0, .int 0, .ref (ad 214), .ref (ad 215), .ref (ad 216), .ref (ad 217)])) (h198 : g 198 = .inl (cs 1, 118, .inl (fun _ => 0))) : cI l yX12_size vX12_size { frames := 3, cells := 0, slots := 0, locals := 69 } D cs ad nW [.ref (ad 197), .int vi, .int vd] g (fun r g2 => r = (-2) ∧ g2 = g) := by
  refine Met.start (cc := cX12_size) (maxL := 4) (ret := (some .int)) RX12 rfl (by decide) rfl (Nat.le_of_ble_eq_true rfl) ?_
  intro p e s m below meth c ls X hP hl
  have hx := X.1
  have hb := X.2.1
  have hS : va_S (wA ad nW) s.heap s.heap [] := va_S.rf
  have hA : ∀ i, i < nW → wA ad nW (ad i) := fun i h => ⟨i, h, rfl⟩
  have hl : lv_has ls 4 [(0, .ref (ad 197)), (1, .int vi), (2, .int vd)] := hl
  refine lv_aload_n hx hb dX12_size_0 rfl (lv_at hl 0 rfl) ?_
  refine lv_iload_n hx hb dX12_size_1 rfl (lv_at hl 1 rfl) ?_
  refine lv_iload_n hx hb dX12_size_2 rfl (lv_at hl 2 rfl) ?_
  refine q_calli (q := (RX12, TX12, 40)) (As := [.int vi, .int vd]) (rest := []) X (m_areThen l D cs ad hj g vi vd h197 h198) (cwV 2 X.2.2.2.2.1 gg_X12_size_X12_areThen rfl rfl rfl (by decide +kernel) ⟨Nat.le_of_ble_eq_true rfl, Nat.le_of_ble_eq_true rfl⟩) (by decide) h197 rfl hP hA hS rfl hl.1 rfl (Nat.le_of_ble_eq_true rfl) dX12_size_3 ⟨Nat.le_of_ble_eq_true rfl, Nat.le_of_ble_eq_true rfl⟩ (fun r_3 g_2 H locs hw_1 hP hS => ?_)
  obtain ⟨hw_1a, hw_1b⟩ := hw_1
  subst hw_1a
  rw [hw_1b] at hP
  refine lv_if_ne (tgt := 12) hx hb dX12_size_6 (by decide) (fun h => absurd h (by decide)) (fun _ => ?_)
  refine lv_bipush (v := (-2)) hx hb dX12_size_9 (by decide) ?_
  exact q_iret X hP hS ⟨rfl, rfl⟩ dX12_size_11

theorem dX12_sizes_0 : decode cX12_sizes 0 = .ok (.aload_n 0, 1) := by decide +kernel
theorem dX12_sizes_1 : decode cX12_sizes 1 = .ok (.iload_n 1, 1) := by decide +kernel
theorem dX12_sizes_2 : decode cX12_sizes 2 = .ok (.iload_n 2, 1) := by decide +kernel
theorem dX12_sizes_3 : decode cX12_sizes 3 = .ok (.invokevirtual 282, 3) := by decide +kernel
theorem dX12_sizes_6 : decode cX12_sizes 6 = .ok (.ifCond .ne 6, 3) := by decide +kernel
theorem dX12_sizes_9 : decode cX12_sizes 9 = .ok (.bipush (-2), 2) := by decide +kernel
theorem dX12_sizes_11 : decode cX12_sizes 11 = .ok (.ireturn, 1) := by decide +kernel
def vX12_sizes : List Cond := .code yX12_sizes cX12_sizes 5 (some .int) :: ([.methodLink RX12 282 yX12_areThen, .instanceMethod yX12_areThen, .selects RX12 yX12_areThen yX12_areThen, .initialized RX12, .code yX12_areThen cX12_areThen 3 (some .boolean), .methodLink RX12 221 yX12_isIcicle, .instanceMethod yX12_isIcicle, .selects RX12 yX12_isIcicle yX12_isIcicle, .code yX12_isIcicle cX12_isIcicle 3 (some .boolean), .fieldLink RX12 9 "IcicleClockModel" "world" "[I", .methodLink RX12 82 yX12_in, .static yX12_in, .code yX12_in cX12_in 6 (some .boolean)] ++ wsX120)
theorem iX12_sizes_12 : ∀ w ∈ wsX120, w ∈ vX12_sizes := fun _ h => List.mem_cons_of_mem _ (List.mem_append_right _ h)
set_option maxRecDepth 20000 in
theorem gg_X12_sizes_X12_areThen : GoodIn vX12_sizes (wsV RX12 282 RX12 yX12_areThen vX12_areThen) := goodIn_r _ [1, 2, 3, 4, 5, 6, 7, 8, 4, 9, 10, 11, 12, 13, 14, 15, 16, 17, 18, 19, 20, 21, 22, 23, 24, 25, 26, 27, 28, 29, 30, 31, 32, 33, 34, 35, 36, 37, 38, 39, 40, 41, 42, 43, 44, 45, 46, 47, 48, 49, 50, 51, 52, 53] (by decide +kernel) (by decide +kernel)
set_option maxHeartbeats 4000000 in
set_option maxRecDepth 100000 in
theorem m_sizes (l : Launch) (D : va_G) (cs : Nat → ClassId) (ad : Nat → Nat) (hj : wJ ad nW) (g : Nat → va_E) (vi : Int32) (vd : Int32) (h197 : g 197 = .inr (12, [.int 0, .ref (ad 198), .ref (ad 199), .ref (ad 200), .ref (ad 201), .int 0, .ref (ad 202), .int 0, .int 0, .int 0, .int 0, .int 0, .int 0, .int (-1), .ref (ad 203), .ref (ad 204), .ref (ad 205), .int 0, .int 0, .ref (ad 206), .ref (ad 207), .ref (ad 208), .int 0, .int 0, .int 0, .int 0, .int 0, .ref (ad 209), .ref (ad 210), .ref (ad 211), .long 0, .long 0, .ref (ad 212), .ref (ad 213), .int 0, .int 0, .ref (ad 214), .ref (ad 215), .ref (ad 216), .ref (ad 217)])) (h198 : g 198 = .inl (cs 1, 118, .inl (fun _ => 0))) : cI l yX12_sizes vX12_sizes { frames := 3, cells := 0, slots := 0, locals := 69 } D cs ad nW [.ref (ad 197), .int vi, .int vd] g (fun r g2 => r = (-2) ∧ g2 = g) := by
  refine Met.start (cc := cX12_sizes) (maxL := 5) (ret := (some .int)) RX12 rfl (by decide) rfl (Nat.le_of_ble_eq_true rfl) ?_
  intro p e s m below meth c ls X hP hl
  have hx := X.1
  have hb := X.2.1
  have hS : va_S (wA ad nW) s.heap s.heap [] := va_S.rf
  have hA : ∀ i, i < nW → wA ad nW (ad i) := fun i h => ⟨i, h, rfl⟩
  have hl : lv_has ls 5 [(0, .ref (ad 197)), (1, .int vi), (2, .int vd)] := hl
  refine lv_aload_n hx hb dX12_sizes_0 rfl (lv_at hl 0 rfl) ?_
  refine lv_iload_n hx hb dX12_sizes_1 rfl (lv_at hl 1 rfl) ?_
  refine lv_iload_n hx hb dX12_sizes_2 rfl (lv_at hl 2 rfl) ?_
  refine q_calli (q := (RX12, TX12, 40)) (As := [.int vi, .int vd]) (rest := []) X (m_areThen l D cs ad hj g vi vd h197 h198) (cwV 2 X.2.2.2.2.1 gg_X12_sizes_X12_areThen rfl rfl rfl (by decide +kernel) ⟨Nat.le_of_ble_eq_true rfl, Nat.le_of_ble_eq_true rfl⟩) (by decide) h197 rfl hP hA hS rfl hl.1 rfl (Nat.le_of_ble_eq_true rfl) dX12_sizes_3 ⟨Nat.le_of_ble_eq_true rfl, Nat.le_of_ble_eq_true rfl⟩ (fun r_3 g_2 H locs hw_1 hP hS => ?_)
  obtain ⟨hw_1a, hw_1b⟩ := hw_1
  subst hw_1a
  rw [hw_1b] at hP
  refine lv_if_ne (tgt := 12) hx hb dX12_sizes_6 (by decide) (fun h => absurd h (by decide)) (fun _ => ?_)
  refine lv_bipush (v := (-2)) hx hb dX12_sizes_9 (by decide) ?_
  exact q_iret X hP hS ⟨rfl, rfl⟩ dX12_sizes_11

theorem dX12_place_0 : decode cX12_place 0 = .ok (.aload_n 0, 1) := by decide +kernel
theorem dX12_place_1 : decode cX12_place 1 = .ok (.iload_n 1, 1) := by decide +kernel
theorem dX12_place_2 : decode cX12_place 2 = .ok (.iload_n 2, 1) := by decide +kernel
theorem dX12_place_3 : decode cX12_place 3 = .ok (.invokevirtual 282, 3) := by decide +kernel
theorem dX12_place_6 : decode cX12_place 6 = .ok (.ifCond .ne 6, 3) := by decide +kernel
theorem dX12_place_9 : decode cX12_place 9 = .ok (.bipush (-2), 2) := by decide +kernel
theorem dX12_place_11 : decode cX12_place 11 = .ok (.ireturn, 1) := by decide +kernel
def vX12_place : List Cond := .code yX12_place cX12_place 7 (some .int) :: ([.methodLink RX12 282 yX12_areThen, .instanceMethod yX12_areThen, .selects RX12 yX12_areThen yX12_areThen, .initialized RX12, .code yX12_areThen cX12_areThen 3 (some .boolean), .methodLink RX12 221 yX12_isIcicle, .instanceMethod yX12_isIcicle, .selects RX12 yX12_isIcicle yX12_isIcicle, .code yX12_isIcicle cX12_isIcicle 3 (some .boolean), .fieldLink RX12 9 "IcicleClockModel" "world" "[I", .methodLink RX12 82 yX12_in, .static yX12_in, .code yX12_in cX12_in 6 (some .boolean)] ++ wsX120)
theorem iX12_place_12 : ∀ w ∈ wsX120, w ∈ vX12_place := fun _ h => List.mem_cons_of_mem _ (List.mem_append_right _ h)
set_option maxRecDepth 20000 in
theorem gg_X12_place_X12_areThen : GoodIn vX12_place (wsV RX12 282 RX12 yX12_areThen vX12_areThen) := goodIn_r _ [1, 2, 3, 4, 5, 6, 7, 8, 4, 9, 10, 11, 12, 13, 14, 15, 16, 17, 18, 19, 20, 21, 22, 23, 24, 25, 26, 27, 28, 29, 30, 31, 32, 33, 34, 35, 36, 37, 38, 39, 40, 41, 42, 43, 44, 45, 46, 47, 48, 49, 50, 51, 52, 53] (by decide +kernel) (by decide +kernel)
set_option maxHeartbeats 4000000 in
set_option maxRecDepth 100000 in
theorem m_place (l : Launch) (D : va_G) (cs : Nat → ClassId) (ad : Nat → Nat) (hj : wJ ad nW) (g : Nat → va_E) (vi : Int32) (vd : Int32) (h197 : g 197 = .inr (12, [.int 0, .ref (ad 198), .ref (ad 199), .ref (ad 200), .ref (ad 201), .int 0, .ref (ad 202), .int 0, .int 0, .int 0, .int 0, .int 0, .int 0, .int (-1), .ref (ad 203), .ref (ad 204), .ref (ad 205), .int 0, .int 0, .ref (ad 206), .ref (ad 207), .ref (ad 208), .int 0, .int 0, .int 0, .int 0, .int 0, .ref (ad 209), .ref (ad 210), .ref (ad 211), .long 0, .long 0, .ref (ad 212), .ref (ad 213), .int 0, .int 0, .ref (ad 214), .ref (ad 215), .ref (ad 216), .ref (ad 217)])) (h198 : g 198 = .inl (cs 1, 118, .inl (fun _ => 0))) : cI l yX12_place vX12_place { frames := 3, cells := 0, slots := 0, locals := 69 } D cs ad nW [.ref (ad 197), .int vi, .int vd] g (fun r g2 => r = (-2) ∧ g2 = g) := by
  refine Met.start (cc := cX12_place) (maxL := 7) (ret := (some .int)) RX12 rfl (by decide) rfl (Nat.le_of_ble_eq_true rfl) ?_
  intro p e s m below meth c ls X hP hl
  have hx := X.1
  have hb := X.2.1
  have hS : va_S (wA ad nW) s.heap s.heap [] := va_S.rf
  have hA : ∀ i, i < nW → wA ad nW (ad i) := fun i h => ⟨i, h, rfl⟩
  have hl : lv_has ls 7 [(0, .ref (ad 197)), (1, .int vi), (2, .int vd)] := hl
  refine lv_aload_n hx hb dX12_place_0 rfl (lv_at hl 0 rfl) ?_
  refine lv_iload_n hx hb dX12_place_1 rfl (lv_at hl 1 rfl) ?_
  refine lv_iload_n hx hb dX12_place_2 rfl (lv_at hl 2 rfl) ?_
  refine q_calli (q := (RX12, TX12, 40)) (As := [.int vi, .int vd]) (rest := []) X (m_areThen l D cs ad hj g vi vd h197 h198) (cwV 2 X.2.2.2.2.1 gg_X12_place_X12_areThen rfl rfl rfl (by decide +kernel) ⟨Nat.le_of_ble_eq_true rfl, Nat.le_of_ble_eq_true rfl⟩) (by decide) h197 rfl hP hA hS rfl hl.1 rfl (Nat.le_of_ble_eq_true rfl) dX12_place_3 ⟨Nat.le_of_ble_eq_true rfl, Nat.le_of_ble_eq_true rfl⟩ (fun r_3 g_2 H locs hw_1 hP hS => ?_)
  obtain ⟨hw_1a, hw_1b⟩ := hw_1
  subst hw_1a
  rw [hw_1b] at hP
  refine lv_if_ne (tgt := 12) hx hb dX12_place_6 (by decide) (fun h => absurd h (by decide)) (fun _ => ?_)
  refine lv_bipush (v := (-2)) hx hb dX12_place_9 (by decide) ?_
  exact q_iret X hP hS ⟨rfl, rfl⟩ dX12_place_11

theorem dX12_best_0 : decode cX12_best 0 = .ok (.aload_n 0, 1) := by decide +kernel
theorem dX12_best_1 : decode cX12_best 1 = .ok (.iload_n 1, 1) := by decide +kernel
theorem dX12_best_2 : decode cX12_best 2 = .ok (.i2l, 1) := by decide +kernel
theorem dX12_best_3 : decode cX12_best 3 = .ok (.invokevirtual 221, 3) := by decide +kernel
theorem dX12_best_6 : decode cX12_best 6 = .ok (.ifCond .eq 11, 3) := by decide +kernel
theorem dX12_best_17 : decode cX12_best 17 = .ok (.bipush (-2), 2) := by decide +kernel
theorem dX12_best_19 : decode cX12_best 19 = .ok (.ireturn, 1) := by decide +kernel
def vX12_best : List Cond := .code yX12_best cX12_best 2 (some .int) :: ([.methodLink RX12 221 yX12_isIcicle, .instanceMethod yX12_isIcicle, .selects RX12 yX12_isIcicle yX12_isIcicle, .initialized RX12, .code yX12_isIcicle cX12_isIcicle 3 (some .boolean), .fieldLink RX12 9 "IcicleClockModel" "world" "[I", .methodLink RX12 82 yX12_in, .static yX12_in, .code yX12_in cX12_in 6 (some .boolean)] ++ wsX120)
theorem iX12_best_12 : ∀ w ∈ wsX120, w ∈ vX12_best := fun _ h => List.mem_cons_of_mem _ (List.mem_append_right _ h)
set_option maxRecDepth 20000 in
theorem gg_X12_best_X12_isIcicle : GoodIn vX12_best (wsV RX12 221 RX12 yX12_isIcicle vX12_isIcicle) := goodIn_r _ [1, 2, 3, 4, 5, 6, 7, 8, 4, 9, 10, 11, 12, 13, 14, 15, 16, 17, 18, 19, 20, 21, 22, 23, 24, 25, 26, 27, 28, 29, 30, 31, 32, 33, 34, 35, 36, 37, 38, 39, 40, 41, 42, 43, 44, 45, 46, 47, 48, 49] (by decide +kernel) (by decide +kernel)
set_option maxHeartbeats 4000000 in
set_option maxRecDepth 100000 in
theorem m_best (l : Launch) (D : va_G) (cs : Nat → ClassId) (ad : Nat → Nat) (hj : wJ ad nW) (g : Nat → va_E) (vi : Int32) (h197 : g 197 = .inr (12, [.int 0, .ref (ad 198), .ref (ad 199), .ref (ad 200), .ref (ad 201), .int 0, .ref (ad 202), .int 0, .int 0, .int 0, .int 0, .int 0, .int 0, .int (-1), .ref (ad 203), .ref (ad 204), .ref (ad 205), .int 0, .int 0, .ref (ad 206), .ref (ad 207), .ref (ad 208), .int 0, .int 0, .int 0, .int 0, .int 0, .ref (ad 209), .ref (ad 210), .ref (ad 211), .long 0, .long 0, .ref (ad 212), .ref (ad 213), .int 0, .int 0, .ref (ad 214), .ref (ad 215), .ref (ad 216), .ref (ad 217)])) (h198 : g 198 = .inl (cs 1, 118, .inl (fun _ => 0))) : cI l yX12_best vX12_best { frames := 2, cells := 0, slots := 0, locals := 47 } D cs ad nW [.ref (ad 197), .int vi] g (fun r g2 => r = (-2) ∧ g2 = g) := by
  refine Met.start (cc := cX12_best) (maxL := 2) (ret := (some .int)) RX12 rfl (by decide) rfl (Nat.le_of_ble_eq_true rfl) ?_
  intro p e s m below meth c ls X hP hl
  have hx := X.1
  have hb := X.2.1
  have hS : va_S (wA ad nW) s.heap s.heap [] := va_S.rf
  have hA : ∀ i, i < nW → wA ad nW (ad i) := fun i h => ⟨i, h, rfl⟩
  have hl : lv_has ls 2 [(0, .ref (ad 197)), (1, .int vi)] := hl
  refine lv_aload_n hx hb dX12_best_0 rfl (lv_at hl 0 rfl) ?_
  refine lv_iload_n hx hb dX12_best_1 rfl (lv_at hl 1 rfl) ?_
  refine lv_i2l (v := vi.toInt64) hx hb dX12_best_2 rfl ?_
  refine q_calli (q := (RX12, TX12, 40)) (As := [.long (vi.toInt64)]) (rest := []) X (m_isIcicle l D cs ad hj g (vi.toInt64) h197 h198) (cwV 1 X.2.2.2.2.1 gg_X12_best_X12_isIcicle rfl rfl rfl (by decide +kernel) ⟨Nat.le_of_ble_eq_true rfl, Nat.le_of_ble_eq_true rfl⟩) (by decide) h197 rfl hP hA hS rfl hl.1 rfl (Nat.le_of_ble_eq_true rfl) dX12_best_3 ⟨Nat.le_of_ble_eq_true rfl, Nat.le_of_ble_eq_true rfl⟩ (fun r_3 g_2 H locs hw_1 hP hS => ?_)
  obtain ⟨hw_1a, hw_1b⟩ := hw_1
  subst hw_1a
  rw [hw_1b] at hP
  refine lv_if_eq (tgt := 17) hx hb dX12_best_6 (by decide) (fun _ => ?_) (fun h => absurd h (by decide))
  refine lv_bipush (v := (-2)) hx hb dX12_best_17 (by decide) ?_
  exact q_iret X hP hS ⟨rfl, rfl⟩ dX12_best_19

theorem dX12_offs_0 : decode cX12_offs 0 = .ok (.aload_n 0, 1) := by decide +kernel
theorem dX12_offs_1 : decode cX12_offs 1 = .ok (.iload_n 1, 1) := by decide +kernel
theorem dX12_offs_2 : decode cX12_offs 2 = .ok (.i2l, 1) := by decide +kernel
theorem dX12_offs_3 : decode cX12_offs 3 = .ok (.invokevirtual 221, 3) := by decide +kernel
theorem dX12_offs_6 : decode cX12_offs 6 = .ok (.ifCond .ne 6, 3) := by decide +kernel
theorem dX12_offs_9 : decode cX12_offs 9 = .ok (.bipush (-2), 2) := by decide +kernel
theorem dX12_offs_11 : decode cX12_offs 11 = .ok (.ireturn, 1) := by decide +kernel
def vX12_offs : List Cond := .code yX12_offs cX12_offs 2 (some .int) :: ([.methodLink RX12 221 yX12_isIcicle, .instanceMethod yX12_isIcicle, .selects RX12 yX12_isIcicle yX12_isIcicle, .initialized RX12, .code yX12_isIcicle cX12_isIcicle 3 (some .boolean), .fieldLink RX12 9 "IcicleClockModel" "world" "[I", .methodLink RX12 82 yX12_in, .static yX12_in, .code yX12_in cX12_in 6 (some .boolean)] ++ wsX120)
theorem iX12_offs_12 : ∀ w ∈ wsX120, w ∈ vX12_offs := fun _ h => List.mem_cons_of_mem _ (List.mem_append_right _ h)
set_option maxRecDepth 20000 in
theorem gg_X12_offs_X12_isIcicle : GoodIn vX12_offs (wsV RX12 221 RX12 yX12_isIcicle vX12_isIcicle) := goodIn_r _ [1, 2, 3, 4, 5, 6, 7, 8, 4, 9, 10, 11, 12, 13, 14, 15, 16, 17, 18, 19, 20, 21, 22, 23, 24, 25, 26, 27, 28, 29, 30, 31, 32, 33, 34, 35, 36, 37, 38, 39, 40, 41, 42, 43, 44, 45, 46, 47, 48, 49] (by decide +kernel) (by decide +kernel)
set_option maxHeartbeats 4000000 in
set_option maxRecDepth 100000 in
theorem m_offs (l : Launch) (D : va_G) (cs : Nat → ClassId) (ad : Nat → Nat) (hj : wJ ad nW) (g : Nat → va_E) (vi : Int32) (h197 : g 197 = .inr (12, [.int 0, .ref (ad 198), .ref (ad 199), .ref (ad 200), .ref (ad 201), .int 0, .ref (ad 202), .int 0, .int 0, .int 0, .int 0, .int 0, .int 0, .int (-1), .ref (ad 203), .ref (ad 204), .ref (ad 205), .int 0, .int 0, .ref (ad 206), .ref (ad 207), .ref (ad 208), .int 0, .int 0, .int 0, .int 0, .int 0, .ref (ad 209), .ref (ad 210), .ref (ad 211), .long 0, .long 0, .ref (ad 212), .ref (ad 213), .int 0, .int 0, .ref (ad 214), .ref (ad 215), .ref (ad 216), .ref (ad 217)])) (h198 : g 198 = .inl (cs 1, 118, .inl (fun _ => 0))) : cI l yX12_offs vX12_offs { frames := 2, cells := 0, slots := 0, locals := 47 } D cs ad nW [.ref (ad 197), .int vi] g (fun r g2 => r = (-2) ∧ g2 = g) := by
  refine Met.start (cc := cX12_offs) (maxL := 2) (ret := (some .int)) RX12 rfl (by decide) rfl (Nat.le_of_ble_eq_true rfl) ?_
  intro p e s m below meth c ls X hP hl
  have hx := X.1
  have hb := X.2.1
  have hS : va_S (wA ad nW) s.heap s.heap [] := va_S.rf
  have hA : ∀ i, i < nW → wA ad nW (ad i) := fun i h => ⟨i, h, rfl⟩
  have hl : lv_has ls 2 [(0, .ref (ad 197)), (1, .int vi)] := hl
  refine lv_aload_n hx hb dX12_offs_0 rfl (lv_at hl 0 rfl) ?_
  refine lv_iload_n hx hb dX12_offs_1 rfl (lv_at hl 1 rfl) ?_
  refine lv_i2l (v := vi.toInt64) hx hb dX12_offs_2 rfl ?_
  refine q_calli (q := (RX12, TX12, 40)) (As := [.long (vi.toInt64)]) (rest := []) X (m_isIcicle l D cs ad hj g (vi.toInt64) h197 h198) (cwV 1 X.2.2.2.2.1 gg_X12_offs_X12_isIcicle rfl rfl rfl (by decide +kernel) ⟨Nat.le_of_ble_eq_true rfl, Nat.le_of_ble_eq_true rfl⟩) (by decide) h197 rfl hP hA hS rfl hl.1 rfl (Nat.le_of_ble_eq_true rfl) dX12_offs_3 ⟨Nat.le_of_ble_eq_true rfl, Nat.le_of_ble_eq_true rfl⟩ (fun r_3 g_2 H locs hw_1 hP hS => ?_)
  obtain ⟨hw_1a, hw_1b⟩ := hw_1
  subst hw_1a
  rw [hw_1b] at hP
  refine lv_if_ne (tgt := 12) hx hb dX12_offs_6 (by decide) (fun h => absurd h (by decide)) (fun _ => ?_)
  refine lv_bipush (v := (-2)) hx hb dX12_offs_9 (by decide) ?_
  exact q_iret X hP hS ⟨rfl, rfl⟩ dX12_offs_11

theorem dX12_doors_0 : decode cX12_doors 0 = .ok (.aload_n 0, 1) := by decide +kernel
theorem dX12_doors_1 : decode cX12_doors 1 = .ok (.iload_n 1, 1) := by decide +kernel
theorem dX12_doors_2 : decode cX12_doors 2 = .ok (.iload_n 2, 1) := by decide +kernel
theorem dX12_doors_3 : decode cX12_doors 3 = .ok (.invokevirtual 282, 3) := by decide +kernel
theorem dX12_doors_6 : decode cX12_doors 6 = .ok (.ifCond .ne 6, 3) := by decide +kernel
theorem dX12_doors_9 : decode cX12_doors 9 = .ok (.bipush (-2), 2) := by decide +kernel
theorem dX12_doors_11 : decode cX12_doors 11 = .ok (.ireturn, 1) := by decide +kernel
def vX12_doors : List Cond := .code yX12_doors cX12_doors 5 (some .int) :: ([.methodLink RX12 282 yX12_areThen, .instanceMethod yX12_areThen, .selects RX12 yX12_areThen yX12_areThen, .initialized RX12, .code yX12_areThen cX12_areThen 3 (some .boolean), .methodLink RX12 221 yX12_isIcicle, .instanceMethod yX12_isIcicle, .selects RX12 yX12_isIcicle yX12_isIcicle, .code yX12_isIcicle cX12_isIcicle 3 (some .boolean), .fieldLink RX12 9 "IcicleClockModel" "world" "[I", .methodLink RX12 82 yX12_in, .static yX12_in, .code yX12_in cX12_in 6 (some .boolean)] ++ wsX120)
theorem iX12_doors_12 : ∀ w ∈ wsX120, w ∈ vX12_doors := fun _ h => List.mem_cons_of_mem _ (List.mem_append_right _ h)
set_option maxRecDepth 20000 in
theorem gg_X12_doors_X12_areThen : GoodIn vX12_doors (wsV RX12 282 RX12 yX12_areThen vX12_areThen) := goodIn_r _ [1, 2, 3, 4, 5, 6, 7, 8, 4, 9, 10, 11, 12, 13, 14, 15, 16, 17, 18, 19, 20, 21, 22, 23, 24, 25, 26, 27, 28, 29, 30, 31, 32, 33, 34, 35, 36, 37, 38, 39, 40, 41, 42, 43, 44, 45, 46, 47, 48, 49, 50, 51, 52, 53] (by decide +kernel) (by decide +kernel)
set_option maxHeartbeats 4000000 in
set_option maxRecDepth 100000 in
theorem m_doors (l : Launch) (D : va_G) (cs : Nat → ClassId) (ad : Nat → Nat) (hj : wJ ad nW) (g : Nat → va_E) (vi : Int32) (vd : Int32) (h197 : g 197 = .inr (12, [.int 0, .ref (ad 198), .ref (ad 199), .ref (ad 200), .ref (ad 201), .int 0, .ref (ad 202), .int 0, .int 0, .int 0, .int 0, .int 0, .int 0, .int (-1), .ref (ad 203), .ref (ad 204), .ref (ad 205), .int 0, .int 0, .ref (ad 206), .ref (ad 207), .ref (ad 208), .int 0, .int 0, .int 0, .int 0, .int 0, .ref (ad 209), .ref (ad 210), .ref (ad 211), .long 0, .long 0, .ref (ad 212), .ref (ad 213), .int 0, .int 0, .ref (ad 214), .ref (ad 215), .ref (ad 216), .ref (ad 217)])) (h198 : g 198 = .inl (cs 1, 118, .inl (fun _ => 0))) : cI l yX12_doors vX12_doors { frames := 3, cells := 0, slots := 0, locals := 69 } D cs ad nW [.ref (ad 197), .int vi, .int vd] g (fun r g2 => r = (-2) ∧ g2 = g) := by
  refine Met.start (cc := cX12_doors) (maxL := 5) (ret := (some .int)) RX12 rfl (by decide) rfl (Nat.le_of_ble_eq_true rfl) ?_
  intro p e s m below meth c ls X hP hl
  have hx := X.1
  have hb := X.2.1
  have hS : va_S (wA ad nW) s.heap s.heap [] := va_S.rf
  have hA : ∀ i, i < nW → wA ad nW (ad i) := fun i h => ⟨i, h, rfl⟩
  have hl : lv_has ls 5 [(0, .ref (ad 197)), (1, .int vi), (2, .int vd)] := hl
  refine lv_aload_n hx hb dX12_doors_0 rfl (lv_at hl 0 rfl) ?_
  refine lv_iload_n hx hb dX12_doors_1 rfl (lv_at hl 1 rfl) ?_
  refine lv_iload_n hx hb dX12_doors_2 rfl (lv_at hl 2 rfl) ?_
  refine q_calli (q := (RX12, TX12, 40)) (As := [.int vi, .int vd]) (rest := []) X (m_areThen l D cs ad hj g vi vd h197 h198) (cwV 2 X.2.2.2.2.1 gg_X12_doors_X12_areThen rfl rfl rfl (by decide +kernel) ⟨Nat.le_of_ble_eq_true rfl, Nat.le_of_ble_eq_true rfl⟩) (by decide) h197 rfl hP hA hS rfl hl.1 rfl (Nat.le_of_ble_eq_true rfl) dX12_doors_3 ⟨Nat.le_of_ble_eq_true rfl, Nat.le_of_ble_eq_true rfl⟩ (fun r_3 g_2 H locs hw_1 hP hS => ?_)
  obtain ⟨hw_1a, hw_1b⟩ := hw_1
  subst hw_1a
  rw [hw_1b] at hP
  refine lv_if_ne (tgt := 12) hx hb dX12_doors_6 (by decide) (fun h => absurd h (by decide)) (fun _ => ?_)
  refine lv_bipush (v := (-2)) hx hb dX12_doors_9 (by decide) ?_
  exact q_iret X hP hS ⟨rfl, rfl⟩ dX12_doors_11

theorem dX12_round_0 : decode cX12_round 0 = .ok (.aload_n 0, 1) := by decide +kernel
theorem dX12_round_1 : decode cX12_round 1 = .ok (.iload_n 1, 1) := by decide +kernel
theorem dX12_round_2 : decode cX12_round 2 = .ok (.iload_n 2, 1) := by decide +kernel
theorem dX12_round_3 : decode cX12_round 3 = .ok (.invokevirtual 301, 3) := by decide +kernel
theorem dX12_round_6 : decode cX12_round 6 = .ok (.ifCond .eq 12, 3) := by decide +kernel
theorem dX12_round_18 : decode cX12_round 18 = .ok (.bipush (-2), 2) := by decide +kernel
theorem dX12_round_20 : decode cX12_round 20 = .ok (.ireturn, 1) := by decide +kernel
def vX12_round : List Cond := .code yX12_round cX12_round 3 (some .int) :: ([.methodLink RX12 301 yX12_isRound, .instanceMethod yX12_isRound, .selects RX12 yX12_isRound yX12_isRound, .initialized RX12, .code yX12_isRound cX12_isRound 3 (some .boolean), .methodLink RX12 212 yX12_isEave, .instanceMethod yX12_isEave, .selects RX12 yX12_isEave yX12_isEave, .code yX12_isEave cX12_isEave 2 (some .boolean), .fieldLink RX12 9 "IcicleClockModel" "world" "[I", .methodLink RX12 82 yX12_in, .static yX12_in, .code yX12_in cX12_in 6 (some .boolean)] ++ wsX120)
theorem iX12_round_12 : ∀ w ∈ wsX120, w ∈ vX12_round := fun _ h => List.mem_cons_of_mem _ (List.mem_append_right _ h)
set_option maxRecDepth 20000 in
theorem gg_X12_round_X12_isRound : GoodIn vX12_round (wsV RX12 301 RX12 yX12_isRound vX12_isRound) := goodIn_r _ [1, 2, 3, 4, 5, 6, 7, 8, 4, 9, 10, 11, 12, 13, 14, 15, 16, 17, 18, 19, 20, 21, 22, 23, 24, 25, 26, 27, 28, 29, 30, 31, 32, 33, 34, 35, 36, 37, 38, 39, 40, 41, 42, 43, 44, 45, 46, 47, 48, 49, 50, 51, 52, 53] (by decide +kernel) (by decide +kernel)
set_option maxHeartbeats 4000000 in
set_option maxRecDepth 100000 in
theorem m_round (l : Launch) (D : va_G) (cs : Nat → ClassId) (ad : Nat → Nat) (hj : wJ ad nW) (g : Nat → va_E) (vf : Int32) (vk : Int32) (h197 : g 197 = .inr (12, [.int 0, .ref (ad 198), .ref (ad 199), .ref (ad 200), .ref (ad 201), .int 0, .ref (ad 202), .int 0, .int 0, .int 0, .int 0, .int 0, .int 0, .int (-1), .ref (ad 203), .ref (ad 204), .ref (ad 205), .int 0, .int 0, .ref (ad 206), .ref (ad 207), .ref (ad 208), .int 0, .int 0, .int 0, .int 0, .int 0, .ref (ad 209), .ref (ad 210), .ref (ad 211), .long 0, .long 0, .ref (ad 212), .ref (ad 213), .int 0, .int 0, .ref (ad 214), .ref (ad 215), .ref (ad 216), .ref (ad 217)])) (h198 : g 198 = .inl (cs 1, 118, .inl (fun _ => 0))) : cI l yX12_round vX12_round { frames := 3, cells := 0, slots := 0, locals := 68 } D cs ad nW [.ref (ad 197), .int vf, .int vk] g (fun r g2 => r = (-2) ∧ g2 = g) := by
  refine Met.start (cc := cX12_round) (maxL := 3) (ret := (some .int)) RX12 rfl (by decide) rfl (Nat.le_of_ble_eq_true rfl) ?_
  intro p e s m below meth c ls X hP hl
  have hx := X.1
  have hb := X.2.1
  have hS : va_S (wA ad nW) s.heap s.heap [] := va_S.rf
  have hA : ∀ i, i < nW → wA ad nW (ad i) := fun i h => ⟨i, h, rfl⟩
  have hl : lv_has ls 3 [(0, .ref (ad 197)), (1, .int vf), (2, .int vk)] := hl
  refine lv_aload_n hx hb dX12_round_0 rfl (lv_at hl 0 rfl) ?_
  refine lv_iload_n hx hb dX12_round_1 rfl (lv_at hl 1 rfl) ?_
  refine lv_iload_n hx hb dX12_round_2 rfl (lv_at hl 2 rfl) ?_
  refine q_calli (q := (RX12, TX12, 40)) (As := [.int vf, .int vk]) (rest := []) X (m_isRound l D cs ad hj g vf vk h197 h198) (cwV 2 X.2.2.2.2.1 gg_X12_round_X12_isRound rfl rfl rfl (by decide +kernel) ⟨Nat.le_of_ble_eq_true rfl, Nat.le_of_ble_eq_true rfl⟩) (by decide) h197 rfl hP hA hS rfl hl.1 rfl (Nat.le_of_ble_eq_true rfl) dX12_round_3 ⟨Nat.le_of_ble_eq_true rfl, Nat.le_of_ble_eq_true rfl⟩ (fun r_3 g_2 H locs hw_1 hP hS => ?_)
  obtain ⟨hw_1a, hw_1b⟩ := hw_1
  subst hw_1a
  rw [hw_1b] at hP
  refine lv_if_eq (tgt := 18) hx hb dX12_round_6 (by decide) (fun _ => ?_) (fun h => absurd h (by decide))
  refine lv_bipush (v := (-2)) hx hb dX12_round_18 (by decide) ?_
  exact q_iret X hP hS ⟨rfl, rfl⟩ dX12_round_20

theorem dX12_rounds_0 : decode cX12_rounds 0 = .ok (.aload_n 0, 1) := by decide +kernel
theorem dX12_rounds_1 : decode cX12_rounds 1 = .ok (.iload_n 1, 1) := by decide +kernel
theorem dX12_rounds_2 : decode cX12_rounds 2 = .ok (.iload_n 2, 1) := by decide +kernel
theorem dX12_rounds_3 : decode cX12_rounds 3 = .ok (.invokevirtual 301, 3) := by decide +kernel
theorem dX12_rounds_6 : decode cX12_rounds 6 = .ok (.ifCond .ne 6, 3) := by decide +kernel
theorem dX12_rounds_9 : decode cX12_rounds 9 = .ok (.bipush (-2), 2) := by decide +kernel
theorem dX12_rounds_11 : decode cX12_rounds 11 = .ok (.ireturn, 1) := by decide +kernel
def vX12_rounds : List Cond := .code yX12_rounds cX12_rounds 8 (some .int) :: ([.methodLink RX12 301 yX12_isRound, .instanceMethod yX12_isRound, .selects RX12 yX12_isRound yX12_isRound, .initialized RX12, .code yX12_isRound cX12_isRound 3 (some .boolean), .methodLink RX12 212 yX12_isEave, .instanceMethod yX12_isEave, .selects RX12 yX12_isEave yX12_isEave, .code yX12_isEave cX12_isEave 2 (some .boolean), .fieldLink RX12 9 "IcicleClockModel" "world" "[I", .methodLink RX12 82 yX12_in, .static yX12_in, .code yX12_in cX12_in 6 (some .boolean)] ++ wsX120)
theorem iX12_rounds_12 : ∀ w ∈ wsX120, w ∈ vX12_rounds := fun _ h => List.mem_cons_of_mem _ (List.mem_append_right _ h)
set_option maxRecDepth 20000 in
theorem gg_X12_rounds_X12_isRound : GoodIn vX12_rounds (wsV RX12 301 RX12 yX12_isRound vX12_isRound) := goodIn_r _ [1, 2, 3, 4, 5, 6, 7, 8, 4, 9, 10, 11, 12, 13, 14, 15, 16, 17, 18, 19, 20, 21, 22, 23, 24, 25, 26, 27, 28, 29, 30, 31, 32, 33, 34, 35, 36, 37, 38, 39, 40, 41, 42, 43, 44, 45, 46, 47, 48, 49, 50, 51, 52, 53] (by decide +kernel) (by decide +kernel)
set_option maxHeartbeats 4000000 in
set_option maxRecDepth 100000 in
theorem m_rounds (l : Launch) (D : va_G) (cs : Nat → ClassId) (ad : Nat → Nat) (hj : wJ ad nW) (g : Nat → va_E) (vf : Int32) (vk : Int32) (vi : Int32) (h197 : g 197 = .inr (12, [.int 0, .ref (ad 198), .ref (ad 199), .ref (ad 200), .ref (ad 201), .int 0, .ref (ad 202), .int 0, .int 0, .int 0, .int 0, .int 0, .int 0, .int (-1), .ref (ad 203), .ref (ad 204), .ref (ad 205), .int 0, .int 0, .ref (ad 206), .ref (ad 207), .ref (ad 208), .int 0, .int 0, .int 0, .int 0, .int 0, .ref (ad 209), .ref (ad 210), .ref (ad 211), .long 0, .long 0, .ref (ad 212), .ref (ad 213), .int 0, .int 0, .ref (ad 214), .ref (ad 215), .ref (ad 216), .ref (ad 217)])) (h198 : g 198 = .inl (cs 1, 118, .inl (fun _ => 0))) : cI l yX12_rounds vX12_rounds { frames := 3, cells := 0, slots := 0, locals := 68 } D cs ad nW [.ref (ad 197), .int vf, .int vk, .int vi] g (fun r g2 => r = (-2) ∧ g2 = g) := by
  refine Met.start (cc := cX12_rounds) (maxL := 8) (ret := (some .int)) RX12 rfl (by decide) rfl (Nat.le_of_ble_eq_true rfl) ?_
  intro p e s m below meth c ls X hP hl
  have hx := X.1
  have hb := X.2.1
  have hS : va_S (wA ad nW) s.heap s.heap [] := va_S.rf
  have hA : ∀ i, i < nW → wA ad nW (ad i) := fun i h => ⟨i, h, rfl⟩
  have hl : lv_has ls 8 [(0, .ref (ad 197)), (1, .int vf), (2, .int vk), (3, .int vi)] := hl
  refine lv_aload_n hx hb dX12_rounds_0 rfl (lv_at hl 0 rfl) ?_
  refine lv_iload_n hx hb dX12_rounds_1 rfl (lv_at hl 1 rfl) ?_
  refine lv_iload_n hx hb dX12_rounds_2 rfl (lv_at hl 2 rfl) ?_
  refine q_calli (q := (RX12, TX12, 40)) (As := [.int vf, .int vk]) (rest := []) X (m_isRound l D cs ad hj g vf vk h197 h198) (cwV 2 X.2.2.2.2.1 gg_X12_rounds_X12_isRound rfl rfl rfl (by decide +kernel) ⟨Nat.le_of_ble_eq_true rfl, Nat.le_of_ble_eq_true rfl⟩) (by decide) h197 rfl hP hA hS rfl hl.1 rfl (Nat.le_of_ble_eq_true rfl) dX12_rounds_3 ⟨Nat.le_of_ble_eq_true rfl, Nat.le_of_ble_eq_true rfl⟩ (fun r_3 g_2 H locs hw_1 hP hS => ?_)
  obtain ⟨hw_1a, hw_1b⟩ := hw_1
  subst hw_1a
  rw [hw_1b] at hP
  refine lv_if_ne (tgt := 12) hx hb dX12_rounds_6 (by decide) (fun h => absurd h (by decide)) (fun _ => ?_)
  refine lv_bipush (v := (-2)) hx hb dX12_rounds_9 (by decide) ?_
  exact q_iret X hP hS ⟨rfl, rfl⟩ dX12_rounds_11
end
section
theorem dX12_asksSeen_0 : decode cX12_asksSeen 0 = .ok (.iload_n 1, 1) := by decide +kernel
theorem dX12_asksSeen_1 : decode cX12_asksSeen 1 = .ok (.invokestatic 307, 3) := by decide +kernel
theorem dX12_asksSeen_4 : decode cX12_asksSeen 4 = .ok (.ifCond .eq 14, 3) := by decide +kernel
theorem dX12_asksSeen_18 : decode cX12_asksSeen 18 = .ok (.bipush (-2), 2) := by decide +kernel
theorem dX12_asksSeen_20 : decode cX12_asksSeen 20 = .ok (.ireturn, 1) := by decide +kernel
theorem dX12_asksSeen_7 : decode cX12_asksSeen 7 = .ok (.aload_n 0, 1) := by decide +kernel
theorem dX12_asksSeen_8 : decode cX12_asksSeen 8 = .ok (.invokevirtual 261, 3) := by decide +kernel
theorem dX12_asksSeen_11 : decode cX12_asksSeen 11 = .ok (.ifCond .eq 7, 3) := by decide +kernel
def vX12_asksSeen : List Cond := .code yX12_asksSeen cX12_asksSeen 5 (some .int) :: ([.methodLink RX12 307 yX12_isSlot, .static yX12_isSlot, .initialized RX12, .code yX12_isSlot cX12_isSlot 1 (some .boolean), .constantLong RX12 431 (3), .methodLink RX12 82 yX12_in, .static yX12_in, .code yX12_in cX12_in 6 (some .boolean), .methodLink RX12 261 yX12_isStreet, .instanceMethod yX12_isStreet, .selects RX12 yX12_isStreet yX12_isStreet, .code yX12_isStreet cX12_isStreet 1 (some .boolean), .fieldLink RX12 9 "IcicleClockModel" "world" "[I"] ++ wsX120)
theorem iX12_asksSeen_12 : ∀ w ∈ wsX120, w ∈ vX12_asksSeen := fun _ h => List.mem_cons_of_mem _ (List.mem_append_right _ h)
set_option maxRecDepth 20000 in
theorem gg_X12_asksSeen_X12_isSlot : GoodIn vX12_asksSeen (wsS RX12 307 yX12_isSlot vX12_isSlot) := goodIn_r _ [1, 2, 3, 4, 5, 6, 7, 3, 8] (by decide +kernel) (by decide +kernel)
set_option maxRecDepth 20000 in
theorem gg_X12_asksSeen_X12_isStreet : GoodIn vX12_asksSeen (wsV RX12 261 RX12 yX12_isStreet vX12_isStreet) := goodIn_r _ [9, 10, 11, 3, 12, 13, 14, 15, 16, 17, 18, 19, 20, 21, 22, 23, 24, 25, 26, 27, 28, 29, 30, 31, 32, 33, 34, 35, 36, 37, 38, 39, 40, 41, 42, 43, 44, 45, 46, 47, 48, 49, 50, 51, 52, 53] (by decide +kernel) (by decide +kernel)
set_option maxHeartbeats 4000000 in
set_option maxRecDepth 100000 in
theorem m_asksSeen (l : Launch) (D : va_G) (cs : Nat → ClassId) (ad : Nat → Nat) (hj : wJ ad nW) (g : Nat → va_E) (vs : Int32) (vo : Int32) (vn : Int32) (h197 : g 197 = .inr (12, [.int 0, .ref (ad 198), .ref (ad 199), .ref (ad 200), .ref (ad 201), .int 0, .ref (ad 202), .int 0, .int 0, .int 0, .int 0, .int 0, .int 0, .int (-1), .ref (ad 203), .ref (ad 204), .ref (ad 205), .int 0, .int 0, .ref (ad 206), .ref (ad 207), .ref (ad 208), .int 0, .int 0, .int 0, .int 0, .int 0, .ref (ad 209), .ref (ad 210), .ref (ad 211), .long 0, .long 0, .ref (ad 212), .ref (ad 213), .int 0, .int 0, .ref (ad 214), .ref (ad 215), .ref (ad 216), .ref (ad 217)])) (h198 : g 198 = .inl (cs 1, 118, .inl (fun _ => 0))) : cI l yX12_asksSeen vX12_asksSeen { frames := 2, cells := 0, slots := 0, locals := 45 } D cs ad nW [.ref (ad 197), .int vs, .int vo, .int vn] g (fun r g2 => r = (-2) ∧ g2 = g) := by
  refine Met.start (cc := cX12_asksSeen) (maxL := 5) (ret := (some .int)) RX12 rfl (by decide) rfl (Nat.le_of_ble_eq_true rfl) ?_
  intro p e s m below meth c ls X hP hl
  have hx := X.1
  have hb := X.2.1
  have hS : va_S (wA ad nW) s.heap s.heap [] := va_S.rf
  have hA : ∀ i, i < nW → wA ad nW (ad i) := fun i h => ⟨i, h, rfl⟩
  have hl : lv_has ls 5 [(0, .ref (ad 197)), (1, .int vs), (2, .int vo), (3, .int vn)] := hl
  refine lv_iload_n hx hb dX12_asksSeen_0 rfl (lv_at hl 1 rfl) ?_
  refine q_callSi (As := [.int vs]) (rest := []) X (m_isSlot l D cs ad hj g vs ) (cwS 1 X.2.2.2.2.1 gg_X12_asksSeen_X12_isSlot rfl rfl rfl (by decide +kernel) ⟨Nat.le_of_ble_eq_true rfl, Nat.le_of_ble_eq_true rfl⟩) hP hA hS rfl hl.1 rfl (Nat.le_of_ble_eq_true rfl) dX12_asksSeen_1 ⟨Nat.le_of_ble_eq_true rfl, Nat.le_of_ble_eq_true rfl⟩ (fun r_3 g_2 H locs hw_1 hP hS => ?_)
  obtain ⟨hw_1b, hw_1⟩ := hw_1
  rw [hw_1b] at hP
  refine lv_if_eq (tgt := 18) hx hb dX12_asksSeen_4 (by decide) (fun hc_4 => ?_) (fun hc_4 => ?_)
  · refine lv_bipush (v := (-2)) hx hb dX12_asksSeen_18 (by decide) ?_
    exact q_iret X hP hS ⟨rfl, rfl⟩ dX12_asksSeen_20
  · refine lv_aload_n hx hb dX12_asksSeen_7 rfl (lv_at hl 0 rfl) ?_
    refine q_calli (q := (RX12, TX12, 40)) (As := []) (rest := []) X (m_isStreet l D cs ad hj g  h197 h198) (cwV 0 X.2.2.2.2.1 gg_X12_asksSeen_X12_isStreet rfl rfl rfl (by decide +kernel) ⟨Nat.le_of_ble_eq_true rfl, Nat.le_of_ble_eq_true rfl⟩) (by decide) h197 rfl hP hA hS rfl hl.1 rfl (Nat.le_of_ble_eq_true rfl) dX12_asksSeen_8 ⟨Nat.le_of_ble_eq_true rfl, Nat.le_of_ble_eq_true rfl⟩ (fun r_6 g_5 H locs hw_4 hP hS => ?_)
    obtain ⟨hw_4a, hw_4b⟩ := hw_4
    subst hw_4a
    rw [hw_4b] at hP
    refine lv_if_eq (tgt := 18) hx hb dX12_asksSeen_11 (by decide) (fun _ => ?_) (fun h => absurd h (by decide))
    refine lv_bipush (v := (-2)) hx hb dX12_asksSeen_18 (by decide) ?_
    exact q_iret X hP hS ⟨rfl, rfl⟩ dX12_asksSeen_20

theorem dX12_laySlams_0 : decode cX12_laySlams 0 = .ok (.aload_n 0, 1) := by decide +kernel
theorem dX12_laySlams_1 : decode cX12_laySlams 1 = .ok (.iload_n 1, 1) := by decide +kernel
theorem dX12_laySlams_2 : decode cX12_laySlams 2 = .ok (.iconst 1, 1) := by decide +kernel
theorem dX12_laySlams_3 : decode cX12_laySlams 3 = .ok (.aload_n 0, 1) := by decide +kernel
theorem dX12_laySlams_4 : decode cX12_laySlams 4 = .ok (.getfield 9, 3) := by decide +kernel
theorem dX12_laySlams_7 : decode cX12_laySlams 7 = .ok (.iconst 3, 1) := by decide +kernel
theorem dX12_laySlams_8 : decode cX12_laySlams 8 = .ok (.iaload, 1) := by decide +kernel
theorem dX12_laySlams_9 : decode cX12_laySlams 9 = .ok (.invokevirtual 316, 3) := by decide +kernel
theorem dX12_laySlams_12 : decode cX12_laySlams 12 = .ok (.istore_n 2, 1) := by decide +kernel
theorem dX12_laySlams_13 : decode cX12_laySlams 13 = .ok (.iload_n 2, 1) := by decide +kernel
theorem dX12_laySlams_14 : decode cX12_laySlams 14 = .ok (.ifCond .ge 5, 3) := by decide +kernel
theorem dX12_laySlams_17 : decode cX12_laySlams 17 = .ok (.iload_n 2, 1) := by decide +kernel
theorem dX12_laySlams_18 : decode cX12_laySlams 18 = .ok (.ireturn, 1) := by decide +kernel
def vX12_laySlams : List Cond := .code yX12_laySlams cX12_laySlams 6 (some .int) :: ([.fieldLink RX12 9 "IcicleClockModel" "world" "[I", .methodLink RX12 316 yX12_asksSeen, .instanceMethod yX12_asksSeen, .selects RX12 yX12_asksSeen yX12_asksSeen, .initialized RX12, .code yX12_asksSeen cX12_asksSeen 5 (some .int), .methodLink RX12 307 yX12_isSlot, .static yX12_isSlot, .code yX12_isSlot cX12_isSlot 1 (some .boolean), .constantLong RX12 431 (3), .methodLink RX12 82 yX12_in, .static yX12_in, .code yX12_in cX12_in 6 (some .boolean), .methodLink RX12 261 yX12_isStreet, .instanceMethod yX12_isStreet, .selects RX12 yX12_isStreet yX12_isStreet, .code yX12_isStreet cX12_isStreet 1 (some .boolean)] ++ wsX120)
theorem iX12_laySlams_12 : ∀ w ∈ wsX120, w ∈ vX12_laySlams := fun _ h => List.mem_cons_of_mem _ (List.mem_append_right _ h)
set_option maxRecDepth 20000 in
theorem gg_X12_laySlams_X12_asksSeen : GoodIn vX12_laySlams (wsV RX12 316 RX12 yX12_asksSeen vX12_asksSeen) := goodIn_r _ [2, 3, 4, 5, 6, 7, 8, 5, 9, 10, 11, 12, 13, 14, 15, 16, 17, 1, 18, 19, 20, 21, 22, 23, 24, 25, 26, 27, 28, 29, 30, 31, 32, 33, 34, 35, 36, 37, 38, 39, 40, 41, 42, 43, 44, 45, 46, 47, 48, 49, 50, 51, 52, 53, 54, 55, 56, 57] (by decide +kernel) (by decide +kernel)
set_option maxHeartbeats 4000000 in
set_option maxRecDepth 100000 in
theorem m_laySlams (l : Launch) (D : va_G) (cs : Nat → ClassId) (ad : Nat → Nat) (hj : wJ ad nW) (g : Nat → va_E) (vs : Int32) (h197 : g 197 = .inr (12, [.int 0, .ref (ad 198), .ref (ad 199), .ref (ad 200), .ref (ad 201), .int 0, .ref (ad 202), .int 0, .int 0, .int 0, .int 0, .int 0, .int 0, .int (-1), .ref (ad 203), .ref (ad 204), .ref (ad 205), .int 0, .int 0, .ref (ad 206), .ref (ad 207), .ref (ad 208), .int 0, .int 0, .int 0, .int 0, .int 0, .ref (ad 209), .ref (ad 210), .ref (ad 211), .long 0, .long 0, .ref (ad 212), .ref (ad 213), .int 0, .int 0, .ref (ad 214), .ref (ad 215), .ref (ad 216), .ref (ad 217)])) (h198 : g 198 = .inl (cs 1, 118, .inl (fun _ => 0))) : cI l yX12_laySlams vX12_laySlams { frames := 3, cells := 0, slots := 0, locals := 69 } D cs ad nW [.ref (ad 197), .int vs] g (fun r g2 => r = (-2) ∧ g2 = g) := by
  refine Met.start (cc := cX12_laySlams) (maxL := 6) (ret := (some .int)) RX12 rfl (by decide) rfl (Nat.le_of_ble_eq_true rfl) ?_
  intro p e s m below meth c ls X hP hl
  have hx := X.1
  have hb := X.2.1
  have hS : va_S (wA ad nW) s.heap s.heap [] := va_S.rf
  have hA : ∀ i, i < nW → wA ad nW (ad i) := fun i h => ⟨i, h, rfl⟩
  have hl : lv_has ls 6 [(0, .ref (ad 197)), (1, .int vs)] := hl
  refine lv_aload_n hx hb dX12_laySlams_0 rfl (lv_at hl 0 rfl) ?_
  refine lv_iload_n hx hb dX12_laySlams_1 rfl (lv_at hl 1 rfl) ?_
  refine lv_iconst (v := 1) hx hb dX12_laySlams_2 (by decide) ?_
  refine lv_aload_n hx hb dX12_laySlams_3 rfl (lv_at hl 0 rfl) ?_
  refine q_get X iX12_laySlams_12 hP (by decide) h197 rfl 1 (by decide) (List.mem_of_getElem? (i := 1) rfl) (v := .ref (ad 198)) rfl dX12_laySlams_4 ?_
  refine lv_iconst (v := 3) hx hb dX12_laySlams_7 (by decide) ?_
  refine q_iald X hP (by decide) h198 (by unfold vp_in; decide) dX12_laySlams_8 ?_
  refine q_calli (q := (RX12, TX12, 40)) (As := [.int vs, .int 1, .int 0]) (rest := []) X (m_asksSeen l D cs ad hj g vs 1 0 h197 h198) (cwV 3 X.2.2.2.2.1 gg_X12_laySlams_X12_asksSeen rfl rfl rfl (by decide +kernel) ⟨Nat.le_of_ble_eq_true rfl, Nat.le_of_ble_eq_true rfl⟩) (by decide) h197 rfl hP hA hS rfl hl.1 rfl (Nat.le_of_ble_eq_true rfl) dX12_laySlams_9 ⟨Nat.le_of_ble_eq_true rfl, Nat.le_of_ble_eq_true rfl⟩ (fun r_3 g_2 H locs hw_1 hP hS => ?_)
  obtain ⟨hw_1a, hw_1b⟩ := hw_1
  subst hw_1a
  rw [hw_1b] at hP
  refine lv_istore_n (lv' := [(2, .int (-2)), (0, .ref (ad 197)), (1, .int vs)]) hx hb dX12_laySlams_12 rfl hl (by decide) rfl (fun ls hl => ?_)
  refine lv_iload_n hx hb dX12_laySlams_13 rfl (lv_at hl 0 rfl) ?_
  refine lv_if_ge (tgt := 19) hx hb dX12_laySlams_14 (by decide) (fun h => absurd h (by decide)) (fun _ => ?_)
  refine lv_iload_n hx hb dX12_laySlams_17 rfl (lv_at hl 0 rfl) ?_
  exact q_iret X hP hS ⟨rfl, rfl⟩ dX12_laySlams_18

theorem dX12_layWeathers_0 : decode cX12_layWeathers 0 = .ok (.aload_n 0, 1) := by decide +kernel
theorem dX12_layWeathers_1 : decode cX12_layWeathers 1 = .ok (.iload_n 1, 1) := by decide +kernel
theorem dX12_layWeathers_2 : decode cX12_layWeathers 2 = .ok (.iload_n 2, 1) := by decide +kernel
theorem dX12_layWeathers_3 : decode cX12_layWeathers 3 = .ok (.i2l, 1) := by decide +kernel
theorem dX12_layWeathers_4 : decode cX12_layWeathers 4 = .ok (.lconst 1, 1) := by decide +kernel
theorem dX12_layWeathers_5 : decode cX12_layWeathers 5 = .ok (.ldc2_w 329, 3) := by decide +kernel
theorem dX12_layWeathers_8 : decode cX12_layWeathers 8 = .ok (.invokestatic 82, 3) := by decide +kernel
theorem dX12_layWeathers_11 : decode cX12_layWeathers 11 = .ok (.ifCond .eq 11, 3) := by decide +kernel
theorem dX12_layWeathers_22 : decode cX12_layWeathers 22 = .ok (.iconst 0, 1) := by decide +kernel
theorem dX12_layWeathers_23 : decode cX12_layWeathers 23 = .ok (.iload_n 2, 1) := by decide +kernel
theorem dX12_layWeathers_24 : decode cX12_layWeathers 24 = .ok (.invokevirtual 316, 3) := by decide +kernel
theorem dX12_layWeathers_27 : decode cX12_layWeathers 27 = .ok (.istore 4, 2) := by decide +kernel
theorem dX12_layWeathers_29 : decode cX12_layWeathers 29 = .ok (.iload 4, 2) := by decide +kernel
theorem dX12_layWeathers_31 : decode cX12_layWeathers 31 = .ok (.ifCond .ge 6, 3) := by decide +kernel
theorem dX12_layWeathers_34 : decode cX12_layWeathers 34 = .ok (.iload 4, 2) := by decide +kernel
theorem dX12_layWeathers_36 : decode cX12_layWeathers 36 = .ok (.ireturn, 1) := by decide +kernel
theorem dX12_layWeathers_14 : decode cX12_layWeathers 14 = .ok (.iload_n 3, 1) := by decide +kernel
theorem dX12_layWeathers_15 : decode cX12_layWeathers 15 = .ok (.ifCond .eq 7, 3) := by decide +kernel
theorem dX12_layWeathers_18 : decode cX12_layWeathers 18 = .ok (.iconst 1, 1) := by decide +kernel
theorem dX12_layWeathers_19 : decode cX12_layWeathers 19 = .ok (.goto 4, 3) := by decide +kernel
def vX12_layWeathers : List Cond := .code yX12_layWeathers cX12_layWeathers 9 (some .int) :: ([.constantLong RX12 329 (5), .methodLink RX12 82 yX12_in, .static yX12_in, .initialized RX12, .code yX12_in cX12_in 6 (some .boolean), .methodLink RX12 316 yX12_asksSeen, .instanceMethod yX12_asksSeen, .selects RX12 yX12_asksSeen yX12_asksSeen, .code yX12_asksSeen cX12_asksSeen 5 (some .int), .methodLink RX12 307 yX12_isSlot, .static yX12_isSlot, .code yX12_isSlot cX12_isSlot 1 (some .boolean), .constantLong RX12 431 (3), .methodLink RX12 261 yX12_isStreet, .instanceMethod yX12_isStreet, .selects RX12 yX12_isStreet yX12_isStreet, .code yX12_isStreet cX12_isStreet 1 (some .boolean), .fieldLink RX12 9 "IcicleClockModel" "world" "[I"] ++ wsX120)
theorem iX12_layWeathers_12 : ∀ w ∈ wsX120, w ∈ vX12_layWeathers := fun _ h => List.mem_cons_of_mem _ (List.mem_append_right _ h)
set_option maxRecDepth 20000 in
theorem gg_X12_layWeathers_X12_in : GoodIn vX12_layWeathers (wsS RX12 82 yX12_in vX12_in) := goodIn_r _ [2, 3, 4, 5] (by decide +kernel) (by decide +kernel)
set_option maxRecDepth 20000 in
theorem gg_X12_layWeathers_X12_asksSeen : GoodIn vX12_layWeathers (wsV RX12 316 RX12 yX12_asksSeen vX12_asksSeen) := goodIn_r _ [6, 7, 8, 4, 9, 10, 11, 4, 12, 13, 2, 3, 5, 14, 15, 16, 17, 18, 19, 20, 21, 22, 23, 24, 25, 26, 27, 28, 29, 30, 31, 32, 33, 34, 35, 36, 37, 38, 39, 40, 41, 42, 43, 44, 45, 46, 47, 48, 49, 50, 51, 52, 53, 54, 55, 56, 57, 58] (by decide +kernel) (by decide +kernel)
set_option maxHeartbeats 4000000 in
set_option maxRecDepth 100000 in
theorem m_layWeathers (l : Launch) (D : va_G) (cs : Nat → ClassId) (ad : Nat → Nat) (hj : wJ ad nW) (g : Nat → va_E) (vs : Int32) (vn : Int32) (vo : Int32) (h197 : g 197 = .inr (12, [.int 0, .ref (ad 198), .ref (ad 199), .ref (ad 200), .ref (ad 201), .int 0, .ref (ad 202), .int 0, .int 0, .int 0, .int 0, .int 0, .int 0, .int (-1), .ref (ad 203), .ref (ad 204), .ref (ad 205), .int 0, .int 0, .ref (ad 206), .ref (ad 207), .ref (ad 208), .int 0, .int 0, .int 0, .int 0, .int 0, .ref (ad 209), .ref (ad 210), .ref (ad 211), .long 0, .long 0, .ref (ad 212), .ref (ad 213), .int 0, .int 0, .ref (ad 214), .ref (ad 215), .ref (ad 216), .ref (ad 217)])) (h198 : g 198 = .inl (cs 1, 118, .inl (fun _ => 0))) : cI l yX12_layWeathers vX12_layWeathers { frames := 3, cells := 0, slots := 0, locals := 69 } D cs ad nW [.ref (ad 197), .int vs, .int vn, .int vo] g (fun r g2 => r = (-2) ∧ g2 = g) := by
  refine Met.start (cc := cX12_layWeathers) (maxL := 9) (ret := (some .int)) RX12 rfl (by decide) rfl (Nat.le_of_ble_eq_true rfl) ?_
  intro p e s m below meth c ls X hP hl
  have hx := X.1
  have hb := X.2.1
  have hS : va_S (wA ad nW) s.heap s.heap [] := va_S.rf
  have hA : ∀ i, i < nW → wA ad nW (ad i) := fun i h => ⟨i, h, rfl⟩
  have hl : lv_has ls 9 [(0, .ref (ad 197)), (1, .int vs), (2, .int vn), (3, .int vo)] := hl
  refine lv_aload_n hx hb dX12_layWeathers_0 rfl (lv_at hl 0 rfl) ?_
  refine lv_iload_n hx hb dX12_layWeathers_1 rfl (lv_at hl 1 rfl) ?_
  refine lv_iload_n hx hb dX12_layWeathers_2 rfl (lv_at hl 2 rfl) ?_
  refine lv_i2l (v := vn.toInt64) hx hb dX12_layWeathers_3 rfl ?_
  refine lv_lconst (v := 1) hx hb dX12_layWeathers_4 (by decide) ?_
  refine lv_ldc2 (v := 5) hx hb X.2.2.2.2.2.1 (X.2.2.2.2.1 _ (List.mem_of_getElem? (i := 1) rfl)) dX12_layWeathers_5 ?_
  refine q_callSi (As := [.long (vn.toInt64), .long 1, .long 5]) (rest := [.int vs, .ref (ad 197)]) X (m_in l D cs ad hj g (vn.toInt64) 1 5 ) (cwS 3 X.2.2.2.2.1 gg_X12_layWeathers_X12_in rfl rfl rfl (by decide +kernel) ⟨Nat.le_of_ble_eq_true rfl, Nat.le_of_ble_eq_true rfl⟩) hP hA hS rfl hl.1 rfl (Nat.le_of_ble_eq_true rfl) dX12_layWeathers_8 ⟨Nat.le_of_ble_eq_true rfl, Nat.le_of_ble_eq_true rfl⟩ (fun r_3 g_2 H locs hw_1 hP hS => ?_)
  obtain ⟨hw_1b, hw_1⟩ := hw_1
  rw [hw_1b] at hP
  refine lv_if_eq (tgt := 22) hx hb dX12_layWeathers_11 (by decide) (fun hc_11 => ?_) (fun hc_11 => ?_)
  · refine lv_iconst (v := 0) hx hb dX12_layWeathers_22 (by decide) ?_
    refine lv_iload_n hx hb dX12_layWeathers_23 rfl (lv_at hl 2 rfl) ?_
    refine q_calli (q := (RX12, TX12, 40)) (As := [.int vs, .int 0, .int vn]) (rest := []) X (m_asksSeen l D cs ad hj g vs 0 vn h197 h198) (cwV 3 X.2.2.2.2.1 gg_X12_layWeathers_X12_asksSeen rfl rfl rfl (by decide +kernel) ⟨Nat.le_of_ble_eq_true rfl, Nat.le_of_ble_eq_true rfl⟩) (by decide) h197 rfl hP hA hS rfl hl.1 rfl (Nat.le_of_ble_eq_true rfl) dX12_layWeathers_24 ⟨Nat.le_of_ble_eq_true rfl, Nat.le_of_ble_eq_true rfl⟩ (fun r_6 g_5 H locs hw_4 hP hS => ?_)
    obtain ⟨hw_4a, hw_4b⟩ := hw_4
    subst hw_4a
    rw [hw_4b] at hP
    refine lv_istore (lv' := [(4, .int (-2)), (0, .ref (ad 197)), (1, .int vs), (2, .int vn), (3, .int vo)]) hx hb dX12_layWeathers_27 hl (by decide) rfl (fun ls hl => ?_)
    refine lv_iload hx hb dX12_layWeathers_29 (lv_at hl 0 rfl) ?_
    refine lv_if_ge (tgt := 37) hx hb dX12_layWeathers_31 (by decide) (fun h => absurd h (by decide)) (fun _ => ?_)
    refine lv_iload hx hb dX12_layWeathers_34 (lv_at hl 0 rfl) ?_
    exact q_iret X hP hS ⟨rfl, rfl⟩ dX12_layWeathers_36
  · refine lv_iload_n hx hb dX12_layWeathers_14 rfl (lv_at hl 3 rfl) ?_
    refine lv_if_eq (tgt := 22) hx hb dX12_layWeathers_15 (by decide) (fun hc_15 => ?_) (fun hc_15 => ?_)
    · refine lv_iconst (v := 0) hx hb dX12_layWeathers_22 (by decide) ?_
      refine lv_iload_n hx hb dX12_layWeathers_23 rfl (lv_at hl 2 rfl) ?_
      refine q_calli (q := (RX12, TX12, 40)) (As := [.int vs, .int 0, .int vn]) (rest := []) X (m_asksSeen l D cs ad hj g vs 0 vn h197 h198) (cwV 3 X.2.2.2.2.1 gg_X12_layWeathers_X12_asksSeen rfl rfl rfl (by decide +kernel) ⟨Nat.le_of_ble_eq_true rfl, Nat.le_of_ble_eq_true rfl⟩) (by decide) h197 rfl hP hA hS rfl hl.1 rfl (Nat.le_of_ble_eq_true rfl) dX12_layWeathers_24 ⟨Nat.le_of_ble_eq_true rfl, Nat.le_of_ble_eq_true rfl⟩ (fun r_9 g_8 H locs hw_7 hP hS => ?_)
      obtain ⟨hw_7a, hw_7b⟩ := hw_7
      subst hw_7a
      rw [hw_7b] at hP
      refine lv_istore (lv' := [(4, .int (-2)), (0, .ref (ad 197)), (1, .int vs), (2, .int vn), (3, .int vo)]) hx hb dX12_layWeathers_27 hl (by decide) rfl (fun ls hl => ?_)
      refine lv_iload hx hb dX12_layWeathers_29 (lv_at hl 0 rfl) ?_
      refine lv_if_ge (tgt := 37) hx hb dX12_layWeathers_31 (by decide) (fun h => absurd h (by decide)) (fun _ => ?_)
      refine lv_iload hx hb dX12_layWeathers_34 (lv_at hl 0 rfl) ?_
      exact q_iret X hP hS ⟨rfl, rfl⟩ dX12_layWeathers_36
    · refine lv_iconst (v := 1) hx hb dX12_layWeathers_18 (by decide) ?_
      refine lv_goto (tgt := 23) hx hb dX12_layWeathers_19 (by decide) ?_
      refine lv_iload_n hx hb dX12_layWeathers_23 rfl (lv_at hl 2 rfl) ?_
      refine q_calli (q := (RX12, TX12, 40)) (As := [.int vs, .int 1, .int vn]) (rest := []) X (m_asksSeen l D cs ad hj g vs 1 vn h197 h198) (cwV 3 X.2.2.2.2.1 gg_X12_layWeathers_X12_asksSeen rfl rfl rfl (by decide +kernel) ⟨Nat.le_of_ble_eq_true rfl, Nat.le_of_ble_eq_true rfl⟩) (by decide) h197 rfl hP hA hS rfl hl.1 rfl (Nat.le_of_ble_eq_true rfl) dX12_layWeathers_24 ⟨Nat.le_of_ble_eq_true rfl, Nat.le_of_ble_eq_true rfl⟩ (fun r_12 g_11 H locs hw_10 hP hS => ?_)
      obtain ⟨hw_10a, hw_10b⟩ := hw_10
      subst hw_10a
      rw [hw_10b] at hP
      refine lv_istore (lv' := [(4, .int (-2)), (0, .ref (ad 197)), (1, .int vs), (2, .int vn), (3, .int vo)]) hx hb dX12_layWeathers_27 hl (by decide) rfl (fun ls hl => ?_)
      refine lv_iload hx hb dX12_layWeathers_29 (lv_at hl 0 rfl) ?_
      refine lv_if_ge (tgt := 37) hx hb dX12_layWeathers_31 (by decide) (fun h => absurd h (by decide)) (fun _ => ?_)
      refine lv_iload hx hb dX12_layWeathers_34 (lv_at hl 0 rfl) ?_
      exact q_iret X hP hS ⟨rfl, rfl⟩ dX12_layWeathers_36

theorem dX12_layWalks_0 : decode cX12_layWalks 0 = .ok (.aload_n 0, 1) := by decide +kernel
theorem dX12_layWalks_1 : decode cX12_layWalks 1 = .ok (.getfield 9, 3) := by decide +kernel
theorem dX12_layWalks_4 : decode cX12_layWalks 4 = .ok (.iconst 4, 1) := by decide +kernel
theorem dX12_layWalks_5 : decode cX12_layWalks 5 = .ok (.iaload, 1) := by decide +kernel
theorem dX12_layWalks_6 : decode cX12_layWalks 6 = .ok (.ifCond .eq 12, 3) := by decide +kernel
theorem dX12_layWalks_18 : decode cX12_layWalks 18 = .ok (.iconst 0, 1) := by decide +kernel
theorem dX12_layWalks_19 : decode cX12_layWalks 19 = .ok (.ireturn, 1) := by decide +kernel
def vX12_layWalks : List Cond := .code yX12_layWalks cX12_layWalks 4 (some .boolean) :: ([.fieldLink RX12 9 "IcicleClockModel" "world" "[I"] ++ wsX120)
theorem iX12_layWalks_12 : ∀ w ∈ wsX120, w ∈ vX12_layWalks := fun _ h => List.mem_cons_of_mem _ (List.mem_append_right _ h)
set_option maxHeartbeats 4000000 in
set_option maxRecDepth 100000 in
theorem m_layWalks (l : Launch) (D : va_G) (cs : Nat → ClassId) (ad : Nat → Nat) (hj : wJ ad nW) (g : Nat → va_E) (h197 : g 197 = .inr (12, [.int 0, .ref (ad 198), .ref (ad 199), .ref (ad 200), .ref (ad 201), .int 0, .ref (ad 202), .int 0, .int 0, .int 0, .int 0, .int 0, .int 0, .int (-1), .ref (ad 203), .ref (ad 204), .ref (ad 205), .int 0, .int 0, .ref (ad 206), .ref (ad 207), .ref (ad 208), .int 0, .int 0, .int 0, .int 0, .int 0, .ref (ad 209), .ref (ad 210), .ref (ad 211), .long 0, .long 0, .ref (ad 212), .ref (ad 213), .int 0, .int 0, .ref (ad 214), .ref (ad 215), .ref (ad 216), .ref (ad 217)])) (h198 : g 198 = .inl (cs 1, 118, .inl (fun _ => 0))) : cI l yX12_layWalks vX12_layWalks { frames := 0, cells := 0, slots := 0, locals := 0 } D cs ad nW [.ref (ad 197)] g (fun r g2 => r = 0 ∧ g2 = g) := by
  refine Met.start (cc := cX12_layWalks) (maxL := 4) (ret := (some .boolean)) RX12 rfl (by decide) rfl (Nat.le_of_ble_eq_true rfl) ?_
  intro p e s m below meth c ls X hP hl
  have hx := X.1
  have hb := X.2.1
  have hS : va_S (wA ad nW) s.heap s.heap [] := va_S.rf
  have hA : ∀ i, i < nW → wA ad nW (ad i) := fun i h => ⟨i, h, rfl⟩
  have hl : lv_has ls 4 [(0, .ref (ad 197))] := hl
  refine lv_aload_n hx hb dX12_layWalks_0 rfl (lv_at hl 0 rfl) ?_
  refine q_get X iX12_layWalks_12 hP (by decide) h197 rfl 1 (by decide) (List.mem_of_getElem? (i := 1) rfl) (v := .ref (ad 198)) rfl dX12_layWalks_1 ?_
  refine lv_iconst (v := 4) hx hb dX12_layWalks_4 (by decide) ?_
  refine q_iald X hP (by decide) h198 (by unfold vp_in; decide) dX12_layWalks_5 ?_
  refine lv_if_eq (tgt := 18) hx hb dX12_layWalks_6 (by decide) (fun _ => ?_) (fun h => absurd h (by decide))
  refine lv_iconst (v := 0) hx hb dX12_layWalks_18 (by decide) ?_
  exact q_zret X hP hS rfl ⟨rfl, rfl⟩ dX12_layWalks_19

theorem dX12_slams_0 : decode cX12_slams 0 = .ok (.aload_n 0, 1) := by decide +kernel
theorem dX12_slams_1 : decode cX12_slams 1 = .ok (.iload_n 1, 1) := by decide +kernel
theorem dX12_slams_2 : decode cX12_slams 2 = .ok (.invokevirtual 326, 3) := by decide +kernel
theorem dX12_slams_5 : decode cX12_slams 5 = .ok (.istore_n 2, 1) := by decide +kernel
theorem dX12_slams_6 : decode cX12_slams 6 = .ok (.iload_n 2, 1) := by decide +kernel
theorem dX12_slams_7 : decode cX12_slams 7 = .ok (.ifCond .ge 7, 3) := by decide +kernel
theorem dX12_slams_10 : decode cX12_slams 10 = .ok (.iload_n 2, 1) := by decide +kernel
theorem dX12_slams_11 : decode cX12_slams 11 = .ok (.goto 7, 3) := by decide +kernel
theorem dX12_slams_18 : decode cX12_slams 18 = .ok (.ireturn, 1) := by decide +kernel
def vX12_slams : List Cond := .code yX12_slams cX12_slams 3 (some .int) :: ([.methodLink RX12 326 yX12_laySlams, .instanceMethod yX12_laySlams, .selects RX12 yX12_laySlams yX12_laySlams, .initialized RX12, .code yX12_laySlams cX12_laySlams 6 (some .int), .fieldLink RX12 9 "IcicleClockModel" "world" "[I", .methodLink RX12 316 yX12_asksSeen, .instanceMethod yX12_asksSeen, .selects RX12 yX12_asksSeen yX12_asksSeen, .code yX12_asksSeen cX12_asksSeen 5 (some .int), .methodLink RX12 307 yX12_isSlot, .static yX12_isSlot, .code yX12_isSlot cX12_isSlot 1 (some .boolean), .constantLong RX12 431 (3), .methodLink RX12 82 yX12_in, .static yX12_in, .code yX12_in cX12_in 6 (some .boolean), .methodLink RX12 261 yX12_isStreet, .instanceMethod yX12_isStreet, .selects RX12 yX12_isStreet yX12_isStreet, .code yX12_isStreet cX12_isStreet 1 (some .boolean)] ++ wsX120)
theorem iX12_slams_12 : ∀ w ∈ wsX120, w ∈ vX12_slams := fun _ h => List.mem_cons_of_mem _ (List.mem_append_right _ h)
set_option maxRecDepth 20000 in
theorem gg_X12_slams_X12_laySlams : GoodIn vX12_slams (wsV RX12 326 RX12 yX12_laySlams vX12_laySlams) := goodIn_r _ [1, 2, 3, 4, 5, 6, 7, 8, 9, 4, 10, 11, 12, 13, 14, 15, 16, 17, 18, 19, 20, 21, 22, 23, 24, 25, 26, 27, 28, 29, 30, 31, 32, 33, 34, 35, 36, 37, 38, 39, 40, 41, 42, 43, 44, 45, 46, 47, 48, 49, 50, 51, 52, 53, 54, 55, 56, 57, 58, 59, 60, 61] (by decide +kernel) (by decide +kernel)
set_option maxHeartbeats 4000000 in
set_option maxRecDepth 100000 in
theorem m_slams (l : Launch) (D : va_G) (cs : Nat → ClassId) (ad : Nat → Nat) (hj : wJ ad nW) (g : Nat → va_E) (vs : Int32) (h197 : g 197 = .inr (12, [.int 0, .ref (ad 198), .ref (ad 199), .ref (ad 200), .ref (ad 201), .int 0, .ref (ad 202), .int 0, .int 0, .int 0, .int 0, .int 0, .int 0, .int (-1), .ref (ad 203), .ref (ad 204), .ref (ad 205), .int 0, .int 0, .ref (ad 206), .ref (ad 207), .ref (ad 208), .int 0, .int 0, .int 0, .int 0, .int 0, .ref (ad 209), .ref (ad 210), .ref (ad 211), .long 0, .long 0, .ref (ad 212), .ref (ad 213), .int 0, .int 0, .ref (ad 214), .ref (ad 215), .ref (ad 216), .ref (ad 217)])) (h198 : g 198 = .inl (cs 1, 118, .inl (fun _ => 0))) : cI l yX12_slams vX12_slams { frames := 4, cells := 0, slots := 0, locals := 94 } D cs ad nW [.ref (ad 197), .int vs] g (fun r g2 => r = (-2) ∧ g2 = g) := by
  refine Met.start (cc := cX12_slams) (maxL := 3) (ret := (some .int)) RX12 rfl (by decide) rfl (Nat.le_of_ble_eq_true rfl) ?_
  intro p e s m below meth c ls X hP hl
  have hx := X.1
  have hb := X.2.1
  have hS : va_S (wA ad nW) s.heap s.heap [] := va_S.rf
  have hA : ∀ i, i < nW → wA ad nW (ad i) := fun i h => ⟨i, h, rfl⟩
  have hl : lv_has ls 3 [(0, .ref (ad 197)), (1, .int vs)] := hl
  refine lv_aload_n hx hb dX12_slams_0 rfl (lv_at hl 0 rfl) ?_
  refine lv_iload_n hx hb dX12_slams_1 rfl (lv_at hl 1 rfl) ?_
  refine q_calli (q := (RX12, TX12, 40)) (As := [.int vs]) (rest := []) X (m_laySlams l D cs ad hj g vs h197 h198) (cwV 1 X.2.2.2.2.1 gg_X12_slams_X12_laySlams rfl rfl rfl (by decide +kernel) ⟨Nat.le_of_ble_eq_true rfl, Nat.le_of_ble_eq_true rfl⟩) (by decide) h197 rfl hP hA hS rfl hl.1 rfl (Nat.le_of_ble_eq_true rfl) dX12_slams_2 ⟨Nat.le_of_ble_eq_true rfl, Nat.le_of_ble_eq_true rfl⟩ (fun r_3 g_2 H locs hw_1 hP hS => ?_)
  obtain ⟨hw_1a, hw_1b⟩ := hw_1
  subst hw_1a
  rw [hw_1b] at hP
  refine lv_istore_n (lv' := [(2, .int (-2)), (0, .ref (ad 197)), (1, .int vs)]) hx hb dX12_slams_5 rfl hl (by decide) rfl (fun ls hl => ?_)
  refine lv_iload_n hx hb dX12_slams_6 rfl (lv_at hl 0 rfl) ?_
  refine lv_if_ge (tgt := 14) hx hb dX12_slams_7 (by decide) (fun h => absurd h (by decide)) (fun _ => ?_)
  refine lv_iload_n hx hb dX12_slams_10 rfl (lv_at hl 0 rfl) ?_
  refine lv_goto (tgt := 18) hx hb dX12_slams_11 (by decide) ?_
  exact q_iret X hP hS ⟨rfl, rfl⟩ dX12_slams_18

theorem dX12_slam_0 : decode cX12_slam 0 = .ok (.aload_n 0, 1) := by decide +kernel
theorem dX12_slam_1 : decode cX12_slam 1 = .ok (.iload_n 1, 1) := by decide +kernel
theorem dX12_slam_2 : decode cX12_slam 2 = .ok (.invokevirtual 326, 3) := by decide +kernel
theorem dX12_slam_5 : decode cX12_slam 5 = .ok (.istore_n 2, 1) := by decide +kernel
theorem dX12_slam_6 : decode cX12_slam 6 = .ok (.iload_n 2, 1) := by decide +kernel
theorem dX12_slam_7 : decode cX12_slam 7 = .ok (.ifCond .ge 5, 3) := by decide +kernel
theorem dX12_slam_10 : decode cX12_slam 10 = .ok (.iload_n 2, 1) := by decide +kernel
theorem dX12_slam_11 : decode cX12_slam 11 = .ok (.ireturn, 1) := by decide +kernel
def vX12_slam : List Cond := .code yX12_slam cX12_slam 3 (some .int) :: ([.methodLink RX12 326 yX12_laySlams, .instanceMethod yX12_laySlams, .selects RX12 yX12_laySlams yX12_laySlams, .initialized RX12, .code yX12_laySlams cX12_laySlams 6 (some .int), .fieldLink RX12 9 "IcicleClockModel" "world" "[I", .methodLink RX12 316 yX12_asksSeen, .instanceMethod yX12_asksSeen, .selects RX12 yX12_asksSeen yX12_asksSeen, .code yX12_asksSeen cX12_asksSeen 5 (some .int), .methodLink RX12 307 yX12_isSlot, .static yX12_isSlot, .code yX12_isSlot cX12_isSlot 1 (some .boolean), .constantLong RX12 431 (3), .methodLink RX12 82 yX12_in, .static yX12_in, .code yX12_in cX12_in 6 (some .boolean), .methodLink RX12 261 yX12_isStreet, .instanceMethod yX12_isStreet, .selects RX12 yX12_isStreet yX12_isStreet, .code yX12_isStreet cX12_isStreet 1 (some .boolean)] ++ wsX120)
theorem iX12_slam_12 : ∀ w ∈ wsX120, w ∈ vX12_slam := fun _ h => List.mem_cons_of_mem _ (List.mem_append_right _ h)
set_option maxRecDepth 20000 in
theorem gg_X12_slam_X12_laySlams : GoodIn vX12_slam (wsV RX12 326 RX12 yX12_laySlams vX12_laySlams) := goodIn_r _ [1, 2, 3, 4, 5, 6, 7, 8, 9, 4, 10, 11, 12, 13, 14, 15, 16, 17, 18, 19, 20, 21, 22, 23, 24, 25, 26, 27, 28, 29, 30, 31, 32, 33, 34, 35, 36, 37, 38, 39, 40, 41, 42, 43, 44, 45, 46, 47, 48, 49, 50, 51, 52, 53, 54, 55, 56, 57, 58, 59, 60, 61] (by decide +kernel) (by decide +kernel)
set_option maxHeartbeats 4000000 in
set_option maxRecDepth 100000 in
theorem m_slam (l : Launch) (D : va_G) (cs : Nat → ClassId) (ad : Nat → Nat) (hj : wJ ad nW) (g : Nat → va_E) (vs : Int32) (h197 : g 197 = .inr (12, [.int 0, .ref (ad 198), .ref (ad 199), .ref (ad 200), .ref (ad 201), .int 0, .ref (ad 202), .int 0, .int 0, .int 0, .int 0, .int 0, .int 0, .int (-1), .ref (ad 203), .ref (ad 204), .ref (ad 205), .int 0, .int 0, .ref (ad 206), .ref (ad 207), .ref (ad 208), .int 0, .int 0, .int 0, .int 0, .int 0, .ref (ad 209), .ref (ad 210), .ref (ad 211), .long 0, .long 0, .ref (ad 212), .ref (ad 213), .int 0, .int 0, .ref (ad 214), .ref (ad 215), .ref (ad 216), .ref (ad 217)])) (h198 : g 198 = .inl (cs 1, 118, .inl (fun _ => 0))) : cI l yX12_slam vX12_slam { frames := 4, cells := 0, slots := 0, locals := 94 } D cs ad nW [.ref (ad 197), .int vs] g (fun r g2 => r = (-2) ∧ g2 = g) := by
  refine Met.start (cc := cX12_slam) (maxL := 3) (ret := (some .int)) RX12 rfl (by decide) rfl (Nat.le_of_ble_eq_true rfl) ?_
  intro p e s m below meth c ls X hP hl
  have hx := X.1
  have hb := X.2.1
  have hS : va_S (wA ad nW) s.heap s.heap [] := va_S.rf
  have hA : ∀ i, i < nW → wA ad nW (ad i) := fun i h => ⟨i, h, rfl⟩
  have hl : lv_has ls 3 [(0, .ref (ad 197)), (1, .int vs)] := hl
  refine lv_aload_n hx hb dX12_slam_0 rfl (lv_at hl 0 rfl) ?_
  refine lv_iload_n hx hb dX12_slam_1 rfl (lv_at hl 1 rfl) ?_
  refine q_calli (q := (RX12, TX12, 40)) (As := [.int vs]) (rest := []) X (m_laySlams l D cs ad hj g vs h197 h198) (cwV 1 X.2.2.2.2.1 gg_X12_slam_X12_laySlams rfl rfl rfl (by decide +kernel) ⟨Nat.le_of_ble_eq_true rfl, Nat.le_of_ble_eq_true rfl⟩) (by decide) h197 rfl hP hA hS rfl hl.1 rfl (Nat.le_of_ble_eq_true rfl) dX12_slam_2 ⟨Nat.le_of_ble_eq_true rfl, Nat.le_of_ble_eq_true rfl⟩ (fun r_3 g_2 H locs hw_1 hP hS => ?_)
  obtain ⟨hw_1a, hw_1b⟩ := hw_1
  subst hw_1a
  rw [hw_1b] at hP
  refine lv_istore_n (lv' := [(2, .int (-2)), (0, .ref (ad 197)), (1, .int vs)]) hx hb dX12_slam_5 rfl hl (by decide) rfl (fun ls hl => ?_)
  refine lv_iload_n hx hb dX12_slam_6 rfl (lv_at hl 0 rfl) ?_
  refine lv_if_ge (tgt := 12) hx hb dX12_slam_7 (by decide) (fun h => absurd h (by decide)) (fun _ => ?_)
  refine lv_iload_n hx hb dX12_slam_10 rfl (lv_at hl 0 rfl) ?_
  exact q_iret X hP hS ⟨rfl, rfl⟩ dX12_slam_11

theorem dX12_calm_0 : decode cX12_calm 0 = .ok (.aload_n 0, 1) := by decide +kernel
theorem dX12_calm_1 : decode cX12_calm 1 = .ok (.iload_n 1, 1) := by decide +kernel
theorem dX12_calm_2 : decode cX12_calm 2 = .ok (.iconst 1, 1) := by decide +kernel
theorem dX12_calm_3 : decode cX12_calm 3 = .ok (.aload_n 0, 1) := by decide +kernel
theorem dX12_calm_4 : decode cX12_calm 4 = .ok (.getfield 9, 3) := by decide +kernel
theorem dX12_calm_7 : decode cX12_calm 7 = .ok (.iconst 3, 1) := by decide +kernel
theorem dX12_calm_8 : decode cX12_calm 8 = .ok (.iaload, 1) := by decide +kernel
theorem dX12_calm_9 : decode cX12_calm 9 = .ok (.invokevirtual 316, 3) := by decide +kernel
theorem dX12_calm_12 : decode cX12_calm 12 = .ok (.istore_n 2, 1) := by decide +kernel
theorem dX12_calm_13 : decode cX12_calm 13 = .ok (.iload_n 2, 1) := by decide +kernel
theorem dX12_calm_14 : decode cX12_calm 14 = .ok (.ifCond .ge 5, 3) := by decide +kernel
theorem dX12_calm_17 : decode cX12_calm 17 = .ok (.iload_n 2, 1) := by decide +kernel
theorem dX12_calm_18 : decode cX12_calm 18 = .ok (.ireturn, 1) := by decide +kernel
def vX12_calm : List Cond := .code yX12_calm cX12_calm 3 (some .int) :: ([.fieldLink RX12 9 "IcicleClockModel" "world" "[I", .methodLink RX12 316 yX12_asksSeen, .instanceMethod yX12_asksSeen, .selects RX12 yX12_asksSeen yX12_asksSeen, .initialized RX12, .code yX12_asksSeen cX12_asksSeen 5 (some .int), .methodLink RX12 307 yX12_isSlot, .static yX12_isSlot, .code yX12_isSlot cX12_isSlot 1 (some .boolean), .constantLong RX12 431 (3), .methodLink RX12 82 yX12_in, .static yX12_in, .code yX12_in cX12_in 6 (some .boolean), .methodLink RX12 261 yX12_isStreet, .instanceMethod yX12_isStreet, .selects RX12 yX12_isStreet yX12_isStreet, .code yX12_isStreet cX12_isStreet 1 (some .boolean)] ++ wsX120)
theorem iX12_calm_12 : ∀ w ∈ wsX120, w ∈ vX12_calm := fun _ h => List.mem_cons_of_mem _ (List.mem_append_right _ h)
set_option maxRecDepth 20000 in
theorem gg_X12_calm_X12_asksSeen : GoodIn vX12_calm (wsV RX12 316 RX12 yX12_asksSeen vX12_asksSeen) := goodIn_r _ [2, 3, 4, 5, 6, 7, 8, 5, 9, 10, 11, 12, 13, 14, 15, 16, 17, 1, 18, 19, 20, 21, 22, 23, 24, 25, 26, 27, 28, 29, 30, 31, 32, 33, 34, 35, 36, 37, 38, 39, 40, 41, 42, 43, 44, 45, 46, 47, 48, 49, 50, 51, 52, 53, 54, 55, 56, 57] (by decide +kernel) (by decide +kernel)
set_option maxHeartbeats 4000000 in
set_option maxRecDepth 100000 in
theorem m_calm (l : Launch) (D : va_G) (cs : Nat → ClassId) (ad : Nat → Nat) (hj : wJ ad nW) (g : Nat → va_E) (vs : Int32) (h197 : g 197 = .inr (12, [.int 0, .ref (ad 198), .ref (ad 199), .ref (ad 200), .ref (ad 201), .int 0, .ref (ad 202), .int 0, .int 0, .int 0, .int 0, .int 0, .int 0, .int (-1), .ref (ad 203), .ref (ad 204), .ref (ad 205), .int 0, .int 0, .ref (ad 206), .ref (ad 207), .ref (ad 208), .int 0, .int 0, .int 0, .int 0, .int 0, .ref (ad 209), .ref (ad 210), .ref (ad 211), .long 0, .long 0, .ref (ad 212), .ref (ad 213), .int 0, .int 0, .ref (ad 214), .ref (ad 215), .ref (ad 216), .ref (ad 217)])) (h198 : g 198 = .inl (cs 1, 118, .inl (fun _ => 0))) : cI l yX12_calm vX12_calm { frames := 3, cells := 0, slots := 0, locals := 69 } D cs ad nW [.ref (ad 197), .int vs] g (fun r g2 => r = (-2) ∧ g2 = g) := by
  refine Met.start (cc := cX12_calm) (maxL := 3) (ret := (some .int)) RX12 rfl (by decide) rfl (Nat.le_of_ble_eq_true rfl) ?_
  intro p e s m below meth c ls X hP hl
  have hx := X.1
  have hb := X.2.1
  have hS : va_S (wA ad nW) s.heap s.heap [] := va_S.rf
  have hA : ∀ i, i < nW → wA ad nW (ad i) := fun i h => ⟨i, h, rfl⟩
  have hl : lv_has ls 3 [(0, .ref (ad 197)), (1, .int vs)] := hl
  refine lv_aload_n hx hb dX12_calm_0 rfl (lv_at hl 0 rfl) ?_
  refine lv_iload_n hx hb dX12_calm_1 rfl (lv_at hl 1 rfl) ?_
  refine lv_iconst (v := 1) hx hb dX12_calm_2 (by decide) ?_
  refine lv_aload_n hx hb dX12_calm_3 rfl (lv_at hl 0 rfl) ?_
  refine q_get X iX12_calm_12 hP (by decide) h197 rfl 1 (by decide) (List.mem_of_getElem? (i := 1) rfl) (v := .ref (ad 198)) rfl dX12_calm_4 ?_
  refine lv_iconst (v := 3) hx hb dX12_calm_7 (by decide) ?_
  refine q_iald X hP (by decide) h198 (by unfold vp_in; decide) dX12_calm_8 ?_
  refine q_calli (q := (RX12, TX12, 40)) (As := [.int vs, .int 1, .int 0]) (rest := []) X (m_asksSeen l D cs ad hj g vs 1 0 h197 h198) (cwV 3 X.2.2.2.2.1 gg_X12_calm_X12_asksSeen rfl rfl rfl (by decide +kernel) ⟨Nat.le_of_ble_eq_true rfl, Nat.le_of_ble_eq_true rfl⟩) (by decide) h197 rfl hP hA hS rfl hl.1 rfl (Nat.le_of_ble_eq_true rfl) dX12_calm_9 ⟨Nat.le_of_ble_eq_true rfl, Nat.le_of_ble_eq_true rfl⟩ (fun r_3 g_2 H locs hw_1 hP hS => ?_)
  obtain ⟨hw_1a, hw_1b⟩ := hw_1
  subst hw_1a
  rw [hw_1b] at hP
  refine lv_istore_n (lv' := [(2, .int (-2)), (0, .ref (ad 197)), (1, .int vs)]) hx hb dX12_calm_12 rfl hl (by decide) rfl (fun ls hl => ?_)
  refine lv_iload_n hx hb dX12_calm_13 rfl (lv_at hl 0 rfl) ?_
  refine lv_if_ge (tgt := 19) hx hb dX12_calm_14 (by decide) (fun h => absurd h (by decide)) (fun _ => ?_)
  refine lv_iload_n hx hb dX12_calm_17 rfl (lv_at hl 0 rfl) ?_
  exact q_iret X hP hS ⟨rfl, rfl⟩ dX12_calm_18

theorem dX12_ask_0 : decode cX12_ask 0 = .ok (.aload_n 0, 1) := by decide +kernel
theorem dX12_ask_1 : decode cX12_ask 1 = .ok (.iload_n 1, 1) := by decide +kernel
theorem dX12_ask_2 : decode cX12_ask 2 = .ok (.invokevirtual 326, 3) := by decide +kernel
theorem dX12_ask_5 : decode cX12_ask 5 = .ok (.istore_n 2, 1) := by decide +kernel
theorem dX12_ask_6 : decode cX12_ask 6 = .ok (.iload_n 2, 1) := by decide +kernel
theorem dX12_ask_7 : decode cX12_ask 7 = .ok (.ifCond .ge 5, 3) := by decide +kernel
theorem dX12_ask_10 : decode cX12_ask 10 = .ok (.iload_n 2, 1) := by decide +kernel
theorem dX12_ask_11 : decode cX12_ask 11 = .ok (.ireturn, 1) := by decide +kernel
def vX12_ask : List Cond := .code yX12_ask cX12_ask 10 (some .int) :: ([.methodLink RX12 326 yX12_laySlams, .instanceMethod yX12_laySlams, .selects RX12 yX12_laySlams yX12_laySlams, .initialized RX12, .code yX12_laySlams cX12_laySlams 6 (some .int), .fieldLink RX12 9 "IcicleClockModel" "world" "[I", .methodLink RX12 316 yX12_asksSeen, .instanceMethod yX12_asksSeen, .selects RX12 yX12_asksSeen yX12_asksSeen, .code yX12_asksSeen cX12_asksSeen 5 (some .int), .methodLink RX12 307 yX12_isSlot, .static yX12_isSlot, .code yX12_isSlot cX12_isSlot 1 (some .boolean), .constantLong RX12 431 (3), .methodLink RX12 82 yX12_in, .static yX12_in, .code yX12_in cX12_in 6 (some .boolean), .methodLink RX12 261 yX12_isStreet, .instanceMethod yX12_isStreet, .selects RX12 yX12_isStreet yX12_isStreet, .code yX12_isStreet cX12_isStreet 1 (some .boolean)] ++ wsX120)
theorem iX12_ask_12 : ∀ w ∈ wsX120, w ∈ vX12_ask := fun _ h => List.mem_cons_of_mem _ (List.mem_append_right _ h)
set_option maxRecDepth 20000 in
theorem gg_X12_ask_X12_laySlams : GoodIn vX12_ask (wsV RX12 326 RX12 yX12_laySlams vX12_laySlams) := goodIn_r _ [1, 2, 3, 4, 5, 6, 7, 8, 9, 4, 10, 11, 12, 13, 14, 15, 16, 17, 18, 19, 20, 21, 22, 23, 24, 25, 26, 27, 28, 29, 30, 31, 32, 33, 34, 35, 36, 37, 38, 39, 40, 41, 42, 43, 44, 45, 46, 47, 48, 49, 50, 51, 52, 53, 54, 55, 56, 57, 58, 59, 60, 61] (by decide +kernel) (by decide +kernel)
set_option maxHeartbeats 4000000 in
set_option maxRecDepth 100000 in
theorem m_ask (l : Launch) (D : va_G) (cs : Nat → ClassId) (ad : Nat → Nat) (hj : wJ ad nW) (g : Nat → va_E) (vs : Int32) (h197 : g 197 = .inr (12, [.int 0, .ref (ad 198), .ref (ad 199), .ref (ad 200), .ref (ad 201), .int 0, .ref (ad 202), .int 0, .int 0, .int 0, .int 0, .int 0, .int 0, .int (-1), .ref (ad 203), .ref (ad 204), .ref (ad 205), .int 0, .int 0, .ref (ad 206), .ref (ad 207), .ref (ad 208), .int 0, .int 0, .int 0, .int 0, .int 0, .ref (ad 209), .ref (ad 210), .ref (ad 211), .long 0, .long 0, .ref (ad 212), .ref (ad 213), .int 0, .int 0, .ref (ad 214), .ref (ad 215), .ref (ad 216), .ref (ad 217)])) (h198 : g 198 = .inl (cs 1, 118, .inl (fun _ => 0))) : cI l yX12_ask vX12_ask { frames := 4, cells := 0, slots := 0, locals := 94 } D cs ad nW [.ref (ad 197), .int vs] g (fun r g2 => r = (-2) ∧ g2 = g) := by
  refine Met.start (cc := cX12_ask) (maxL := 10) (ret := (some .int)) RX12 rfl (by decide) rfl (Nat.le_of_ble_eq_true rfl) ?_
  intro p e s m below meth c ls X hP hl
  have hx := X.1
  have hb := X.2.1
  have hS : va_S (wA ad nW) s.heap s.heap [] := va_S.rf
  have hA : ∀ i, i < nW → wA ad nW (ad i) := fun i h => ⟨i, h, rfl⟩
  have hl : lv_has ls 10 [(0, .ref (ad 197)), (1, .int vs)] := hl
  refine lv_aload_n hx hb dX12_ask_0 rfl (lv_at hl 0 rfl) ?_
  refine lv_iload_n hx hb dX12_ask_1 rfl (lv_at hl 1 rfl) ?_
  refine q_calli (q := (RX12, TX12, 40)) (As := [.int vs]) (rest := []) X (m_laySlams l D cs ad hj g vs h197 h198) (cwV 1 X.2.2.2.2.1 gg_X12_ask_X12_laySlams rfl rfl rfl (by decide +kernel) ⟨Nat.le_of_ble_eq_true rfl, Nat.le_of_ble_eq_true rfl⟩) (by decide) h197 rfl hP hA hS rfl hl.1 rfl (Nat.le_of_ble_eq_true rfl) dX12_ask_2 ⟨Nat.le_of_ble_eq_true rfl, Nat.le_of_ble_eq_true rfl⟩ (fun r_3 g_2 H locs hw_1 hP hS => ?_)
  obtain ⟨hw_1a, hw_1b⟩ := hw_1
  subst hw_1a
  rw [hw_1b] at hP
  refine lv_istore_n (lv' := [(2, .int (-2)), (0, .ref (ad 197)), (1, .int vs)]) hx hb dX12_ask_5 rfl hl (by decide) rfl (fun ls hl => ?_)
  refine lv_iload_n hx hb dX12_ask_6 rfl (lv_at hl 0 rfl) ?_
  refine lv_if_ge (tgt := 12) hx hb dX12_ask_7 (by decide) (fun h => absurd h (by decide)) (fun _ => ?_)
  refine lv_iload_n hx hb dX12_ask_10 rfl (lv_at hl 0 rfl) ?_
  exact q_iret X hP hS ⟨rfl, rfl⟩ dX12_ask_11

theorem dX12_weathers_0 : decode cX12_weathers 0 = .ok (.aload_n 0, 1) := by decide +kernel
theorem dX12_weathers_1 : decode cX12_weathers 1 = .ok (.iload_n 1, 1) := by decide +kernel
theorem dX12_weathers_2 : decode cX12_weathers 2 = .ok (.iload_n 2, 1) := by decide +kernel
theorem dX12_weathers_3 : decode cX12_weathers 3 = .ok (.iconst 1, 1) := by decide +kernel
theorem dX12_weathers_4 : decode cX12_weathers 4 = .ok (.invokevirtual 346, 3) := by decide +kernel
theorem dX12_weathers_7 : decode cX12_weathers 7 = .ok (.istore_n 3, 1) := by decide +kernel
theorem dX12_weathers_8 : decode cX12_weathers 8 = .ok (.iload_n 3, 1) := by decide +kernel
theorem dX12_weathers_9 : decode cX12_weathers 9 = .ok (.ifCond .ge 7, 3) := by decide +kernel
theorem dX12_weathers_12 : decode cX12_weathers 12 = .ok (.iload_n 3, 1) := by decide +kernel
theorem dX12_weathers_13 : decode cX12_weathers 13 = .ok (.goto 7, 3) := by decide +kernel
theorem dX12_weathers_20 : decode cX12_weathers 20 = .ok (.ireturn, 1) := by decide +kernel
def vX12_weathers : List Cond := .code yX12_weathers cX12_weathers 4 (some .int) :: ([.methodLink RX12 346 yX12_layWeathers, .instanceMethod yX12_layWeathers, .selects RX12 yX12_layWeathers yX12_layWeathers, .initialized RX12, .code yX12_layWeathers cX12_layWeathers 9 (some .int), .constantLong RX12 329 (5), .methodLink RX12 82 yX12_in, .static yX12_in, .code yX12_in cX12_in 6 (some .boolean), .methodLink RX12 316 yX12_asksSeen, .instanceMethod yX12_asksSeen, .selects RX12 yX12_asksSeen yX12_asksSeen, .code yX12_asksSeen cX12_asksSeen 5 (some .int), .methodLink RX12 307 yX12_isSlot, .static yX12_isSlot, .code yX12_isSlot cX12_isSlot 1 (some .boolean), .constantLong RX12 431 (3), .methodLink RX12 261 yX12_isStreet, .instanceMethod yX12_isStreet, .selects RX12 yX12_isStreet yX12_isStreet, .code yX12_isStreet cX12_isStreet 1 (some .boolean), .fieldLink RX12 9 "IcicleClockModel" "world" "[I"] ++ wsX120)
theorem iX12_weathers_12 : ∀ w ∈ wsX120, w ∈ vX12_weathers := fun _ h => List.mem_cons_of_mem _ (List.mem_append_right _ h)
set_option maxRecDepth 20000 in
theorem gg_X12_weathers_X12_layWeathers : GoodIn vX12_weathers (wsV RX12 346 RX12 yX12_layWeathers vX12_layWeathers) := goodIn_r _ [1, 2, 3, 4, 5, 6, 7, 8, 4, 9, 10, 11, 12, 13, 14, 15, 16, 17, 18, 19, 20, 21, 22, 23, 24, 25, 26, 27, 28, 29, 30, 31, 32, 33, 34, 35, 36, 37, 38, 39, 40, 41, 42, 43, 44, 45, 46, 47, 48, 49, 50, 51, 52, 53, 54, 55, 56, 57, 58, 59, 60, 61, 62] (by decide +kernel) (by decide +kernel)
set_option maxHeartbeats 4000000 in
set_option maxRecDepth 100000 in
theorem m_weathers (l : Launch) (D : va_G) (cs : Nat → ClassId) (ad : Nat → Nat) (hj : wJ ad nW) (g : Nat → va_E) (vs : Int32) (vn : Int32) (h197 : g 197 = .inr (12, [.int 0, .ref (ad 198), .ref (ad 199), .ref (ad 200), .ref (ad 201), .int 0, .ref (ad 202), .int 0, .int 0, .int 0, .int 0, .int 0, .int 0, .int (-1), .ref (ad 203), .ref (ad 204), .ref (ad 205), .int 0, .int 0, .ref (ad 206), .ref (ad 207), .ref (ad 208), .int 0, .int 0, .int 0, .int 0, .int 0, .ref (ad 209), .ref (ad 210), .ref (ad 211), .long 0, .long 0, .ref (ad 212), .ref (ad 213), .int 0, .int 0, .ref (ad 214), .ref (ad 215), .ref (ad 216), .ref (ad 217)])) (h198 : g 198 = .inl (cs 1, 118, .inl (fun _ => 0))) : cI l yX12_weathers vX12_weathers { frames := 4, cells := 0, slots := 0, locals := 97 } D cs ad nW [.ref (ad 197), .int vs, .int vn] g (fun r g2 => r = (-2) ∧ g2 = g) := by
  refine Met.start (cc := cX12_weathers) (maxL := 4) (ret := (some .int)) RX12 rfl (by decide) rfl (Nat.le_of_ble_eq_true rfl) ?_
  intro p e s m below meth c ls X hP hl
  have hx := X.1
  have hb := X.2.1
  have hS : va_S (wA ad nW) s.heap s.heap [] := va_S.rf
  have hA : ∀ i, i < nW → wA ad nW (ad i) := fun i h => ⟨i, h, rfl⟩
  have hl : lv_has ls 4 [(0, .ref (ad 197)), (1, .int vs), (2, .int vn)] := hl
  refine lv_aload_n hx hb dX12_weathers_0 rfl (lv_at hl 0 rfl) ?_
  refine lv_iload_n hx hb dX12_weathers_1 rfl (lv_at hl 1 rfl) ?_
  refine lv_iload_n hx hb dX12_weathers_2 rfl (lv_at hl 2 rfl) ?_
  refine lv_iconst (v := 1) hx hb dX12_weathers_3 (by decide) ?_
  refine q_calli (q := (RX12, TX12, 40)) (As := [.int vs, .int vn, .int 1]) (rest := []) X (m_layWeathers l D cs ad hj g vs vn 1 h197 h198) (cwV 3 X.2.2.2.2.1 gg_X12_weathers_X12_layWeathers rfl rfl rfl (by decide +kernel) ⟨Nat.le_of_ble_eq_true rfl, Nat.le_of_ble_eq_true rfl⟩) (by decide) h197 rfl hP hA hS rfl hl.1 rfl (Nat.le_of_ble_eq_true rfl) dX12_weathers_4 ⟨Nat.le_of_ble_eq_true rfl, Nat.le_of_ble_eq_true rfl⟩ (fun r_3 g_2 H locs hw_1 hP hS => ?_)
  obtain ⟨hw_1a, hw_1b⟩ := hw_1
  subst hw_1a
  rw [hw_1b] at hP
  refine lv_istore_n (lv' := [(3, .int (-2)), (0, .ref (ad 197)), (1, .int vs), (2, .int vn)]) hx hb dX12_weathers_7 rfl hl (by decide) rfl (fun ls hl => ?_)
  refine lv_iload_n hx hb dX12_weathers_8 rfl (lv_at hl 0 rfl) ?_
  refine lv_if_ge (tgt := 16) hx hb dX12_weathers_9 (by decide) (fun h => absurd h (by decide)) (fun _ => ?_)
  refine lv_iload_n hx hb dX12_weathers_12 rfl (lv_at hl 0 rfl) ?_
  refine lv_goto (tgt := 20) hx hb dX12_weathers_13 (by decide) ?_
  exact q_iret X hP hS ⟨rfl, rfl⟩ dX12_weathers_20

theorem dX12_weather_0 : decode cX12_weather 0 = .ok (.aload_n 0, 1) := by decide +kernel
theorem dX12_weather_1 : decode cX12_weather 1 = .ok (.iload_n 1, 1) := by decide +kernel
theorem dX12_weather_2 : decode cX12_weather 2 = .ok (.iload_n 2, 1) := by decide +kernel
theorem dX12_weather_3 : decode cX12_weather 3 = .ok (.iload_n 3, 1) := by decide +kernel
theorem dX12_weather_4 : decode cX12_weather 4 = .ok (.i2l, 1) := by decide +kernel
theorem dX12_weather_5 : decode cX12_weather 5 = .ok (.lconst 0, 1) := by decide +kernel
theorem dX12_weather_6 : decode cX12_weather 6 = .ok (.iload_n 2, 1) := by decide +kernel
theorem dX12_weather_7 : decode cX12_weather 7 = .ok (.iconst 1, 1) := by decide +kernel
theorem dX12_weather_8 : decode cX12_weather 8 = .ok (.isub, 1) := by decide +kernel
theorem dX12_weather_9 : decode cX12_weather 9 = .ok (.i2l, 1) := by decide +kernel
theorem dX12_weather_10 : decode cX12_weather 10 = .ok (.invokestatic 82, 3) := by decide +kernel
theorem dX12_weather_13 : decode cX12_weather 13 = .ok (.invokevirtual 346, 3) := by decide +kernel
theorem dX12_weather_16 : decode cX12_weather 16 = .ok (.istore 4, 2) := by decide +kernel
theorem dX12_weather_18 : decode cX12_weather 18 = .ok (.iload 4, 2) := by decide +kernel
theorem dX12_weather_20 : decode cX12_weather 20 = .ok (.ifCond .ge 6, 3) := by decide +kernel
theorem dX12_weather_23 : decode cX12_weather 23 = .ok (.iload 4, 2) := by decide +kernel
theorem dX12_weather_25 : decode cX12_weather 25 = .ok (.ireturn, 1) := by decide +kernel
def vX12_weather : List Cond := .code yX12_weather cX12_weather 5 (some .int) :: ([.methodLink RX12 82 yX12_in, .static yX12_in, .initialized RX12, .code yX12_in cX12_in 6 (some .boolean), .methodLink RX12 346 yX12_layWeathers, .instanceMethod yX12_layWeathers, .selects RX12 yX12_layWeathers yX12_layWeathers, .code yX12_layWeathers cX12_layWeathers 9 (some .int), .constantLong RX12 329 (5), .methodLink RX12 316 yX12_asksSeen, .instanceMethod yX12_asksSeen, .selects RX12 yX12_asksSeen yX12_asksSeen, .code yX12_asksSeen cX12_asksSeen 5 (some .int), .methodLink RX12 307 yX12_isSlot, .static yX12_isSlot, .code yX12_isSlot cX12_isSlot 1 (some .boolean), .constantLong RX12 431 (3), .methodLink RX12 261 yX12_isStreet, .instanceMethod yX12_isStreet, .selects RX12 yX12_isStreet yX12_isStreet, .code yX12_isStreet cX12_isStreet 1 (some .boolean), .fieldLink RX12 9 "IcicleClockModel" "world" "[I"] ++ wsX120)
theorem iX12_weather_12 : ∀ w ∈ wsX120, w ∈ vX12_weather := fun _ h => List.mem_cons_of_mem _ (List.mem_append_right _ h)
set_option maxRecDepth 20000 in
theorem gg_X12_weather_X12_in : GoodIn vX12_weather (wsS RX12 82 yX12_in vX12_in) := goodIn_r _ [1, 2, 3, 4] (by decide +kernel) (by decide +kernel)
set_option maxRecDepth 20000 in
theorem gg_X12_weather_X12_layWeathers : GoodIn vX12_weather (wsV RX12 346 RX12 yX12_layWeathers vX12_layWeathers) := goodIn_r _ [5, 6, 7, 3, 8, 9, 1, 2, 3, 4, 10, 11, 12, 13, 14, 15, 16, 17, 18, 19, 20, 21, 22, 23, 24, 25, 26, 27, 28, 29, 30, 31, 32, 33, 34, 35, 36, 37, 38, 39, 40, 41, 42, 43, 44, 45, 46, 47, 48, 49, 50, 51, 52, 53, 54, 55, 56, 57, 58, 59, 60, 61, 62] (by decide +kernel) (by decide +kernel)
set_option maxHeartbeats 4000000 in
set_option maxRecDepth 100000 in
theorem m_weather (l : Launch) (D : va_G) (cs : Nat → ClassId) (ad : Nat → Nat) (hj : wJ ad nW) (g : Nat → va_E) (vs : Int32) (vn : Int32) (vd : Int32) (h197 : g 197 = .inr (12, [.int 0, .ref (ad 198), .ref (ad 199), .ref (ad 200), .ref (ad 201), .int 0, .ref (ad 202), .int 0, .int 0, .int 0, .int 0, .int 0, .int 0, .int (-1), .ref (ad 203), .ref (ad 204), .ref (ad 205), .int 0, .int 0, .ref (ad 206), .ref (ad 207), .ref (ad 208), .int 0, .int 0, .int 0, .int 0, .int 0, .ref (ad 209), .ref (ad 210), .ref (ad 211), .long 0, .long 0, .ref (ad 212), .ref (ad 213), .int 0, .int 0, .ref (ad 214), .ref (ad 215), .ref (ad 216), .ref (ad 217)])) (h198 : g 198 = .inl (cs 1, 118, .inl (fun _ => 0))) : cI l yX12_weather vX12_weather { frames := 4, cells := 0, slots := 0, locals := 97 } D cs ad nW [.ref (ad 197), .int vs, .int vn, .int vd] g (fun r g2 => r = (-2) ∧ g2 = g) := by
  refine Met.start (cc := cX12_weather) (maxL := 5) (ret := (some .int)) RX12 rfl (by decide) rfl (Nat.le_of_ble_eq_true rfl) ?_
  intro p e s m below meth c ls X hP hl
  have hx := X.1
  have hb := X.2.1
  have hS : va_S (wA ad nW) s.heap s.heap [] := va_S.rf
  have hA : ∀ i, i < nW → wA ad nW (ad i) := fun i h => ⟨i, h, rfl⟩
  have hl : lv_has ls 5 [(0, .ref (ad 197)), (1, .int vs), (2, .int vn), (3, .int vd)] := hl
  refine lv_aload_n hx hb dX12_weather_0 rfl (lv_at hl 0 rfl) ?_
  refine lv_iload_n hx hb dX12_weather_1 rfl (lv_at hl 1 rfl) ?_
  refine lv_iload_n hx hb dX12_weather_2 rfl (lv_at hl 2 rfl) ?_
  refine lv_iload_n hx hb dX12_weather_3 rfl (lv_at hl 3 rfl) ?_
  refine lv_i2l (v := vd.toInt64) hx hb dX12_weather_4 rfl ?_
  refine lv_lconst (v := 0) hx hb dX12_weather_5 (by decide) ?_
  refine lv_iload_n hx hb dX12_weather_6 rfl (lv_at hl 2 rfl) ?_
  refine lv_iconst (v := 1) hx hb dX12_weather_7 (by decide) ?_
  refine lv_isub hx hb dX12_weather_8 ?_
  refine lv_topi (fun z_1 ez_1 => ?_)
  refine lv_i2l (v := z_1.toInt64) hx hb dX12_weather_9 rfl ?_
  refine q_callSi (As := [.long (vd.toInt64), .long 0, .long (z_1.toInt64)]) (rest := [.int vn, .int vs, .ref (ad 197)]) X (m_in l D cs ad hj g (vd.toInt64) 0 (z_1.toInt64) ) (cwS 3 X.2.2.2.2.1 gg_X12_weather_X12_in rfl rfl rfl (by decide +kernel) ⟨Nat.le_of_ble_eq_true rfl, Nat.le_of_ble_eq_true rfl⟩) hP hA hS rfl hl.1 rfl (Nat.le_of_ble_eq_true rfl) dX12_weather_10 ⟨Nat.le_of_ble_eq_true rfl, Nat.le_of_ble_eq_true rfl⟩ (fun r_4 g_3 H locs hw_2 hP hS => ?_)
  obtain ⟨hw_2b, hw_2⟩ := hw_2
  rw [hw_2b] at hP
  refine q_calli (q := (RX12, TX12, 40)) (As := [.int vs, .int vn, .int r_4]) (rest := []) X (m_layWeathers l D cs ad hj g vs vn r_4 h197 h198) (cwV 3 X.2.2.2.2.1 gg_X12_weather_X12_layWeathers rfl rfl rfl (by decide +kernel) ⟨Nat.le_of_ble_eq_true rfl, Nat.le_of_ble_eq_true rfl⟩) (by decide) h197 rfl hP hA hS rfl hl.1 rfl (Nat.le_of_ble_eq_true rfl) dX12_weather_13 ⟨Nat.le_of_ble_eq_true rfl, Nat.le_of_ble_eq_true rfl⟩ (fun r_7 g_6 H locs hw_5 hP hS => ?_)
  obtain ⟨hw_5a, hw_5b⟩ := hw_5
  subst hw_5a
  rw [hw_5b] at hP
  refine lv_istore (lv' := [(4, .int (-2)), (0, .ref (ad 197)), (1, .int vs), (2, .int vn), (3, .int vd)]) hx hb dX12_weather_16 hl (by decide) rfl (fun ls hl => ?_)
  refine lv_iload hx hb dX12_weather_18 (lv_at hl 0 rfl) ?_
  refine lv_if_ge (tgt := 26) hx hb dX12_weather_20 (by decide) (fun h => absurd h (by decide)) (fun _ => ?_)
  refine lv_iload hx hb dX12_weather_23 (lv_at hl 0 rfl) ?_
  exact q_iret X hP hS ⟨rfl, rfl⟩ dX12_weather_25

theorem dX12_warmth_0 : decode cX12_warmth 0 = .ok (.aload_n 0, 1) := by decide +kernel
theorem dX12_warmth_1 : decode cX12_warmth 1 = .ok (.iload_n 1, 1) := by decide +kernel
theorem dX12_warmth_2 : decode cX12_warmth 2 = .ok (.iload_n 2, 1) := by decide +kernel
theorem dX12_warmth_3 : decode cX12_warmth 3 = .ok (.iload_n 3, 1) := by decide +kernel
theorem dX12_warmth_4 : decode cX12_warmth 4 = .ok (.i2l, 1) := by decide +kernel
theorem dX12_warmth_5 : decode cX12_warmth 5 = .ok (.lconst 0, 1) := by decide +kernel
theorem dX12_warmth_6 : decode cX12_warmth 6 = .ok (.lconst 1, 1) := by decide +kernel
theorem dX12_warmth_7 : decode cX12_warmth 7 = .ok (.invokestatic 82, 3) := by decide +kernel
theorem dX12_warmth_10 : decode cX12_warmth 10 = .ok (.invokevirtual 346, 3) := by decide +kernel
theorem dX12_warmth_13 : decode cX12_warmth 13 = .ok (.istore 4, 2) := by decide +kernel
theorem dX12_warmth_15 : decode cX12_warmth 15 = .ok (.iload 4, 2) := by decide +kernel
theorem dX12_warmth_17 : decode cX12_warmth 17 = .ok (.ifCond .ge 6, 3) := by decide +kernel
theorem dX12_warmth_20 : decode cX12_warmth 20 = .ok (.iload 4, 2) := by decide +kernel
theorem dX12_warmth_22 : decode cX12_warmth 22 = .ok (.ireturn, 1) := by decide +kernel
def vX12_warmth : List Cond := .code yX12_warmth cX12_warmth 5 (some .int) :: ([.methodLink RX12 82 yX12_in, .static yX12_in, .initialized RX12, .code yX12_in cX12_in 6 (some .boolean), .methodLink RX12 346 yX12_layWeathers, .instanceMethod yX12_layWeathers, .selects RX12 yX12_layWeathers yX12_layWeathers, .code yX12_layWeathers cX12_layWeathers 9 (some .int), .constantLong RX12 329 (5), .methodLink RX12 316 yX12_asksSeen, .instanceMethod yX12_asksSeen, .selects RX12 yX12_asksSeen yX12_asksSeen, .code yX12_asksSeen cX12_asksSeen 5 (some .int), .methodLink RX12 307 yX12_isSlot, .static yX12_isSlot, .code yX12_isSlot cX12_isSlot 1 (some .boolean), .constantLong RX12 431 (3), .methodLink RX12 261 yX12_isStreet, .instanceMethod yX12_isStreet, .selects RX12 yX12_isStreet yX12_isStreet, .code yX12_isStreet cX12_isStreet 1 (some .boolean), .fieldLink RX12 9 "IcicleClockModel" "world" "[I"] ++ wsX120)
theorem iX12_warmth_12 : ∀ w ∈ wsX120, w ∈ vX12_warmth := fun _ h => List.mem_cons_of_mem _ (List.mem_append_right _ h)
set_option maxRecDepth 20000 in
theorem gg_X12_warmth_X12_in : GoodIn vX12_warmth (wsS RX12 82 yX12_in vX12_in) := goodIn_r _ [1, 2, 3, 4] (by decide +kernel) (by decide +kernel)
set_option maxRecDepth 20000 in
theorem gg_X12_warmth_X12_layWeathers : GoodIn vX12_warmth (wsV RX12 346 RX12 yX12_layWeathers vX12_layWeathers) := goodIn_r _ [5, 6, 7, 3, 8, 9, 1, 2, 3, 4, 10, 11, 12, 13, 14, 15, 16, 17, 18, 19, 20, 21, 22, 23, 24, 25, 26, 27, 28, 29, 30, 31, 32, 33, 34, 35, 36, 37, 38, 39, 40, 41, 42, 43, 44, 45, 46, 47, 48, 49, 50, 51, 52, 53, 54, 55, 56, 57, 58, 59, 60, 61, 62] (by decide +kernel) (by decide +kernel)
set_option maxHeartbeats 4000000 in
set_option maxRecDepth 100000 in
theorem m_warmth (l : Launch) (D : va_G) (cs : Nat → ClassId) (ad : Nat → Nat) (hj : wJ ad nW) (g : Nat → va_E) (vs : Int32) (vn : Int32) (vw : Int32) (h197 : g 197 = .inr (12, [.int 0, .ref (ad 198), .ref (ad 199), .ref (ad 200), .ref (ad 201), .int 0, .ref (ad 202), .int 0, .int 0, .int 0, .int 0, .int 0, .int 0, .int (-1), .ref (ad 203), .ref (ad 204), .ref (ad 205), .int 0, .int 0, .ref (ad 206), .ref (ad 207), .ref (ad 208), .int 0, .int 0, .int 0, .int 0, .int 0, .ref (ad 209), .ref (ad 210), .ref (ad 211), .long 0, .long 0, .ref (ad 212), .ref (ad 213), .int 0, .int 0, .ref (ad 214), .ref (ad 215), .ref (ad 216), .ref (ad 217)])) (h198 : g 198 = .inl (cs 1, 118, .inl (fun _ => 0))) : cI l yX12_warmth vX12_warmth { frames := 4, cells := 0, slots := 0, locals := 97 } D cs ad nW [.ref (ad 197), .int vs, .int vn, .int vw] g (fun r g2 => r = (-2) ∧ g2 = g) := by
  refine Met.start (cc := cX12_warmth) (maxL := 5) (ret := (some .int)) RX12 rfl (by decide) rfl (Nat.le_of_ble_eq_true rfl) ?_
  intro p e s m below meth c ls X hP hl
  have hx := X.1
  have hb := X.2.1
  have hS : va_S (wA ad nW) s.heap s.heap [] := va_S.rf
  have hA : ∀ i, i < nW → wA ad nW (ad i) := fun i h => ⟨i, h, rfl⟩
  have hl : lv_has ls 5 [(0, .ref (ad 197)), (1, .int vs), (2, .int vn), (3, .int vw)] := hl
  refine lv_aload_n hx hb dX12_warmth_0 rfl (lv_at hl 0 rfl) ?_
  refine lv_iload_n hx hb dX12_warmth_1 rfl (lv_at hl 1 rfl) ?_
  refine lv_iload_n hx hb dX12_warmth_2 rfl (lv_at hl 2 rfl) ?_
  refine lv_iload_n hx hb dX12_warmth_3 rfl (lv_at hl 3 rfl) ?_
  refine lv_i2l (v := vw.toInt64) hx hb dX12_warmth_4 rfl ?_
  refine lv_lconst (v := 0) hx hb dX12_warmth_5 (by decide) ?_
  refine lv_lconst (v := 1) hx hb dX12_warmth_6 (by decide) ?_
  refine q_callSi (As := [.long (vw.toInt64), .long 0, .long 1]) (rest := [.int vn, .int vs, .ref (ad 197)]) X (m_in l D cs ad hj g (vw.toInt64) 0 1 ) (cwS 3 X.2.2.2.2.1 gg_X12_warmth_X12_in rfl rfl rfl (by decide +kernel) ⟨Nat.le_of_ble_eq_true rfl, Nat.le_of_ble_eq_true rfl⟩) hP hA hS rfl hl.1 rfl (Nat.le_of_ble_eq_true rfl) dX12_warmth_7 ⟨Nat.le_of_ble_eq_true rfl, Nat.le_of_ble_eq_true rfl⟩ (fun r_3 g_2 H locs hw_1 hP hS => ?_)
  obtain ⟨hw_1b, hw_1⟩ := hw_1
  rw [hw_1b] at hP
  refine q_calli (q := (RX12, TX12, 40)) (As := [.int vs, .int vn, .int r_3]) (rest := []) X (m_layWeathers l D cs ad hj g vs vn r_3 h197 h198) (cwV 3 X.2.2.2.2.1 gg_X12_warmth_X12_layWeathers rfl rfl rfl (by decide +kernel) ⟨Nat.le_of_ble_eq_true rfl, Nat.le_of_ble_eq_true rfl⟩) (by decide) h197 rfl hP hA hS rfl hl.1 rfl (Nat.le_of_ble_eq_true rfl) dX12_warmth_10 ⟨Nat.le_of_ble_eq_true rfl, Nat.le_of_ble_eq_true rfl⟩ (fun r_6 g_5 H locs hw_4 hP hS => ?_)
  obtain ⟨hw_4a, hw_4b⟩ := hw_4
  subst hw_4a
  rw [hw_4b] at hP
  refine lv_istore (lv' := [(4, .int (-2)), (0, .ref (ad 197)), (1, .int vs), (2, .int vn), (3, .int vw)]) hx hb dX12_warmth_13 hl (by decide) rfl (fun ls hl => ?_)
  refine lv_iload hx hb dX12_warmth_15 (lv_at hl 0 rfl) ?_
  refine lv_if_ge (tgt := 23) hx hb dX12_warmth_17 (by decide) (fun h => absurd h (by decide)) (fun _ => ?_)
  refine lv_iload hx hb dX12_warmth_20 (lv_at hl 0 rfl) ?_
  exact q_iret X hP hS ⟨rfl, rfl⟩ dX12_warmth_22

theorem dX12_chance_0 : decode cX12_chance 0 = .ok (.aload_n 0, 1) := by decide +kernel
theorem dX12_chance_1 : decode cX12_chance 1 = .ok (.iload_n 1, 1) := by decide +kernel
theorem dX12_chance_2 : decode cX12_chance 2 = .ok (.i2l, 1) := by decide +kernel
theorem dX12_chance_3 : decode cX12_chance 3 = .ok (.invokevirtual 221, 3) := by decide +kernel
theorem dX12_chance_6 : decode cX12_chance 6 = .ok (.ifCond .eq 21, 3) := by decide +kernel
theorem dX12_chance_27 : decode cX12_chance 27 = .ok (.ldc2_w 363, 3) := by decide +kernel
theorem dX12_chance_30 : decode cX12_chance 30 = .ok (.lreturn, 1) := by decide +kernel
def vX12_chance : List Cond := .code yX12_chance cX12_chance 4 (some .long) :: ([.methodLink RX12 221 yX12_isIcicle, .instanceMethod yX12_isIcicle, .selects RX12 yX12_isIcicle yX12_isIcicle, .initialized RX12, .code yX12_isIcicle cX12_isIcicle 3 (some .boolean), .fieldLink RX12 9 "IcicleClockModel" "world" "[I", .methodLink RX12 82 yX12_in, .static yX12_in, .code yX12_in cX12_in 6 (some .boolean), .constantLong RX12 363 (-2)] ++ wsX120)
theorem iX12_chance_12 : ∀ w ∈ wsX120, w ∈ vX12_chance := fun _ h => List.mem_cons_of_mem _ (List.mem_append_right _ h)
set_option maxRecDepth 20000 in
theorem gg_X12_chance_X12_isIcicle : GoodIn vX12_chance (wsV RX12 221 RX12 yX12_isIcicle vX12_isIcicle) := goodIn_r _ [1, 2, 3, 4, 5, 6, 7, 8, 4, 9, 11, 12, 13, 14, 15, 16, 17, 18, 19, 20, 21, 22, 23, 24, 25, 26, 27, 28, 29, 30, 31, 32, 33, 34, 35, 36, 37, 38, 39, 40, 41, 42, 43, 44, 45, 46, 47, 48, 49, 50] (by decide +kernel) (by decide +kernel)
set_option maxHeartbeats 4000000 in
set_option maxRecDepth 100000 in
theorem m_chance (l : Launch) (D : va_G) (cs : Nat → ClassId) (ad : Nat → Nat) (hj : wJ ad nW) (g : Nat → va_E) (vi : Int32) (vd : Int32) (vw : Int32) (h197 : g 197 = .inr (12, [.int 0, .ref (ad 198), .ref (ad 199), .ref (ad 200), .ref (ad 201), .int 0, .ref (ad 202), .int 0, .int 0, .int 0, .int 0, .int 0, .int 0, .int (-1), .ref (ad 203), .ref (ad 204), .ref (ad 205), .int 0, .int 0, .ref (ad 206), .ref (ad 207), .ref (ad 208), .int 0, .int 0, .int 0, .int 0, .int 0, .ref (ad 209), .ref (ad 210), .ref (ad 211), .long 0, .long 0, .ref (ad 212), .ref (ad 213), .int 0, .int 0, .ref (ad 214), .ref (ad 215), .ref (ad 216), .ref (ad 217)])) (h198 : g 198 = .inl (cs 1, 118, .inl (fun _ => 0))) : cJ l yX12_chance vX12_chance { frames := 2, cells := 0, slots := 0, locals := 47 } D cs ad nW [.ref (ad 197), .int vi, .int vd, .int vw] g (fun r g2 => r = (-2) ∧ g2 = g) := by
  refine Met.start (cc := cX12_chance) (maxL := 4) (ret := (some .long)) RX12 rfl (by decide) rfl (Nat.le_of_ble_eq_true rfl) ?_
  intro p e s m below meth c ls X hP hl
  have hx := X.1
  have hb := X.2.1
  have hS : va_S (wA ad nW) s.heap s.heap [] := va_S.rf
  have hA : ∀ i, i < nW → wA ad nW (ad i) := fun i h => ⟨i, h, rfl⟩
  have hl : lv_has ls 4 [(0, .ref (ad 197)), (1, .int vi), (2, .int vd), (3, .int vw)] := hl
  refine lv_aload_n hx hb dX12_chance_0 rfl (lv_at hl 0 rfl) ?_
  refine lv_iload_n hx hb dX12_chance_1 rfl (lv_at hl 1 rfl) ?_
  refine lv_i2l (v := vi.toInt64) hx hb dX12_chance_2 rfl ?_
  refine q_calli (q := (RX12, TX12, 40)) (As := [.long (vi.toInt64)]) (rest := []) X (m_isIcicle l D cs ad hj g (vi.toInt64) h197 h198) (cwV 1 X.2.2.2.2.1 gg_X12_chance_X12_isIcicle rfl rfl rfl (by decide +kernel) ⟨Nat.le_of_ble_eq_true rfl, Nat.le_of_ble_eq_true rfl⟩) (by decide) h197 rfl hP hA hS rfl hl.1 rfl (Nat.le_of_ble_eq_true rfl) dX12_chance_3 ⟨Nat.le_of_ble_eq_true rfl, Nat.le_of_ble_eq_true rfl⟩ (fun r_3 g_2 H locs hw_1 hP hS => ?_)
  obtain ⟨hw_1a, hw_1b⟩ := hw_1
  subst hw_1a
  rw [hw_1b] at hP
  refine lv_if_eq (tgt := 27) hx hb dX12_chance_6 (by decide) (fun _ => ?_) (fun h => absurd h (by decide))
  refine lv_ldc2 (v := (-2)) hx hb X.2.2.2.2.2.1 (X.2.2.2.2.1 _ (List.mem_of_getElem? (i := 10) rfl)) dX12_chance_27 ?_
  exact q_lret X hP hS ⟨rfl, rfl⟩ dX12_chance_30

theorem dX12_likely_0 : decode cX12_likely 0 = .ok (.aload_n 0, 1) := by decide +kernel
theorem dX12_likely_1 : decode cX12_likely 1 = .ok (.iload_n 1, 1) := by decide +kernel
theorem dX12_likely_2 : decode cX12_likely 2 = .ok (.i2l, 1) := by decide +kernel
theorem dX12_likely_3 : decode cX12_likely 3 = .ok (.invokevirtual 221, 3) := by decide +kernel
theorem dX12_likely_6 : decode cX12_likely 6 = .ok (.ifCond .ne 6, 3) := by decide +kernel
theorem dX12_likely_9 : decode cX12_likely 9 = .ok (.bipush (-2), 2) := by decide +kernel
theorem dX12_likely_11 : decode cX12_likely 11 = .ok (.ireturn, 1) := by decide +kernel
def vX12_likely : List Cond := .code yX12_likely cX12_likely 6 (some .int) :: ([.methodLink RX12 221 yX12_isIcicle, .instanceMethod yX12_isIcicle, .selects RX12 yX12_isIcicle yX12_isIcicle, .initialized RX12, .code yX12_isIcicle cX12_isIcicle 3 (some .boolean), .fieldLink RX12 9 "IcicleClockModel" "world" "[I", .methodLink RX12 82 yX12_in, .static yX12_in, .code yX12_in cX12_in 6 (some .boolean)] ++ wsX120)
theorem iX12_likely_12 : ∀ w ∈ wsX120, w ∈ vX12_likely := fun _ h => List.mem_cons_of_mem _ (List.mem_append_right _ h)
set_option maxRecDepth 20000 in
theorem gg_X12_likely_X12_isIcicle : GoodIn vX12_likely (wsV RX12 221 RX12 yX12_isIcicle vX12_isIcicle) := goodIn_r _ [1, 2, 3, 4, 5, 6, 7, 8, 4, 9, 10, 11, 12, 13, 14, 15, 16, 17, 18, 19, 20, 21, 22, 23, 24, 25, 26, 27, 28, 29, 30, 31, 32, 33, 34, 35, 36, 37, 38, 39, 40, 41, 42, 43, 44, 45, 46, 47, 48, 49] (by decide +kernel) (by decide +kernel)
set_option maxHeartbeats 4000000 in
set_option maxRecDepth 100000 in
theorem m_likely (l : Launch) (D : va_G) (cs : Nat → ClassId) (ad : Nat → Nat) (hj : wJ ad nW) (g : Nat → va_E) (vi : Int32) (h197 : g 197 = .inr (12, [.int 0, .ref (ad 198), .ref (ad 199), .ref (ad 200), .ref (ad 201), .int 0, .ref (ad 202), .int 0, .int 0, .int 0, .int 0, .int 0, .int 0, .int (-1), .ref (ad 203), .ref (ad 204), .ref (ad 205), .int 0, .int 0, .ref (ad 206), .ref (ad 207), .ref (ad 208), .int 0, .int 0, .int 0, .int 0, .int 0, .ref (ad 209), .ref (ad 210), .ref (ad 211), .long 0, .long 0, .ref (ad 212), .ref (ad 213), .int 0, .int 0, .ref (ad 214), .ref (ad 215), .ref (ad 216), .ref (ad 217)])) (h198 : g 198 = .inl (cs 1, 118, .inl (fun _ => 0))) : cI l yX12_likely vX12_likely { frames := 2, cells := 0, slots := 0, locals := 47 } D cs ad nW [.ref (ad 197), .int vi] g (fun r g2 => r = (-2) ∧ g2 = g) := by
  refine Met.start (cc := cX12_likely) (maxL := 6) (ret := (some .int)) RX12 rfl (by decide) rfl (Nat.le_of_ble_eq_true rfl) ?_
  intro p e s m below meth c ls X hP hl
  have hx := X.1
  have hb := X.2.1
  have hS : va_S (wA ad nW) s.heap s.heap [] := va_S.rf
  have hA : ∀ i, i < nW → wA ad nW (ad i) := fun i h => ⟨i, h, rfl⟩
  have hl : lv_has ls 6 [(0, .ref (ad 197)), (1, .int vi)] := hl
  refine lv_aload_n hx hb dX12_likely_0 rfl (lv_at hl 0 rfl) ?_
  refine lv_iload_n hx hb dX12_likely_1 rfl (lv_at hl 1 rfl) ?_
  refine lv_i2l (v := vi.toInt64) hx hb dX12_likely_2 rfl ?_
  refine q_calli (q := (RX12, TX12, 40)) (As := [.long (vi.toInt64)]) (rest := []) X (m_isIcicle l D cs ad hj g (vi.toInt64) h197 h198) (cwV 1 X.2.2.2.2.1 gg_X12_likely_X12_isIcicle rfl rfl rfl (by decide +kernel) ⟨Nat.le_of_ble_eq_true rfl, Nat.le_of_ble_eq_true rfl⟩) (by decide) h197 rfl hP hA hS rfl hl.1 rfl (Nat.le_of_ble_eq_true rfl) dX12_likely_3 ⟨Nat.le_of_ble_eq_true rfl, Nat.le_of_ble_eq_true rfl⟩ (fun r_3 g_2 H locs hw_1 hP hS => ?_)
  obtain ⟨hw_1a, hw_1b⟩ := hw_1
  subst hw_1a
  rw [hw_1b] at hP
  refine lv_if_ne (tgt := 12) hx hb dX12_likely_6 (by decide) (fun h => absurd h (by decide)) (fun _ => ?_)
  refine lv_bipush (v := (-2)) hx hb dX12_likely_9 (by decide) ?_
  exact q_iret X hP hS ⟨rfl, rfl⟩ dX12_likely_11

theorem dX12_surest_0 : decode cX12_surest 0 = .ok (.aload_n 0, 1) := by decide +kernel
theorem dX12_surest_1 : decode cX12_surest 1 = .ok (.iload_n 1, 1) := by decide +kernel
theorem dX12_surest_2 : decode cX12_surest 2 = .ok (.i2l, 1) := by decide +kernel
theorem dX12_surest_3 : decode cX12_surest 3 = .ok (.invokevirtual 221, 3) := by decide +kernel
theorem dX12_surest_6 : decode cX12_surest 6 = .ok (.ifCond .eq 11, 3) := by decide +kernel
theorem dX12_surest_17 : decode cX12_surest 17 = .ok (.bipush (-2), 2) := by decide +kernel
theorem dX12_surest_19 : decode cX12_surest 19 = .ok (.ireturn, 1) := by decide +kernel
def vX12_surest : List Cond := .code yX12_surest cX12_surest 7 (some .int) :: ([.methodLink RX12 221 yX12_isIcicle, .instanceMethod yX12_isIcicle, .selects RX12 yX12_isIcicle yX12_isIcicle, .initialized RX12, .code yX12_isIcicle cX12_isIcicle 3 (some .boolean), .fieldLink RX12 9 "IcicleClockModel" "world" "[I", .methodLink RX12 82 yX12_in, .static yX12_in, .code yX12_in cX12_in 6 (some .boolean)] ++ wsX120)
theorem iX12_surest_12 : ∀ w ∈ wsX120, w ∈ vX12_surest := fun _ h => List.mem_cons_of_mem _ (List.mem_append_right _ h)
set_option maxRecDepth 20000 in
theorem gg_X12_surest_X12_isIcicle : GoodIn vX12_surest (wsV RX12 221 RX12 yX12_isIcicle vX12_isIcicle) := goodIn_r _ [1, 2, 3, 4, 5, 6, 7, 8, 4, 9, 10, 11, 12, 13, 14, 15, 16, 17, 18, 19, 20, 21, 22, 23, 24, 25, 26, 27, 28, 29, 30, 31, 32, 33, 34, 35, 36, 37, 38, 39, 40, 41, 42, 43, 44, 45, 46, 47, 48, 49] (by decide +kernel) (by decide +kernel)
set_option maxHeartbeats 4000000 in
set_option maxRecDepth 100000 in
theorem m_surest (l : Launch) (D : va_G) (cs : Nat → ClassId) (ad : Nat → Nat) (hj : wJ ad nW) (g : Nat → va_E) (vi : Int32) (vd : Int32) (h197 : g 197 = .inr (12, [.int 0, .ref (ad 198), .ref (ad 199), .ref (ad 200), .ref (ad 201), .int 0, .ref (ad 202), .int 0, .int 0, .int 0, .int 0, .int 0, .int 0, .int (-1), .ref (ad 203), .ref (ad 204), .ref (ad 205), .int 0, .int 0, .ref (ad 206), .ref (ad 207), .ref (ad 208), .int 0, .int 0, .int 0, .int 0, .int 0, .ref (ad 209), .ref (ad 210), .ref (ad 211), .long 0, .long 0, .ref (ad 212), .ref (ad 213), .int 0, .int 0, .ref (ad 214), .ref (ad 215), .ref (ad 216), .ref (ad 217)])) (h198 : g 198 = .inl (cs 1, 118, .inl (fun _ => 0))) : cI l yX12_surest vX12_surest { frames := 2, cells := 0, slots := 0, locals := 47 } D cs ad nW [.ref (ad 197), .int vi, .int vd] g (fun r g2 => r = (-2) ∧ g2 = g) := by
  refine Met.start (cc := cX12_surest) (maxL := 7) (ret := (some .int)) RX12 rfl (by decide) rfl (Nat.le_of_ble_eq_true rfl) ?_
  intro p e s m below meth c ls X hP hl
  have hx := X.1
  have hb := X.2.1
  have hS : va_S (wA ad nW) s.heap s.heap [] := va_S.rf
  have hA : ∀ i, i < nW → wA ad nW (ad i) := fun i h => ⟨i, h, rfl⟩
  have hl : lv_has ls 7 [(0, .ref (ad 197)), (1, .int vi), (2, .int vd)] := hl
  refine lv_aload_n hx hb dX12_surest_0 rfl (lv_at hl 0 rfl) ?_
  refine lv_iload_n hx hb dX12_surest_1 rfl (lv_at hl 1 rfl) ?_
  refine lv_i2l (v := vi.toInt64) hx hb dX12_surest_2 rfl ?_
  refine q_calli (q := (RX12, TX12, 40)) (As := [.long (vi.toInt64)]) (rest := []) X (m_isIcicle l D cs ad hj g (vi.toInt64) h197 h198) (cwV 1 X.2.2.2.2.1 gg_X12_surest_X12_isIcicle rfl rfl rfl (by decide +kernel) ⟨Nat.le_of_ble_eq_true rfl, Nat.le_of_ble_eq_true rfl⟩) (by decide) h197 rfl hP hA hS rfl hl.1 rfl (Nat.le_of_ble_eq_true rfl) dX12_surest_3 ⟨Nat.le_of_ble_eq_true rfl, Nat.le_of_ble_eq_true rfl⟩ (fun r_3 g_2 H locs hw_1 hP hS => ?_)
  obtain ⟨hw_1a, hw_1b⟩ := hw_1
  subst hw_1a
  rw [hw_1b] at hP
  refine lv_if_eq (tgt := 17) hx hb dX12_surest_6 (by decide) (fun _ => ?_) (fun h => absurd h (by decide))
  refine lv_bipush (v := (-2)) hx hb dX12_surest_17 (by decide) ?_
  exact q_iret X hP hS ⟨rfl, rfl⟩ dX12_surest_19

theorem dX12_walk_0 : decode cX12_walk 0 = .ok (.aload_n 0, 1) := by decide +kernel
theorem dX12_walk_1 : decode cX12_walk 1 = .ok (.invokevirtual 382, 3) := by decide +kernel
theorem dX12_walk_4 : decode cX12_walk 4 = .ok (.ifCond .eq 12, 3) := by decide +kernel
theorem dX12_walk_16 : decode cX12_walk 16 = .ok (.bipush (-2), 2) := by decide +kernel
theorem dX12_walk_18 : decode cX12_walk 18 = .ok (.ireturn, 1) := by decide +kernel
def vX12_walk : List Cond := .code yX12_walk cX12_walk 1 (some .int) :: ([.methodLink RX12 382 yX12_layWalks, .instanceMethod yX12_layWalks, .selects RX12 yX12_layWalks yX12_layWalks, .initialized RX12, .code yX12_layWalks cX12_layWalks 4 (some .boolean), .fieldLink RX12 9 "IcicleClockModel" "world" "[I"] ++ wsX120)
theorem iX12_walk_12 : ∀ w ∈ wsX120, w ∈ vX12_walk := fun _ h => List.mem_cons_of_mem _ (List.mem_append_right _ h)
set_option maxRecDepth 20000 in
theorem gg_X12_walk_X12_layWalks : GoodIn vX12_walk (wsV RX12 382 RX12 yX12_layWalks vX12_layWalks) := goodIn_r _ [1, 2, 3, 4, 5, 6, 7, 8, 9, 10, 11, 12, 13, 14, 15, 16, 17, 18, 19, 20, 21, 22, 23, 24, 25, 26, 27, 28, 29, 30, 31, 32, 33, 34, 35, 36, 37, 38, 39, 40, 41, 42, 43, 44, 45, 46] (by decide +kernel) (by decide +kernel)
set_option maxHeartbeats 4000000 in
set_option maxRecDepth 100000 in
theorem m_walk (l : Launch) (D : va_G) (cs : Nat → ClassId) (ad : Nat → Nat) (hj : wJ ad nW) (g : Nat → va_E) (h197 : g 197 = .inr (12, [.int 0, .ref (ad 198), .ref (ad 199), .ref (ad 200), .ref (ad 201), .int 0, .ref (ad 202), .int 0, .int 0, .int 0, .int 0, .int 0, .int 0, .int (-1), .ref (ad 203), .ref (ad 204), .ref (ad 205), .int 0, .int 0, .ref (ad 206), .ref (ad 207), .ref (ad 208), .int 0, .int 0, .int 0, .int 0, .int 0, .ref (ad 209), .ref (ad 210), .ref (ad 211), .long 0, .long 0, .ref (ad 212), .ref (ad 213), .int 0, .int 0, .ref (ad 214), .ref (ad 215), .ref (ad 216), .ref (ad 217)])) (h198 : g 198 = .inl (cs 1, 118, .inl (fun _ => 0))) : cI l yX12_walk vX12_walk { frames := 1, cells := 0, slots := 0, locals := 23 } D cs ad nW [.ref (ad 197)] g (fun r g2 => r = (-2) ∧ g2 = g) := by
  refine Met.start (cc := cX12_walk) (maxL := 1) (ret := (some .int)) RX12 rfl (by decide) rfl (Nat.le_of_ble_eq_true rfl) ?_
  intro p e s m below meth c ls X hP hl
  have hx := X.1
  have hb := X.2.1
  have hS : va_S (wA ad nW) s.heap s.heap [] := va_S.rf
  have hA : ∀ i, i < nW → wA ad nW (ad i) := fun i h => ⟨i, h, rfl⟩
  have hl : lv_has ls 1 [(0, .ref (ad 197))] := hl
  refine lv_aload_n hx hb dX12_walk_0 rfl (lv_at hl 0 rfl) ?_
  refine q_calli (q := (RX12, TX12, 40)) (As := []) (rest := []) X (m_layWalks l D cs ad hj g  h197 h198) (cwV 0 X.2.2.2.2.1 gg_X12_walk_X12_layWalks rfl rfl rfl (by decide +kernel) ⟨Nat.le_of_ble_eq_true rfl, Nat.le_of_ble_eq_true rfl⟩) (by decide) h197 rfl hP hA hS rfl hl.1 rfl (Nat.le_of_ble_eq_true rfl) dX12_walk_1 ⟨Nat.le_of_ble_eq_true rfl, Nat.le_of_ble_eq_true rfl⟩ (fun r_3 g_2 H locs hw_1 hP hS => ?_)
  obtain ⟨hw_1a, hw_1b⟩ := hw_1
  subst hw_1a
  rw [hw_1b] at hP
  refine lv_if_eq (tgt := 16) hx hb dX12_walk_4 (by decide) (fun _ => ?_) (fun h => absurd h (by decide))
  refine lv_bipush (v := (-2)) hx hb dX12_walk_16 (by decide) ?_
  exact q_iret X hP hS ⟨rfl, rfl⟩ dX12_walk_18

theorem dX12_walks_0 : decode cX12_walks 0 = .ok (.aload_n 0, 1) := by decide +kernel
theorem dX12_walks_1 : decode cX12_walks 1 = .ok (.iload_n 1, 1) := by decide +kernel
theorem dX12_walks_2 : decode cX12_walks 2 = .ok (.invokevirtual 205, 3) := by decide +kernel
theorem dX12_walks_5 : decode cX12_walks 5 = .ok (.ifCond .eq 10, 3) := by decide +kernel
theorem dX12_walks_15 : decode cX12_walks 15 = .ok (.bipush (-2), 2) := by decide +kernel
theorem dX12_walks_17 : decode cX12_walks 17 = .ok (.ireturn, 1) := by decide +kernel
def vX12_walks : List Cond := .code yX12_walks cX12_walks 6 (some .int) :: ([.methodLink RX12 205 yX12_isDay, .instanceMethod yX12_isDay, .selects RX12 yX12_isDay yX12_isDay, .initialized RX12, .code yX12_isDay cX12_isDay 2 (some .boolean), .fieldLink RX12 9 "IcicleClockModel" "world" "[I", .methodLink RX12 82 yX12_in, .static yX12_in, .code yX12_in cX12_in 6 (some .boolean)] ++ wsX120)
theorem iX12_walks_12 : ∀ w ∈ wsX120, w ∈ vX12_walks := fun _ h => List.mem_cons_of_mem _ (List.mem_append_right _ h)
set_option maxRecDepth 20000 in
theorem gg_X12_walks_X12_isDay : GoodIn vX12_walks (wsV RX12 205 RX12 yX12_isDay vX12_isDay) := goodIn_r _ [1, 2, 3, 4, 5, 6, 7, 8, 4, 9, 10, 11, 12, 13, 14, 15, 16, 17, 18, 19, 20, 21, 22, 23, 24, 25, 26, 27, 28, 29, 30, 31, 32, 33, 34, 35, 36, 37, 38, 39, 40, 41, 42, 43, 44, 45, 46, 47, 48, 49] (by decide +kernel) (by decide +kernel)
set_option maxHeartbeats 4000000 in
set_option maxRecDepth 100000 in
theorem m_walks (l : Launch) (D : va_G) (cs : Nat → ClassId) (ad : Nat → Nat) (hj : wJ ad nW) (g : Nat → va_E) (vd : Int32) (h197 : g 197 = .inr (12, [.int 0, .ref (ad 198), .ref (ad 199), .ref (ad 200), .ref (ad 201), .int 0, .ref (ad 202), .int 0, .int 0, .int 0, .int 0, .int 0, .int 0, .int (-1), .ref (ad 203), .ref (ad 204), .ref (ad 205), .int 0, .int 0, .ref (ad 206), .ref (ad 207), .ref (ad 208), .int 0, .int 0, .int 0, .int 0, .int 0, .ref (ad 209), .ref (ad 210), .ref (ad 211), .long 0, .long 0, .ref (ad 212), .ref (ad 213), .int 0, .int 0, .ref (ad 214), .ref (ad 215), .ref (ad 216), .ref (ad 217)])) (h198 : g 198 = .inl (cs 1, 118, .inl (fun _ => 0))) : cI l yX12_walks vX12_walks { frames := 2, cells := 0, slots := 0, locals := 46 } D cs ad nW [.ref (ad 197), .int vd] g (fun r g2 => r = (-2) ∧ g2 = g) := by
  refine Met.start (cc := cX12_walks) (maxL := 6) (ret := (some .int)) RX12 rfl (by decide) rfl (Nat.le_of_ble_eq_true rfl) ?_
  intro p e s m below meth c ls X hP hl
  have hx := X.1
  have hb := X.2.1
  have hS : va_S (wA ad nW) s.heap s.heap [] := va_S.rf
  have hA : ∀ i, i < nW → wA ad nW (ad i) := fun i h => ⟨i, h, rfl⟩
  have hl : lv_has ls 6 [(0, .ref (ad 197)), (1, .int vd)] := hl
  refine lv_aload_n hx hb dX12_walks_0 rfl (lv_at hl 0 rfl) ?_
  refine lv_iload_n hx hb dX12_walks_1 rfl (lv_at hl 1 rfl) ?_
  refine q_calli (q := (RX12, TX12, 40)) (As := [.int vd]) (rest := []) X (m_isDay l D cs ad hj g vd h197 h198) (cwV 1 X.2.2.2.2.1 gg_X12_walks_X12_isDay rfl rfl rfl (by decide +kernel) ⟨Nat.le_of_ble_eq_true rfl, Nat.le_of_ble_eq_true rfl⟩) (by decide) h197 rfl hP hA hS rfl hl.1 rfl (Nat.le_of_ble_eq_true rfl) dX12_walks_2 ⟨Nat.le_of_ble_eq_true rfl, Nat.le_of_ble_eq_true rfl⟩ (fun r_3 g_2 H locs hw_1 hP hS => ?_)
  obtain ⟨hw_1a, hw_1b⟩ := hw_1
  subst hw_1a
  rw [hw_1b] at hP
  refine lv_if_eq (tgt := 15) hx hb dX12_walks_5 (by decide) (fun _ => ?_) (fun h => absurd h (by decide))
  refine lv_bipush (v := (-2)) hx hb dX12_walks_15 (by decide) ?_
  exact q_iret X hP hS ⟨rfl, rfl⟩ dX12_walks_17

theorem dX12_ways_0 : decode cX12_ways 0 = .ok (.aload_n 0, 1) := by decide +kernel
theorem dX12_ways_1 : decode cX12_ways 1 = .ok (.invokevirtual 382, 3) := by decide +kernel
theorem dX12_ways_4 : decode cX12_ways 4 = .ok (.ifCond .eq 12, 3) := by decide +kernel
theorem dX12_ways_16 : decode cX12_ways 16 = .ok (.bipush (-2), 2) := by decide +kernel
theorem dX12_ways_18 : decode cX12_ways 18 = .ok (.ireturn, 1) := by decide +kernel
def vX12_ways : List Cond := .code yX12_ways cX12_ways 1 (some .int) :: ([.methodLink RX12 382 yX12_layWalks, .instanceMethod yX12_layWalks, .selects RX12 yX12_layWalks yX12_layWalks, .initialized RX12, .code yX12_layWalks cX12_layWalks 4 (some .boolean), .fieldLink RX12 9 "IcicleClockModel" "world" "[I"] ++ wsX120)
theorem iX12_ways_12 : ∀ w ∈ wsX120, w ∈ vX12_ways := fun _ h => List.mem_cons_of_mem _ (List.mem_append_right _ h)
set_option maxRecDepth 20000 in
theorem gg_X12_ways_X12_layWalks : GoodIn vX12_ways (wsV RX12 382 RX12 yX12_layWalks vX12_layWalks) := goodIn_r _ [1, 2, 3, 4, 5, 6, 7, 8, 9, 10, 11, 12, 13, 14, 15, 16, 17, 18, 19, 20, 21, 22, 23, 24, 25, 26, 27, 28, 29, 30, 31, 32, 33, 34, 35, 36, 37, 38, 39, 40, 41, 42, 43, 44, 45, 46] (by decide +kernel) (by decide +kernel)
set_option maxHeartbeats 4000000 in
set_option maxRecDepth 100000 in
theorem m_ways (l : Launch) (D : va_G) (cs : Nat → ClassId) (ad : Nat → Nat) (hj : wJ ad nW) (g : Nat → va_E) (h197 : g 197 = .inr (12, [.int 0, .ref (ad 198), .ref (ad 199), .ref (ad 200), .ref (ad 201), .int 0, .ref (ad 202), .int 0, .int 0, .int 0, .int 0, .int 0, .int 0, .int (-1), .ref (ad 203), .ref (ad 204), .ref (ad 205), .int 0, .int 0, .ref (ad 206), .ref (ad 207), .ref (ad 208), .int 0, .int 0, .int 0, .int 0, .int 0, .ref (ad 209), .ref (ad 210), .ref (ad 211), .long 0, .long 0, .ref (ad 212), .ref (ad 213), .int 0, .int 0, .ref (ad 214), .ref (ad 215), .ref (ad 216), .ref (ad 217)])) (h198 : g 198 = .inl (cs 1, 118, .inl (fun _ => 0))) : cI l yX12_ways vX12_ways { frames := 1, cells := 0, slots := 0, locals := 23 } D cs ad nW [.ref (ad 197)] g (fun r g2 => r = (-2) ∧ g2 = g) := by
  refine Met.start (cc := cX12_ways) (maxL := 1) (ret := (some .int)) RX12 rfl (by decide) rfl (Nat.le_of_ble_eq_true rfl) ?_
  intro p e s m below meth c ls X hP hl
  have hx := X.1
  have hb := X.2.1
  have hS : va_S (wA ad nW) s.heap s.heap [] := va_S.rf
  have hA : ∀ i, i < nW → wA ad nW (ad i) := fun i h => ⟨i, h, rfl⟩
  have hl : lv_has ls 1 [(0, .ref (ad 197))] := hl
  refine lv_aload_n hx hb dX12_ways_0 rfl (lv_at hl 0 rfl) ?_
  refine q_calli (q := (RX12, TX12, 40)) (As := []) (rest := []) X (m_layWalks l D cs ad hj g  h197 h198) (cwV 0 X.2.2.2.2.1 gg_X12_ways_X12_layWalks rfl rfl rfl (by decide +kernel) ⟨Nat.le_of_ble_eq_true rfl, Nat.le_of_ble_eq_true rfl⟩) (by decide) h197 rfl hP hA hS rfl hl.1 rfl (Nat.le_of_ble_eq_true rfl) dX12_ways_1 ⟨Nat.le_of_ble_eq_true rfl, Nat.le_of_ble_eq_true rfl⟩ (fun r_3 g_2 H locs hw_1 hP hS => ?_)
  obtain ⟨hw_1a, hw_1b⟩ := hw_1
  subst hw_1a
  rw [hw_1b] at hP
  refine lv_if_eq (tgt := 16) hx hb dX12_ways_4 (by decide) (fun _ => ?_) (fun h => absurd h (by decide))
  refine lv_bipush (v := (-2)) hx hb dX12_ways_16 (by decide) ?_
  exact q_iret X hP hS ⟨rfl, rfl⟩ dX12_ways_18

theorem dX12_rests_0 : decode cX12_rests 0 = .ok (.aload_n 0, 1) := by decide +kernel
theorem dX12_rests_1 : decode cX12_rests 1 = .ok (.invokevirtual 261, 3) := by decide +kernel
theorem dX12_rests_4 : decode cX12_rests 4 = .ok (.ifCond .eq 10, 3) := by decide +kernel
theorem dX12_rests_14 : decode cX12_rests 14 = .ok (.bipush (-2), 2) := by decide +kernel
theorem dX12_rests_16 : decode cX12_rests 16 = .ok (.ireturn, 1) := by decide +kernel
def vX12_rests : List Cond := .code yX12_rests cX12_rests 1 (some .int) :: ([.methodLink RX12 261 yX12_isStreet, .instanceMethod yX12_isStreet, .selects RX12 yX12_isStreet yX12_isStreet, .initialized RX12, .code yX12_isStreet cX12_isStreet 1 (some .boolean), .fieldLink RX12 9 "IcicleClockModel" "world" "[I"] ++ wsX120)
theorem iX12_rests_12 : ∀ w ∈ wsX120, w ∈ vX12_rests := fun _ h => List.mem_cons_of_mem _ (List.mem_append_right _ h)
set_option maxRecDepth 20000 in
theorem gg_X12_rests_X12_isStreet : GoodIn vX12_rests (wsV RX12 261 RX12 yX12_isStreet vX12_isStreet) := goodIn_r _ [1, 2, 3, 4, 5, 6, 7, 8, 9, 10, 11, 12, 13, 14, 15, 16, 17, 18, 19, 20, 21, 22, 23, 24, 25, 26, 27, 28, 29, 30, 31, 32, 33, 34, 35, 36, 37, 38, 39, 40, 41, 42, 43, 44, 45, 46] (by decide +kernel) (by decide +kernel)
set_option maxHeartbeats 4000000 in
set_option maxRecDepth 100000 in
theorem m_rests (l : Launch) (D : va_G) (cs : Nat → ClassId) (ad : Nat → Nat) (hj : wJ ad nW) (g : Nat → va_E) (h197 : g 197 = .inr (12, [.int 0, .ref (ad 198), .ref (ad 199), .ref (ad 200), .ref (ad 201), .int 0, .ref (ad 202), .int 0, .int 0, .int 0, .int 0, .int 0, .int 0, .int (-1), .ref (ad 203), .ref (ad 204), .ref (ad 205), .int 0, .int 0, .ref (ad 206), .ref (ad 207), .ref (ad 208), .int 0, .int 0, .int 0, .int 0, .int 0, .ref (ad 209), .ref (ad 210), .ref (ad 211), .long 0, .long 0, .ref (ad 212), .ref (ad 213), .int 0, .int 0, .ref (ad 214), .ref (ad 215), .ref (ad 216), .ref (ad 217)])) (h198 : g 198 = .inl (cs 1, 118, .inl (fun _ => 0))) : cI l yX12_rests vX12_rests { frames := 1, cells := 0, slots := 0, locals := 20 } D cs ad nW [.ref (ad 197)] g (fun r g2 => r = (-2) ∧ g2 = g) := by
  refine Met.start (cc := cX12_rests) (maxL := 1) (ret := (some .int)) RX12 rfl (by decide) rfl (Nat.le_of_ble_eq_true rfl) ?_
  intro p e s m below meth c ls X hP hl
  have hx := X.1
  have hb := X.2.1
  have hS : va_S (wA ad nW) s.heap s.heap [] := va_S.rf
  have hA : ∀ i, i < nW → wA ad nW (ad i) := fun i h => ⟨i, h, rfl⟩
  have hl : lv_has ls 1 [(0, .ref (ad 197))] := hl
  refine lv_aload_n hx hb dX12_rests_0 rfl (lv_at hl 0 rfl) ?_
  refine q_calli (q := (RX12, TX12, 40)) (As := []) (rest := []) X (m_isStreet l D cs ad hj g  h197 h198) (cwV 0 X.2.2.2.2.1 gg_X12_rests_X12_isStreet rfl rfl rfl (by decide +kernel) ⟨Nat.le_of_ble_eq_true rfl, Nat.le_of_ble_eq_true rfl⟩) (by decide) h197 rfl hP hA hS rfl hl.1 rfl (Nat.le_of_ble_eq_true rfl) dX12_rests_1 ⟨Nat.le_of_ble_eq_true rfl, Nat.le_of_ble_eq_true rfl⟩ (fun r_3 g_2 H locs hw_1 hP hS => ?_)
  obtain ⟨hw_1a, hw_1b⟩ := hw_1
  subst hw_1a
  rw [hw_1b] at hP
  refine lv_if_eq (tgt := 14) hx hb dX12_rests_4 (by decide) (fun _ => ?_) (fun h => absurd h (by decide))
  refine lv_bipush (v := (-2)) hx hb dX12_rests_14 (by decide) ?_
  exact q_iret X hP hS ⟨rfl, rfl⟩ dX12_rests_16

theorem dX12_rest_0 : decode cX12_rest 0 = .ok (.aload_n 0, 1) := by decide +kernel
theorem dX12_rest_1 : decode cX12_rest 1 = .ok (.invokevirtual 261, 3) := by decide +kernel
theorem dX12_rest_4 : decode cX12_rest 4 = .ok (.ifCond .ne 6, 3) := by decide +kernel
theorem dX12_rest_7 : decode cX12_rest 7 = .ok (.bipush (-2), 2) := by decide +kernel
theorem dX12_rest_9 : decode cX12_rest 9 = .ok (.ireturn, 1) := by decide +kernel
def vX12_rest : List Cond := .code yX12_rest cX12_rest 1 (some .int) :: ([.methodLink RX12 261 yX12_isStreet, .instanceMethod yX12_isStreet, .selects RX12 yX12_isStreet yX12_isStreet, .initialized RX12, .code yX12_isStreet cX12_isStreet 1 (some .boolean), .fieldLink RX12 9 "IcicleClockModel" "world" "[I"] ++ wsX120)
theorem iX12_rest_12 : ∀ w ∈ wsX120, w ∈ vX12_rest := fun _ h => List.mem_cons_of_mem _ (List.mem_append_right _ h)
set_option maxRecDepth 20000 in
theorem gg_X12_rest_X12_isStreet : GoodIn vX12_rest (wsV RX12 261 RX12 yX12_isStreet vX12_isStreet) := goodIn_r _ [1, 2, 3, 4, 5, 6, 7, 8, 9, 10, 11, 12, 13, 14, 15, 16, 17, 18, 19, 20, 21, 22, 23, 24, 25, 26, 27, 28, 29, 30, 31, 32, 33, 34, 35, 36, 37, 38, 39, 40, 41, 42, 43, 44, 45, 46] (by decide +kernel) (by decide +kernel)
set_option maxHeartbeats 4000000 in
set_option maxRecDepth 100000 in
theorem m_rest (l : Launch) (D : va_G) (cs : Nat → ClassId) (ad : Nat → Nat) (hj : wJ ad nW) (g : Nat → va_E) (h197 : g 197 = .inr (12, [.int 0, .ref (ad 198), .ref (ad 199), .ref (ad 200), .ref (ad 201), .int 0, .ref (ad 202), .int 0, .int 0, .int 0, .int 0, .int 0, .int 0, .int (-1), .ref (ad 203), .ref (ad 204), .ref (ad 205), .int 0, .int 0, .ref (ad 206), .ref (ad 207), .ref (ad 208), .int 0, .int 0, .int 0, .int 0, .int 0, .ref (ad 209), .ref (ad 210), .ref (ad 211), .long 0, .long 0, .ref (ad 212), .ref (ad 213), .int 0, .int 0, .ref (ad 214), .ref (ad 215), .ref (ad 216), .ref (ad 217)])) (h198 : g 198 = .inl (cs 1, 118, .inl (fun _ => 0))) : cI l yX12_rest vX12_rest { frames := 1, cells := 0, slots := 0, locals := 20 } D cs ad nW [.ref (ad 197)] g (fun r g2 => r = (-2) ∧ g2 = g) := by
  refine Met.start (cc := cX12_rest) (maxL := 1) (ret := (some .int)) RX12 rfl (by decide) rfl (Nat.le_of_ble_eq_true rfl) ?_
  intro p e s m below meth c ls X hP hl
  have hx := X.1
  have hb := X.2.1
  have hS : va_S (wA ad nW) s.heap s.heap [] := va_S.rf
  have hA : ∀ i, i < nW → wA ad nW (ad i) := fun i h => ⟨i, h, rfl⟩
  have hl : lv_has ls 1 [(0, .ref (ad 197))] := hl
  refine lv_aload_n hx hb dX12_rest_0 rfl (lv_at hl 0 rfl) ?_
  refine q_calli (q := (RX12, TX12, 40)) (As := []) (rest := []) X (m_isStreet l D cs ad hj g  h197 h198) (cwV 0 X.2.2.2.2.1 gg_X12_rest_X12_isStreet rfl rfl rfl (by decide +kernel) ⟨Nat.le_of_ble_eq_true rfl, Nat.le_of_ble_eq_true rfl⟩) (by decide) h197 rfl hP hA hS rfl hl.1 rfl (Nat.le_of_ble_eq_true rfl) dX12_rest_1 ⟨Nat.le_of_ble_eq_true rfl, Nat.le_of_ble_eq_true rfl⟩ (fun r_3 g_2 H locs hw_1 hP hS => ?_)
  obtain ⟨hw_1a, hw_1b⟩ := hw_1
  subst hw_1a
  rw [hw_1b] at hP
  refine lv_if_ne (tgt := 10) hx hb dX12_rest_4 (by decide) (fun h => absurd h (by decide)) (fun _ => ?_)
  refine lv_bipush (v := (-2)) hx hb dX12_rest_7 (by decide) ?_
  exact q_iret X hP hS ⟨rfl, rfl⟩ dX12_rest_9

theorem dX12_door_0 : decode cX12_door 0 = .ok (.aload_n 0, 1) := by decide +kernel
theorem dX12_door_1 : decode cX12_door 1 = .ok (.iload_n 1, 1) := by decide +kernel
theorem dX12_door_2 : decode cX12_door 2 = .ok (.invokevirtual 212, 3) := by decide +kernel
theorem dX12_door_5 : decode cX12_door 5 = .ok (.ifCond .eq 11, 3) := by decide +kernel
theorem dX12_door_16 : decode cX12_door 16 = .ok (.bipush (-2), 2) := by decide +kernel
theorem dX12_door_18 : decode cX12_door 18 = .ok (.ireturn, 1) := by decide +kernel
def vX12_door : List Cond := .code yX12_door cX12_door 3 (some .int) :: ([.methodLink RX12 212 yX12_isEave, .instanceMethod yX12_isEave, .selects RX12 yX12_isEave yX12_isEave, .initialized RX12, .code yX12_isEave cX12_isEave 2 (some .boolean), .fieldLink RX12 9 "IcicleClockModel" "world" "[I", .methodLink RX12 82 yX12_in, .static yX12_in, .code yX12_in cX12_in 6 (some .boolean)] ++ wsX120)
theorem iX12_door_12 : ∀ w ∈ wsX120, w ∈ vX12_door := fun _ h => List.mem_cons_of_mem _ (List.mem_append_right _ h)
set_option maxRecDepth 20000 in
theorem gg_X12_door_X12_isEave : GoodIn vX12_door (wsV RX12 212 RX12 yX12_isEave vX12_isEave) := goodIn_r _ [1, 2, 3, 4, 5, 6, 7, 8, 4, 9, 10, 11, 12, 13, 14, 15, 16, 17, 18, 19, 20, 21, 22, 23, 24, 25, 26, 27, 28, 29, 30, 31, 32, 33, 34, 35, 36, 37, 38, 39, 40, 41, 42, 43, 44, 45, 46, 47, 48, 49] (by decide +kernel) (by decide +kernel)
set_option maxHeartbeats 4000000 in
set_option maxRecDepth 100000 in
theorem m_door (l : Launch) (D : va_G) (cs : Nat → ClassId) (ad : Nat → Nat) (hj : wJ ad nW) (g : Nat → va_E) (va : Int32) (vd : Int32) (h197 : g 197 = .inr (12, [.int 0, .ref (ad 198), .ref (ad 199), .ref (ad 200), .ref (ad 201), .int 0, .ref (ad 202), .int 0, .int 0, .int 0, .int 0, .int 0, .int 0, .int (-1), .ref (ad 203), .ref (ad 204), .ref (ad 205), .int 0, .int 0, .ref (ad 206), .ref (ad 207), .ref (ad 208), .int 0, .int 0, .int 0, .int 0, .int 0, .ref (ad 209), .ref (ad 210), .ref (ad 211), .long 0, .long 0, .ref (ad 212), .ref (ad 213), .int 0, .int 0, .ref (ad 214), .ref (ad 215), .ref (ad 216), .ref (ad 217)])) (h198 : g 198 = .inl (cs 1, 118, .inl (fun _ => 0))) : cI l yX12_door vX12_door { frames := 2, cells := 0, slots := 0, locals := 46 } D cs ad nW [.ref (ad 197), .int va, .int vd] g (fun r g2 => r = (-2) ∧ g2 = g) := by
  refine Met.start (cc := cX12_door) (maxL := 3) (ret := (some .int)) RX12 rfl (by decide) rfl (Nat.le_of_ble_eq_true rfl) ?_
  intro p e s m below meth c ls X hP hl
  have hx := X.1
  have hb := X.2.1
  have hS : va_S (wA ad nW) s.heap s.heap [] := va_S.rf
  have hA : ∀ i, i < nW → wA ad nW (ad i) := fun i h => ⟨i, h, rfl⟩
  have hl : lv_has ls 3 [(0, .ref (ad 197)), (1, .int va), (2, .int vd)] := hl
  refine lv_aload_n hx hb dX12_door_0 rfl (lv_at hl 0 rfl) ?_
  refine lv_iload_n hx hb dX12_door_1 rfl (lv_at hl 1 rfl) ?_
  refine q_calli (q := (RX12, TX12, 40)) (As := [.int va]) (rest := []) X (m_isEave l D cs ad hj g va h197 h198) (cwV 1 X.2.2.2.2.1 gg_X12_door_X12_isEave rfl rfl rfl (by decide +kernel) ⟨Nat.le_of_ble_eq_true rfl, Nat.le_of_ble_eq_true rfl⟩) (by decide) h197 rfl hP hA hS rfl hl.1 rfl (Nat.le_of_ble_eq_true rfl) dX12_door_2 ⟨Nat.le_of_ble_eq_true rfl, Nat.le_of_ble_eq_true rfl⟩ (fun r_3 g_2 H locs hw_1 hP hS => ?_)
  obtain ⟨hw_1a, hw_1b⟩ := hw_1
  subst hw_1a
  rw [hw_1b] at hP
  refine lv_if_eq (tgt := 16) hx hb dX12_door_5 (by decide) (fun _ => ?_) (fun h => absurd h (by decide))
  refine lv_bipush (v := (-2)) hx hb dX12_door_16 (by decide) ?_
  exact q_iret X hP hS ⟨rfl, rfl⟩ dX12_door_18

theorem dX12_ring_0 : decode cX12_ring 0 = .ok (.aload_n 0, 1) := by decide +kernel
theorem dX12_ring_1 : decode cX12_ring 1 = .ok (.iload_n 1, 1) := by decide +kernel
theorem dX12_ring_2 : decode cX12_ring 2 = .ok (.invokevirtual 205, 3) := by decide +kernel
theorem dX12_ring_5 : decode cX12_ring 5 = .ok (.ifCond .ne 6, 3) := by decide +kernel
theorem dX12_ring_8 : decode cX12_ring 8 = .ok (.bipush (-2), 2) := by decide +kernel
theorem dX12_ring_10 : decode cX12_ring 10 = .ok (.ireturn, 1) := by decide +kernel
def vX12_ring : List Cond := .code yX12_ring cX12_ring 2 (some .int) :: ([.methodLink RX12 205 yX12_isDay, .instanceMethod yX12_isDay, .selects RX12 yX12_isDay yX12_isDay, .initialized RX12, .code yX12_isDay cX12_isDay 2 (some .boolean), .fieldLink RX12 9 "IcicleClockModel" "world" "[I", .methodLink RX12 82 yX12_in, .static yX12_in, .code yX12_in cX12_in 6 (some .boolean)] ++ wsX120)
theorem iX12_ring_12 : ∀ w ∈ wsX120, w ∈ vX12_ring := fun _ h => List.mem_cons_of_mem _ (List.mem_append_right _ h)
set_option maxRecDepth 20000 in
theorem gg_X12_ring_X12_isDay : GoodIn vX12_ring (wsV RX12 205 RX12 yX12_isDay vX12_isDay) := goodIn_r _ [1, 2, 3, 4, 5, 6, 7, 8, 4, 9, 10, 11, 12, 13, 14, 15, 16, 17, 18, 19, 20, 21, 22, 23, 24, 25, 26, 27, 28, 29, 30, 31, 32, 33, 34, 35, 36, 37, 38, 39, 40, 41, 42, 43, 44, 45, 46, 47, 48, 49] (by decide +kernel) (by decide +kernel)
set_option maxHeartbeats 4000000 in
set_option maxRecDepth 100000 in
theorem m_ring (l : Launch) (D : va_G) (cs : Nat → ClassId) (ad : Nat → Nat) (hj : wJ ad nW) (g : Nat → va_E) (vd : Int32) (h197 : g 197 = .inr (12, [.int 0, .ref (ad 198), .ref (ad 199), .ref (ad 200), .ref (ad 201), .int 0, .ref (ad 202), .int 0, .int 0, .int 0, .int 0, .int 0, .int 0, .int (-1), .ref (ad 203), .ref (ad 204), .ref (ad 205), .int 0, .int 0, .ref (ad 206), .ref (ad 207), .ref (ad 208), .int 0, .int 0, .int 0, .int 0, .int 0, .ref (ad 209), .ref (ad 210), .ref (ad 211), .long 0, .long 0, .ref (ad 212), .ref (ad 213), .int 0, .int 0, .ref (ad 214), .ref (ad 215), .ref (ad 216), .ref (ad 217)])) (h198 : g 198 = .inl (cs 1, 118, .inl (fun _ => 0))) : cI l yX12_ring vX12_ring { frames := 2, cells := 0, slots := 0, locals := 46 } D cs ad nW [.ref (ad 197), .int vd] g (fun r g2 => r = (-2) ∧ g2 = g) := by
  refine Met.start (cc := cX12_ring) (maxL := 2) (ret := (some .int)) RX12 rfl (by decide) rfl (Nat.le_of_ble_eq_true rfl) ?_
  intro p e s m below meth c ls X hP hl
  have hx := X.1
  have hb := X.2.1
  have hS : va_S (wA ad nW) s.heap s.heap [] := va_S.rf
  have hA : ∀ i, i < nW → wA ad nW (ad i) := fun i h => ⟨i, h, rfl⟩
  have hl : lv_has ls 2 [(0, .ref (ad 197)), (1, .int vd)] := hl
  refine lv_aload_n hx hb dX12_ring_0 rfl (lv_at hl 0 rfl) ?_
  refine lv_iload_n hx hb dX12_ring_1 rfl (lv_at hl 1 rfl) ?_
  refine q_calli (q := (RX12, TX12, 40)) (As := [.int vd]) (rest := []) X (m_isDay l D cs ad hj g vd h197 h198) (cwV 1 X.2.2.2.2.1 gg_X12_ring_X12_isDay rfl rfl rfl (by decide +kernel) ⟨Nat.le_of_ble_eq_true rfl, Nat.le_of_ble_eq_true rfl⟩) (by decide) h197 rfl hP hA hS rfl hl.1 rfl (Nat.le_of_ble_eq_true rfl) dX12_ring_2 ⟨Nat.le_of_ble_eq_true rfl, Nat.le_of_ble_eq_true rfl⟩ (fun r_3 g_2 H locs hw_1 hP hS => ?_)
  obtain ⟨hw_1a, hw_1b⟩ := hw_1
  subst hw_1a
  rw [hw_1b] at hP
  refine lv_if_ne (tgt := 11) hx hb dX12_ring_5 (by decide) (fun h => absurd h (by decide)) (fun _ => ?_)
  refine lv_bipush (v := (-2)) hx hb dX12_ring_8 (by decide) ?_
  exact q_iret X hP hS ⟨rfl, rfl⟩ dX12_ring_10

theorem dX12_undo_0 : decode cX12_undo 0 = .ok (.aload_n 0, 1) := by decide +kernel
theorem dX12_undo_1 : decode cX12_undo 1 = .ok (.invokevirtual 261, 3) := by decide +kernel
theorem dX12_undo_4 : decode cX12_undo 4 = .ok (.ifCond .ne 6, 3) := by decide +kernel
theorem dX12_undo_7 : decode cX12_undo 7 = .ok (.bipush (-2), 2) := by decide +kernel
theorem dX12_undo_9 : decode cX12_undo 9 = .ok (.ireturn, 1) := by decide +kernel
def vX12_undo : List Cond := .code yX12_undo cX12_undo 1 (some .int) :: ([.methodLink RX12 261 yX12_isStreet, .instanceMethod yX12_isStreet, .selects RX12 yX12_isStreet yX12_isStreet, .initialized RX12, .code yX12_isStreet cX12_isStreet 1 (some .boolean), .fieldLink RX12 9 "IcicleClockModel" "world" "[I"] ++ wsX120)
theorem iX12_undo_12 : ∀ w ∈ wsX120, w ∈ vX12_undo := fun _ h => List.mem_cons_of_mem _ (List.mem_append_right _ h)
set_option maxRecDepth 20000 in
theorem gg_X12_undo_X12_isStreet : GoodIn vX12_undo (wsV RX12 261 RX12 yX12_isStreet vX12_isStreet) := goodIn_r _ [1, 2, 3, 4, 5, 6, 7, 8, 9, 10, 11, 12, 13, 14, 15, 16, 17, 18, 19, 20, 21, 22, 23, 24, 25, 26, 27, 28, 29, 30, 31, 32, 33, 34, 35, 36, 37, 38, 39, 40, 41, 42, 43, 44, 45, 46] (by decide +kernel) (by decide +kernel)
set_option maxHeartbeats 4000000 in
set_option maxRecDepth 100000 in
theorem m_undo (l : Launch) (D : va_G) (cs : Nat → ClassId) (ad : Nat → Nat) (hj : wJ ad nW) (g : Nat → va_E) (h197 : g 197 = .inr (12, [.int 0, .ref (ad 198), .ref (ad 199), .ref (ad 200), .ref (ad 201), .int 0, .ref (ad 202), .int 0, .int 0, .int 0, .int 0, .int 0, .int 0, .int (-1), .ref (ad 203), .ref (ad 204), .ref (ad 205), .int 0, .int 0, .ref (ad 206), .ref (ad 207), .ref (ad 208), .int 0, .int 0, .int 0, .int 0, .int 0, .ref (ad 209), .ref (ad 210), .ref (ad 211), .long 0, .long 0, .ref (ad 212), .ref (ad 213), .int 0, .int 0, .ref (ad 214), .ref (ad 215), .ref (ad 216), .ref (ad 217)])) (h198 : g 198 = .inl (cs 1, 118, .inl (fun _ => 0))) : cI l yX12_undo vX12_undo { frames := 1, cells := 0, slots := 0, locals := 20 } D cs ad nW [.ref (ad 197)] g (fun r g2 => r = (-2) ∧ g2 = g) := by
  refine Met.start (cc := cX12_undo) (maxL := 1) (ret := (some .int)) RX12 rfl (by decide) rfl (Nat.le_of_ble_eq_true rfl) ?_
  intro p e s m below meth c ls X hP hl
  have hx := X.1
  have hb := X.2.1
  have hS : va_S (wA ad nW) s.heap s.heap [] := va_S.rf
  have hA : ∀ i, i < nW → wA ad nW (ad i) := fun i h => ⟨i, h, rfl⟩
  have hl : lv_has ls 1 [(0, .ref (ad 197))] := hl
  refine lv_aload_n hx hb dX12_undo_0 rfl (lv_at hl 0 rfl) ?_
  refine q_calli (q := (RX12, TX12, 40)) (As := []) (rest := []) X (m_isStreet l D cs ad hj g  h197 h198) (cwV 0 X.2.2.2.2.1 gg_X12_undo_X12_isStreet rfl rfl rfl (by decide +kernel) ⟨Nat.le_of_ble_eq_true rfl, Nat.le_of_ble_eq_true rfl⟩) (by decide) h197 rfl hP hA hS rfl hl.1 rfl (Nat.le_of_ble_eq_true rfl) dX12_undo_1 ⟨Nat.le_of_ble_eq_true rfl, Nat.le_of_ble_eq_true rfl⟩ (fun r_3 g_2 H locs hw_1 hP hS => ?_)
  obtain ⟨hw_1a, hw_1b⟩ := hw_1
  subst hw_1a
  rw [hw_1b] at hP
  refine lv_if_ne (tgt := 10) hx hb dX12_undo_4 (by decide) (fun h => absurd h (by decide)) (fun _ => ?_)
  refine lv_bipush (v := (-2)) hx hb dX12_undo_7 (by decide) ?_
  exact q_iret X hP hS ⟨rfl, rfl⟩ dX12_undo_9

theorem dX12_anew_0 : decode cX12_anew 0 = .ok (.aload_n 0, 1) := by decide +kernel
theorem dX12_anew_1 : decode cX12_anew 1 = .ok (.invokevirtual 261, 3) := by decide +kernel
theorem dX12_anew_4 : decode cX12_anew 4 = .ok (.ifCond .ne 6, 3) := by decide +kernel
theorem dX12_anew_7 : decode cX12_anew 7 = .ok (.bipush (-2), 2) := by decide +kernel
theorem dX12_anew_9 : decode cX12_anew 9 = .ok (.ireturn, 1) := by decide +kernel
def vX12_anew : List Cond := .code yX12_anew cX12_anew 2 (some .int) :: ([.methodLink RX12 261 yX12_isStreet, .instanceMethod yX12_isStreet, .selects RX12 yX12_isStreet yX12_isStreet, .initialized RX12, .code yX12_isStreet cX12_isStreet 1 (some .boolean), .fieldLink RX12 9 "IcicleClockModel" "world" "[I"] ++ wsX120)
theorem iX12_anew_12 : ∀ w ∈ wsX120, w ∈ vX12_anew := fun _ h => List.mem_cons_of_mem _ (List.mem_append_right _ h)
set_option maxRecDepth 20000 in
theorem gg_X12_anew_X12_isStreet : GoodIn vX12_anew (wsV RX12 261 RX12 yX12_isStreet vX12_isStreet) := goodIn_r _ [1, 2, 3, 4, 5, 6, 7, 8, 9, 10, 11, 12, 13, 14, 15, 16, 17, 18, 19, 20, 21, 22, 23, 24, 25, 26, 27, 28, 29, 30, 31, 32, 33, 34, 35, 36, 37, 38, 39, 40, 41, 42, 43, 44, 45, 46] (by decide +kernel) (by decide +kernel)
set_option maxHeartbeats 4000000 in
set_option maxRecDepth 100000 in
theorem m_anew (l : Launch) (D : va_G) (cs : Nat → ClassId) (ad : Nat → Nat) (hj : wJ ad nW) (g : Nat → va_E) (h197 : g 197 = .inr (12, [.int 0, .ref (ad 198), .ref (ad 199), .ref (ad 200), .ref (ad 201), .int 0, .ref (ad 202), .int 0, .int 0, .int 0, .int 0, .int 0, .int 0, .int (-1), .ref (ad 203), .ref (ad 204), .ref (ad 205), .int 0, .int 0, .ref (ad 206), .ref (ad 207), .ref (ad 208), .int 0, .int 0, .int 0, .int 0, .int 0, .ref (ad 209), .ref (ad 210), .ref (ad 211), .long 0, .long 0, .ref (ad 212), .ref (ad 213), .int 0, .int 0, .ref (ad 214), .ref (ad 215), .ref (ad 216), .ref (ad 217)])) (h198 : g 198 = .inl (cs 1, 118, .inl (fun _ => 0))) : cI l yX12_anew vX12_anew { frames := 1, cells := 0, slots := 0, locals := 20 } D cs ad nW [.ref (ad 197)] g (fun r g2 => r = (-2) ∧ g2 = g) := by
  refine Met.start (cc := cX12_anew) (maxL := 2) (ret := (some .int)) RX12 rfl (by decide) rfl (Nat.le_of_ble_eq_true rfl) ?_
  intro p e s m below meth c ls X hP hl
  have hx := X.1
  have hb := X.2.1
  have hS : va_S (wA ad nW) s.heap s.heap [] := va_S.rf
  have hA : ∀ i, i < nW → wA ad nW (ad i) := fun i h => ⟨i, h, rfl⟩
  have hl : lv_has ls 2 [(0, .ref (ad 197))] := hl
  refine lv_aload_n hx hb dX12_anew_0 rfl (lv_at hl 0 rfl) ?_
  refine q_calli (q := (RX12, TX12, 40)) (As := []) (rest := []) X (m_isStreet l D cs ad hj g  h197 h198) (cwV 0 X.2.2.2.2.1 gg_X12_anew_X12_isStreet rfl rfl rfl (by decide +kernel) ⟨Nat.le_of_ble_eq_true rfl, Nat.le_of_ble_eq_true rfl⟩) (by decide) h197 rfl hP hA hS rfl hl.1 rfl (Nat.le_of_ble_eq_true rfl) dX12_anew_1 ⟨Nat.le_of_ble_eq_true rfl, Nat.le_of_ble_eq_true rfl⟩ (fun r_3 g_2 H locs hw_1 hP hS => ?_)
  obtain ⟨hw_1a, hw_1b⟩ := hw_1
  subst hw_1a
  rw [hw_1b] at hP
  refine lv_if_ne (tgt := 10) hx hb dX12_anew_4 (by decide) (fun h => absurd h (by decide)) (fun _ => ?_)
  refine lv_bipush (v := (-2)) hx hb dX12_anew_7 (by decide) ?_
  exact q_iret X hP hS ⟨rfl, rfl⟩ dX12_anew_9

theorem dX12_drawn_0 : decode cX12_drawn 0 = .ok (.aload_n 0, 1) := by decide +kernel
theorem dX12_drawn_1 : decode cX12_drawn 1 = .ok (.invokevirtual 261, 3) := by decide +kernel
theorem dX12_drawn_4 : decode cX12_drawn 4 = .ok (.ifCond .eq 22, 3) := by decide +kernel
theorem dX12_drawn_26 : decode cX12_drawn 26 = .ok (.bipush (-2), 2) := by decide +kernel
theorem dX12_drawn_28 : decode cX12_drawn 28 = .ok (.ireturn, 1) := by decide +kernel
def vX12_drawn : List Cond := .code yX12_drawn cX12_drawn 5 (some .int) :: ([.methodLink RX12 261 yX12_isStreet, .instanceMethod yX12_isStreet, .selects RX12 yX12_isStreet yX12_isStreet, .initialized RX12, .code yX12_isStreet cX12_isStreet 1 (some .boolean), .fieldLink RX12 9 "IcicleClockModel" "world" "[I"] ++ wsX120)
theorem iX12_drawn_12 : ∀ w ∈ wsX120, w ∈ vX12_drawn := fun _ h => List.mem_cons_of_mem _ (List.mem_append_right _ h)
set_option maxRecDepth 20000 in
theorem gg_X12_drawn_X12_isStreet : GoodIn vX12_drawn (wsV RX12 261 RX12 yX12_isStreet vX12_isStreet) := goodIn_r _ [1, 2, 3, 4, 5, 6, 7, 8, 9, 10, 11, 12, 13, 14, 15, 16, 17, 18, 19, 20, 21, 22, 23, 24, 25, 26, 27, 28, 29, 30, 31, 32, 33, 34, 35, 36, 37, 38, 39, 40, 41, 42, 43, 44, 45, 46] (by decide +kernel) (by decide +kernel)
set_option maxHeartbeats 4000000 in
set_option maxRecDepth 100000 in
theorem m_drawn (l : Launch) (D : va_G) (cs : Nat → ClassId) (ad : Nat → Nat) (hj : wJ ad nW) (g : Nat → va_E) (vs : Int32) (vw : Int32) (h197 : g 197 = .inr (12, [.int 0, .ref (ad 198), .ref (ad 199), .ref (ad 200), .ref (ad 201), .int 0, .ref (ad 202), .int 0, .int 0, .int 0, .int 0, .int 0, .int 0, .int (-1), .ref (ad 203), .ref (ad 204), .ref (ad 205), .int 0, .int 0, .ref (ad 206), .ref (ad 207), .ref (ad 208), .int 0, .int 0, .int 0, .int 0, .int 0, .ref (ad 209), .ref (ad 210), .ref (ad 211), .long 0, .long 0, .ref (ad 212), .ref (ad 213), .int 0, .int 0, .ref (ad 214), .ref (ad 215), .ref (ad 216), .ref (ad 217)])) (h198 : g 198 = .inl (cs 1, 118, .inl (fun _ => 0))) : cI l yX12_drawn vX12_drawn { frames := 1, cells := 0, slots := 0, locals := 20 } D cs ad nW [.ref (ad 197), .int vs, .int vw] g (fun r g2 => r = (-2) ∧ g2 = g) := by
  refine Met.start (cc := cX12_drawn) (maxL := 5) (ret := (some .int)) RX12 rfl (by decide) rfl (Nat.le_of_ble_eq_true rfl) ?_
  intro p e s m below meth c ls X hP hl
  have hx := X.1
  have hb := X.2.1
  have hS : va_S (wA ad nW) s.heap s.heap [] := va_S.rf
  have hA : ∀ i, i < nW → wA ad nW (ad i) := fun i h => ⟨i, h, rfl⟩
  have hl : lv_has ls 5 [(0, .ref (ad 197)), (1, .int vs), (2, .int vw)] := hl
  refine lv_aload_n hx hb dX12_drawn_0 rfl (lv_at hl 0 rfl) ?_
  refine q_calli (q := (RX12, TX12, 40)) (As := []) (rest := []) X (m_isStreet l D cs ad hj g  h197 h198) (cwV 0 X.2.2.2.2.1 gg_X12_drawn_X12_isStreet rfl rfl rfl (by decide +kernel) ⟨Nat.le_of_ble_eq_true rfl, Nat.le_of_ble_eq_true rfl⟩) (by decide) h197 rfl hP hA hS rfl hl.1 rfl (Nat.le_of_ble_eq_true rfl) dX12_drawn_1 ⟨Nat.le_of_ble_eq_true rfl, Nat.le_of_ble_eq_true rfl⟩ (fun r_3 g_2 H locs hw_1 hP hS => ?_)
  obtain ⟨hw_1a, hw_1b⟩ := hw_1
  subst hw_1a
  rw [hw_1b] at hP
  refine lv_if_eq (tgt := 26) hx hb dX12_drawn_4 (by decide) (fun _ => ?_) (fun h => absurd h (by decide))
  refine lv_bipush (v := (-2)) hx hb dX12_drawn_26 (by decide) ?_
  exact q_iret X hP hS ⟨rfl, rfl⟩ dX12_drawn_28

theorem dX12_luck_0 : decode cX12_luck 0 = .ok (.iload_n 1, 1) := by decide +kernel
theorem dX12_luck_1 : decode cX12_luck 1 = .ok (.invokestatic 418, 3) := by decide +kernel
theorem dX12_luck_4 : decode cX12_luck 4 = .ok (.ifCond .eq 33, 3) := by decide +kernel
theorem dX12_luck_37 : decode cX12_luck 37 = .ok (.bipush (-2), 2) := by decide +kernel
theorem dX12_luck_39 : decode cX12_luck 39 = .ok (.ireturn, 1) := by decide +kernel
theorem dX12_luck_7 : decode cX12_luck 7 = .ok (.iload_n 2, 1) := by decide +kernel
theorem dX12_luck_8 : decode cX12_luck 8 = .ok (.i2l, 1) := by decide +kernel
theorem dX12_luck_9 : decode cX12_luck 9 = .ok (.lconst 1, 1) := by decide +kernel
theorem dX12_luck_10 : decode cX12_luck 10 = .ok (.ldc2_w 425, 3) := by decide +kernel
theorem dX12_luck_13 : decode cX12_luck 13 = .ok (.invokestatic 82, 3) := by decide +kernel
theorem dX12_luck_16 : decode cX12_luck 16 = .ok (.ifCond .eq 21, 3) := by decide +kernel
theorem dX12_luck_19 : decode cX12_luck 19 = .ok (.aload_n 0, 1) := by decide +kernel
theorem dX12_luck_20 : decode cX12_luck 20 = .ok (.iload_n 3, 1) := by decide +kernel
theorem dX12_luck_21 : decode cX12_luck 21 = .ok (.i2l, 1) := by decide +kernel
theorem dX12_luck_22 : decode cX12_luck 22 = .ok (.invokevirtual 221, 3) := by decide +kernel
theorem dX12_luck_25 : decode cX12_luck 25 = .ok (.ifCond .eq 12, 3) := by decide +kernel
def vX12_luck : List Cond := .code yX12_luck cX12_luck 7 (some .int) :: ([.methodLink RX12 418 yX12_isSeed, .static yX12_isSeed, .initialized RX12, .code yX12_isSeed cX12_isSeed 1 (some .boolean), .constantLong RX12 416 (2000000000), .methodLink RX12 82 yX12_in, .static yX12_in, .code yX12_in cX12_in 6 (some .boolean), .constantLong RX12 425 (20), .methodLink RX12 221 yX12_isIcicle, .instanceMethod yX12_isIcicle, .selects RX12 yX12_isIcicle yX12_isIcicle, .code yX12_isIcicle cX12_isIcicle 3 (some .boolean), .fieldLink RX12 9 "IcicleClockModel" "world" "[I"] ++ wsX120)
theorem iX12_luck_12 : ∀ w ∈ wsX120, w ∈ vX12_luck := fun _ h => List.mem_cons_of_mem _ (List.mem_append_right _ h)
set_option maxRecDepth 20000 in
theorem gg_X12_luck_X12_isSeed : GoodIn vX12_luck (wsS RX12 418 yX12_isSeed vX12_isSeed) := goodIn_r _ [1, 2, 3, 4, 5, 6, 7, 3, 8] (by decide +kernel) (by decide +kernel)
set_option maxRecDepth 20000 in
theorem gg_X12_luck_X12_in : GoodIn vX12_luck (wsS RX12 82 yX12_in vX12_in) := goodIn_r _ [6, 7, 3, 8] (by decide +kernel) (by decide +kernel)
set_option maxRecDepth 20000 in
theorem gg_X12_luck_X12_isIcicle : GoodIn vX12_luck (wsV RX12 221 RX12 yX12_isIcicle vX12_isIcicle) := goodIn_r _ [10, 11, 12, 3, 13, 14, 6, 7, 3, 8, 15, 16, 17, 18, 19, 20, 21, 22, 23, 24, 25, 26, 27, 28, 29, 30, 31, 32, 33, 34, 35, 36, 37, 38, 39, 40, 41, 42, 43, 44, 45, 46, 47, 48, 49, 50, 51, 52, 53, 54] (by decide +kernel) (by decide +kernel)
set_option maxHeartbeats 4000000 in
set_option maxRecDepth 100000 in
theorem m_luck (l : Launch) (D : va_G) (cs : Nat → ClassId) (ad : Nat → Nat) (hj : wJ ad nW) (g : Nat → va_E) (vs : Int32) (vn : Int32) (vi : Int32) (vd : Int32) (h197 : g 197 = .inr (12, [.int 0, .ref (ad 198), .ref (ad 199), .ref (ad 200), .ref (ad 201), .int 0, .ref (ad 202), .int 0, .int 0, .int 0, .int 0, .int 0, .int 0, .int (-1), .ref (ad 203), .ref (ad 204), .ref (ad 205), .int 0, .int 0, .ref (ad 206), .ref (ad 207), .ref (ad 208), .int 0, .int 0, .int 0, .int 0, .int 0, .ref (ad 209), .ref (ad 210), .ref (ad 211), .long 0, .long 0, .ref (ad 212), .ref (ad 213), .int 0, .int 0, .ref (ad 214), .ref (ad 215), .ref (ad 216), .ref (ad 217)])) (h198 : g 198 = .inl (cs 1, 118, .inl (fun _ => 0))) : cI l yX12_luck vX12_luck { frames := 2, cells := 0, slots := 0, locals := 47 } D cs ad nW [.ref (ad 197), .int vs, .int vn, .int vi, .int vd] g (fun r g2 => r = (-2) ∧ g2 = g) := by
  refine Met.start (cc := cX12_luck) (maxL := 7) (ret := (some .int)) RX12 rfl (by decide) rfl (Nat.le_of_ble_eq_true rfl) ?_
  intro p e s m below meth c ls X hP hl
  have hx := X.1
  have hb := X.2.1
  have hS : va_S (wA ad nW) s.heap s.heap [] := va_S.rf
  have hA : ∀ i, i < nW → wA ad nW (ad i) := fun i h => ⟨i, h, rfl⟩
  have hl : lv_has ls 7 [(0, .ref (ad 197)), (1, .int vs), (2, .int vn), (3, .int vi), (4, .int vd)] := hl
  refine lv_iload_n hx hb dX12_luck_0 rfl (lv_at hl 1 rfl) ?_
  refine q_callSi (As := [.int vs]) (rest := []) X (m_isSeed l D cs ad hj g vs ) (cwS 1 X.2.2.2.2.1 gg_X12_luck_X12_isSeed rfl rfl rfl (by decide +kernel) ⟨Nat.le_of_ble_eq_true rfl, Nat.le_of_ble_eq_true rfl⟩) hP hA hS rfl hl.1 rfl (Nat.le_of_ble_eq_true rfl) dX12_luck_1 ⟨Nat.le_of_ble_eq_true rfl, Nat.le_of_ble_eq_true rfl⟩ (fun r_3 g_2 H locs hw_1 hP hS => ?_)
  obtain ⟨hw_1b, hw_1⟩ := hw_1
  rw [hw_1b] at hP
  refine lv_if_eq (tgt := 37) hx hb dX12_luck_4 (by decide) (fun hc_4 => ?_) (fun hc_4 => ?_)
  · refine lv_bipush (v := (-2)) hx hb dX12_luck_37 (by decide) ?_
    exact q_iret X hP hS ⟨rfl, rfl⟩ dX12_luck_39
  · refine lv_iload_n hx hb dX12_luck_7 rfl (lv_at hl 2 rfl) ?_
    refine lv_i2l (v := vn.toInt64) hx hb dX12_luck_8 rfl ?_
    refine lv_lconst (v := 1) hx hb dX12_luck_9 (by decide) ?_
    refine lv_ldc2 (v := 20) hx hb X.2.2.2.2.2.1 (X.2.2.2.2.1 _ (List.mem_of_getElem? (i := 9) rfl)) dX12_luck_10 ?_
    refine q_callSi (As := [.long (vn.toInt64), .long 1, .long 20]) (rest := []) X (m_in l D cs ad hj g (vn.toInt64) 1 20 ) (cwS 3 X.2.2.2.2.1 gg_X12_luck_X12_in rfl rfl rfl (by decide +kernel) ⟨Nat.le_of_ble_eq_true rfl, Nat.le_of_ble_eq_true rfl⟩) hP hA hS rfl hl.1 rfl (Nat.le_of_ble_eq_true rfl) dX12_luck_13 ⟨Nat.le_of_ble_eq_true rfl, Nat.le_of_ble_eq_true rfl⟩ (fun r_6 g_5 H locs hw_4 hP hS => ?_)
    obtain ⟨hw_4b, hw_4⟩ := hw_4
    rw [hw_4b] at hP
    refine lv_if_eq (tgt := 37) hx hb dX12_luck_16 (by decide) (fun hc_16 => ?_) (fun hc_16 => ?_)
    · refine lv_bipush (v := (-2)) hx hb dX12_luck_37 (by decide) ?_
      exact q_iret X hP hS ⟨rfl, rfl⟩ dX12_luck_39
    · refine lv_aload_n hx hb dX12_luck_19 rfl (lv_at hl 0 rfl) ?_
      refine lv_iload_n hx hb dX12_luck_20 rfl (lv_at hl 3 rfl) ?_
      refine lv_i2l (v := vi.toInt64) hx hb dX12_luck_21 rfl ?_
      refine q_calli (q := (RX12, TX12, 40)) (As := [.long (vi.toInt64)]) (rest := []) X (m_isIcicle l D cs ad hj g (vi.toInt64) h197 h198) (cwV 1 X.2.2.2.2.1 gg_X12_luck_X12_isIcicle rfl rfl rfl (by decide +kernel) ⟨Nat.le_of_ble_eq_true rfl, Nat.le_of_ble_eq_true rfl⟩) (by decide) h197 rfl hP hA hS rfl hl.1 rfl (Nat.le_of_ble_eq_true rfl) dX12_luck_22 ⟨Nat.le_of_ble_eq_true rfl, Nat.le_of_ble_eq_true rfl⟩ (fun r_9 g_8 H locs hw_7 hP hS => ?_)
      obtain ⟨hw_7a, hw_7b⟩ := hw_7
      subst hw_7a
      rw [hw_7b] at hP
      refine lv_if_eq (tgt := 37) hx hb dX12_luck_25 (by decide) (fun _ => ?_) (fun h => absurd h (by decide))
      refine lv_bipush (v := (-2)) hx hb dX12_luck_37 (by decide) ?_
      exact q_iret X hP hS ⟨rfl, rfl⟩ dX12_luck_39

theorem dX12_hung_0 : decode cX12_hung 0 = .ok (.aload_n 0, 1) := by decide +kernel
theorem dX12_hung_1 : decode cX12_hung 1 = .ok (.iload_n 1, 1) := by decide +kernel
theorem dX12_hung_2 : decode cX12_hung 2 = .ok (.i2l, 1) := by decide +kernel
theorem dX12_hung_3 : decode cX12_hung 3 = .ok (.invokevirtual 221, 3) := by decide +kernel
theorem dX12_hung_6 : decode cX12_hung 6 = .ok (.ifCond .eq 15, 3) := by decide +kernel
theorem dX12_hung_21 : decode cX12_hung 21 = .ok (.bipush (-2), 2) := by decide +kernel
theorem dX12_hung_23 : decode cX12_hung 23 = .ok (.ireturn, 1) := by decide +kernel
def vX12_hung : List Cond := .code yX12_hung cX12_hung 4 (some .int) :: ([.methodLink RX12 221 yX12_isIcicle, .instanceMethod yX12_isIcicle, .selects RX12 yX12_isIcicle yX12_isIcicle, .initialized RX12, .code yX12_isIcicle cX12_isIcicle 3 (some .boolean), .fieldLink RX12 9 "IcicleClockModel" "world" "[I", .methodLink RX12 82 yX12_in, .static yX12_in, .code yX12_in cX12_in 6 (some .boolean)] ++ wsX120)
theorem iX12_hung_12 : ∀ w ∈ wsX120, w ∈ vX12_hung := fun _ h => List.mem_cons_of_mem _ (List.mem_append_right _ h)
set_option maxRecDepth 20000 in
theorem gg_X12_hung_X12_isIcicle : GoodIn vX12_hung (wsV RX12 221 RX12 yX12_isIcicle vX12_isIcicle) := goodIn_r _ [1, 2, 3, 4, 5, 6, 7, 8, 4, 9, 10, 11, 12, 13, 14, 15, 16, 17, 18, 19, 20, 21, 22, 23, 24, 25, 26, 27, 28, 29, 30, 31, 32, 33, 34, 35, 36, 37, 38, 39, 40, 41, 42, 43, 44, 45, 46, 47, 48, 49] (by decide +kernel) (by decide +kernel)
set_option maxHeartbeats 4000000 in
set_option maxRecDepth 100000 in
theorem m_hung (l : Launch) (D : va_G) (cs : Nat → ClassId) (ad : Nat → Nat) (hj : wJ ad nW) (g : Nat → va_E) (vi : Int32) (vn : Int32) (h197 : g 197 = .inr (12, [.int 0, .ref (ad 198), .ref (ad 199), .ref (ad 200), .ref (ad 201), .int 0, .ref (ad 202), .int 0, .int 0, .int 0, .int 0, .int 0, .int 0, .int (-1), .ref (ad 203), .ref (ad 204), .ref (ad 205), .int 0, .int 0, .ref (ad 206), .ref (ad 207), .ref (ad 208), .int 0, .int 0, .int 0, .int 0, .int 0, .ref (ad 209), .ref (ad 210), .ref (ad 211), .long 0, .long 0, .ref (ad 212), .ref (ad 213), .int 0, .int 0, .ref (ad 214), .ref (ad 215), .ref (ad 216), .ref (ad 217)])) (h198 : g 198 = .inl (cs 1, 118, .inl (fun _ => 0))) : cI l yX12_hung vX12_hung { frames := 2, cells := 0, slots := 0, locals := 47 } D cs ad nW [.ref (ad 197), .int vi, .int vn] g (fun r g2 => r = (-2) ∧ g2 = g) := by
  refine Met.start (cc := cX12_hung) (maxL := 4) (ret := (some .int)) RX12 rfl (by decide) rfl (Nat.le_of_ble_eq_true rfl) ?_
  intro p e s m below meth c ls X hP hl
  have hx := X.1
  have hb := X.2.1
  have hS : va_S (wA ad nW) s.heap s.heap [] := va_S.rf
  have hA : ∀ i, i < nW → wA ad nW (ad i) := fun i h => ⟨i, h, rfl⟩
  have hl : lv_has ls 4 [(0, .ref (ad 197)), (1, .int vi), (2, .int vn)] := hl
  refine lv_aload_n hx hb dX12_hung_0 rfl (lv_at hl 0 rfl) ?_
  refine lv_iload_n hx hb dX12_hung_1 rfl (lv_at hl 1 rfl) ?_
  refine lv_i2l (v := vi.toInt64) hx hb dX12_hung_2 rfl ?_
  refine q_calli (q := (RX12, TX12, 40)) (As := [.long (vi.toInt64)]) (rest := []) X (m_isIcicle l D cs ad hj g (vi.toInt64) h197 h198) (cwV 1 X.2.2.2.2.1 gg_X12_hung_X12_isIcicle rfl rfl rfl (by decide +kernel) ⟨Nat.le_of_ble_eq_true rfl, Nat.le_of_ble_eq_true rfl⟩) (by decide) h197 rfl hP hA hS rfl hl.1 rfl (Nat.le_of_ble_eq_true rfl) dX12_hung_3 ⟨Nat.le_of_ble_eq_true rfl, Nat.le_of_ble_eq_true rfl⟩ (fun r_3 g_2 H locs hw_1 hP hS => ?_)
  obtain ⟨hw_1a, hw_1b⟩ := hw_1
  subst hw_1a
  rw [hw_1b] at hP
  refine lv_if_eq (tgt := 21) hx hb dX12_hung_6 (by decide) (fun _ => ?_) (fun h => absurd h (by decide))
  refine lv_bipush (v := (-2)) hx hb dX12_hung_21 (by decide) ?_
  exact q_iret X hP hS ⟨rfl, rfl⟩ dX12_hung_23
end
section
theorem z_upd {f : Nat → Int32} (h : ∀ j, f j = 0) (k j : Nat) : upd f k 0 j = 0 := by
  by_cases e : j = k
  · subst e; exact pk_us
  · rw [pk_un e]; exact h j
section ROWS13
variable {p : Program} {l : Launch} {e : Env} {R : Room} {s : State} {m : MethodId} {args : Array Value} {below : List Frame} {meth : Method} {c : Code} {H H0 : Heap} {locs : List Loc} {cells slots : Nat} {Q : State → Prop}
variable {cc : ByteArray} {pc nL n : Nat} {ls : Array Slot} {rest : List Value} {D : va_G} {cs : Nat → ClassId} {A : Nat → Prop} {ad : Nat → Nat} {g : Nat → va_E} {rt : Option FieldType} {Ts : List Cond} {own : String}
theorem q_ialdv (X : Cx p s m args meth c cc nL rt Ts own D cs) (hP : va_P D vwCl (wL ad g n) H) {i N : Nat} {f : Nat → Int32} (hi : i < n) (hg : g i = .inl (cs 1, N, .inl f)) {k : Int32} (hin : vp_in k N) {v : Int32} (hv : f k.toNatClampNeg = v) (hdg : decode cc pc = .ok (.iaload, 1))
    (kk : W p l e R s m args below meth c H locs cells slots Q (F0 m (pc + 1) ls (.int v :: rest))) : W p l e R s m args below meth c H locs cells slots Q (F0 m pc ls (.int k :: .ref (ad i) :: rest)) := q_iald X hP hi hg hin hdg (by rw [hv]; exact kk)
theorem q_alen (X : Cx p s m args meth c cc nL rt Ts own D cs) (hP : va_P D vwCl (wL ad g n) H) {i : Nat} {x : vp_A} (hi : i < n) (t0 : Nat) {ty : FieldType} (hg : g i = .inl (cs t0, x)) (ht : (tyL cs)[t0]? = some (cs t0, ty)) {v : Int32} (hv : Int32.ofNat x.1 = v) (hdg : decode cc pc = .ok (.arraylength, 1))
    (kk : W p l e R s m args below meth c H locs cells slots Q (F0 m (pc + 1) ls (.int v :: rest))) : W p l e R s m args below meth c H locs cells slots Q (F0 m pc ls (.ref (ad i) :: rest)) :=
  va_alen X.1 X.2.1 X.2.2.2.2.2.2.1 hP i t0 (wL_at hi hg) ht hv hdg kk
theorem q_copyi (X : Cx p s m args meth c cc nL rt Ts own D cs) (hsz : ls.size = nL) {index : Nat} (hlink : Cond.methodLink own index arraycopyName ∈ Ts) (hnat : Cond.native arraycopyName ∈ Ts) (hstat : Cond.static arraycopyName ∈ Ts) (hini : Cond.initialized "java/lang/System" ∈ Ts) (hP : va_P D vwCl (wL ad g n) H) (hj : wJ ad n) (hA : ∀ i, i < n → A (ad i)) (hS : va_S A H0 H locs) (t0 : Nat) {ty : FieldType} (ht : (tyL cs)[t0]? = some (cs t0, ty)) (hprim : refKind ty = false) {i0 i1 n0 n1 : Nat} {f0 f1 : Nat → Int32} (hi0 : i0 < n) (hi1 : i1 < n) (hg0 : g i0 = .inl (cs t0, n0, .inl f0)) (hg1 : g i1 = .inl (cs t0, n1, .inl f1)) {sp dp k : Int32} (h1 : ¬ sp < 0) (h2 : ¬ dp < 0) (h3 : ¬ k < 0) (h4 : sp.toNatClampNeg + k.toNatClampNeg ≤ n0) (h5 : dp.toNatClampNeg + k.toNatClampNeg ≤ n1) (hfit : ∀ i, i < k.toNatClampNeg → fits ty (.int (f0 (sp.toNatClampNeg + i))) = true) (hframes : 1 ≤ R.frames) (hlocals : (rest.map fun v => v.category).sum + (nativeFrameWords "java/lang/System" "arraycopy" 5 + 11) ≤ R.locals) (hdg : decode cc pc = .ok (.invokestatic index, 3))
    (kk : ∀ (H1 : Heap) (locs1 : List Loc), va_P D vwCl (wL ad (va_up g i1 (.inl (cs t0, n1, .inl (va_cpy f0 f1 sp.toNatClampNeg dp.toNatClampNeg k.toNatClampNeg)))) n) H1 → va_S A H0 H1 locs1 → W p l e R s m args below meth c H1 locs1 cells slots Q (F0 m (pc + 3) ls rest)) : W p l e R s m args below meth c H locs cells slots Q (F0 m pc ls (.int k :: .int dp :: .ref (ad i1) :: .int sp :: .ref (ad i0) :: rest)) :=
  va_copyi X.1 X.2.1 (X.2.2.2.1.trans hsz.symm) X.2.2.2.2.2.1 (X.2.2.2.2.1 _ hlink) (X.2.2.2.2.1 _ hnat) (X.2.2.2.2.1 _ hstat) (X.2.2.2.2.1 _ hini) X.2.2.2.2.2.2.1 hP (wL_D hj hA) hS i0 i1 t0 t0 (wL_at hi0 hg0) (wL_at hi1 hg1) ht ht hprim h1 h2 h3 h4 h5 hfit hframes hlocals hdg (fun H1 locs1 hP1 _ hS1 => kk H1 locs1 (by rw [← wL_set]; exact hP1) hS1)
variable {y : MethodName} {ws ws' : List Cond} {rm : Room} {bytes : ByteArray} {maxL index k : Nat} {ret : Option FieldType} {C : String} {As : List Value} {st : List Value}
theorem q_callSv (X : Cx p s m args meth c cc nL rt Ts own D cs) {post : (Nat → va_E) → Prop} (hM : cV l y ws rm D cs ad n As g post) (cw : CallB R s args own index y bytes maxL ret ws rm 0 0 k ∧ (Cond.static y).before args s = true) (hP : va_P D vwCl (wL ad g n) H) (hA : ∀ i, i < n → A (ad i)) (hS : va_S A H0 H locs) (hn : As.length = k) (hsz : ls.size = nL) (hst : st = As.reverse ++ rest) (hcat : (rest.map fun v => v.category).sum ≤ 8) (hdg : decode cc pc = .ok (.invokestatic index, 3)) (hf : cells + 0 ≤ R.cells ∧ slots + 0 ≤ R.slots)
    (kk : ∀ (g' : Nat → va_E) (H1 : Heap) (locs1 : List Loc), post g' → va_P D vwCl (wL ad g' n) H1 → va_S A H0 H1 locs1 → W p l e R s m args below meth c H1 locs1 cells slots Q (F0 m (pc + 3) ls rest)) : W p l e R s m args below meth c H locs cells slots Q (F0 m pc ls st) :=
  va_callv (va_runS (nL := nL) (As := As) (rest := rest) ⟨X.1, X.2.1, X.2.2.2.1, X.2.2.2.2.2.1, X.2.2.2.2.1⟩ hM cw (q_preS X hP) rfl hn hsz hst (lv_room hcat) hdg hf) hS (fun q _ h => wA_in hA q h) (wA_in hA) (fun u t H1 locs1 ht _ hw hB _ _ hS1 => kk u H1 locs1 hw (by rw [← ht]; exact hB) hS1)
end ROWS13
end
section
theorem in_0n {n r : Int32} (h : (r = 1 ∧ 0 ≤ n.toInt64 ∧ n.toInt64 ≤ 0) ∨ (r = 0 ∧ ¬ (0 ≤ n.toInt64 ∧ n.toInt64 ≤ 0))) (hr : r = 0) : ¬ n = 0 := fun e => by
  subst e
  rcases h with h | h
  · exact absurd (h.1.symm.trans hr) (by decide)
  · exact h.2 (by decide)
theorem in_0y {n r : Int32} (h : (r = 1 ∧ 0 ≤ n.toInt64 ∧ n.toInt64 ≤ 0) ∨ (r = 0 ∧ ¬ (0 ≤ n.toInt64 ∧ n.toInt64 ≤ 0))) (hr : ¬ r = 0) : n = 0 := by
  rcases h with h | h
  · exact Int32.le_antisymm ((w_le n 0).mp h.2.2) ((w_le 0 n).mp h.2.1)
  · exact absurd h.1 hr
theorem in_3y {k r : Int32} (h : (r = 1 ∧ 0 ≤ k.toInt64 ∧ k.toInt64 ≤ 2) ∨ (r = 0 ∧ ¬ (0 ≤ k.toInt64 ∧ k.toInt64 ≤ 2))) (hr : ¬ r = 0) : ¬ k < 0 ∧ k < 3 := by
  rcases in_3 h with h | h
  · exact h.2
  · exact absurd h.1 hr
theorem in_3n {k r : Int32} (h : (r = 1 ∧ 0 ≤ k.toInt64 ∧ k.toInt64 ≤ 2) ∨ (r = 0 ∧ ¬ (0 ≤ k.toInt64 ∧ k.toInt64 ≤ 2))) (hr : r = 0) : ¬ (¬ k < 0 ∧ k < 3) := by
  rcases in_3 h with h | h
  · exact absurd (h.1.symm.trans hr) (by decide)
  · exact h.2
theorem in_3b {k r : Int32} (h : (r = 1 ∧ 0 ≤ k.toInt64 ∧ k.toInt64 ≤ 2) ∨ (r = 0 ∧ ¬ (0 ≤ k.toInt64 ∧ k.toInt64 ≤ 2))) (hr : r = 0) : -2 = aBack k := by
  unfold aBack
  by_cases h1 : k < 0
  · rw [if_pos h1]
  · rw [if_neg h1, if_neg (fun h2 => in_3n h hr ⟨h1, h2⟩)]
theorem in_3i {k r : Int32} (h : (r = 1 ∧ 0 ≤ k.toInt64 ∧ k.toInt64 ≤ 2) ∨ (r = 0 ∧ ¬ (0 ≤ k.toInt64 ∧ k.toInt64 ≤ 2))) (hr : r = 0) : -2 = aImg k := by
  unfold aImg
  by_cases h1 : k < 0
  · rw [if_pos h1]
  · rw [if_neg h1, if_neg (fun h2 => in_3n h hr ⟨h1, h2⟩)]
theorem dX12_end_0 : decode cX12_end 0 = .ok (.iload_n 1, 1) := by decide +kernel
theorem dX12_end_1 : decode cX12_end 1 = .ok (.i2l, 1) := by decide +kernel
theorem dX12_end_2 : decode cX12_end 2 = .ok (.lconst 0, 1) := by decide +kernel
theorem dX12_end_3 : decode cX12_end 3 = .ok (.aload_n 0, 1) := by decide +kernel
theorem dX12_end_4 : decode cX12_end 4 = .ok (.getfield 86, 3) := by decide +kernel
theorem dX12_end_7 : decode cX12_end 7 = .ok (.i2l, 1) := by decide +kernel
theorem dX12_end_8 : decode cX12_end 8 = .ok (.invokestatic 82, 3) := by decide +kernel
theorem dX12_end_11 : decode cX12_end 11 = .ok (.ifCond .ne 5, 3) := by decide +kernel
theorem dX12_end_16 : decode cX12_end 16 = .ok (.aload_n 0, 1) := by decide +kernel
theorem dX12_end_17 : decode cX12_end 17 = .ok (.iload_n 1, 1) := by decide +kernel
theorem dX12_end_18 : decode cX12_end 18 = .ok (.putfield 86, 3) := by decide +kernel
theorem dX12_end_21 : decode cX12_end 21 = .ok (.iload_n 1, 1) := by decide +kernel
theorem dX12_end_22 : decode cX12_end 22 = .ok (.ireturn, 1) := by decide +kernel
theorem dX12_end_14 : decode cX12_end 14 = .ok (.iconst (-1), 1) := by decide +kernel
theorem dX12_end_15 : decode cX12_end 15 = .ok (.ireturn, 1) := by decide +kernel
def vX12_end : List Cond := .code yX12_end cX12_end 2 (some .int) :: ([.fieldLink RX12 86 "IcicleClockModel" "taped" "I", .methodLink RX12 82 yX12_in, .static yX12_in, .initialized RX12, .code yX12_in cX12_in 6 (some .boolean)] ++ wsX120)
theorem iX12_end_12 : ∀ w ∈ wsX120, w ∈ vX12_end := fun _ h => List.mem_cons_of_mem _ (List.mem_append_right _ h)
set_option maxRecDepth 20000 in
theorem gg_X12_end_X12_in : GoodIn vX12_end (wsS RX12 82 yX12_in vX12_in) := goodIn_r _ [2, 3, 4, 5] (by decide +kernel) (by decide +kernel)
set_option maxHeartbeats 4000000 in
set_option maxRecDepth 100000 in
theorem m_end (l : Launch) (D : va_G) (cs : Nat → ClassId) (ad : Nat → Nat) (hj : wJ ad nW) (g : Nat → va_E) (vn : Int32) (h197 : g 197 = .inr (12, [.int 0, .ref (ad 198), .ref (ad 199), .ref (ad 200), .ref (ad 201), .int 0, .ref (ad 202), .int 0, .int 0, .int 0, .int 0, .int 0, .int 0, .int (-1), .ref (ad 203), .ref (ad 204), .ref (ad 205), .int 0, .int 0, .ref (ad 206), .ref (ad 207), .ref (ad 208), .int 0, .int 0, .int 0, .int 0, .int 0, .ref (ad 209), .ref (ad 210), .ref (ad 211), .long 0, .long 0, .ref (ad 212), .ref (ad 213), .int 0, .int 0, .ref (ad 214), .ref (ad 215), .ref (ad 216), .ref (ad 217)])) : cI l yX12_end vX12_end { frames := 1, cells := 0, slots := 0, locals := 25 } D cs ad nW [.ref (ad 197), .int vn] g (fun r g2 => r = aEnd vn) := by
  refine Met.start (cc := cX12_end) (maxL := 2) (ret := (some .int)) RX12 rfl (by decide) rfl (Nat.le_of_ble_eq_true rfl) ?_
  intro p e s m below meth c ls X hP hl
  have hx := X.1
  have hb := X.2.1
  have hS : va_S (wA ad nW) s.heap s.heap [] := va_S.rf
  have hA : ∀ i, i < nW → wA ad nW (ad i) := fun i h => ⟨i, h, rfl⟩
  have hl : lv_has ls 2 [(0, .ref (ad 197)), (1, .int vn)] := hl
  refine lv_iload_n hx hb dX12_end_0 rfl (lv_at hl 1 rfl) ?_
  refine lv_i2l (v := vn.toInt64) hx hb dX12_end_1 rfl ?_
  refine lv_lconst (v := 0) hx hb dX12_end_2 (by decide) ?_
  refine lv_aload_n hx hb dX12_end_3 rfl (lv_at hl 0 rfl) ?_
  refine q_get X iX12_end_12 hP (by decide) h197 rfl 5 (by decide) (List.mem_of_getElem? (i := 1) rfl) (v := .int 0) rfl dX12_end_4 ?_
  refine lv_i2l (v := 0) hx hb dX12_end_7 (by decide) ?_
  refine q_callSi (As := [.long (vn.toInt64), .long 0, .long 0]) (rest := []) X (m_in l D cs ad hj g (vn.toInt64) 0 0 ) (cwS 3 X.2.2.2.2.1 gg_X12_end_X12_in rfl rfl rfl (by decide +kernel) ⟨Nat.le_of_ble_eq_true rfl, Nat.le_of_ble_eq_true rfl⟩) hP hA hS rfl hl.1 rfl (Nat.le_of_ble_eq_true rfl) dX12_end_8 ⟨Nat.le_of_ble_eq_true rfl, Nat.le_of_ble_eq_true rfl⟩ (fun r_3 g_2 H locs hw_1 hP hS => ?_)
  obtain ⟨hw_1b, hw_1⟩ := hw_1
  rw [hw_1b] at hP
  refine lv_if_ne (tgt := 16) hx hb dX12_end_11 (by decide) (fun hc_11 => ?_) (fun hc_11 => ?_)
  · refine lv_aload_n hx hb dX12_end_16 rfl (lv_at hl 0 rfl) ?_
    refine lv_iload_n hx hb dX12_end_17 rfl (lv_at hl 1 rfl) ?_
    refine q_put X iX12_end_12 tyX12 tyX12_ok nmX12 hP hj hA hS (by decide) h197 rfl 5 (by decide) (List.mem_of_getElem? (i := 1) rfl) rfl (ty := .int) (v := .int vn) (by decide +kernel) rfl rfl (Nat.le_of_ble_eq_true rfl) dX12_end_18 (fun H locs hP hS => ?_)
    generalize eg_4 : va_up g 197 _ = g_4 at hP
    have h_5 : g_4 197 = .inr (12, [.int 0, .ref (ad 198), .ref (ad 199), .ref (ad 200), .ref (ad 201), .int vn, .ref (ad 202), .int 0, .int 0, .int 0, .int 0, .int 0, .int 0, .int (-1), .ref (ad 203), .ref (ad 204), .ref (ad 205), .int 0, .int 0, .ref (ad 206), .ref (ad 207), .ref (ad 208), .int 0, .int 0, .int 0, .int 0, .int 0, .ref (ad 209), .ref (ad 210), .ref (ad 211), .long 0, .long 0, .ref (ad 212), .ref (ad 213), .int 0, .int 0, .ref (ad 214), .ref (ad 215), .ref (ad 216), .ref (ad 217)]) := by rw [← eg_4]; exact va_up_self _ _ _
    refine lv_iload_n hx hb dX12_end_21 rfl (lv_at hl 1 rfl) ?_
    exact q_iret X hP hS (by rw [in_0y hw_1 hc_11]; exact (if_pos rfl).symm) dX12_end_22
  · refine lv_iconst (v := (-1)) hx hb dX12_end_14 (by decide) ?_
    exact q_iret X hP hS (aEnd_ne (in_0n hw_1 hc_11)) dX12_end_15

theorem dX12_fault_0 : decode cX12_fault 0 = .ok (.iload_n 1, 1) := by decide +kernel
theorem dX12_fault_1 : decode cX12_fault 1 = .ok (.ifCond .ne 10, 3) := by decide +kernel
theorem dX12_fault_11 : decode cX12_fault 11 = .ok (.iload_n 1, 1) := by decide +kernel
theorem dX12_fault_12 : decode cX12_fault 12 = .ok (.iconst 1, 1) := by decide +kernel
theorem dX12_fault_13 : decode cX12_fault 13 = .ok (.if_icmp .ne 10, 3) := by decide +kernel
theorem dX12_fault_23 : decode cX12_fault 23 = .ok (.iconst (-1), 1) := by decide +kernel
theorem dX12_fault_24 : decode cX12_fault 24 = .ok (.ireturn, 1) := by decide +kernel
theorem dX12_fault_16 : decode cX12_fault 16 = .ok (.aload_n 0, 1) := by decide +kernel
theorem dX12_fault_17 : decode cX12_fault 17 = .ok (.getfield 27, 3) := by decide +kernel
theorem dX12_fault_20 : decode cX12_fault 20 = .ok (.goto 4, 3) := by decide +kernel
theorem dX12_fault_4 : decode cX12_fault 4 = .ok (.aload_n 0, 1) := by decide +kernel
theorem dX12_fault_5 : decode cX12_fault 5 = .ok (.getfield 123, 3) := by decide +kernel
theorem dX12_fault_8 : decode cX12_fault 8 = .ok (.goto 16, 3) := by decide +kernel
def vX12_fault : List Cond := .code yX12_fault cX12_fault 2 (some .int) :: ([.fieldLink RX12 27 "IcicleClockModel" "faultPlace" "I", .fieldLink RX12 123 "IcicleClockModel" "faultKind" "I"] ++ wsX120)
theorem iX12_fault_12 : ∀ w ∈ wsX120, w ∈ vX12_fault := fun _ h => List.mem_cons_of_mem _ (List.mem_append_right _ h)
set_option maxHeartbeats 4000000 in
set_option maxRecDepth 100000 in
theorem m_fault (l : Launch) (D : va_G) (cs : Nat → ClassId) (ad : Nat → Nat) (hj : wJ ad nW) (g : Nat → va_E) (vw : Int32) (h197 : g 197 = .inr (12, [.int 0, .ref (ad 198), .ref (ad 199), .ref (ad 200), .ref (ad 201), .int 0, .ref (ad 202), .int 0, .int 0, .int 0, .int 0, .int 0, .int 0, .int (-1), .ref (ad 203), .ref (ad 204), .ref (ad 205), .int 0, .int 0, .ref (ad 206), .ref (ad 207), .ref (ad 208), .int 0, .int 0, .int 0, .int 0, .int 0, .ref (ad 209), .ref (ad 210), .ref (ad 211), .long 0, .long 0, .ref (ad 212), .ref (ad 213), .int 0, .int 0, .ref (ad 214), .ref (ad 215), .ref (ad 216), .ref (ad 217)])) : cI l yX12_fault vX12_fault { frames := 0, cells := 0, slots := 0, locals := 0 } D cs ad nW [.ref (ad 197), .int vw] g (fun r g2 => r = aEnd vw) := by
  refine Met.start (cc := cX12_fault) (maxL := 2) (ret := (some .int)) RX12 rfl (by decide) rfl (Nat.le_of_ble_eq_true rfl) ?_
  intro p e s m below meth c ls X hP hl
  have hx := X.1
  have hb := X.2.1
  have hS : va_S (wA ad nW) s.heap s.heap [] := va_S.rf
  have hA : ∀ i, i < nW → wA ad nW (ad i) := fun i h => ⟨i, h, rfl⟩
  have hl : lv_has ls 2 [(0, .ref (ad 197)), (1, .int vw)] := hl
  refine lv_iload_n hx hb dX12_fault_0 rfl (lv_at hl 1 rfl) ?_
  refine lv_if_ne (tgt := 11) hx hb dX12_fault_1 (by decide) (fun hc_1 => ?_) (fun hc_1 => ?_)
  · refine lv_iload_n hx hb dX12_fault_11 rfl (lv_at hl 1 rfl) ?_
    refine lv_iconst (v := 1) hx hb dX12_fault_12 (by decide) ?_
    refine lv_icmp_ne (tgt := 23) hx hb dX12_fault_13 (by decide) (fun hc_13 => ?_) (fun hc_13 => ?_)
    · refine lv_iconst (v := (-1)) hx hb dX12_fault_23 (by decide) ?_
      exact q_iret X hP hS (by first | exact aEnd_ne hc_1 | (rw [show vw = 0 from hc_1]; exact (if_pos rfl).symm)) dX12_fault_24
    · refine lv_aload_n hx hb dX12_fault_16 rfl (lv_at hl 0 rfl) ?_
      refine q_get X iX12_fault_12 hP (by decide) h197 rfl 13 (by decide) (List.mem_of_getElem? (i := 1) rfl) (v := .int (-1)) rfl dX12_fault_17 ?_
      refine lv_goto (tgt := 24) hx hb dX12_fault_20 (by decide) ?_
      exact q_iret X hP hS (by first | exact aEnd_ne hc_1 | (rw [show vw = 0 from hc_1]; exact (if_pos rfl).symm)) dX12_fault_24
  · refine lv_aload_n hx hb dX12_fault_4 rfl (lv_at hl 0 rfl) ?_
    refine q_get X iX12_fault_12 hP (by decide) h197 rfl 12 (by decide) (List.mem_of_getElem? (i := 2) rfl) (v := .int 0) rfl dX12_fault_5 ?_
    refine lv_goto (tgt := 24) hx hb dX12_fault_8 (by decide) ?_
    exact q_iret X hP hS (by first | exact aEnd_ne hc_1 | (rw [show vw = 0 from hc_1]; exact (if_pos rfl).symm)) dX12_fault_24

theorem dX12_back_0 : decode cX12_back 0 = .ok (.iload_n 1, 1) := by decide +kernel
theorem dX12_back_1 : decode cX12_back 1 = .ok (.i2l, 1) := by decide +kernel
theorem dX12_back_2 : decode cX12_back 2 = .ok (.lconst 0, 1) := by decide +kernel
theorem dX12_back_3 : decode cX12_back 3 = .ok (.ldc2_w 80, 3) := by decide +kernel
theorem dX12_back_6 : decode cX12_back 6 = .ok (.invokestatic 82, 3) := by decide +kernel
theorem dX12_back_9 : decode cX12_back 9 = .ok (.ifCond .ne 6, 3) := by decide +kernel
theorem dX12_back_15 : decode cX12_back 15 = .ok (.aload_n 0, 1) := by decide +kernel
theorem dX12_back_16 : decode cX12_back 16 = .ok (.getfield 16, 3) := by decide +kernel
theorem dX12_back_19 : decode cX12_back 19 = .ok (.iload_n 1, 1) := by decide +kernel
theorem dX12_back_20 : decode cX12_back 20 = .ok (.baload, 1) := by decide +kernel
theorem dX12_back_21 : decode cX12_back 21 = .ok (.ifCond .ne 6, 3) := by decide +kernel
theorem dX12_back_24 : decode cX12_back 24 = .ok (.bipush (-6), 2) := by decide +kernel
theorem dX12_back_26 : decode cX12_back 26 = .ok (.ireturn, 1) := by decide +kernel
theorem dX12_back_12 : decode cX12_back 12 = .ok (.bipush (-2), 2) := by decide +kernel
theorem dX12_back_14 : decode cX12_back 14 = .ok (.ireturn, 1) := by decide +kernel
def vX12_back : List Cond := .code yX12_back cX12_back 3 (some .int) :: ([.constantLong RX12 80 (2), .methodLink RX12 82 yX12_in, .static yX12_in, .initialized RX12, .code yX12_in cX12_in 6 (some .boolean), .fieldLink RX12 16 "IcicleClockModel" "hasImage" "[Z"] ++ wsX120)
theorem iX12_back_12 : ∀ w ∈ wsX120, w ∈ vX12_back := fun _ h => List.mem_cons_of_mem _ (List.mem_append_right _ h)
set_option maxRecDepth 20000 in
theorem gg_X12_back_X12_in : GoodIn vX12_back (wsS RX12 82 yX12_in vX12_in) := goodIn_r _ [2, 3, 4, 5] (by decide +kernel) (by decide +kernel)
set_option maxHeartbeats 4000000 in
set_option maxRecDepth 100000 in
theorem m_back (l : Launch) (D : va_G) (cs : Nat → ClassId) (ad : Nat → Nat) (hj : wJ ad nW) (g : Nat → va_E) (vk : Int32) (h197 : g 197 = .inr (12, [.int 0, .ref (ad 198), .ref (ad 199), .ref (ad 200), .ref (ad 201), .int 0, .ref (ad 202), .int 0, .int 0, .int 0, .int 0, .int 0, .int 0, .int (-1), .ref (ad 203), .ref (ad 204), .ref (ad 205), .int 0, .int 0, .ref (ad 206), .ref (ad 207), .ref (ad 208), .int 0, .int 0, .int 0, .int 0, .int 0, .ref (ad 209), .ref (ad 210), .ref (ad 211), .long 0, .long 0, .ref (ad 212), .ref (ad 213), .int 0, .int 0, .ref (ad 214), .ref (ad 215), .ref (ad 216), .ref (ad 217)])) (h200 : g 200 = .inl (cs 3, 3, .inl (fun _ => 0))) : cI l yX12_back vX12_back { frames := 1, cells := 0, slots := 0, locals := 25 } D cs ad nW [.ref (ad 197), .int vk] g (fun r g2 => r = aBack vk) := by
  refine Met.start (cc := cX12_back) (maxL := 3) (ret := (some .int)) RX12 rfl (by decide) rfl (Nat.le_of_ble_eq_true rfl) ?_
  intro p e s m below meth c ls X hP hl
  have hx := X.1
  have hb := X.2.1
  have hS : va_S (wA ad nW) s.heap s.heap [] := va_S.rf
  have hA : ∀ i, i < nW → wA ad nW (ad i) := fun i h => ⟨i, h, rfl⟩
  have hl : lv_has ls 3 [(0, .ref (ad 197)), (1, .int vk)] := hl
  refine lv_iload_n hx hb dX12_back_0 rfl (lv_at hl 1 rfl) ?_
  refine lv_i2l (v := vk.toInt64) hx hb dX12_back_1 rfl ?_
  refine lv_lconst (v := 0) hx hb dX12_back_2 (by decide) ?_
  refine lv_ldc2 (v := 2) hx hb X.2.2.2.2.2.1 (X.2.2.2.2.1 _ (List.mem_of_getElem? (i := 1) rfl)) dX12_back_3 ?_
  refine q_callSi (As := [.long (vk.toInt64), .long 0, .long 2]) (rest := []) X (m_in l D cs ad hj g (vk.toInt64) 0 2 ) (cwS 3 X.2.2.2.2.1 gg_X12_back_X12_in rfl rfl rfl (by decide +kernel) ⟨Nat.le_of_ble_eq_true rfl, Nat.le_of_ble_eq_true rfl⟩) hP hA hS rfl hl.1 rfl (Nat.le_of_ble_eq_true rfl) dX12_back_6 ⟨Nat.le_of_ble_eq_true rfl, Nat.le_of_ble_eq_true rfl⟩ (fun r_3 g_2 H locs hw_1 hP hS => ?_)
  obtain ⟨hw_1b, hw_1⟩ := hw_1
  rw [hw_1b] at hP
  refine lv_if_ne (tgt := 15) hx hb dX12_back_9 (by decide) (fun hc_9 => ?_) (fun hc_9 => ?_)
  · rcases in3 (in_3y hw_1 hc_9).1 (in_3y hw_1 hc_9).2 with rfl | rfl | rfl
    · refine lv_aload_n hx hb dX12_back_15 rfl (lv_at hl 0 rfl) ?_
      refine q_get X iX12_back_12 hP (by decide) h197 rfl 3 (by decide) (List.mem_of_getElem? (i := 6) rfl) (v := .ref (ad 200)) rfl dX12_back_16 ?_
      refine lv_iload_n hx hb dX12_back_19 rfl (lv_at hl 1 rfl) ?_
      refine q_zald X hP (by decide) h200 (by unfold vp_in; decide) dX12_back_20 ?_
      refine lv_if_ne (tgt := 27) hx hb dX12_back_21 (by decide) (fun h => absurd h (by decide)) (fun _ => ?_)
      refine lv_bipush (v := (-6)) hx hb dX12_back_24 (by decide) ?_
      exact q_iret X hP hS (by unfold aBack; rfl) dX12_back_26
    · refine lv_aload_n hx hb dX12_back_15 rfl (lv_at hl 0 rfl) ?_
      refine q_get X iX12_back_12 hP (by decide) h197 rfl 3 (by decide) (List.mem_of_getElem? (i := 6) rfl) (v := .ref (ad 200)) rfl dX12_back_16 ?_
      refine lv_iload_n hx hb dX12_back_19 rfl (lv_at hl 1 rfl) ?_
      refine q_zald X hP (by decide) h200 (by unfold vp_in; decide) dX12_back_20 ?_
      refine lv_if_ne (tgt := 27) hx hb dX12_back_21 (by decide) (fun h => absurd h (by decide)) (fun _ => ?_)
      refine lv_bipush (v := (-6)) hx hb dX12_back_24 (by decide) ?_
      exact q_iret X hP hS (by unfold aBack; rfl) dX12_back_26
    · refine lv_aload_n hx hb dX12_back_15 rfl (lv_at hl 0 rfl) ?_
      refine q_get X iX12_back_12 hP (by decide) h197 rfl 3 (by decide) (List.mem_of_getElem? (i := 6) rfl) (v := .ref (ad 200)) rfl dX12_back_16 ?_
      refine lv_iload_n hx hb dX12_back_19 rfl (lv_at hl 1 rfl) ?_
      refine q_zald X hP (by decide) h200 (by unfold vp_in; decide) dX12_back_20 ?_
      refine lv_if_ne (tgt := 27) hx hb dX12_back_21 (by decide) (fun h => absurd h (by decide)) (fun _ => ?_)
      refine lv_bipush (v := (-6)) hx hb dX12_back_24 (by decide) ?_
      exact q_iret X hP hS (by unfold aBack; rfl) dX12_back_26
  · refine lv_bipush (v := (-2)) hx hb dX12_back_12 (by decide) ?_
    exact q_iret X hP hS (in_3b hw_1 hc_9) dX12_back_14

theorem dX12_write_0 : decode cX12_write 0 = .ok (.iload_n 1, 1) := by decide +kernel
theorem dX12_write_1 : decode cX12_write 1 = .ok (.invokestatic 307, 3) := by decide +kernel
theorem dX12_write_4 : decode cX12_write 4 = .ok (.ifCond .ne 6, 3) := by decide +kernel
theorem dX12_write_10 : decode cX12_write 10 = .ok (.aload_n 0, 1) := by decide +kernel
theorem dX12_write_11 : decode cX12_write 11 = .ok (.getfield 65, 3) := by decide +kernel
theorem dX12_write_14 : decode cX12_write 14 = .ok (.iload_n 1, 1) := by decide +kernel
theorem dX12_write_15 : decode cX12_write 15 = .ok (.iaload, 1) := by decide +kernel
theorem dX12_write_16 : decode cX12_write 16 = .ok (.iconst (-1), 1) := by decide +kernel
theorem dX12_write_17 : decode cX12_write 17 = .ok (.if_icmp .ne 6, 3) := by decide +kernel
theorem dX12_write_20 : decode cX12_write 20 = .ok (.bipush (-6), 2) := by decide +kernel
theorem dX12_write_22 : decode cX12_write 22 = .ok (.ireturn, 1) := by decide +kernel
theorem dX12_write_7 : decode cX12_write 7 = .ok (.bipush (-2), 2) := by decide +kernel
theorem dX12_write_9 : decode cX12_write 9 = .ok (.ireturn, 1) := by decide +kernel
def vX12_write : List Cond := .code yX12_write cX12_write 5 (some .int) :: ([.methodLink RX12 307 yX12_isSlot, .static yX12_isSlot, .initialized RX12, .code yX12_isSlot cX12_isSlot 1 (some .boolean), .constantLong RX12 431 (3), .methodLink RX12 82 yX12_in, .static yX12_in, .code yX12_in cX12_in 6 (some .boolean), .fieldLink RX12 65 "IcicleClockModel" "many" "[I"] ++ wsX120)
theorem iX12_write_12 : ∀ w ∈ wsX120, w ∈ vX12_write := fun _ h => List.mem_cons_of_mem _ (List.mem_append_right _ h)
set_option maxRecDepth 20000 in
theorem gg_X12_write_X12_isSlot : GoodIn vX12_write (wsS RX12 307 yX12_isSlot vX12_isSlot) := goodIn_r _ [1, 2, 3, 4, 5, 6, 7, 3, 8] (by decide +kernel) (by decide +kernel)
set_option maxHeartbeats 4000000 in
set_option maxRecDepth 100000 in
theorem m_write (l : Launch) (D : va_G) (cs : Nat → ClassId) (ad : Nat → Nat) (hj : wJ ad nW) (g : Nat → va_E) (vs : Int32) (vi : Int32) (vv : Int64) (h197 : g 197 = .inr (12, [.int 0, .ref (ad 198), .ref (ad 199), .ref (ad 200), .ref (ad 201), .int 0, .ref (ad 202), .int 0, .int 0, .int 0, .int 0, .int 0, .int 0, .int (-1), .ref (ad 203), .ref (ad 204), .ref (ad 205), .int 0, .int 0, .ref (ad 206), .ref (ad 207), .ref (ad 208), .int 0, .int 0, .int 0, .int 0, .int 0, .ref (ad 209), .ref (ad 210), .ref (ad 211), .long 0, .long 0, .ref (ad 212), .ref (ad 213), .int 0, .int 0, .ref (ad 214), .ref (ad 215), .ref (ad 216), .ref (ad 217)])) (h214 : g 214 = .inl (cs 1, 4, .inl (fun _ => -1))) : cI l yX12_write vX12_write { frames := 2, cells := 0, slots := 0, locals := 45 } D cs ad nW [.ref (ad 197), .int vs, .int vi, .long vv] g (fun r g2 => r = aWr vs) := by
  refine Met.start (cc := cX12_write) (maxL := 5) (ret := (some .int)) RX12 rfl (by decide) rfl (Nat.le_of_ble_eq_true rfl) ?_
  intro p e s m below meth c ls X hP hl
  have hx := X.1
  have hb := X.2.1
  have hS : va_S (wA ad nW) s.heap s.heap [] := va_S.rf
  have hA : ∀ i, i < nW → wA ad nW (ad i) := fun i h => ⟨i, h, rfl⟩
  have hl : lv_has ls 5 [(0, .ref (ad 197)), (1, .int vs), (2, .int vi), (3, .long vv)] := hl
  refine lv_iload_n hx hb dX12_write_0 rfl (lv_at hl 1 rfl) ?_
  refine q_callSi (As := [.int vs]) (rest := []) X (m_isSlot l D cs ad hj g vs ) (cwS 1 X.2.2.2.2.1 gg_X12_write_X12_isSlot rfl rfl rfl (by decide +kernel) ⟨Nat.le_of_ble_eq_true rfl, Nat.le_of_ble_eq_true rfl⟩) hP hA hS rfl hl.1 rfl (Nat.le_of_ble_eq_true rfl) dX12_write_1 ⟨Nat.le_of_ble_eq_true rfl, Nat.le_of_ble_eq_true rfl⟩ (fun r_3 g_2 H locs hw_1 hP hS => ?_)
  obtain ⟨hw_1b, hw_1⟩ := hw_1
  rw [hw_1b] at hP
  refine lv_if_ne (tgt := 10) hx hb dX12_write_4 (by decide) (fun hc_4 => ?_) (fun hc_4 => ?_)
  · rcases inS_4 (hw_1.elim (fun q => q.2) (fun q => absurd q.1 hc_4)) with rfl | rfl | rfl | rfl
    · refine lv_aload_n hx hb dX12_write_10 rfl (lv_at hl 0 rfl) ?_
      refine q_get X iX12_write_12 hP (by decide) h197 rfl 36 (by decide) (List.mem_of_getElem? (i := 9) rfl) (v := .ref (ad 214)) rfl dX12_write_11 ?_
      refine lv_iload_n hx hb dX12_write_14 rfl (lv_at hl 1 rfl) ?_
      refine q_iald X hP (by decide) h214 (by unfold vp_in; decide) dX12_write_15 ?_
      refine lv_iconst (v := (-1)) hx hb dX12_write_16 (by decide) ?_
      refine lv_icmp_ne (tgt := 23) hx hb dX12_write_17 (by decide) (fun h => absurd h (by decide)) (fun _ => ?_)
      refine lv_bipush (v := (-6)) hx hb dX12_write_20 (by decide) ?_
      exact q_iret X hP hS (by unfold aWr; rfl) dX12_write_22
    · refine lv_aload_n hx hb dX12_write_10 rfl (lv_at hl 0 rfl) ?_
      refine q_get X iX12_write_12 hP (by decide) h197 rfl 36 (by decide) (List.mem_of_getElem? (i := 9) rfl) (v := .ref (ad 214)) rfl dX12_write_11 ?_
      refine lv_iload_n hx hb dX12_write_14 rfl (lv_at hl 1 rfl) ?_
      refine q_iald X hP (by decide) h214 (by unfold vp_in; decide) dX12_write_15 ?_
      refine lv_iconst (v := (-1)) hx hb dX12_write_16 (by decide) ?_
      refine lv_icmp_ne (tgt := 23) hx hb dX12_write_17 (by decide) (fun h => absurd h (by decide)) (fun _ => ?_)
      refine lv_bipush (v := (-6)) hx hb dX12_write_20 (by decide) ?_
      exact q_iret X hP hS (by unfold aWr; rfl) dX12_write_22
    · refine lv_aload_n hx hb dX12_write_10 rfl (lv_at hl 0 rfl) ?_
      refine q_get X iX12_write_12 hP (by decide) h197 rfl 36 (by decide) (List.mem_of_getElem? (i := 9) rfl) (v := .ref (ad 214)) rfl dX12_write_11 ?_
      refine lv_iload_n hx hb dX12_write_14 rfl (lv_at hl 1 rfl) ?_
      refine q_iald X hP (by decide) h214 (by unfold vp_in; decide) dX12_write_15 ?_
      refine lv_iconst (v := (-1)) hx hb dX12_write_16 (by decide) ?_
      refine lv_icmp_ne (tgt := 23) hx hb dX12_write_17 (by decide) (fun h => absurd h (by decide)) (fun _ => ?_)
      refine lv_bipush (v := (-6)) hx hb dX12_write_20 (by decide) ?_
      exact q_iret X hP hS (by unfold aWr; rfl) dX12_write_22
    · refine lv_aload_n hx hb dX12_write_10 rfl (lv_at hl 0 rfl) ?_
      refine q_get X iX12_write_12 hP (by decide) h197 rfl 36 (by decide) (List.mem_of_getElem? (i := 9) rfl) (v := .ref (ad 214)) rfl dX12_write_11 ?_
      refine lv_iload_n hx hb dX12_write_14 rfl (lv_at hl 1 rfl) ?_
      refine q_iald X hP (by decide) h214 (by unfold vp_in; decide) dX12_write_15 ?_
      refine lv_iconst (v := (-1)) hx hb dX12_write_16 (by decide) ?_
      refine lv_icmp_ne (tgt := 23) hx hb dX12_write_17 (by decide) (fun h => absurd h (by decide)) (fun _ => ?_)
      refine lv_bipush (v := (-6)) hx hb dX12_write_20 (by decide) ?_
      exact q_iret X hP hS (by unfold aWr; rfl) dX12_write_22
  · refine lv_bipush (v := (-2)) hx hb dX12_write_7 (by decide) ?_
    exact q_iret X hP hS (aWr_out (hw_1.elim (fun q => absurd (q.1.symm.trans hc_4) (by decide)) (fun q => q.2))).symm dX12_write_9

theorem dX12_paste_0 : decode cX12_paste 0 = .ok (.iload_n 1, 1) := by decide +kernel
theorem dX12_paste_1 : decode cX12_paste 1 = .ok (.invokestatic 307, 3) := by decide +kernel
theorem dX12_paste_4 : decode cX12_paste 4 = .ok (.ifCond .eq 10, 3) := by decide +kernel
theorem dX12_paste_14 : decode cX12_paste 14 = .ok (.bipush (-2), 2) := by decide +kernel
theorem dX12_paste_16 : decode cX12_paste 16 = .ok (.ireturn, 1) := by decide +kernel
theorem dX12_paste_7 : decode cX12_paste 7 = .ok (.iload_n 3, 1) := by decide +kernel
theorem dX12_paste_8 : decode cX12_paste 8 = .ok (.invokestatic 307, 3) := by decide +kernel
theorem dX12_paste_11 : decode cX12_paste 11 = .ok (.ifCond .ne 6, 3) := by decide +kernel
theorem dX12_paste_17 : decode cX12_paste 17 = .ok (.aload_n 0, 1) := by decide +kernel
theorem dX12_paste_18 : decode cX12_paste 18 = .ok (.getfield 65, 3) := by decide +kernel
theorem dX12_paste_21 : decode cX12_paste 21 = .ok (.iload_n 1, 1) := by decide +kernel
theorem dX12_paste_22 : decode cX12_paste 22 = .ok (.iaload, 1) := by decide +kernel
theorem dX12_paste_23 : decode cX12_paste 23 = .ok (.iconst (-1), 1) := by decide +kernel
theorem dX12_paste_24 : decode cX12_paste 24 = .ok (.if_icmp .eq 13, 3) := by decide +kernel
theorem dX12_paste_37 : decode cX12_paste 37 = .ok (.bipush (-6), 2) := by decide +kernel
theorem dX12_paste_39 : decode cX12_paste 39 = .ok (.ireturn, 1) := by decide +kernel
def vX12_paste : List Cond := .code yX12_paste cX12_paste 7 (some .int) :: ([.methodLink RX12 307 yX12_isSlot, .static yX12_isSlot, .initialized RX12, .code yX12_isSlot cX12_isSlot 1 (some .boolean), .constantLong RX12 431 (3), .methodLink RX12 82 yX12_in, .static yX12_in, .code yX12_in cX12_in 6 (some .boolean), .fieldLink RX12 65 "IcicleClockModel" "many" "[I"] ++ wsX120)
theorem iX12_paste_12 : ∀ w ∈ wsX120, w ∈ vX12_paste := fun _ h => List.mem_cons_of_mem _ (List.mem_append_right _ h)
set_option maxRecDepth 20000 in
theorem gg_X12_paste_X12_isSlot : GoodIn vX12_paste (wsS RX12 307 yX12_isSlot vX12_isSlot) := goodIn_r _ [1, 2, 3, 4, 5, 6, 7, 3, 8] (by decide +kernel) (by decide +kernel)
set_option maxHeartbeats 4000000 in
set_option maxRecDepth 100000 in
theorem m_paste (l : Launch) (D : va_G) (cs : Nat → ClassId) (ad : Nat → Nat) (hj : wJ ad nW) (g : Nat → va_E) (vs : Int32) (vi : Int32) (vt : Int32) (vk : Int32) (vn : Int32) (h197 : g 197 = .inr (12, [.int 0, .ref (ad 198), .ref (ad 199), .ref (ad 200), .ref (ad 201), .int 0, .ref (ad 202), .int 0, .int 0, .int 0, .int 0, .int 0, .int 0, .int (-1), .ref (ad 203), .ref (ad 204), .ref (ad 205), .int 0, .int 0, .ref (ad 206), .ref (ad 207), .ref (ad 208), .int 0, .int 0, .int 0, .int 0, .int 0, .ref (ad 209), .ref (ad 210), .ref (ad 211), .long 0, .long 0, .ref (ad 212), .ref (ad 213), .int 0, .int 0, .ref (ad 214), .ref (ad 215), .ref (ad 216), .ref (ad 217)])) (h214 : g 214 = .inl (cs 1, 4, .inl (fun _ => -1))) : cI l yX12_paste vX12_paste { frames := 2, cells := 0, slots := 0, locals := 45 } D cs ad nW [.ref (ad 197), .int vs, .int vi, .int vt, .int vk, .int vn] g (fun r g2 => r = aPst vs vt) := by
  refine Met.start (cc := cX12_paste) (maxL := 7) (ret := (some .int)) RX12 rfl (by decide) rfl (Nat.le_of_ble_eq_true rfl) ?_
  intro p e s m below meth c ls X hP hl
  have hx := X.1
  have hb := X.2.1
  have hS : va_S (wA ad nW) s.heap s.heap [] := va_S.rf
  have hA : ∀ i, i < nW → wA ad nW (ad i) := fun i h => ⟨i, h, rfl⟩
  have hl : lv_has ls 7 [(0, .ref (ad 197)), (1, .int vs), (2, .int vi), (3, .int vt), (4, .int vk), (5, .int vn)] := hl
  refine lv_iload_n hx hb dX12_paste_0 rfl (lv_at hl 1 rfl) ?_
  refine q_callSi (As := [.int vs]) (rest := []) X (m_isSlot l D cs ad hj g vs ) (cwS 1 X.2.2.2.2.1 gg_X12_paste_X12_isSlot rfl rfl rfl (by decide +kernel) ⟨Nat.le_of_ble_eq_true rfl, Nat.le_of_ble_eq_true rfl⟩) hP hA hS rfl hl.1 rfl (Nat.le_of_ble_eq_true rfl) dX12_paste_1 ⟨Nat.le_of_ble_eq_true rfl, Nat.le_of_ble_eq_true rfl⟩ (fun r_3 g_2 H locs hw_1 hP hS => ?_)
  obtain ⟨hw_1b, hw_1⟩ := hw_1
  rw [hw_1b] at hP
  refine lv_if_eq (tgt := 14) hx hb dX12_paste_4 (by decide) (fun hc_4 => ?_) (fun hc_4 => ?_)
  · refine lv_bipush (v := (-2)) hx hb dX12_paste_14 (by decide) ?_
    exact q_iret X hP hS (by first | exact (aPst_out (hw_1.elim (fun q => absurd (q.1.symm.trans hc_4) (by decide)) (fun q => q.2))).symm | exact ((aPst_in (hw_1.elim (fun q => q.2) (fun q => absurd q.1 hc_4))).trans (aWr_out (hw_4.elim (fun q => absurd (q.1.symm.trans hc_11) (by decide)) (fun q => q.2)))).symm) dX12_paste_16
  · refine lv_iload_n hx hb dX12_paste_7 rfl (lv_at hl 3 rfl) ?_
    refine q_callSi (As := [.int vt]) (rest := []) X (m_isSlot l D cs ad hj g vt ) (cwS 1 X.2.2.2.2.1 gg_X12_paste_X12_isSlot rfl rfl rfl (by decide +kernel) ⟨Nat.le_of_ble_eq_true rfl, Nat.le_of_ble_eq_true rfl⟩) hP hA hS rfl hl.1 rfl (Nat.le_of_ble_eq_true rfl) dX12_paste_8 ⟨Nat.le_of_ble_eq_true rfl, Nat.le_of_ble_eq_true rfl⟩ (fun r_6 g_5 H locs hw_4 hP hS => ?_)
    obtain ⟨hw_4b, hw_4⟩ := hw_4
    rw [hw_4b] at hP
    refine lv_if_ne (tgt := 17) hx hb dX12_paste_11 (by decide) (fun hc_11 => ?_) (fun hc_11 => ?_)
    · rcases inS_4 (hw_1.elim (fun q => q.2) (fun q => absurd q.1 hc_4)) with rfl | rfl | rfl | rfl
      · refine lv_aload_n hx hb dX12_paste_17 rfl (lv_at hl 0 rfl) ?_
        refine q_get X iX12_paste_12 hP (by decide) h197 rfl 36 (by decide) (List.mem_of_getElem? (i := 9) rfl) (v := .ref (ad 214)) rfl dX12_paste_18 ?_
        refine lv_iload_n hx hb dX12_paste_21 rfl (lv_at hl 1 rfl) ?_
        refine q_iald X hP (by decide) h214 (by unfold vp_in; decide) dX12_paste_22 ?_
        refine lv_iconst (v := (-1)) hx hb dX12_paste_23 (by decide) ?_
        refine lv_icmp_eq (tgt := 37) hx hb dX12_paste_24 (by decide) (fun _ => ?_) (fun h => absurd h (by decide))
        refine lv_bipush (v := (-6)) hx hb dX12_paste_37 (by decide) ?_
        exact q_iret X hP hS (by first | (unfold aPst aWr; rfl) | exact ((aPst_in ⟨by decide, by decide⟩).trans (aWr_in (hw_4.elim (fun q => q.2) (fun q => absurd q.1 hc_11)))).symm) dX12_paste_39
      · refine lv_aload_n hx hb dX12_paste_17 rfl (lv_at hl 0 rfl) ?_
        refine q_get X iX12_paste_12 hP (by decide) h197 rfl 36 (by decide) (List.mem_of_getElem? (i := 9) rfl) (v := .ref (ad 214)) rfl dX12_paste_18 ?_
        refine lv_iload_n hx hb dX12_paste_21 rfl (lv_at hl 1 rfl) ?_
        refine q_iald X hP (by decide) h214 (by unfold vp_in; decide) dX12_paste_22 ?_
        refine lv_iconst (v := (-1)) hx hb dX12_paste_23 (by decide) ?_
        refine lv_icmp_eq (tgt := 37) hx hb dX12_paste_24 (by decide) (fun _ => ?_) (fun h => absurd h (by decide))
        refine lv_bipush (v := (-6)) hx hb dX12_paste_37 (by decide) ?_
        exact q_iret X hP hS (by first | (unfold aPst aWr; rfl) | exact ((aPst_in ⟨by decide, by decide⟩).trans (aWr_in (hw_4.elim (fun q => q.2) (fun q => absurd q.1 hc_11)))).symm) dX12_paste_39
      · refine lv_aload_n hx hb dX12_paste_17 rfl (lv_at hl 0 rfl) ?_
        refine q_get X iX12_paste_12 hP (by decide) h197 rfl 36 (by decide) (List.mem_of_getElem? (i := 9) rfl) (v := .ref (ad 214)) rfl dX12_paste_18 ?_
        refine lv_iload_n hx hb dX12_paste_21 rfl (lv_at hl 1 rfl) ?_
        refine q_iald X hP (by decide) h214 (by unfold vp_in; decide) dX12_paste_22 ?_
        refine lv_iconst (v := (-1)) hx hb dX12_paste_23 (by decide) ?_
        refine lv_icmp_eq (tgt := 37) hx hb dX12_paste_24 (by decide) (fun _ => ?_) (fun h => absurd h (by decide))
        refine lv_bipush (v := (-6)) hx hb dX12_paste_37 (by decide) ?_
        exact q_iret X hP hS (by first | (unfold aPst aWr; rfl) | exact ((aPst_in ⟨by decide, by decide⟩).trans (aWr_in (hw_4.elim (fun q => q.2) (fun q => absurd q.1 hc_11)))).symm) dX12_paste_39
      · refine lv_aload_n hx hb dX12_paste_17 rfl (lv_at hl 0 rfl) ?_
        refine q_get X iX12_paste_12 hP (by decide) h197 rfl 36 (by decide) (List.mem_of_getElem? (i := 9) rfl) (v := .ref (ad 214)) rfl dX12_paste_18 ?_
        refine lv_iload_n hx hb dX12_paste_21 rfl (lv_at hl 1 rfl) ?_
        refine q_iald X hP (by decide) h214 (by unfold vp_in; decide) dX12_paste_22 ?_
        refine lv_iconst (v := (-1)) hx hb dX12_paste_23 (by decide) ?_
        refine lv_icmp_eq (tgt := 37) hx hb dX12_paste_24 (by decide) (fun _ => ?_) (fun h => absurd h (by decide))
        refine lv_bipush (v := (-6)) hx hb dX12_paste_37 (by decide) ?_
        exact q_iret X hP hS (by first | (unfold aPst aWr; rfl) | exact ((aPst_in ⟨by decide, by decide⟩).trans (aWr_in (hw_4.elim (fun q => q.2) (fun q => absurd q.1 hc_11)))).symm) dX12_paste_39
    · refine lv_bipush (v := (-2)) hx hb dX12_paste_14 (by decide) ?_
      exact q_iret X hP hS (by first | exact (aPst_out (hw_1.elim (fun q => absurd (q.1.symm.trans hc_4) (by decide)) (fun q => q.2))).symm | exact ((aPst_in (hw_1.elim (fun q => q.2) (fun q => absurd q.1 hc_4))).trans (aWr_out (hw_4.elim (fun q => absurd (q.1.symm.trans hc_11) (by decide)) (fun q => q.2)))).symm) dX12_paste_16
end
section
theorem dX12_image_0 : decode cX12_image 0 = .ok (.iload_n 1, 1) := by decide +kernel
theorem dX12_image_1 : decode cX12_image 1 = .ok (.i2l, 1) := by decide +kernel
theorem dX12_image_2 : decode cX12_image 2 = .ok (.lconst 0, 1) := by decide +kernel
theorem dX12_image_3 : decode cX12_image 3 = .ok (.ldc2_w 80, 3) := by decide +kernel
theorem dX12_image_6 : decode cX12_image 6 = .ok (.invokestatic 82, 3) := by decide +kernel
theorem dX12_image_9 : decode cX12_image 9 = .ok (.ifCond .ne 6, 3) := by decide +kernel
theorem dX12_image_15 : decode cX12_image 15 = .ok (.iconst 0, 1) := by decide +kernel
theorem dX12_image_16 : decode cX12_image 16 = .ok (.istore_n 2, 1) := by decide +kernel
theorem dX12_image_17 : decode cX12_image 17 = .ok (.iload_n 2, 1) := by decide +kernel
theorem dX12_image_18 : decode cX12_image 18 = .ok (.bipush 118, 2) := by decide +kernel
theorem dX12_image_20 : decode cX12_image 20 = .ok (.if_icmp .ge 26, 3) := by decide +kernel
theorem dX12_image_46 : decode cX12_image 46 = .ok (.aload_n 0, 1) := by decide +kernel
theorem dX12_image_47 : decode cX12_image 47 = .ok (.getfield 16, 3) := by decide +kernel
theorem dX12_image_50 : decode cX12_image 50 = .ok (.iload_n 1, 1) := by decide +kernel
theorem dX12_image_51 : decode cX12_image 51 = .ok (.iconst 1, 1) := by decide +kernel
theorem dX12_image_52 : decode cX12_image 52 = .ok (.bastore, 1) := by decide +kernel
theorem dX12_image_53 : decode cX12_image 53 = .ok (.iconst 0, 1) := by decide +kernel
theorem dX12_image_54 : decode cX12_image 54 = .ok (.ireturn, 1) := by decide +kernel
theorem dX12_image_23 : decode cX12_image 23 = .ok (.aload_n 0, 1) := by decide +kernel
theorem dX12_image_24 : decode cX12_image 24 = .ok (.getfield 13, 3) := by decide +kernel
theorem dX12_image_27 : decode cX12_image 27 = .ok (.bipush 118, 2) := by decide +kernel
theorem dX12_image_29 : decode cX12_image 29 = .ok (.iload_n 1, 1) := by decide +kernel
theorem dX12_image_30 : decode cX12_image 30 = .ok (.imul, 1) := by decide +kernel
theorem dX12_image_31 : decode cX12_image 31 = .ok (.iload_n 2, 1) := by decide +kernel
theorem dX12_image_32 : decode cX12_image 32 = .ok (.iadd, 1) := by decide +kernel
theorem dX12_image_33 : decode cX12_image 33 = .ok (.aload_n 0, 1) := by decide +kernel
theorem dX12_image_34 : decode cX12_image 34 = .ok (.getfield 9, 3) := by decide +kernel
theorem dX12_image_37 : decode cX12_image 37 = .ok (.iload_n 2, 1) := by decide +kernel
theorem dX12_image_38 : decode cX12_image 38 = .ok (.iaload, 1) := by decide +kernel
theorem dX12_image_39 : decode cX12_image 39 = .ok (.iastore, 1) := by decide +kernel
theorem dX12_image_40 : decode cX12_image 40 = .ok (.iinc 2 1, 3) := by decide +kernel
theorem dX12_image_43 : decode cX12_image 43 = .ok (.goto (-26), 3) := by decide +kernel
theorem dX12_image_12 : decode cX12_image 12 = .ok (.bipush (-2), 2) := by decide +kernel
theorem dX12_image_14 : decode cX12_image 14 = .ok (.ireturn, 1) := by decide +kernel
def vX12_image : List Cond := .code yX12_image cX12_image 3 (some .int) :: ([.constantLong RX12 80 (2), .methodLink RX12 82 yX12_in, .static yX12_in, .initialized RX12, .code yX12_in cX12_in 6 (some .boolean), .fieldLink RX12 16 "IcicleClockModel" "hasImage" "[Z", .fieldLink RX12 13 "IcicleClockModel" "images" "[I", .fieldLink RX12 9 "IcicleClockModel" "world" "[I"] ++ wsX120)
theorem iX12_image_12 : ∀ w ∈ wsX120, w ∈ vX12_image := fun _ h => List.mem_cons_of_mem _ (List.mem_append_right _ h)
set_option maxRecDepth 20000 in
theorem gg_X12_image_X12_in : GoodIn vX12_image (wsS RX12 82 yX12_in vX12_in) := goodIn_r _ [2, 3, 4, 5] (by decide +kernel) (by decide +kernel)
set_option maxHeartbeats 4000000 in
set_option maxRecDepth 100000 in
theorem m_image (l : Launch) (D : va_G) (cs : Nat → ClassId) (ad : Nat → Nat) (hj : wJ ad nW) (g : Nat → va_E) (vk : Int32) (h197 : g 197 = .inr (12, [.int 0, .ref (ad 198), .ref (ad 199), .ref (ad 200), .ref (ad 201), .int 0, .ref (ad 202), .int 0, .int 0, .int 0, .int 0, .int 0, .int 0, .int (-1), .ref (ad 203), .ref (ad 204), .ref (ad 205), .int 0, .int 0, .ref (ad 206), .ref (ad 207), .ref (ad 208), .int 0, .int 0, .int 0, .int 0, .int 0, .ref (ad 209), .ref (ad 210), .ref (ad 211), .long 0, .long 0, .ref (ad 212), .ref (ad 213), .int 0, .int 0, .ref (ad 214), .ref (ad 215), .ref (ad 216), .ref (ad 217)])) (h198 : g 198 = .inl (cs 1, 118, .inl (fun _ => 0))) (h199 : g 199 = .inl (cs 1, 354, .inl (fun _ => 0))) (h200 : g 200 = .inl (cs 3, 3, .inl (fun _ => 0))) : cI l yX12_image vX12_image { frames := 1, cells := 0, slots := 0, locals := 25 } D cs ad nW [.ref (ad 197), .int vk] g (fun r g2 => r = aImg vk) := by
  refine Met.start (cc := cX12_image) (maxL := 3) (ret := (some .int)) RX12 rfl (by decide) rfl (Nat.le_of_ble_eq_true rfl) ?_
  intro p e s m below meth c ls X hP hl
  have hx := X.1
  have hb := X.2.1
  have hS : va_S (wA ad nW) s.heap s.heap [] := va_S.rf
  have hA : ∀ i, i < nW → wA ad nW (ad i) := fun i h => ⟨i, h, rfl⟩
  have hl : lv_has ls 3 [(0, .ref (ad 197)), (1, .int vk)] := hl
  refine lv_iload_n hx hb dX12_image_0 rfl (lv_at hl 1 rfl) ?_
  refine lv_i2l (v := vk.toInt64) hx hb dX12_image_1 rfl ?_
  refine lv_lconst (v := 0) hx hb dX12_image_2 (by decide) ?_
  refine lv_ldc2 (v := 2) hx hb X.2.2.2.2.2.1 (X.2.2.2.2.1 _ (List.mem_of_getElem? (i := 1) rfl)) dX12_image_3 ?_
  refine q_callSi (As := [.long (vk.toInt64), .long 0, .long 2]) (rest := []) X (m_in l D cs ad hj g (vk.toInt64) 0 2 ) (cwS 3 X.2.2.2.2.1 gg_X12_image_X12_in rfl rfl rfl (by decide +kernel) ⟨Nat.le_of_ble_eq_true rfl, Nat.le_of_ble_eq_true rfl⟩) hP hA hS rfl hl.1 rfl (Nat.le_of_ble_eq_true rfl) dX12_image_6 ⟨Nat.le_of_ble_eq_true rfl, Nat.le_of_ble_eq_true rfl⟩ (fun r_3 g_2 H locs hw_1 hP hS => ?_)
  obtain ⟨hw_1b, hw_1⟩ := hw_1
  rw [hw_1b] at hP
  refine lv_if_ne (tgt := 15) hx hb dX12_image_9 (by decide) (fun hc_9 => ?_) (fun hc_9 => ?_)
  · rcases in3 (in_3y hw_1 hc_9).1 (in_3y hw_1 hc_9).2 with rfl | rfl | rfl
    · refine lv_iconst (v := 0) hx hb dX12_image_15 (by decide) ?_
      refine lv_istore_n (lv' := [(2, .int 0), (0, .ref (ad 197)), (1, .int 0)]) hx hb dX12_image_16 rfl hl (by decide) rfl (fun ls hl => ?_)
      have HL17 : ∀ (d17 k17 : Nat) (f17_199 : Nat → Int32) (G17 : Nat → va_E) (H : Heap) (locs : List Loc) (ls : Array Slot), k17 + d17 = 118 → G17 197 = .inr (12, [.int 0, .ref (ad 198), .ref (ad 199), .ref (ad 200), .ref (ad 201), .int 0, .ref (ad 202), .int 0, .int 0, .int 0, .int 0, .int 0, .int 0, .int (-1), .ref (ad 203), .ref (ad 204), .ref (ad 205), .int 0, .int 0, .ref (ad 206), .ref (ad 207), .ref (ad 208), .int 0, .int 0, .int 0, .int 0, .int 0, .ref (ad 209), .ref (ad 210), .ref (ad 211), .long 0, .long 0, .ref (ad 212), .ref (ad 213), .int 0, .int 0, .ref (ad 214), .ref (ad 215), .ref (ad 216), .ref (ad 217)]) → G17 198 = .inl (cs 1, 118, .inl (fun _ => 0)) → G17 199 = .inl (cs 1, 354, .inl f17_199) → G17 200 = .inl (cs 3, 3, .inl (fun _ => 0)) → va_P D vwCl (wL ad G17 nW) H → va_S (wA ad nW) s.heap H locs → lv_has ls 3 [(2, .int (nI k17)), (0, .ref (ad 197)), (1, .int 0)] → W p l e ({ frames := 1, cells := 0, slots := 0, locals := 25 } : Room) s m ([.ref (ad 197), .int 0] : List Value).toArray below meth c H locs 0 0 (MQ below (qI D ad nW (fun r g2 => r = aImg 0)) ([.ref (ad 197), .int 0] : List Value).toArray s 0 0 (wA ad nW)) (F0 m 17 ls []) := by
        intro d17
        induction d17 with
        | zero =>
          intro k17 f17_199 G17 H locs ls hk17 h17_197 h17_198 h17_199 h17_200 hP hS hl
          obtain rfl : k17 = 118 := by omega
          refine lv_iload_n hx hb dX12_image_17 rfl (lv_at hl 0 rfl) ?_
          refine lv_bipush (v := 118) hx hb dX12_image_18 (by decide) ?_
          refine lv_icmp_ge (tgt := 46) hx hb dX12_image_20 (by decide) (fun _ => ?_) (fun h => absurd h (by decide))
          refine lv_aload_n hx hb dX12_image_46 rfl (lv_at hl 1 rfl) ?_
          refine q_get X iX12_image_12 hP (by decide) h17_197 rfl 3 (by decide) (List.mem_of_getElem? (i := 6) rfl) (v := .ref (ad 200)) rfl dX12_image_47 ?_
          refine lv_iload_n hx hb dX12_image_50 rfl (lv_at hl 2 rfl) ?_
          refine lv_iconst (v := 1) hx hb dX12_image_51 (by decide) ?_
          refine q_zast X hP hj hA hS (by decide) h17_200 (by unfold vp_in; decide) dX12_image_52 (fun H locs hP hS => ?_)
          generalize eg_4 : va_up G17 200 _ = g_4 at hP
          have h_6 : g_4 197 = .inr (12, [.int 0, .ref (ad 198), .ref (ad 199), .ref (ad 200), .ref (ad 201), .int 0, .ref (ad 202), .int 0, .int 0, .int 0, .int 0, .int 0, .int 0, .int (-1), .ref (ad 203), .ref (ad 204), .ref (ad 205), .int 0, .int 0, .ref (ad 206), .ref (ad 207), .ref (ad 208), .int 0, .int 0, .int 0, .int 0, .int 0, .ref (ad 209), .ref (ad 210), .ref (ad 211), .long 0, .long 0, .ref (ad 212), .ref (ad 213), .int 0, .int 0, .ref (ad 214), .ref (ad 215), .ref (ad 216), .ref (ad 217)]) := by rw [← eg_4, va_up_ne _ _ (by decide)]; exact h17_197
          have h_7 : g_4 198 = .inl (cs 1, 118, .inl (fun _ => 0)) := by rw [← eg_4, va_up_ne _ _ (by decide)]; exact h17_198
          have h_8 : g_4 199 = .inl (cs 1, 354, .inl f17_199) := by rw [← eg_4, va_up_ne _ _ (by decide)]; exact h17_199
          obtain ⟨f_5, h_9⟩ : ∃ f, g_4 200 = .inl (cs 3, 3, .inl f) := ⟨_, by rw [← eg_4]; exact va_up_self _ _ _⟩
          refine lv_iconst (v := 0) hx hb dX12_image_53 (by decide) ?_
          exact q_iret X hP hS (by unfold aImg; rfl) dX12_image_54
        | succ d17 ih17 =>
          intro k17 f17_199 G17 H locs ls hk17 h17_197 h17_198 h17_199 h17_200 hP hS hl
          refine lv_iload_n hx hb dX12_image_17 rfl (lv_at hl 0 rfl) ?_
          refine lv_bipush (v := 118) hx hb dX12_image_18 (by decide) ?_
          refine lv_icmp_ge (tgt := 46) hx hb dX12_image_20 (by decide) (fun hc_20 => absurd hc_20 (nI_ge (a := k17) (b := 118) (by omega) (by decide))) (fun hc_20 => ?_)
          refine lv_aload_n hx hb dX12_image_23 rfl (lv_at hl 1 rfl) ?_
          refine q_get X iX12_image_12 hP (by decide) h17_197 rfl 2 (by decide) (List.mem_of_getElem? (i := 7) rfl) (v := .ref (ad 199)) rfl dX12_image_24 ?_
          refine lv_bipush (v := 118) hx hb dX12_image_27 (by decide) ?_
          refine lv_iload_n hx hb dX12_image_29 rfl (lv_at hl 2 rfl) ?_
          refine lv_imul hx hb dX12_image_30 ?_
          refine lv_topi (fun z_10 ez_10 => ?_)
          obtain rfl : z_10 = 0 := ez_10.trans (by decide)
          refine lv_iload_n hx hb dX12_image_31 rfl (lv_at hl 0 rfl) ?_
          refine lv_iadd hx hb dX12_image_32 ?_
          refine lv_topi (fun z_11 ez_11 => ?_)
          obtain rfl : z_11 = nI (0 + k17) := ez_11.trans (nI_add 0 k17)
          refine lv_aload_n hx hb dX12_image_33 rfl (lv_at hl 1 rfl) ?_
          refine q_get X iX12_image_12 hP (by decide) h17_197 rfl 1 (by decide) (List.mem_of_getElem? (i := 8) rfl) (v := .ref (ad 198)) rfl dX12_image_34 ?_
          refine lv_iload_n hx hb dX12_image_37 rfl (lv_at hl 0 rfl) ?_
          refine q_iald X hP (by decide) h17_198 (vp_in_nI (by omega) (by decide)) dX12_image_38 ?_
          refine q_iast X hP hj hA hS (by decide) h17_199 (vp_in_nI (by omega) (by decide)) dX12_image_39 (fun H locs hP hS => ?_)
          generalize eg_12 : va_up G17 199 _ = g_12 at hP
          have h_14 : g_12 197 = .inr (12, [.int 0, .ref (ad 198), .ref (ad 199), .ref (ad 200), .ref (ad 201), .int 0, .ref (ad 202), .int 0, .int 0, .int 0, .int 0, .int 0, .int 0, .int (-1), .ref (ad 203), .ref (ad 204), .ref (ad 205), .int 0, .int 0, .ref (ad 206), .ref (ad 207), .ref (ad 208), .int 0, .int 0, .int 0, .int 0, .int 0, .ref (ad 209), .ref (ad 210), .ref (ad 211), .long 0, .long 0, .ref (ad 212), .ref (ad 213), .int 0, .int 0, .ref (ad 214), .ref (ad 215), .ref (ad 216), .ref (ad 217)]) := by rw [← eg_12, va_up_ne _ _ (by decide)]; exact h17_197
          have h_15 : g_12 198 = .inl (cs 1, 118, .inl (fun _ => 0)) := by rw [← eg_12, va_up_ne _ _ (by decide)]; exact h17_198
          obtain ⟨f_13, h_16⟩ : ∃ f, g_12 199 = .inl (cs 1, 354, .inl f) := ⟨_, by rw [← eg_12]; exact va_up_self _ _ _⟩
          have h_17 : g_12 200 = .inl (cs 3, 3, .inl (fun _ => 0)) := by rw [← eg_12, va_up_ne _ _ (by decide)]; exact h17_200
          refine lv_iinc (v := (nI (k17 + 1))) (lv' := [(2, .int (nI (k17 + 1))), (0, .ref (ad 197)), (1, .int 0)]) hx hb dX12_image_40 hl (k := 0) rfl (nI_add k17 1) (by decide) rfl (fun ls hl => ?_)
          refine lv_goto (tgt := 17) hx hb dX12_image_43 (by decide) ?_
          exact ih17 (k17 + 1) _ g_12 _ _ ls (by omega) h_14 h_15 h_16 h_17 hP hS (lv_sub hl [0, 1, 2] rfl)
      exact HL17 118 0 _ g _ _ ls (by omega) h197 h198 h199 h200 hP hS (lv_sub hl [0, 1, 2] rfl)
    · refine lv_iconst (v := 0) hx hb dX12_image_15 (by decide) ?_
      refine lv_istore_n (lv' := [(2, .int 0), (0, .ref (ad 197)), (1, .int 1)]) hx hb dX12_image_16 rfl hl (by decide) rfl (fun ls hl => ?_)
      have HL17 : ∀ (d17 k17 : Nat) (f17_199 : Nat → Int32) (G17 : Nat → va_E) (H : Heap) (locs : List Loc) (ls : Array Slot), k17 + d17 = 118 → G17 197 = .inr (12, [.int 0, .ref (ad 198), .ref (ad 199), .ref (ad 200), .ref (ad 201), .int 0, .ref (ad 202), .int 0, .int 0, .int 0, .int 0, .int 0, .int 0, .int (-1), .ref (ad 203), .ref (ad 204), .ref (ad 205), .int 0, .int 0, .ref (ad 206), .ref (ad 207), .ref (ad 208), .int 0, .int 0, .int 0, .int 0, .int 0, .ref (ad 209), .ref (ad 210), .ref (ad 211), .long 0, .long 0, .ref (ad 212), .ref (ad 213), .int 0, .int 0, .ref (ad 214), .ref (ad 215), .ref (ad 216), .ref (ad 217)]) → G17 198 = .inl (cs 1, 118, .inl (fun _ => 0)) → G17 199 = .inl (cs 1, 354, .inl f17_199) → G17 200 = .inl (cs 3, 3, .inl (fun _ => 0)) → va_P D vwCl (wL ad G17 nW) H → va_S (wA ad nW) s.heap H locs → lv_has ls 3 [(2, .int (nI k17)), (0, .ref (ad 197)), (1, .int 1)] → W p l e ({ frames := 1, cells := 0, slots := 0, locals := 25 } : Room) s m ([.ref (ad 197), .int 1] : List Value).toArray below meth c H locs 0 0 (MQ below (qI D ad nW (fun r g2 => r = aImg 1)) ([.ref (ad 197), .int 1] : List Value).toArray s 0 0 (wA ad nW)) (F0 m 17 ls []) := by
        intro d17
        induction d17 with
        | zero =>
          intro k17 f17_199 G17 H locs ls hk17 h17_197 h17_198 h17_199 h17_200 hP hS hl
          obtain rfl : k17 = 118 := by omega
          refine lv_iload_n hx hb dX12_image_17 rfl (lv_at hl 0 rfl) ?_
          refine lv_bipush (v := 118) hx hb dX12_image_18 (by decide) ?_
          refine lv_icmp_ge (tgt := 46) hx hb dX12_image_20 (by decide) (fun _ => ?_) (fun h => absurd h (by decide))
          refine lv_aload_n hx hb dX12_image_46 rfl (lv_at hl 1 rfl) ?_
          refine q_get X iX12_image_12 hP (by decide) h17_197 rfl 3 (by decide) (List.mem_of_getElem? (i := 6) rfl) (v := .ref (ad 200)) rfl dX12_image_47 ?_
          refine lv_iload_n hx hb dX12_image_50 rfl (lv_at hl 2 rfl) ?_
          refine lv_iconst (v := 1) hx hb dX12_image_51 (by decide) ?_
          refine q_zast X hP hj hA hS (by decide) h17_200 (by unfold vp_in; decide) dX12_image_52 (fun H locs hP hS => ?_)
          generalize eg_18 : va_up G17 200 _ = g_18 at hP
          have h_20 : g_18 197 = .inr (12, [.int 0, .ref (ad 198), .ref (ad 199), .ref (ad 200), .ref (ad 201), .int 0, .ref (ad 202), .int 0, .int 0, .int 0, .int 0, .int 0, .int 0, .int (-1), .ref (ad 203), .ref (ad 204), .ref (ad 205), .int 0, .int 0, .ref (ad 206), .ref (ad 207), .ref (ad 208), .int 0, .int 0, .int 0, .int 0, .int 0, .ref (ad 209), .ref (ad 210), .ref (ad 211), .long 0, .long 0, .ref (ad 212), .ref (ad 213), .int 0, .int 0, .ref (ad 214), .ref (ad 215), .ref (ad 216), .ref (ad 217)]) := by rw [← eg_18, va_up_ne _ _ (by decide)]; exact h17_197
          have h_21 : g_18 198 = .inl (cs 1, 118, .inl (fun _ => 0)) := by rw [← eg_18, va_up_ne _ _ (by decide)]; exact h17_198
          have h_22 : g_18 199 = .inl (cs 1, 354, .inl f17_199) := by rw [← eg_18, va_up_ne _ _ (by decide)]; exact h17_199
          obtain ⟨f_19, h_23⟩ : ∃ f, g_18 200 = .inl (cs 3, 3, .inl f) := ⟨_, by rw [← eg_18]; exact va_up_self _ _ _⟩
          refine lv_iconst (v := 0) hx hb dX12_image_53 (by decide) ?_
          exact q_iret X hP hS (by unfold aImg; rfl) dX12_image_54
        | succ d17 ih17 =>
          intro k17 f17_199 G17 H locs ls hk17 h17_197 h17_198 h17_199 h17_200 hP hS hl
          refine lv_iload_n hx hb dX12_image_17 rfl (lv_at hl 0 rfl) ?_
          refine lv_bipush (v := 118) hx hb dX12_image_18 (by decide) ?_
          refine lv_icmp_ge (tgt := 46) hx hb dX12_image_20 (by decide) (fun hc_20 => absurd hc_20 (nI_ge (a := k17) (b := 118) (by omega) (by decide))) (fun hc_20 => ?_)
          refine lv_aload_n hx hb dX12_image_23 rfl (lv_at hl 1 rfl) ?_
          refine q_get X iX12_image_12 hP (by decide) h17_197 rfl 2 (by decide) (List.mem_of_getElem? (i := 7) rfl) (v := .ref (ad 199)) rfl dX12_image_24 ?_
          refine lv_bipush (v := 118) hx hb dX12_image_27 (by decide) ?_
          refine lv_iload_n hx hb dX12_image_29 rfl (lv_at hl 2 rfl) ?_
          refine lv_imul hx hb dX12_image_30 ?_
          refine lv_topi (fun z_24 ez_24 => ?_)
          obtain rfl : z_24 = 118 := ez_24.trans (by decide)
          refine lv_iload_n hx hb dX12_image_31 rfl (lv_at hl 0 rfl) ?_
          refine lv_iadd hx hb dX12_image_32 ?_
          refine lv_topi (fun z_25 ez_25 => ?_)
          obtain rfl : z_25 = nI (118 + k17) := ez_25.trans (nI_add 118 k17)
          refine lv_aload_n hx hb dX12_image_33 rfl (lv_at hl 1 rfl) ?_
          refine q_get X iX12_image_12 hP (by decide) h17_197 rfl 1 (by decide) (List.mem_of_getElem? (i := 8) rfl) (v := .ref (ad 198)) rfl dX12_image_34 ?_
          refine lv_iload_n hx hb dX12_image_37 rfl (lv_at hl 0 rfl) ?_
          refine q_iald X hP (by decide) h17_198 (vp_in_nI (by omega) (by decide)) dX12_image_38 ?_
          refine q_iast X hP hj hA hS (by decide) h17_199 (vp_in_nI (by omega) (by decide)) dX12_image_39 (fun H locs hP hS => ?_)
          generalize eg_26 : va_up G17 199 _ = g_26 at hP
          have h_28 : g_26 197 = .inr (12, [.int 0, .ref (ad 198), .ref (ad 199), .ref (ad 200), .ref (ad 201), .int 0, .ref (ad 202), .int 0, .int 0, .int 0, .int 0, .int 0, .int 0, .int (-1), .ref (ad 203), .ref (ad 204), .ref (ad 205), .int 0, .int 0, .ref (ad 206), .ref (ad 207), .ref (ad 208), .int 0, .int 0, .int 0, .int 0, .int 0, .ref (ad 209), .ref (ad 210), .ref (ad 211), .long 0, .long 0, .ref (ad 212), .ref (ad 213), .int 0, .int 0, .ref (ad 214), .ref (ad 215), .ref (ad 216), .ref (ad 217)]) := by rw [← eg_26, va_up_ne _ _ (by decide)]; exact h17_197
          have h_29 : g_26 198 = .inl (cs 1, 118, .inl (fun _ => 0)) := by rw [← eg_26, va_up_ne _ _ (by decide)]; exact h17_198
          obtain ⟨f_27, h_30⟩ : ∃ f, g_26 199 = .inl (cs 1, 354, .inl f) := ⟨_, by rw [← eg_26]; exact va_up_self _ _ _⟩
          have h_31 : g_26 200 = .inl (cs 3, 3, .inl (fun _ => 0)) := by rw [← eg_26, va_up_ne _ _ (by decide)]; exact h17_200
          refine lv_iinc (v := (nI (k17 + 1))) (lv' := [(2, .int (nI (k17 + 1))), (0, .ref (ad 197)), (1, .int 1)]) hx hb dX12_image_40 hl (k := 0) rfl (nI_add k17 1) (by decide) rfl (fun ls hl => ?_)
          refine lv_goto (tgt := 17) hx hb dX12_image_43 (by decide) ?_
          exact ih17 (k17 + 1) _ g_26 _ _ ls (by omega) h_28 h_29 h_30 h_31 hP hS (lv_sub hl [0, 1, 2] rfl)
      exact HL17 118 0 _ g _ _ ls (by omega) h197 h198 h199 h200 hP hS (lv_sub hl [0, 1, 2] rfl)
    · refine lv_iconst (v := 0) hx hb dX12_image_15 (by decide) ?_
      refine lv_istore_n (lv' := [(2, .int 0), (0, .ref (ad 197)), (1, .int 2)]) hx hb dX12_image_16 rfl hl (by decide) rfl (fun ls hl => ?_)
      have HL17 : ∀ (d17 k17 : Nat) (f17_199 : Nat → Int32) (G17 : Nat → va_E) (H : Heap) (locs : List Loc) (ls : Array Slot), k17 + d17 = 118 → G17 197 = .inr (12, [.int 0, .ref (ad 198), .ref (ad 199), .ref (ad 200), .ref (ad 201), .int 0, .ref (ad 202), .int 0, .int 0, .int 0, .int 0, .int 0, .int 0, .int (-1), .ref (ad 203), .ref (ad 204), .ref (ad 205), .int 0, .int 0, .ref (ad 206), .ref (ad 207), .ref (ad 208), .int 0, .int 0, .int 0, .int 0, .int 0, .ref (ad 209), .ref (ad 210), .ref (ad 211), .long 0, .long 0, .ref (ad 212), .ref (ad 213), .int 0, .int 0, .ref (ad 214), .ref (ad 215), .ref (ad 216), .ref (ad 217)]) → G17 198 = .inl (cs 1, 118, .inl (fun _ => 0)) → G17 199 = .inl (cs 1, 354, .inl f17_199) → G17 200 = .inl (cs 3, 3, .inl (fun _ => 0)) → va_P D vwCl (wL ad G17 nW) H → va_S (wA ad nW) s.heap H locs → lv_has ls 3 [(2, .int (nI k17)), (0, .ref (ad 197)), (1, .int 2)] → W p l e ({ frames := 1, cells := 0, slots := 0, locals := 25 } : Room) s m ([.ref (ad 197), .int 2] : List Value).toArray below meth c H locs 0 0 (MQ below (qI D ad nW (fun r g2 => r = aImg 2)) ([.ref (ad 197), .int 2] : List Value).toArray s 0 0 (wA ad nW)) (F0 m 17 ls []) := by
        intro d17
        induction d17 with
        | zero =>
          intro k17 f17_199 G17 H locs ls hk17 h17_197 h17_198 h17_199 h17_200 hP hS hl
          obtain rfl : k17 = 118 := by omega
          refine lv_iload_n hx hb dX12_image_17 rfl (lv_at hl 0 rfl) ?_
          refine lv_bipush (v := 118) hx hb dX12_image_18 (by decide) ?_
          refine lv_icmp_ge (tgt := 46) hx hb dX12_image_20 (by decide) (fun _ => ?_) (fun h => absurd h (by decide))
          refine lv_aload_n hx hb dX12_image_46 rfl (lv_at hl 1 rfl) ?_
          refine q_get X iX12_image_12 hP (by decide) h17_197 rfl 3 (by decide) (List.mem_of_getElem? (i := 6) rfl) (v := .ref (ad 200)) rfl dX12_image_47 ?_
          refine lv_iload_n hx hb dX12_image_50 rfl (lv_at hl 2 rfl) ?_
          refine lv_iconst (v := 1) hx hb dX12_image_51 (by decide) ?_
          refine q_zast X hP hj hA hS (by decide) h17_200 (by unfold vp_in; decide) dX12_image_52 (fun H locs hP hS => ?_)
          generalize eg_32 : va_up G17 200 _ = g_32 at hP
          have h_34 : g_32 197 = .inr (12, [.int 0, .ref (ad 198), .ref (ad 199), .ref (ad 200), .ref (ad 201), .int 0, .ref (ad 202), .int 0, .int 0, .int 0, .int 0, .int 0, .int 0, .int (-1), .ref (ad 203), .ref (ad 204), .ref (ad 205), .int 0, .int 0, .ref (ad 206), .ref (ad 207), .ref (ad 208), .int 0, .int 0, .int 0, .int 0, .int 0, .ref (ad 209), .ref (ad 210), .ref (ad 211), .long 0, .long 0, .ref (ad 212), .ref (ad 213), .int 0, .int 0, .ref (ad 214), .ref (ad 215), .ref (ad 216), .ref (ad 217)]) := by rw [← eg_32, va_up_ne _ _ (by decide)]; exact h17_197
          have h_35 : g_32 198 = .inl (cs 1, 118, .inl (fun _ => 0)) := by rw [← eg_32, va_up_ne _ _ (by decide)]; exact h17_198
          have h_36 : g_32 199 = .inl (cs 1, 354, .inl f17_199) := by rw [← eg_32, va_up_ne _ _ (by decide)]; exact h17_199
          obtain ⟨f_33, h_37⟩ : ∃ f, g_32 200 = .inl (cs 3, 3, .inl f) := ⟨_, by rw [← eg_32]; exact va_up_self _ _ _⟩
          refine lv_iconst (v := 0) hx hb dX12_image_53 (by decide) ?_
          exact q_iret X hP hS (by unfold aImg; rfl) dX12_image_54
        | succ d17 ih17 =>
          intro k17 f17_199 G17 H locs ls hk17 h17_197 h17_198 h17_199 h17_200 hP hS hl
          refine lv_iload_n hx hb dX12_image_17 rfl (lv_at hl 0 rfl) ?_
          refine lv_bipush (v := 118) hx hb dX12_image_18 (by decide) ?_
          refine lv_icmp_ge (tgt := 46) hx hb dX12_image_20 (by decide) (fun hc_20 => absurd hc_20 (nI_ge (a := k17) (b := 118) (by omega) (by decide))) (fun hc_20 => ?_)
          refine lv_aload_n hx hb dX12_image_23 rfl (lv_at hl 1 rfl) ?_
          refine q_get X iX12_image_12 hP (by decide) h17_197 rfl 2 (by decide) (List.mem_of_getElem? (i := 7) rfl) (v := .ref (ad 199)) rfl dX12_image_24 ?_
          refine lv_bipush (v := 118) hx hb dX12_image_27 (by decide) ?_
          refine lv_iload_n hx hb dX12_image_29 rfl (lv_at hl 2 rfl) ?_
          refine lv_imul hx hb dX12_image_30 ?_
          refine lv_topi (fun z_38 ez_38 => ?_)
          obtain rfl : z_38 = 236 := ez_38.trans (by decide)
          refine lv_iload_n hx hb dX12_image_31 rfl (lv_at hl 0 rfl) ?_
          refine lv_iadd hx hb dX12_image_32 ?_
          refine lv_topi (fun z_39 ez_39 => ?_)
          obtain rfl : z_39 = nI (236 + k17) := ez_39.trans (nI_add 236 k17)
          refine lv_aload_n hx hb dX12_image_33 rfl (lv_at hl 1 rfl) ?_
          refine q_get X iX12_image_12 hP (by decide) h17_197 rfl 1 (by decide) (List.mem_of_getElem? (i := 8) rfl) (v := .ref (ad 198)) rfl dX12_image_34 ?_
          refine lv_iload_n hx hb dX12_image_37 rfl (lv_at hl 0 rfl) ?_
          refine q_iald X hP (by decide) h17_198 (vp_in_nI (by omega) (by decide)) dX12_image_38 ?_
          refine q_iast X hP hj hA hS (by decide) h17_199 (vp_in_nI (by omega) (by decide)) dX12_image_39 (fun H locs hP hS => ?_)
          generalize eg_40 : va_up G17 199 _ = g_40 at hP
          have h_42 : g_40 197 = .inr (12, [.int 0, .ref (ad 198), .ref (ad 199), .ref (ad 200), .ref (ad 201), .int 0, .ref (ad 202), .int 0, .int 0, .int 0, .int 0, .int 0, .int 0, .int (-1), .ref (ad 203), .ref (ad 204), .ref (ad 205), .int 0, .int 0, .ref (ad 206), .ref (ad 207), .ref (ad 208), .int 0, .int 0, .int 0, .int 0, .int 0, .ref (ad 209), .ref (ad 210), .ref (ad 211), .long 0, .long 0, .ref (ad 212), .ref (ad 213), .int 0, .int 0, .ref (ad 214), .ref (ad 215), .ref (ad 216), .ref (ad 217)]) := by rw [← eg_40, va_up_ne _ _ (by decide)]; exact h17_197
          have h_43 : g_40 198 = .inl (cs 1, 118, .inl (fun _ => 0)) := by rw [← eg_40, va_up_ne _ _ (by decide)]; exact h17_198
          obtain ⟨f_41, h_44⟩ : ∃ f, g_40 199 = .inl (cs 1, 354, .inl f) := ⟨_, by rw [← eg_40]; exact va_up_self _ _ _⟩
          have h_45 : g_40 200 = .inl (cs 3, 3, .inl (fun _ => 0)) := by rw [← eg_40, va_up_ne _ _ (by decide)]; exact h17_200
          refine lv_iinc (v := (nI (k17 + 1))) (lv' := [(2, .int (nI (k17 + 1))), (0, .ref (ad 197)), (1, .int 2)]) hx hb dX12_image_40 hl (k := 0) rfl (nI_add k17 1) (by decide) rfl (fun ls hl => ?_)
          refine lv_goto (tgt := 17) hx hb dX12_image_43 (by decide) ?_
          exact ih17 (k17 + 1) _ g_40 _ _ ls (by omega) h_42 h_43 h_44 h_45 hP hS (lv_sub hl [0, 1, 2] rfl)
      exact HL17 118 0 _ g _ _ ls (by omega) h197 h198 h199 h200 hP hS (lv_sub hl [0, 1, 2] rfl)
  · refine lv_bipush (v := (-2)) hx hb dX12_image_12 (by decide) ?_
    exact q_iret X hP hS (in_3i hw_1 hc_9) dX12_image_14
end
section
theorem aRow_s {s w n : Int32} (h : ¬ inS s) : -2 = aRow s w n := by
  unfold aRow
  by_cases h1 : s < 0
  · rw [if_pos h1]
  · rw [if_neg h1, if_neg (fun h2 => h ⟨h1, h2⟩)]
theorem aRow_w {s w n : Int32} (h : inS s) (hw : ¬ inS w) : -2 = aRow s w n := by
  unfold aRow
  rw [if_neg h.1, if_pos h.2]
  by_cases h1 : w < 0
  · rw [if_pos h1]
  · rw [if_neg h1, if_neg (fun h2 => hw ⟨h1, h2⟩)]
theorem aRow_n {s w n : Int32} (h : inS s) (hw : inS w) (hn : ¬ n ≤ 60) : -2 = aRow s w n := by
  unfold aRow
  rw [if_neg h.1, if_pos h.2, if_neg hw.1, if_pos hw.2, if_neg hn]
theorem aRow_neg {s w n : Int32} (h : inS s) (hw : inS w) (hn : n ≤ 60) (hp : ¬ 0 ≤ n) : -3 = aRow s w n := by
  unfold aRow
  rw [if_neg h.1, if_pos h.2, if_neg hw.1, if_pos hw.2, if_pos hn, if_neg hp]
theorem aRow_ok {s w n : Int32} (h : inS s) (hw : inS w) (hn : n ≤ 60) (hp : 0 ≤ n) : 0 = aRow s w n := by
  unfold aRow
  rw [if_neg h.1, if_pos h.2, if_neg hw.1, if_pos hw.2, if_pos hn, if_pos hp]
theorem in_8 {w r : Int32} (h : (r = 1 ∧ 0 ≤ w.toInt64 ∧ w.toInt64 ≤ 8) ∨ (r = 0 ∧ ¬ (0 ≤ w.toInt64 ∧ w.toInt64 ≤ 8))) : (r = 1 ∧ 0 ≤ w.toInt ∧ w.toInt ≤ 8) ∨ (r = 0 ∧ ¬ (0 ≤ w.toInt ∧ w.toInt ≤ 8)) := by
  have e1 : (0 : Int64) ≤ w.toInt64 ↔ 0 ≤ w.toInt := (w_le 0 w).trans Int32.le_iff_toInt_le
  have e2 : w.toInt64 ≤ 8 ↔ w.toInt ≤ 8 := (w_le w 8).trans Int32.le_iff_toInt_le
  rw [e1, e2] at h
  exact h
theorem in_8v {w r : Int32} (h : (r = 1 ∧ 0 ≤ w.toInt64 ∧ w.toInt64 ≤ 8) ∨ (r = 0 ∧ ¬ (0 ≤ w.toInt64 ∧ w.toInt64 ≤ 8))) (hr : ¬ r = 0) : vp_in w 118 := by
  rcases in_8 h with q | q
  · exact vp_in_iff.mpr ⟨q.2.1, by have := q.2.2; omega⟩
  · exact absurd q.1 hr
theorem in_8a {w r : Int32} (h : (r = 1 ∧ 0 ≤ w.toInt64 ∧ w.toInt64 ≤ 8) ∨ (r = 0 ∧ ¬ (0 ≤ w.toInt64 ∧ w.toInt64 ≤ 8))) (hr : ¬ r = 0) : aCnt w = 0 := by
  rcases in_8 h with q | q
  · exact if_neg (by omega)
  · exact absurd q.1 hr
theorem in_8n {w r : Int32} (h : (r = 1 ∧ 0 ≤ w.toInt64 ∧ w.toInt64 ≤ 8) ∨ (r = 0 ∧ ¬ (0 ≤ w.toInt64 ∧ w.toInt64 ≤ 8))) (hr : r = 0) (h9 : ¬ w = 9) (h10 : ¬ w = 10) : aCnt w = -1 := by
  have a9 : w.toInt ≠ 9 := fun q => h9 (Int32.toInt_inj.mp q)
  have a10 : w.toInt ≠ 10 := fun q => h10 (Int32.toInt_inj.mp q)
  rcases in_8 h with q | q
  · exact absurd (q.1.symm.trans hr) (by decide)
  · exact if_pos (by omega)
theorem dX12_row_0 : decode cX12_row 0 = .ok (.iload_n 1, 1) := by decide +kernel
theorem dX12_row_1 : decode cX12_row 1 = .ok (.invokestatic 307, 3) := by decide +kernel
theorem dX12_row_4 : decode cX12_row 4 = .ok (.ifCond .eq 21, 3) := by decide +kernel
theorem dX12_row_25 : decode cX12_row 25 = .ok (.bipush (-2), 2) := by decide +kernel
theorem dX12_row_27 : decode cX12_row 27 = .ok (.ireturn, 1) := by decide +kernel
theorem dX12_row_7 : decode cX12_row 7 = .ok (.iload_n 2, 1) := by decide +kernel
theorem dX12_row_8 : decode cX12_row 8 = .ok (.i2l, 1) := by decide +kernel
theorem dX12_row_9 : decode cX12_row 9 = .ok (.lconst 0, 1) := by decide +kernel
theorem dX12_row_10 : decode cX12_row 10 = .ok (.ldc2_w 431, 3) := by decide +kernel
theorem dX12_row_13 : decode cX12_row 13 = .ok (.invokestatic 82, 3) := by decide +kernel
theorem dX12_row_16 : decode cX12_row 16 = .ok (.ifCond .eq 9, 3) := by decide +kernel
theorem dX12_row_19 : decode cX12_row 19 = .ok (.iload_n 3, 1) := by decide +kernel
theorem dX12_row_20 : decode cX12_row 20 = .ok (.bipush 60, 2) := by decide +kernel
theorem dX12_row_22 : decode cX12_row 22 = .ok (.if_icmp .le 6, 3) := by decide +kernel
theorem dX12_row_28 : decode cX12_row 28 = .ok (.iload_n 3, 1) := by decide +kernel
theorem dX12_row_29 : decode cX12_row 29 = .ok (.ifCond .ge 6, 3) := by decide +kernel
theorem dX12_row_35 : decode cX12_row 35 = .ok (.aload_n 0, 1) := by decide +kernel
theorem dX12_row_36 : decode cX12_row 36 = .ok (.getfield 65, 3) := by decide +kernel
theorem dX12_row_39 : decode cX12_row 39 = .ok (.iload_n 1, 1) := by decide +kernel
theorem dX12_row_40 : decode cX12_row 40 = .ok (.iload_n 3, 1) := by decide +kernel
theorem dX12_row_41 : decode cX12_row 41 = .ok (.iastore, 1) := by decide +kernel
theorem dX12_row_42 : decode cX12_row 42 = .ok (.aload_n 0, 1) := by decide +kernel
theorem dX12_row_43 : decode cX12_row 43 = .ok (.getfield 68, 3) := by decide +kernel
theorem dX12_row_46 : decode cX12_row 46 = .ok (.iload_n 1, 1) := by decide +kernel
theorem dX12_row_47 : decode cX12_row 47 = .ok (.iload_n 2, 1) := by decide +kernel
theorem dX12_row_48 : decode cX12_row 48 = .ok (.iastore, 1) := by decide +kernel
theorem dX12_row_49 : decode cX12_row 49 = .ok (.iconst 0, 1) := by decide +kernel
theorem dX12_row_50 : decode cX12_row 50 = .ok (.istore 4, 2) := by decide +kernel
theorem dX12_row_52 : decode cX12_row 52 = .ok (.iload 4, 2) := by decide +kernel
theorem dX12_row_54 : decode cX12_row 54 = .ok (.bipush 60, 2) := by decide +kernel
theorem dX12_row_56 : decode cX12_row 56 = .ok (.if_icmp .ge 22, 3) := by decide +kernel
theorem dX12_row_78 : decode cX12_row 78 = .ok (.iconst 0, 1) := by decide +kernel
theorem dX12_row_79 : decode cX12_row 79 = .ok (.ireturn, 1) := by decide +kernel
theorem dX12_row_59 : decode cX12_row 59 = .ok (.aload_n 0, 1) := by decide +kernel
theorem dX12_row_60 : decode cX12_row 60 = .ok (.getfield 71, 3) := by decide +kernel
theorem dX12_row_63 : decode cX12_row 63 = .ok (.bipush 60, 2) := by decide +kernel
theorem dX12_row_65 : decode cX12_row 65 = .ok (.iload_n 1, 1) := by decide +kernel
theorem dX12_row_66 : decode cX12_row 66 = .ok (.imul, 1) := by decide +kernel
theorem dX12_row_67 : decode cX12_row 67 = .ok (.iload 4, 2) := by decide +kernel
theorem dX12_row_69 : decode cX12_row 69 = .ok (.iadd, 1) := by decide +kernel
theorem dX12_row_70 : decode cX12_row 70 = .ok (.lconst 0, 1) := by decide +kernel
theorem dX12_row_71 : decode cX12_row 71 = .ok (.lastore, 1) := by decide +kernel
theorem dX12_row_72 : decode cX12_row 72 = .ok (.iinc 4 1, 3) := by decide +kernel
theorem dX12_row_75 : decode cX12_row 75 = .ok (.goto (-23), 3) := by decide +kernel
theorem dX12_row_32 : decode cX12_row 32 = .ok (.bipush (-3), 2) := by decide +kernel
theorem dX12_row_34 : decode cX12_row 34 = .ok (.ireturn, 1) := by decide +kernel
def vX12_row : List Cond := .code yX12_row cX12_row 5 (some .int) :: ([.methodLink RX12 307 yX12_isSlot, .static yX12_isSlot, .initialized RX12, .code yX12_isSlot cX12_isSlot 1 (some .boolean), .constantLong RX12 431 (3), .methodLink RX12 82 yX12_in, .static yX12_in, .code yX12_in cX12_in 6 (some .boolean), .fieldLink RX12 65 "IcicleClockModel" "many" "[I", .fieldLink RX12 68 "IcicleClockModel" "width" "[I", .fieldLink RX12 71 "IcicleClockModel" "numbers" "[J"] ++ wsX120)
theorem iX12_row_12 : ∀ w ∈ wsX120, w ∈ vX12_row := fun _ h => List.mem_cons_of_mem _ (List.mem_append_right _ h)
set_option maxRecDepth 20000 in
theorem gg_X12_row_X12_isSlot : GoodIn vX12_row (wsS RX12 307 yX12_isSlot vX12_isSlot) := goodIn_r _ [1, 2, 3, 4, 5, 6, 7, 3, 8] (by decide +kernel) (by decide +kernel)
set_option maxRecDepth 20000 in
theorem gg_X12_row_X12_in : GoodIn vX12_row (wsS RX12 82 yX12_in vX12_in) := goodIn_r _ [6, 7, 3, 8] (by decide +kernel) (by decide +kernel)
set_option maxHeartbeats 4000000 in
set_option maxRecDepth 100000 in
theorem m_row (l : Launch) (D : va_G) (cs : Nat → ClassId) (ad : Nat → Nat) (hj : wJ ad nW) (g : Nat → va_E) (vs : Int32) (vw : Int32) (vn : Int32) (h197 : g 197 = .inr (12, [.int 0, .ref (ad 198), .ref (ad 199), .ref (ad 200), .ref (ad 201), .int 0, .ref (ad 202), .int 0, .int 0, .int 0, .int 0, .int 0, .int 0, .int (-1), .ref (ad 203), .ref (ad 204), .ref (ad 205), .int 0, .int 0, .ref (ad 206), .ref (ad 207), .ref (ad 208), .int 0, .int 0, .int 0, .int 0, .int 0, .ref (ad 209), .ref (ad 210), .ref (ad 211), .long 0, .long 0, .ref (ad 212), .ref (ad 213), .int 0, .int 0, .ref (ad 214), .ref (ad 215), .ref (ad 216), .ref (ad 217)])) (h214 : g 214 = .inl (cs 1, 4, .inl (fun _ => -1))) (h215 : g 215 = .inl (cs 1, 4, .inl (fun _ => 0))) (h216 : g 216 = .inl (cs 2, 240, .inr (.inl (fun _ => 0)))) : cI l yX12_row vX12_row { frames := 2, cells := 0, slots := 0, locals := 45 } D cs ad nW [.ref (ad 197), .int vs, .int vw, .int vn] g (fun r g2 => r = aRow vs vw vn) := by
  refine Met.start (cc := cX12_row) (maxL := 5) (ret := (some .int)) RX12 rfl (by decide) rfl (Nat.le_of_ble_eq_true rfl) ?_
  intro p e s m below meth c ls X hP hl
  have hx := X.1
  have hb := X.2.1
  have hS : va_S (wA ad nW) s.heap s.heap [] := va_S.rf
  have hA : ∀ i, i < nW → wA ad nW (ad i) := fun i h => ⟨i, h, rfl⟩
  have hl : lv_has ls 5 [(0, .ref (ad 197)), (1, .int vs), (2, .int vw), (3, .int vn)] := hl
  refine lv_iload_n hx hb dX12_row_0 rfl (lv_at hl 1 rfl) ?_
  refine q_callSi (As := [.int vs]) (rest := []) X (m_isSlot l D cs ad hj g vs ) (cwS 1 X.2.2.2.2.1 gg_X12_row_X12_isSlot rfl rfl rfl (by decide +kernel) ⟨Nat.le_of_ble_eq_true rfl, Nat.le_of_ble_eq_true rfl⟩) hP hA hS rfl hl.1 rfl (Nat.le_of_ble_eq_true rfl) dX12_row_1 ⟨Nat.le_of_ble_eq_true rfl, Nat.le_of_ble_eq_true rfl⟩ (fun r_3 g_2 H locs hw_1 hP hS => ?_)
  obtain ⟨hw_1b, hw_1⟩ := hw_1
  rw [hw_1b] at hP
  refine lv_if_eq (tgt := 25) hx hb dX12_row_4 (by decide) (fun hc_4 => ?_) (fun hc_4 => ?_)
  · refine lv_bipush (v := (-2)) hx hb dX12_row_25 (by decide) ?_
    exact q_iret X hP hS (by first | exact aRow_s (hw_1.elim (fun q => absurd (q.1.symm.trans hc_4) (by decide)) (fun q => q.2)) | exact aRow_w (hw_1.elim (fun q => q.2) (fun q => absurd q.1 hc_4)) ((in_S hw_4).elim (fun q => absurd (q.1.symm.trans hc_16) (by decide)) (fun q => q.2)) | exact aRow_n (hw_1.elim (fun q => q.2) (fun q => absurd q.1 hc_4)) ((in_S hw_4).elim (fun q => q.2) (fun q => absurd q.1 hc_16)) hc_22) dX12_row_27
  · refine lv_iload_n hx hb dX12_row_7 rfl (lv_at hl 2 rfl) ?_
    refine lv_i2l (v := vw.toInt64) hx hb dX12_row_8 rfl ?_
    refine lv_lconst (v := 0) hx hb dX12_row_9 (by decide) ?_
    refine lv_ldc2 (v := 3) hx hb X.2.2.2.2.2.1 (X.2.2.2.2.1 _ (List.mem_of_getElem? (i := 5) rfl)) dX12_row_10 ?_
    refine q_callSi (As := [.long (vw.toInt64), .long 0, .long 3]) (rest := []) X (m_in l D cs ad hj g (vw.toInt64) 0 3 ) (cwS 3 X.2.2.2.2.1 gg_X12_row_X12_in rfl rfl rfl (by decide +kernel) ⟨Nat.le_of_ble_eq_true rfl, Nat.le_of_ble_eq_true rfl⟩) hP hA hS rfl hl.1 rfl (Nat.le_of_ble_eq_true rfl) dX12_row_13 ⟨Nat.le_of_ble_eq_true rfl, Nat.le_of_ble_eq_true rfl⟩ (fun r_6 g_5 H locs hw_4 hP hS => ?_)
    obtain ⟨hw_4b, hw_4⟩ := hw_4
    rw [hw_4b] at hP
    refine lv_if_eq (tgt := 25) hx hb dX12_row_16 (by decide) (fun hc_16 => ?_) (fun hc_16 => ?_)
    · refine lv_bipush (v := (-2)) hx hb dX12_row_25 (by decide) ?_
      exact q_iret X hP hS (by first | exact aRow_s (hw_1.elim (fun q => absurd (q.1.symm.trans hc_4) (by decide)) (fun q => q.2)) | exact aRow_w (hw_1.elim (fun q => q.2) (fun q => absurd q.1 hc_4)) ((in_S hw_4).elim (fun q => absurd (q.1.symm.trans hc_16) (by decide)) (fun q => q.2)) | exact aRow_n (hw_1.elim (fun q => q.2) (fun q => absurd q.1 hc_4)) ((in_S hw_4).elim (fun q => q.2) (fun q => absurd q.1 hc_16)) hc_22) dX12_row_27
    · refine lv_iload_n hx hb dX12_row_19 rfl (lv_at hl 3 rfl) ?_
      refine lv_bipush (v := 60) hx hb dX12_row_20 (by decide) ?_
      refine lv_icmp_le (tgt := 28) hx hb dX12_row_22 (by decide) (fun hc_22 => ?_) (fun hc_22 => ?_)
      · refine lv_iload_n hx hb dX12_row_28 rfl (lv_at hl 3 rfl) ?_
        refine lv_if_ge (tgt := 35) hx hb dX12_row_29 (by decide) (fun hc_29 => ?_) (fun hc_29 => ?_)
        · rcases inS_4 (hw_1.elim (fun q => q.2) (fun q => absurd q.1 hc_4)) with rfl | rfl | rfl | rfl
          · refine lv_aload_n hx hb dX12_row_35 rfl (lv_at hl 0 rfl) ?_
            refine q_get X iX12_row_12 hP (by decide) h197 rfl 36 (by decide) (List.mem_of_getElem? (i := 9) rfl) (v := .ref (ad 214)) rfl dX12_row_36 ?_
            refine lv_iload_n hx hb dX12_row_39 rfl (lv_at hl 1 rfl) ?_
            refine lv_iload_n hx hb dX12_row_40 rfl (lv_at hl 3 rfl) ?_
            refine q_iast X hP hj hA hS (by decide) h214 (by unfold vp_in; decide) dX12_row_41 (fun H locs hP hS => ?_)
            generalize eg_7 : va_up g 214 _ = g_7 at hP
            have h_9 : g_7 197 = .inr (12, [.int 0, .ref (ad 198), .ref (ad 199), .ref (ad 200), .ref (ad 201), .int 0, .ref (ad 202), .int 0, .int 0, .int 0, .int 0, .int 0, .int 0, .int (-1), .ref (ad 203), .ref (ad 204), .ref (ad 205), .int 0, .int 0, .ref (ad 206), .ref (ad 207), .ref (ad 208), .int 0, .int 0, .int 0, .int 0, .int 0, .ref (ad 209), .ref (ad 210), .ref (ad 211), .long 0, .long 0, .ref (ad 212), .ref (ad 213), .int 0, .int 0, .ref (ad 214), .ref (ad 215), .ref (ad 216), .ref (ad 217)]) := by rw [← eg_7, va_up_ne _ _ (by decide)]; exact h197
            obtain ⟨f_8, h_10⟩ : ∃ f, g_7 214 = .inl (cs 1, 4, .inl f) := ⟨_, by rw [← eg_7]; exact va_up_self _ _ _⟩
            have h_11 : g_7 215 = .inl (cs 1, 4, .inl (fun _ => 0)) := by rw [← eg_7, va_up_ne _ _ (by decide)]; exact h215
            have h_12 : g_7 216 = .inl (cs 2, 240, .inr (.inl (fun _ => 0))) := by rw [← eg_7, va_up_ne _ _ (by decide)]; exact h216
            refine lv_aload_n hx hb dX12_row_42 rfl (lv_at hl 0 rfl) ?_
            refine q_get X iX12_row_12 hP (by decide) h_9 rfl 37 (by decide) (List.mem_of_getElem? (i := 10) rfl) (v := .ref (ad 215)) rfl dX12_row_43 ?_
            refine lv_iload_n hx hb dX12_row_46 rfl (lv_at hl 1 rfl) ?_
            refine lv_iload_n hx hb dX12_row_47 rfl (lv_at hl 2 rfl) ?_
            refine q_iast X hP hj hA hS (by decide) h_11 (by unfold vp_in; decide) dX12_row_48 (fun H locs hP hS => ?_)
            generalize eg_13 : va_up g_7 215 _ = g_13 at hP
            have h_15 : g_13 197 = .inr (12, [.int 0, .ref (ad 198), .ref (ad 199), .ref (ad 200), .ref (ad 201), .int 0, .ref (ad 202), .int 0, .int 0, .int 0, .int 0, .int 0, .int 0, .int (-1), .ref (ad 203), .ref (ad 204), .ref (ad 205), .int 0, .int 0, .ref (ad 206), .ref (ad 207), .ref (ad 208), .int 0, .int 0, .int 0, .int 0, .int 0, .ref (ad 209), .ref (ad 210), .ref (ad 211), .long 0, .long 0, .ref (ad 212), .ref (ad 213), .int 0, .int 0, .ref (ad 214), .ref (ad 215), .ref (ad 216), .ref (ad 217)]) := by rw [← eg_13, va_up_ne _ _ (by decide)]; exact h_9
            have h_16 : g_13 214 = .inl (cs 1, 4, .inl f_8) := by rw [← eg_13, va_up_ne _ _ (by decide)]; exact h_10
            obtain ⟨f_14, h_17⟩ : ∃ f, g_13 215 = .inl (cs 1, 4, .inl f) := ⟨_, by rw [← eg_13]; exact va_up_self _ _ _⟩
            have h_18 : g_13 216 = .inl (cs 2, 240, .inr (.inl (fun _ => 0))) := by rw [← eg_13, va_up_ne _ _ (by decide)]; exact h_12
            refine lv_iconst (v := 0) hx hb dX12_row_49 (by decide) ?_
            refine lv_istore (lv' := [(4, .int 0), (0, .ref (ad 197)), (1, .int 0), (2, .int vw), (3, .int vn)]) hx hb dX12_row_50 hl (by decide) rfl (fun ls hl => ?_)
            have HL52 : ∀ (d52 k52 : Nat) (f52_216 : Nat → Int64) (G52 : Nat → va_E) (H : Heap) (locs : List Loc) (ls : Array Slot), k52 + d52 = 60 → G52 197 = .inr (12, [.int 0, .ref (ad 198), .ref (ad 199), .ref (ad 200), .ref (ad 201), .int 0, .ref (ad 202), .int 0, .int 0, .int 0, .int 0, .int 0, .int 0, .int (-1), .ref (ad 203), .ref (ad 204), .ref (ad 205), .int 0, .int 0, .ref (ad 206), .ref (ad 207), .ref (ad 208), .int 0, .int 0, .int 0, .int 0, .int 0, .ref (ad 209), .ref (ad 210), .ref (ad 211), .long 0, .long 0, .ref (ad 212), .ref (ad 213), .int 0, .int 0, .ref (ad 214), .ref (ad 215), .ref (ad 216), .ref (ad 217)]) → G52 214 = .inl (cs 1, 4, .inl f_8) → G52 215 = .inl (cs 1, 4, .inl f_14) → G52 216 = .inl (cs 2, 240, .inr (.inl f52_216)) → va_P D vwCl (wL ad G52 nW) H → va_S (wA ad nW) s.heap H locs → lv_has ls 5 [(4, .int (nI k52)), (0, .ref (ad 197)), (1, .int 0), (2, .int vw), (3, .int vn)] → W p l e ({ frames := 2, cells := 0, slots := 0, locals := 45 } : Room) s m ([.ref (ad 197), .int 0, .int vw, .int vn] : List Value).toArray below meth c H locs 0 0 (MQ below (qI D ad nW (fun r g2 => r = aRow 0 vw vn)) ([.ref (ad 197), .int 0, .int vw, .int vn] : List Value).toArray s 0 0 (wA ad nW)) (F0 m 52 ls []) := by
              intro d52
              induction d52 with
              | zero =>
                intro k52 f52_216 G52 H locs ls hk52 h52_197 h52_214 h52_215 h52_216 hP hS hl
                obtain rfl : k52 = 60 := by omega
                refine lv_iload hx hb dX12_row_52 (lv_at hl 0 rfl) ?_
                refine lv_bipush (v := 60) hx hb dX12_row_54 (by decide) ?_
                refine lv_icmp_ge (tgt := 78) hx hb dX12_row_56 (by decide) (fun _ => ?_) (fun h => absurd h (by decide))
                refine lv_iconst (v := 0) hx hb dX12_row_78 (by decide) ?_
                exact q_iret X hP hS (aRow_ok ⟨by decide, by decide⟩ ((in_S hw_4).elim (fun q => q.2) (fun q => absurd q.1 hc_16)) hc_22 hc_29) dX12_row_79
              | succ d52 ih52 =>
                intro k52 f52_216 G52 H locs ls hk52 h52_197 h52_214 h52_215 h52_216 hP hS hl
                refine lv_iload hx hb dX12_row_52 (lv_at hl 0 rfl) ?_
                refine lv_bipush (v := 60) hx hb dX12_row_54 (by decide) ?_
                refine lv_icmp_ge (tgt := 78) hx hb dX12_row_56 (by decide) (fun hc_56 => absurd hc_56 (nI_ge (a := k52) (b := 60) (by omega) (by decide))) (fun hc_56 => ?_)
                refine lv_aload_n hx hb dX12_row_59 rfl (lv_at hl 1 rfl) ?_
                refine q_get X iX12_row_12 hP (by decide) h52_197 rfl 38 (by decide) (List.mem_of_getElem? (i := 11) rfl) (v := .ref (ad 216)) rfl dX12_row_60 ?_
                refine lv_bipush (v := 60) hx hb dX12_row_63 (by decide) ?_
                refine lv_iload_n hx hb dX12_row_65 rfl (lv_at hl 2 rfl) ?_
                refine lv_imul hx hb dX12_row_66 ?_
                refine lv_topi (fun z_19 ez_19 => ?_)
                obtain rfl : z_19 = 0 := ez_19.trans (by decide)
                refine lv_iload hx hb dX12_row_67 (lv_at hl 0 rfl) ?_
                refine lv_iadd hx hb dX12_row_69 ?_
                refine lv_topi (fun z_20 ez_20 => ?_)
                obtain rfl : z_20 = nI (0 + k52) := ez_20.trans (nI_add 0 k52)
                refine lv_lconst (v := 0) hx hb dX12_row_70 (by decide) ?_
                refine q_last X hP hj hA hS (by decide) h52_216 (vp_in_nI (by omega) (by decide)) dX12_row_71 (fun H locs hP hS => ?_)
                generalize eg_21 : va_up G52 216 _ = g_21 at hP
                have h_23 : g_21 197 = .inr (12, [.int 0, .ref (ad 198), .ref (ad 199), .ref (ad 200), .ref (ad 201), .int 0, .ref (ad 202), .int 0, .int 0, .int 0, .int 0, .int 0, .int 0, .int (-1), .ref (ad 203), .ref (ad 204), .ref (ad 205), .int 0, .int 0, .ref (ad 206), .ref (ad 207), .ref (ad 208), .int 0, .int 0, .int 0, .int 0, .int 0, .ref (ad 209), .ref (ad 210), .ref (ad 211), .long 0, .long 0, .ref (ad 212), .ref (ad 213), .int 0, .int 0, .ref (ad 214), .ref (ad 215), .ref (ad 216), .ref (ad 217)]) := by rw [← eg_21, va_up_ne _ _ (by decide)]; exact h52_197
                have h_24 : g_21 214 = .inl (cs 1, 4, .inl f_8) := by rw [← eg_21, va_up_ne _ _ (by decide)]; exact h52_214
                have h_25 : g_21 215 = .inl (cs 1, 4, .inl f_14) := by rw [← eg_21, va_up_ne _ _ (by decide)]; exact h52_215
                obtain ⟨f_22, h_26⟩ : ∃ f, g_21 216 = .inl (cs 2, 240, .inr (.inl f)) := ⟨_, by rw [← eg_21]; exact va_up_self _ _ _⟩
                refine lv_iinc (v := (nI (k52 + 1))) (lv' := [(4, .int (nI (k52 + 1))), (0, .ref (ad 197)), (1, .int 0), (2, .int vw), (3, .int vn)]) hx hb dX12_row_72 hl (k := 0) rfl (nI_add k52 1) (by decide) rfl (fun ls hl => ?_)
                refine lv_goto (tgt := 52) hx hb dX12_row_75 (by decide) ?_
                exact ih52 (k52 + 1) _ g_21 _ _ ls (by omega) h_23 h_24 h_25 h_26 hP hS (lv_sub hl [0, 1, 2, 3, 4] rfl)
            exact HL52 60 0 _ g_13 _ _ ls (by omega) h_15 h_16 h_17 h_18 hP hS (lv_sub hl [0, 1, 2, 3, 4] rfl)
          · refine lv_aload_n hx hb dX12_row_35 rfl (lv_at hl 0 rfl) ?_
            refine q_get X iX12_row_12 hP (by decide) h197 rfl 36 (by decide) (List.mem_of_getElem? (i := 9) rfl) (v := .ref (ad 214)) rfl dX12_row_36 ?_
            refine lv_iload_n hx hb dX12_row_39 rfl (lv_at hl 1 rfl) ?_
            refine lv_iload_n hx hb dX12_row_40 rfl (lv_at hl 3 rfl) ?_
            refine q_iast X hP hj hA hS (by decide) h214 (by unfold vp_in; decide) dX12_row_41 (fun H locs hP hS => ?_)
            generalize eg_27 : va_up g 214 _ = g_27 at hP
            have h_29 : g_27 197 = .inr (12, [.int 0, .ref (ad 198), .ref (ad 199), .ref (ad 200), .ref (ad 201), .int 0, .ref (ad 202), .int 0, .int 0, .int 0, .int 0, .int 0, .int 0, .int (-1), .ref (ad 203), .ref (ad 204), .ref (ad 205), .int 0, .int 0, .ref (ad 206), .ref (ad 207), .ref (ad 208), .int 0, .int 0, .int 0, .int 0, .int 0, .ref (ad 209), .ref (ad 210), .ref (ad 211), .long 0, .long 0, .ref (ad 212), .ref (ad 213), .int 0, .int 0, .ref (ad 214), .ref (ad 215), .ref (ad 216), .ref (ad 217)]) := by rw [← eg_27, va_up_ne _ _ (by decide)]; exact h197
            obtain ⟨f_28, h_30⟩ : ∃ f, g_27 214 = .inl (cs 1, 4, .inl f) := ⟨_, by rw [← eg_27]; exact va_up_self _ _ _⟩
            have h_31 : g_27 215 = .inl (cs 1, 4, .inl (fun _ => 0)) := by rw [← eg_27, va_up_ne _ _ (by decide)]; exact h215
            have h_32 : g_27 216 = .inl (cs 2, 240, .inr (.inl (fun _ => 0))) := by rw [← eg_27, va_up_ne _ _ (by decide)]; exact h216
            refine lv_aload_n hx hb dX12_row_42 rfl (lv_at hl 0 rfl) ?_
            refine q_get X iX12_row_12 hP (by decide) h_29 rfl 37 (by decide) (List.mem_of_getElem? (i := 10) rfl) (v := .ref (ad 215)) rfl dX12_row_43 ?_
            refine lv_iload_n hx hb dX12_row_46 rfl (lv_at hl 1 rfl) ?_
            refine lv_iload_n hx hb dX12_row_47 rfl (lv_at hl 2 rfl) ?_
            refine q_iast X hP hj hA hS (by decide) h_31 (by unfold vp_in; decide) dX12_row_48 (fun H locs hP hS => ?_)
            generalize eg_33 : va_up g_27 215 _ = g_33 at hP
            have h_35 : g_33 197 = .inr (12, [.int 0, .ref (ad 198), .ref (ad 199), .ref (ad 200), .ref (ad 201), .int 0, .ref (ad 202), .int 0, .int 0, .int 0, .int 0, .int 0, .int 0, .int (-1), .ref (ad 203), .ref (ad 204), .ref (ad 205), .int 0, .int 0, .ref (ad 206), .ref (ad 207), .ref (ad 208), .int 0, .int 0, .int 0, .int 0, .int 0, .ref (ad 209), .ref (ad 210), .ref (ad 211), .long 0, .long 0, .ref (ad 212), .ref (ad 213), .int 0, .int 0, .ref (ad 214), .ref (ad 215), .ref (ad 216), .ref (ad 217)]) := by rw [← eg_33, va_up_ne _ _ (by decide)]; exact h_29
            have h_36 : g_33 214 = .inl (cs 1, 4, .inl f_28) := by rw [← eg_33, va_up_ne _ _ (by decide)]; exact h_30
            obtain ⟨f_34, h_37⟩ : ∃ f, g_33 215 = .inl (cs 1, 4, .inl f) := ⟨_, by rw [← eg_33]; exact va_up_self _ _ _⟩
            have h_38 : g_33 216 = .inl (cs 2, 240, .inr (.inl (fun _ => 0))) := by rw [← eg_33, va_up_ne _ _ (by decide)]; exact h_32
            refine lv_iconst (v := 0) hx hb dX12_row_49 (by decide) ?_
            refine lv_istore (lv' := [(4, .int 0), (0, .ref (ad 197)), (1, .int 1), (2, .int vw), (3, .int vn)]) hx hb dX12_row_50 hl (by decide) rfl (fun ls hl => ?_)
            have HL52 : ∀ (d52 k52 : Nat) (f52_216 : Nat → Int64) (G52 : Nat → va_E) (H : Heap) (locs : List Loc) (ls : Array Slot), k52 + d52 = 60 → G52 197 = .inr (12, [.int 0, .ref (ad 198), .ref (ad 199), .ref (ad 200), .ref (ad 201), .int 0, .ref (ad 202), .int 0, .int 0, .int 0, .int 0, .int 0, .int 0, .int (-1), .ref (ad 203), .ref (ad 204), .ref (ad 205), .int 0, .int 0, .ref (ad 206), .ref (ad 207), .ref (ad 208), .int 0, .int 0, .int 0, .int 0, .int 0, .ref (ad 209), .ref (ad 210), .ref (ad 211), .long 0, .long 0, .ref (ad 212), .ref (ad 213), .int 0, .int 0, .ref (ad 214), .ref (ad 215), .ref (ad 216), .ref (ad 217)]) → G52 214 = .inl (cs 1, 4, .inl f_28) → G52 215 = .inl (cs 1, 4, .inl f_34) → G52 216 = .inl (cs 2, 240, .inr (.inl f52_216)) → va_P D vwCl (wL ad G52 nW) H → va_S (wA ad nW) s.heap H locs → lv_has ls 5 [(4, .int (nI k52)), (0, .ref (ad 197)), (1, .int 1), (2, .int vw), (3, .int vn)] → W p l e ({ frames := 2, cells := 0, slots := 0, locals := 45 } : Room) s m ([.ref (ad 197), .int 1, .int vw, .int vn] : List Value).toArray below meth c H locs 0 0 (MQ below (qI D ad nW (fun r g2 => r = aRow 1 vw vn)) ([.ref (ad 197), .int 1, .int vw, .int vn] : List Value).toArray s 0 0 (wA ad nW)) (F0 m 52 ls []) := by
              intro d52
              induction d52 with
              | zero =>
                intro k52 f52_216 G52 H locs ls hk52 h52_197 h52_214 h52_215 h52_216 hP hS hl
                obtain rfl : k52 = 60 := by omega
                refine lv_iload hx hb dX12_row_52 (lv_at hl 0 rfl) ?_
                refine lv_bipush (v := 60) hx hb dX12_row_54 (by decide) ?_
                refine lv_icmp_ge (tgt := 78) hx hb dX12_row_56 (by decide) (fun _ => ?_) (fun h => absurd h (by decide))
                refine lv_iconst (v := 0) hx hb dX12_row_78 (by decide) ?_
                exact q_iret X hP hS (aRow_ok ⟨by decide, by decide⟩ ((in_S hw_4).elim (fun q => q.2) (fun q => absurd q.1 hc_16)) hc_22 hc_29) dX12_row_79
              | succ d52 ih52 =>
                intro k52 f52_216 G52 H locs ls hk52 h52_197 h52_214 h52_215 h52_216 hP hS hl
                refine lv_iload hx hb dX12_row_52 (lv_at hl 0 rfl) ?_
                refine lv_bipush (v := 60) hx hb dX12_row_54 (by decide) ?_
                refine lv_icmp_ge (tgt := 78) hx hb dX12_row_56 (by decide) (fun hc_56 => absurd hc_56 (nI_ge (a := k52) (b := 60) (by omega) (by decide))) (fun hc_56 => ?_)
                refine lv_aload_n hx hb dX12_row_59 rfl (lv_at hl 1 rfl) ?_
                refine q_get X iX12_row_12 hP (by decide) h52_197 rfl 38 (by decide) (List.mem_of_getElem? (i := 11) rfl) (v := .ref (ad 216)) rfl dX12_row_60 ?_
                refine lv_bipush (v := 60) hx hb dX12_row_63 (by decide) ?_
                refine lv_iload_n hx hb dX12_row_65 rfl (lv_at hl 2 rfl) ?_
                refine lv_imul hx hb dX12_row_66 ?_
                refine lv_topi (fun z_39 ez_39 => ?_)
                obtain rfl : z_39 = 60 := ez_39.trans (by decide)
                refine lv_iload hx hb dX12_row_67 (lv_at hl 0 rfl) ?_
                refine lv_iadd hx hb dX12_row_69 ?_
                refine lv_topi (fun z_40 ez_40 => ?_)
                obtain rfl : z_40 = nI (60 + k52) := ez_40.trans (nI_add 60 k52)
                refine lv_lconst (v := 0) hx hb dX12_row_70 (by decide) ?_
                refine q_last X hP hj hA hS (by decide) h52_216 (vp_in_nI (by omega) (by decide)) dX12_row_71 (fun H locs hP hS => ?_)
                generalize eg_41 : va_up G52 216 _ = g_41 at hP
                have h_43 : g_41 197 = .inr (12, [.int 0, .ref (ad 198), .ref (ad 199), .ref (ad 200), .ref (ad 201), .int 0, .ref (ad 202), .int 0, .int 0, .int 0, .int 0, .int 0, .int 0, .int (-1), .ref (ad 203), .ref (ad 204), .ref (ad 205), .int 0, .int 0, .ref (ad 206), .ref (ad 207), .ref (ad 208), .int 0, .int 0, .int 0, .int 0, .int 0, .ref (ad 209), .ref (ad 210), .ref (ad 211), .long 0, .long 0, .ref (ad 212), .ref (ad 213), .int 0, .int 0, .ref (ad 214), .ref (ad 215), .ref (ad 216), .ref (ad 217)]) := by rw [← eg_41, va_up_ne _ _ (by decide)]; exact h52_197
                have h_44 : g_41 214 = .inl (cs 1, 4, .inl f_28) := by rw [← eg_41, va_up_ne _ _ (by decide)]; exact h52_214
                have h_45 : g_41 215 = .inl (cs 1, 4, .inl f_34) := by rw [← eg_41, va_up_ne _ _ (by decide)]; exact h52_215
                obtain ⟨f_42, h_46⟩ : ∃ f, g_41 216 = .inl (cs 2, 240, .inr (.inl f)) := ⟨_, by rw [← eg_41]; exact va_up_self _ _ _⟩
                refine lv_iinc (v := (nI (k52 + 1))) (lv' := [(4, .int (nI (k52 + 1))), (0, .ref (ad 197)), (1, .int 1), (2, .int vw), (3, .int vn)]) hx hb dX12_row_72 hl (k := 0) rfl (nI_add k52 1) (by decide) rfl (fun ls hl => ?_)
                refine lv_goto (tgt := 52) hx hb dX12_row_75 (by decide) ?_
                exact ih52 (k52 + 1) _ g_41 _ _ ls (by omega) h_43 h_44 h_45 h_46 hP hS (lv_sub hl [0, 1, 2, 3, 4] rfl)
            exact HL52 60 0 _ g_33 _ _ ls (by omega) h_35 h_36 h_37 h_38 hP hS (lv_sub hl [0, 1, 2, 3, 4] rfl)
          · refine lv_aload_n hx hb dX12_row_35 rfl (lv_at hl 0 rfl) ?_
            refine q_get X iX12_row_12 hP (by decide) h197 rfl 36 (by decide) (List.mem_of_getElem? (i := 9) rfl) (v := .ref (ad 214)) rfl dX12_row_36 ?_
            refine lv_iload_n hx hb dX12_row_39 rfl (lv_at hl 1 rfl) ?_
            refine lv_iload_n hx hb dX12_row_40 rfl (lv_at hl 3 rfl) ?_
            refine q_iast X hP hj hA hS (by decide) h214 (by unfold vp_in; decide) dX12_row_41 (fun H locs hP hS => ?_)
            generalize eg_47 : va_up g 214 _ = g_47 at hP
            have h_49 : g_47 197 = .inr (12, [.int 0, .ref (ad 198), .ref (ad 199), .ref (ad 200), .ref (ad 201), .int 0, .ref (ad 202), .int 0, .int 0, .int 0, .int 0, .int 0, .int 0, .int (-1), .ref (ad 203), .ref (ad 204), .ref (ad 205), .int 0, .int 0, .ref (ad 206), .ref (ad 207), .ref (ad 208), .int 0, .int 0, .int 0, .int 0, .int 0, .ref (ad 209), .ref (ad 210), .ref (ad 211), .long 0, .long 0, .ref (ad 212), .ref (ad 213), .int 0, .int 0, .ref (ad 214), .ref (ad 215), .ref (ad 216), .ref (ad 217)]) := by rw [← eg_47, va_up_ne _ _ (by decide)]; exact h197
            obtain ⟨f_48, h_50⟩ : ∃ f, g_47 214 = .inl (cs 1, 4, .inl f) := ⟨_, by rw [← eg_47]; exact va_up_self _ _ _⟩
            have h_51 : g_47 215 = .inl (cs 1, 4, .inl (fun _ => 0)) := by rw [← eg_47, va_up_ne _ _ (by decide)]; exact h215
            have h_52 : g_47 216 = .inl (cs 2, 240, .inr (.inl (fun _ => 0))) := by rw [← eg_47, va_up_ne _ _ (by decide)]; exact h216
            refine lv_aload_n hx hb dX12_row_42 rfl (lv_at hl 0 rfl) ?_
            refine q_get X iX12_row_12 hP (by decide) h_49 rfl 37 (by decide) (List.mem_of_getElem? (i := 10) rfl) (v := .ref (ad 215)) rfl dX12_row_43 ?_
            refine lv_iload_n hx hb dX12_row_46 rfl (lv_at hl 1 rfl) ?_
            refine lv_iload_n hx hb dX12_row_47 rfl (lv_at hl 2 rfl) ?_
            refine q_iast X hP hj hA hS (by decide) h_51 (by unfold vp_in; decide) dX12_row_48 (fun H locs hP hS => ?_)
            generalize eg_53 : va_up g_47 215 _ = g_53 at hP
            have h_55 : g_53 197 = .inr (12, [.int 0, .ref (ad 198), .ref (ad 199), .ref (ad 200), .ref (ad 201), .int 0, .ref (ad 202), .int 0, .int 0, .int 0, .int 0, .int 0, .int 0, .int (-1), .ref (ad 203), .ref (ad 204), .ref (ad 205), .int 0, .int 0, .ref (ad 206), .ref (ad 207), .ref (ad 208), .int 0, .int 0, .int 0, .int 0, .int 0, .ref (ad 209), .ref (ad 210), .ref (ad 211), .long 0, .long 0, .ref (ad 212), .ref (ad 213), .int 0, .int 0, .ref (ad 214), .ref (ad 215), .ref (ad 216), .ref (ad 217)]) := by rw [← eg_53, va_up_ne _ _ (by decide)]; exact h_49
            have h_56 : g_53 214 = .inl (cs 1, 4, .inl f_48) := by rw [← eg_53, va_up_ne _ _ (by decide)]; exact h_50
            obtain ⟨f_54, h_57⟩ : ∃ f, g_53 215 = .inl (cs 1, 4, .inl f) := ⟨_, by rw [← eg_53]; exact va_up_self _ _ _⟩
            have h_58 : g_53 216 = .inl (cs 2, 240, .inr (.inl (fun _ => 0))) := by rw [← eg_53, va_up_ne _ _ (by decide)]; exact h_52
            refine lv_iconst (v := 0) hx hb dX12_row_49 (by decide) ?_
            refine lv_istore (lv' := [(4, .int 0), (0, .ref (ad 197)), (1, .int 2), (2, .int vw), (3, .int vn)]) hx hb dX12_row_50 hl (by decide) rfl (fun ls hl => ?_)
            have HL52 : ∀ (d52 k52 : Nat) (f52_216 : Nat → Int64) (G52 : Nat → va_E) (H : Heap) (locs : List Loc) (ls : Array Slot), k52 + d52 = 60 → G52 197 = .inr (12, [.int 0, .ref (ad 198), .ref (ad 199), .ref (ad 200), .ref (ad 201), .int 0, .ref (ad 202), .int 0, .int 0, .int 0, .int 0, .int 0, .int 0, .int (-1), .ref (ad 203), .ref (ad 204), .ref (ad 205), .int 0, .int 0, .ref (ad 206), .ref (ad 207), .ref (ad 208), .int 0, .int 0, .int 0, .int 0, .int 0, .ref (ad 209), .ref (ad 210), .ref (ad 211), .long 0, .long 0, .ref (ad 212), .ref (ad 213), .int 0, .int 0, .ref (ad 214), .ref (ad 215), .ref (ad 216), .ref (ad 217)]) → G52 214 = .inl (cs 1, 4, .inl f_48) → G52 215 = .inl (cs 1, 4, .inl f_54) → G52 216 = .inl (cs 2, 240, .inr (.inl f52_216)) → va_P D vwCl (wL ad G52 nW) H → va_S (wA ad nW) s.heap H locs → lv_has ls 5 [(4, .int (nI k52)), (0, .ref (ad 197)), (1, .int 2), (2, .int vw), (3, .int vn)] → W p l e ({ frames := 2, cells := 0, slots := 0, locals := 45 } : Room) s m ([.ref (ad 197), .int 2, .int vw, .int vn] : List Value).toArray below meth c H locs 0 0 (MQ below (qI D ad nW (fun r g2 => r = aRow 2 vw vn)) ([.ref (ad 197), .int 2, .int vw, .int vn] : List Value).toArray s 0 0 (wA ad nW)) (F0 m 52 ls []) := by
              intro d52
              induction d52 with
              | zero =>
                intro k52 f52_216 G52 H locs ls hk52 h52_197 h52_214 h52_215 h52_216 hP hS hl
                obtain rfl : k52 = 60 := by omega
                refine lv_iload hx hb dX12_row_52 (lv_at hl 0 rfl) ?_
                refine lv_bipush (v := 60) hx hb dX12_row_54 (by decide) ?_
                refine lv_icmp_ge (tgt := 78) hx hb dX12_row_56 (by decide) (fun _ => ?_) (fun h => absurd h (by decide))
                refine lv_iconst (v := 0) hx hb dX12_row_78 (by decide) ?_
                exact q_iret X hP hS (aRow_ok ⟨by decide, by decide⟩ ((in_S hw_4).elim (fun q => q.2) (fun q => absurd q.1 hc_16)) hc_22 hc_29) dX12_row_79
              | succ d52 ih52 =>
                intro k52 f52_216 G52 H locs ls hk52 h52_197 h52_214 h52_215 h52_216 hP hS hl
                refine lv_iload hx hb dX12_row_52 (lv_at hl 0 rfl) ?_
                refine lv_bipush (v := 60) hx hb dX12_row_54 (by decide) ?_
                refine lv_icmp_ge (tgt := 78) hx hb dX12_row_56 (by decide) (fun hc_56 => absurd hc_56 (nI_ge (a := k52) (b := 60) (by omega) (by decide))) (fun hc_56 => ?_)
                refine lv_aload_n hx hb dX12_row_59 rfl (lv_at hl 1 rfl) ?_
                refine q_get X iX12_row_12 hP (by decide) h52_197 rfl 38 (by decide) (List.mem_of_getElem? (i := 11) rfl) (v := .ref (ad 216)) rfl dX12_row_60 ?_
                refine lv_bipush (v := 60) hx hb dX12_row_63 (by decide) ?_
                refine lv_iload_n hx hb dX12_row_65 rfl (lv_at hl 2 rfl) ?_
                refine lv_imul hx hb dX12_row_66 ?_
                refine lv_topi (fun z_59 ez_59 => ?_)
                obtain rfl : z_59 = 120 := ez_59.trans (by decide)
                refine lv_iload hx hb dX12_row_67 (lv_at hl 0 rfl) ?_
                refine lv_iadd hx hb dX12_row_69 ?_
                refine lv_topi (fun z_60 ez_60 => ?_)
                obtain rfl : z_60 = nI (120 + k52) := ez_60.trans (nI_add 120 k52)
                refine lv_lconst (v := 0) hx hb dX12_row_70 (by decide) ?_
                refine q_last X hP hj hA hS (by decide) h52_216 (vp_in_nI (by omega) (by decide)) dX12_row_71 (fun H locs hP hS => ?_)
                generalize eg_61 : va_up G52 216 _ = g_61 at hP
                have h_63 : g_61 197 = .inr (12, [.int 0, .ref (ad 198), .ref (ad 199), .ref (ad 200), .ref (ad 201), .int 0, .ref (ad 202), .int 0, .int 0, .int 0, .int 0, .int 0, .int 0, .int (-1), .ref (ad 203), .ref (ad 204), .ref (ad 205), .int 0, .int 0, .ref (ad 206), .ref (ad 207), .ref (ad 208), .int 0, .int 0, .int 0, .int 0, .int 0, .ref (ad 209), .ref (ad 210), .ref (ad 211), .long 0, .long 0, .ref (ad 212), .ref (ad 213), .int 0, .int 0, .ref (ad 214), .ref (ad 215), .ref (ad 216), .ref (ad 217)]) := by rw [← eg_61, va_up_ne _ _ (by decide)]; exact h52_197
                have h_64 : g_61 214 = .inl (cs 1, 4, .inl f_48) := by rw [← eg_61, va_up_ne _ _ (by decide)]; exact h52_214
                have h_65 : g_61 215 = .inl (cs 1, 4, .inl f_54) := by rw [← eg_61, va_up_ne _ _ (by decide)]; exact h52_215
                obtain ⟨f_62, h_66⟩ : ∃ f, g_61 216 = .inl (cs 2, 240, .inr (.inl f)) := ⟨_, by rw [← eg_61]; exact va_up_self _ _ _⟩
                refine lv_iinc (v := (nI (k52 + 1))) (lv' := [(4, .int (nI (k52 + 1))), (0, .ref (ad 197)), (1, .int 2), (2, .int vw), (3, .int vn)]) hx hb dX12_row_72 hl (k := 0) rfl (nI_add k52 1) (by decide) rfl (fun ls hl => ?_)
                refine lv_goto (tgt := 52) hx hb dX12_row_75 (by decide) ?_
                exact ih52 (k52 + 1) _ g_61 _ _ ls (by omega) h_63 h_64 h_65 h_66 hP hS (lv_sub hl [0, 1, 2, 3, 4] rfl)
            exact HL52 60 0 _ g_53 _ _ ls (by omega) h_55 h_56 h_57 h_58 hP hS (lv_sub hl [0, 1, 2, 3, 4] rfl)
          · refine lv_aload_n hx hb dX12_row_35 rfl (lv_at hl 0 rfl) ?_
            refine q_get X iX12_row_12 hP (by decide) h197 rfl 36 (by decide) (List.mem_of_getElem? (i := 9) rfl) (v := .ref (ad 214)) rfl dX12_row_36 ?_
            refine lv_iload_n hx hb dX12_row_39 rfl (lv_at hl 1 rfl) ?_
            refine lv_iload_n hx hb dX12_row_40 rfl (lv_at hl 3 rfl) ?_
            refine q_iast X hP hj hA hS (by decide) h214 (by unfold vp_in; decide) dX12_row_41 (fun H locs hP hS => ?_)
            generalize eg_67 : va_up g 214 _ = g_67 at hP
            have h_69 : g_67 197 = .inr (12, [.int 0, .ref (ad 198), .ref (ad 199), .ref (ad 200), .ref (ad 201), .int 0, .ref (ad 202), .int 0, .int 0, .int 0, .int 0, .int 0, .int 0, .int (-1), .ref (ad 203), .ref (ad 204), .ref (ad 205), .int 0, .int 0, .ref (ad 206), .ref (ad 207), .ref (ad 208), .int 0, .int 0, .int 0, .int 0, .int 0, .ref (ad 209), .ref (ad 210), .ref (ad 211), .long 0, .long 0, .ref (ad 212), .ref (ad 213), .int 0, .int 0, .ref (ad 214), .ref (ad 215), .ref (ad 216), .ref (ad 217)]) := by rw [← eg_67, va_up_ne _ _ (by decide)]; exact h197
            obtain ⟨f_68, h_70⟩ : ∃ f, g_67 214 = .inl (cs 1, 4, .inl f) := ⟨_, by rw [← eg_67]; exact va_up_self _ _ _⟩
            have h_71 : g_67 215 = .inl (cs 1, 4, .inl (fun _ => 0)) := by rw [← eg_67, va_up_ne _ _ (by decide)]; exact h215
            have h_72 : g_67 216 = .inl (cs 2, 240, .inr (.inl (fun _ => 0))) := by rw [← eg_67, va_up_ne _ _ (by decide)]; exact h216
            refine lv_aload_n hx hb dX12_row_42 rfl (lv_at hl 0 rfl) ?_
            refine q_get X iX12_row_12 hP (by decide) h_69 rfl 37 (by decide) (List.mem_of_getElem? (i := 10) rfl) (v := .ref (ad 215)) rfl dX12_row_43 ?_
            refine lv_iload_n hx hb dX12_row_46 rfl (lv_at hl 1 rfl) ?_
            refine lv_iload_n hx hb dX12_row_47 rfl (lv_at hl 2 rfl) ?_
            refine q_iast X hP hj hA hS (by decide) h_71 (by unfold vp_in; decide) dX12_row_48 (fun H locs hP hS => ?_)
            generalize eg_73 : va_up g_67 215 _ = g_73 at hP
            have h_75 : g_73 197 = .inr (12, [.int 0, .ref (ad 198), .ref (ad 199), .ref (ad 200), .ref (ad 201), .int 0, .ref (ad 202), .int 0, .int 0, .int 0, .int 0, .int 0, .int 0, .int (-1), .ref (ad 203), .ref (ad 204), .ref (ad 205), .int 0, .int 0, .ref (ad 206), .ref (ad 207), .ref (ad 208), .int 0, .int 0, .int 0, .int 0, .int 0, .ref (ad 209), .ref (ad 210), .ref (ad 211), .long 0, .long 0, .ref (ad 212), .ref (ad 213), .int 0, .int 0, .ref (ad 214), .ref (ad 215), .ref (ad 216), .ref (ad 217)]) := by rw [← eg_73, va_up_ne _ _ (by decide)]; exact h_69
            have h_76 : g_73 214 = .inl (cs 1, 4, .inl f_68) := by rw [← eg_73, va_up_ne _ _ (by decide)]; exact h_70
            obtain ⟨f_74, h_77⟩ : ∃ f, g_73 215 = .inl (cs 1, 4, .inl f) := ⟨_, by rw [← eg_73]; exact va_up_self _ _ _⟩
            have h_78 : g_73 216 = .inl (cs 2, 240, .inr (.inl (fun _ => 0))) := by rw [← eg_73, va_up_ne _ _ (by decide)]; exact h_72
            refine lv_iconst (v := 0) hx hb dX12_row_49 (by decide) ?_
            refine lv_istore (lv' := [(4, .int 0), (0, .ref (ad 197)), (1, .int 3), (2, .int vw), (3, .int vn)]) hx hb dX12_row_50 hl (by decide) rfl (fun ls hl => ?_)
            have HL52 : ∀ (d52 k52 : Nat) (f52_216 : Nat → Int64) (G52 : Nat → va_E) (H : Heap) (locs : List Loc) (ls : Array Slot), k52 + d52 = 60 → G52 197 = .inr (12, [.int 0, .ref (ad 198), .ref (ad 199), .ref (ad 200), .ref (ad 201), .int 0, .ref (ad 202), .int 0, .int 0, .int 0, .int 0, .int 0, .int 0, .int (-1), .ref (ad 203), .ref (ad 204), .ref (ad 205), .int 0, .int 0, .ref (ad 206), .ref (ad 207), .ref (ad 208), .int 0, .int 0, .int 0, .int 0, .int 0, .ref (ad 209), .ref (ad 210), .ref (ad 211), .long 0, .long 0, .ref (ad 212), .ref (ad 213), .int 0, .int 0, .ref (ad 214), .ref (ad 215), .ref (ad 216), .ref (ad 217)]) → G52 214 = .inl (cs 1, 4, .inl f_68) → G52 215 = .inl (cs 1, 4, .inl f_74) → G52 216 = .inl (cs 2, 240, .inr (.inl f52_216)) → va_P D vwCl (wL ad G52 nW) H → va_S (wA ad nW) s.heap H locs → lv_has ls 5 [(4, .int (nI k52)), (0, .ref (ad 197)), (1, .int 3), (2, .int vw), (3, .int vn)] → W p l e ({ frames := 2, cells := 0, slots := 0, locals := 45 } : Room) s m ([.ref (ad 197), .int 3, .int vw, .int vn] : List Value).toArray below meth c H locs 0 0 (MQ below (qI D ad nW (fun r g2 => r = aRow 3 vw vn)) ([.ref (ad 197), .int 3, .int vw, .int vn] : List Value).toArray s 0 0 (wA ad nW)) (F0 m 52 ls []) := by
              intro d52
              induction d52 with
              | zero =>
                intro k52 f52_216 G52 H locs ls hk52 h52_197 h52_214 h52_215 h52_216 hP hS hl
                obtain rfl : k52 = 60 := by omega
                refine lv_iload hx hb dX12_row_52 (lv_at hl 0 rfl) ?_
                refine lv_bipush (v := 60) hx hb dX12_row_54 (by decide) ?_
                refine lv_icmp_ge (tgt := 78) hx hb dX12_row_56 (by decide) (fun _ => ?_) (fun h => absurd h (by decide))
                refine lv_iconst (v := 0) hx hb dX12_row_78 (by decide) ?_
                exact q_iret X hP hS (aRow_ok ⟨by decide, by decide⟩ ((in_S hw_4).elim (fun q => q.2) (fun q => absurd q.1 hc_16)) hc_22 hc_29) dX12_row_79
              | succ d52 ih52 =>
                intro k52 f52_216 G52 H locs ls hk52 h52_197 h52_214 h52_215 h52_216 hP hS hl
                refine lv_iload hx hb dX12_row_52 (lv_at hl 0 rfl) ?_
                refine lv_bipush (v := 60) hx hb dX12_row_54 (by decide) ?_
                refine lv_icmp_ge (tgt := 78) hx hb dX12_row_56 (by decide) (fun hc_56 => absurd hc_56 (nI_ge (a := k52) (b := 60) (by omega) (by decide))) (fun hc_56 => ?_)
                refine lv_aload_n hx hb dX12_row_59 rfl (lv_at hl 1 rfl) ?_
                refine q_get X iX12_row_12 hP (by decide) h52_197 rfl 38 (by decide) (List.mem_of_getElem? (i := 11) rfl) (v := .ref (ad 216)) rfl dX12_row_60 ?_
                refine lv_bipush (v := 60) hx hb dX12_row_63 (by decide) ?_
                refine lv_iload_n hx hb dX12_row_65 rfl (lv_at hl 2 rfl) ?_
                refine lv_imul hx hb dX12_row_66 ?_
                refine lv_topi (fun z_79 ez_79 => ?_)
                obtain rfl : z_79 = 180 := ez_79.trans (by decide)
                refine lv_iload hx hb dX12_row_67 (lv_at hl 0 rfl) ?_
                refine lv_iadd hx hb dX12_row_69 ?_
                refine lv_topi (fun z_80 ez_80 => ?_)
                obtain rfl : z_80 = nI (180 + k52) := ez_80.trans (nI_add 180 k52)
                refine lv_lconst (v := 0) hx hb dX12_row_70 (by decide) ?_
                refine q_last X hP hj hA hS (by decide) h52_216 (vp_in_nI (by omega) (by decide)) dX12_row_71 (fun H locs hP hS => ?_)
                generalize eg_81 : va_up G52 216 _ = g_81 at hP
                have h_83 : g_81 197 = .inr (12, [.int 0, .ref (ad 198), .ref (ad 199), .ref (ad 200), .ref (ad 201), .int 0, .ref (ad 202), .int 0, .int 0, .int 0, .int 0, .int 0, .int 0, .int (-1), .ref (ad 203), .ref (ad 204), .ref (ad 205), .int 0, .int 0, .ref (ad 206), .ref (ad 207), .ref (ad 208), .int 0, .int 0, .int 0, .int 0, .int 0, .ref (ad 209), .ref (ad 210), .ref (ad 211), .long 0, .long 0, .ref (ad 212), .ref (ad 213), .int 0, .int 0, .ref (ad 214), .ref (ad 215), .ref (ad 216), .ref (ad 217)]) := by rw [← eg_81, va_up_ne _ _ (by decide)]; exact h52_197
                have h_84 : g_81 214 = .inl (cs 1, 4, .inl f_68) := by rw [← eg_81, va_up_ne _ _ (by decide)]; exact h52_214
                have h_85 : g_81 215 = .inl (cs 1, 4, .inl f_74) := by rw [← eg_81, va_up_ne _ _ (by decide)]; exact h52_215
                obtain ⟨f_82, h_86⟩ : ∃ f, g_81 216 = .inl (cs 2, 240, .inr (.inl f)) := ⟨_, by rw [← eg_81]; exact va_up_self _ _ _⟩
                refine lv_iinc (v := (nI (k52 + 1))) (lv' := [(4, .int (nI (k52 + 1))), (0, .ref (ad 197)), (1, .int 3), (2, .int vw), (3, .int vn)]) hx hb dX12_row_72 hl (k := 0) rfl (nI_add k52 1) (by decide) rfl (fun ls hl => ?_)
                refine lv_goto (tgt := 52) hx hb dX12_row_75 (by decide) ?_
                exact ih52 (k52 + 1) _ g_81 _ _ ls (by omega) h_83 h_84 h_85 h_86 hP hS (lv_sub hl [0, 1, 2, 3, 4] rfl)
            exact HL52 60 0 _ g_73 _ _ ls (by omega) h_75 h_76 h_77 h_78 hP hS (lv_sub hl [0, 1, 2, 3, 4] rfl)
        · refine lv_bipush (v := (-3)) hx hb dX12_row_32 (by decide) ?_
          exact q_iret X hP hS (aRow_neg (hw_1.elim (fun q => q.2) (fun q => absurd q.1 hc_4)) ((in_S hw_4).elim (fun q => q.2) (fun q => absurd q.1 hc_16)) hc_22 hc_29) dX12_row_34
      · refine lv_bipush (v := (-2)) hx hb dX12_row_25 (by decide) ?_
        exact q_iret X hP hS (by first | exact aRow_s (hw_1.elim (fun q => absurd (q.1.symm.trans hc_4) (by decide)) (fun q => q.2)) | exact aRow_w (hw_1.elim (fun q => q.2) (fun q => absurd q.1 hc_4)) ((in_S hw_4).elim (fun q => absurd (q.1.symm.trans hc_16) (by decide)) (fun q => q.2)) | exact aRow_n (hw_1.elim (fun q => q.2) (fun q => absurd q.1 hc_4)) ((in_S hw_4).elim (fun q => q.2) (fun q => absurd q.1 hc_16)) hc_22) dX12_row_27

theorem dX12_count_0 : decode cX12_count 0 = .ok (.iload_n 1, 1) := by decide +kernel
theorem dX12_count_1 : decode cX12_count 1 = .ok (.i2l, 1) := by decide +kernel
theorem dX12_count_2 : decode cX12_count 2 = .ok (.lconst 0, 1) := by decide +kernel
theorem dX12_count_3 : decode cX12_count 3 = .ok (.ldc2_w 429, 3) := by decide +kernel
theorem dX12_count_6 : decode cX12_count 6 = .ok (.invokestatic 82, 3) := by decide +kernel
theorem dX12_count_9 : decode cX12_count 9 = .ok (.ifCond .eq 10, 3) := by decide +kernel
theorem dX12_count_19 : decode cX12_count 19 = .ok (.iload_n 1, 1) := by decide +kernel
theorem dX12_count_20 : decode cX12_count 20 = .ok (.bipush 9, 2) := by decide +kernel
theorem dX12_count_22 : decode cX12_count 22 = .ok (.if_icmp .ne 8, 3) := by decide +kernel
theorem dX12_count_30 : decode cX12_count 30 = .ok (.iload_n 1, 1) := by decide +kernel
theorem dX12_count_31 : decode cX12_count 31 = .ok (.bipush 10, 2) := by decide +kernel
theorem dX12_count_33 : decode cX12_count 33 = .ok (.if_icmp .eq 5, 3) := by decide +kernel
theorem dX12_count_38 : decode cX12_count 38 = .ok (.iconst 0, 1) := by decide +kernel
theorem dX12_count_39 : decode cX12_count 39 = .ok (.istore_n 2, 1) := by decide +kernel
theorem dX12_count_40 : decode cX12_count 40 = .ok (.iconst 0, 1) := by decide +kernel
theorem dX12_count_41 : decode cX12_count 41 = .ok (.istore_n 3, 1) := by decide +kernel
theorem dX12_count_42 : decode cX12_count 42 = .ok (.iload_n 3, 1) := by decide +kernel
theorem dX12_count_43 : decode cX12_count 43 = .ok (.iconst 4, 1) := by decide +kernel
theorem dX12_count_44 : decode cX12_count 44 = .ok (.if_icmp .ge 27, 3) := by decide +kernel
theorem dX12_count_47 : decode cX12_count 47 = .ok (.iload_n 2, 1) := by decide +kernel
theorem dX12_count_48 : decode cX12_count 48 = .ok (.aload_n 0, 1) := by decide +kernel
theorem dX12_count_49 : decode cX12_count 49 = .ok (.getfield 65, 3) := by decide +kernel
theorem dX12_count_52 : decode cX12_count 52 = .ok (.iload_n 3, 1) := by decide +kernel
theorem dX12_count_53 : decode cX12_count 53 = .ok (.iaload, 1) := by decide +kernel
theorem dX12_count_54 : decode cX12_count 54 = .ok (.iconst (-1), 1) := by decide +kernel
theorem dX12_count_55 : decode cX12_count 55 = .ok (.if_icmp .ne 7, 3) := by decide +kernel
theorem dX12_count_58 : decode cX12_count 58 = .ok (.iconst 0, 1) := by decide +kernel
theorem dX12_count_59 : decode cX12_count 59 = .ok (.goto 4, 3) := by decide +kernel
theorem dX12_count_63 : decode cX12_count 63 = .ok (.iadd, 1) := by decide +kernel
theorem dX12_count_64 : decode cX12_count 64 = .ok (.istore_n 2, 1) := by decide +kernel
theorem dX12_count_65 : decode cX12_count 65 = .ok (.iinc 3 1, 3) := by decide +kernel
theorem dX12_count_68 : decode cX12_count 68 = .ok (.goto (-26), 3) := by decide +kernel
theorem dX12_count_71 : decode cX12_count 71 = .ok (.iload_n 2, 1) := by decide +kernel
theorem dX12_count_72 : decode cX12_count 72 = .ok (.ireturn, 1) := by decide +kernel
theorem dX12_count_36 : decode cX12_count 36 = .ok (.iconst (-1), 1) := by decide +kernel
theorem dX12_count_37 : decode cX12_count 37 = .ok (.ireturn, 1) := by decide +kernel
theorem dX12_count_25 : decode cX12_count 25 = .ok (.aload_n 0, 1) := by decide +kernel
theorem dX12_count_26 : decode cX12_count 26 = .ok (.getfield 86, 3) := by decide +kernel
theorem dX12_count_29 : decode cX12_count 29 = .ok (.ireturn, 1) := by decide +kernel
theorem dX12_count_12 : decode cX12_count 12 = .ok (.aload_n 0, 1) := by decide +kernel
theorem dX12_count_13 : decode cX12_count 13 = .ok (.getfield 9, 3) := by decide +kernel
theorem dX12_count_16 : decode cX12_count 16 = .ok (.iload_n 1, 1) := by decide +kernel
theorem dX12_count_17 : decode cX12_count 17 = .ok (.iaload, 1) := by decide +kernel
theorem dX12_count_18 : decode cX12_count 18 = .ok (.ireturn, 1) := by decide +kernel
def vX12_count : List Cond := .code yX12_count cX12_count 4 (some .int) :: ([.constantLong RX12 429 (8), .methodLink RX12 82 yX12_in, .static yX12_in, .initialized RX12, .code yX12_in cX12_in 6 (some .boolean), .fieldLink RX12 65 "IcicleClockModel" "many" "[I", .fieldLink RX12 86 "IcicleClockModel" "taped" "I", .fieldLink RX12 9 "IcicleClockModel" "world" "[I"] ++ wsX120)
theorem iX12_count_12 : ∀ w ∈ wsX120, w ∈ vX12_count := fun _ h => List.mem_cons_of_mem _ (List.mem_append_right _ h)
set_option maxRecDepth 20000 in
theorem gg_X12_count_X12_in : GoodIn vX12_count (wsS RX12 82 yX12_in vX12_in) := goodIn_r _ [2, 3, 4, 5] (by decide +kernel) (by decide +kernel)
set_option maxHeartbeats 4000000 in
set_option maxRecDepth 100000 in
theorem m_count (l : Launch) (D : va_G) (cs : Nat → ClassId) (ad : Nat → Nat) (hj : wJ ad nW) (g : Nat → va_E) (vw : Int32) (h197 : g 197 = .inr (12, [.int 0, .ref (ad 198), .ref (ad 199), .ref (ad 200), .ref (ad 201), .int 0, .ref (ad 202), .int 0, .int 0, .int 0, .int 0, .int 0, .int 0, .int (-1), .ref (ad 203), .ref (ad 204), .ref (ad 205), .int 0, .int 0, .ref (ad 206), .ref (ad 207), .ref (ad 208), .int 0, .int 0, .int 0, .int 0, .int 0, .ref (ad 209), .ref (ad 210), .ref (ad 211), .long 0, .long 0, .ref (ad 212), .ref (ad 213), .int 0, .int 0, .ref (ad 214), .ref (ad 215), .ref (ad 216), .ref (ad 217)])) (h198 : g 198 = .inl (cs 1, 118, .inl (fun _ => 0))) (h214 : g 214 = .inl (cs 1, 4, .inl (fun _ => -1))) : cI l yX12_count vX12_count { frames := 1, cells := 0, slots := 0, locals := 25 } D cs ad nW [.ref (ad 197), .int vw] g (fun r g2 => r = aCnt vw) := by
  refine Met.start (cc := cX12_count) (maxL := 4) (ret := (some .int)) RX12 rfl (by decide) rfl (Nat.le_of_ble_eq_true rfl) ?_
  intro p e s m below meth c ls X hP hl
  have hx := X.1
  have hb := X.2.1
  have hS : va_S (wA ad nW) s.heap s.heap [] := va_S.rf
  have hA : ∀ i, i < nW → wA ad nW (ad i) := fun i h => ⟨i, h, rfl⟩
  have hl : lv_has ls 4 [(0, .ref (ad 197)), (1, .int vw)] := hl
  refine lv_iload_n hx hb dX12_count_0 rfl (lv_at hl 1 rfl) ?_
  refine lv_i2l (v := vw.toInt64) hx hb dX12_count_1 rfl ?_
  refine lv_lconst (v := 0) hx hb dX12_count_2 (by decide) ?_
  refine lv_ldc2 (v := 8) hx hb X.2.2.2.2.2.1 (X.2.2.2.2.1 _ (List.mem_of_getElem? (i := 1) rfl)) dX12_count_3 ?_
  refine q_callSi (As := [.long (vw.toInt64), .long 0, .long 8]) (rest := []) X (m_in l D cs ad hj g (vw.toInt64) 0 8 ) (cwS 3 X.2.2.2.2.1 gg_X12_count_X12_in rfl rfl rfl (by decide +kernel) ⟨Nat.le_of_ble_eq_true rfl, Nat.le_of_ble_eq_true rfl⟩) hP hA hS rfl hl.1 rfl (Nat.le_of_ble_eq_true rfl) dX12_count_6 ⟨Nat.le_of_ble_eq_true rfl, Nat.le_of_ble_eq_true rfl⟩ (fun r_3 g_2 H locs hw_1 hP hS => ?_)
  obtain ⟨hw_1b, hw_1⟩ := hw_1
  rw [hw_1b] at hP
  refine lv_if_eq (tgt := 19) hx hb dX12_count_9 (by decide) (fun hc_9 => ?_) (fun hc_9 => ?_)
  · refine lv_iload_n hx hb dX12_count_19 rfl (lv_at hl 1 rfl) ?_
    refine lv_bipush (v := 9) hx hb dX12_count_20 (by decide) ?_
    refine lv_icmp_ne (tgt := 30) hx hb dX12_count_22 (by decide) (fun hc_22 => ?_) (fun hc_22 => ?_)
    · refine lv_iload_n hx hb dX12_count_30 rfl (lv_at hl 1 rfl) ?_
      refine lv_bipush (v := 10) hx hb dX12_count_31 (by decide) ?_
      refine lv_icmp_eq (tgt := 38) hx hb dX12_count_33 (by decide) (fun hc_33 => ?_) (fun hc_33 => ?_)
      · refine lv_iconst (v := 0) hx hb dX12_count_38 (by decide) ?_
        refine lv_istore_n (lv' := [(2, .int 0), (0, .ref (ad 197)), (1, .int vw)]) hx hb dX12_count_39 rfl hl (by decide) rfl (fun ls hl => ?_)
        refine lv_iconst (v := 0) hx hb dX12_count_40 (by decide) ?_
        refine lv_istore_n (lv' := [(3, .int 0), (2, .int 0), (0, .ref (ad 197)), (1, .int vw)]) hx hb dX12_count_41 rfl hl (by decide) rfl (fun ls hl => ?_)
        refine lv_iload_n hx hb dX12_count_42 rfl (lv_at hl 0 rfl) ?_
        refine lv_iconst (v := 4) hx hb dX12_count_43 (by decide) ?_
        refine lv_icmp_ge (tgt := 71) hx hb dX12_count_44 (by decide) (fun h => absurd h (by decide)) (fun _ => ?_)
        refine lv_iload_n hx hb dX12_count_47 rfl (lv_at hl 1 rfl) ?_
        refine lv_aload_n hx hb dX12_count_48 rfl (lv_at hl 2 rfl) ?_
        refine q_get X iX12_count_12 hP (by decide) h197 rfl 36 (by decide) (List.mem_of_getElem? (i := 6) rfl) (v := .ref (ad 214)) rfl dX12_count_49 ?_
        refine lv_iload_n hx hb dX12_count_52 rfl (lv_at hl 0 rfl) ?_
        refine q_iald X hP (by decide) h214 (by unfold vp_in; decide) dX12_count_53 ?_
        refine lv_iconst (v := (-1)) hx hb dX12_count_54 (by decide) ?_
        refine lv_icmp_ne (tgt := 62) hx hb dX12_count_55 (by decide) (fun h => absurd h (by decide)) (fun _ => ?_)
        refine lv_iconst (v := 0) hx hb dX12_count_58 (by decide) ?_
        refine lv_goto (tgt := 63) hx hb dX12_count_59 (by decide) ?_
        refine lv_iadd hx hb dX12_count_63 ?_
        refine lv_topi (fun z_4 ez_4 => ?_)
        obtain rfl : z_4 = 0 := ez_4.trans (by decide)
        refine lv_istore_n (lv' := [(2, .int 0), (3, .int 0), (0, .ref (ad 197)), (1, .int vw)]) hx hb dX12_count_64 rfl hl (by decide) rfl (fun ls hl => ?_)
        refine lv_iinc (v := 1) (lv' := [(3, .int 1), (2, .int 0), (0, .ref (ad 197)), (1, .int vw)]) hx hb dX12_count_65 hl (k := 1) rfl (by decide) (by decide) rfl (fun ls hl => ?_)
        refine lv_goto (tgt := 42) hx hb dX12_count_68 (by decide) ?_
        refine lv_iload_n hx hb dX12_count_42 rfl (lv_at hl 0 rfl) ?_
        refine lv_iconst (v := 4) hx hb dX12_count_43 (by decide) ?_
        refine lv_icmp_ge (tgt := 71) hx hb dX12_count_44 (by decide) (fun h => absurd h (by decide)) (fun _ => ?_)
        refine lv_iload_n hx hb dX12_count_47 rfl (lv_at hl 1 rfl) ?_
        refine lv_aload_n hx hb dX12_count_48 rfl (lv_at hl 2 rfl) ?_
        refine q_get X iX12_count_12 hP (by decide) h197 rfl 36 (by decide) (List.mem_of_getElem? (i := 6) rfl) (v := .ref (ad 214)) rfl dX12_count_49 ?_
        refine lv_iload_n hx hb dX12_count_52 rfl (lv_at hl 0 rfl) ?_
        refine q_iald X hP (by decide) h214 (by unfold vp_in; decide) dX12_count_53 ?_
        refine lv_iconst (v := (-1)) hx hb dX12_count_54 (by decide) ?_
        refine lv_icmp_ne (tgt := 62) hx hb dX12_count_55 (by decide) (fun h => absurd h (by decide)) (fun _ => ?_)
        refine lv_iconst (v := 0) hx hb dX12_count_58 (by decide) ?_
        refine lv_goto (tgt := 63) hx hb dX12_count_59 (by decide) ?_
        refine lv_iadd hx hb dX12_count_63 ?_
        refine lv_topi (fun z_5 ez_5 => ?_)
        obtain rfl : z_5 = 0 := ez_5.trans (by decide)
        refine lv_istore_n (lv' := [(2, .int 0), (3, .int 1), (0, .ref (ad 197)), (1, .int vw)]) hx hb dX12_count_64 rfl hl (by decide) rfl (fun ls hl => ?_)
        refine lv_iinc (v := 2) (lv' := [(3, .int 2), (2, .int 0), (0, .ref (ad 197)), (1, .int vw)]) hx hb dX12_count_65 hl (k := 1) rfl (by decide) (by decide) rfl (fun ls hl => ?_)
        refine lv_goto (tgt := 42) hx hb dX12_count_68 (by decide) ?_
        refine lv_iload_n hx hb dX12_count_42 rfl (lv_at hl 0 rfl) ?_
        refine lv_iconst (v := 4) hx hb dX12_count_43 (by decide) ?_
        refine lv_icmp_ge (tgt := 71) hx hb dX12_count_44 (by decide) (fun h => absurd h (by decide)) (fun _ => ?_)
        refine lv_iload_n hx hb dX12_count_47 rfl (lv_at hl 1 rfl) ?_
        refine lv_aload_n hx hb dX12_count_48 rfl (lv_at hl 2 rfl) ?_
        refine q_get X iX12_count_12 hP (by decide) h197 rfl 36 (by decide) (List.mem_of_getElem? (i := 6) rfl) (v := .ref (ad 214)) rfl dX12_count_49 ?_
        refine lv_iload_n hx hb dX12_count_52 rfl (lv_at hl 0 rfl) ?_
        refine q_iald X hP (by decide) h214 (by unfold vp_in; decide) dX12_count_53 ?_
        refine lv_iconst (v := (-1)) hx hb dX12_count_54 (by decide) ?_
        refine lv_icmp_ne (tgt := 62) hx hb dX12_count_55 (by decide) (fun h => absurd h (by decide)) (fun _ => ?_)
        refine lv_iconst (v := 0) hx hb dX12_count_58 (by decide) ?_
        refine lv_goto (tgt := 63) hx hb dX12_count_59 (by decide) ?_
        refine lv_iadd hx hb dX12_count_63 ?_
        refine lv_topi (fun z_6 ez_6 => ?_)
        obtain rfl : z_6 = 0 := ez_6.trans (by decide)
        refine lv_istore_n (lv' := [(2, .int 0), (3, .int 2), (0, .ref (ad 197)), (1, .int vw)]) hx hb dX12_count_64 rfl hl (by decide) rfl (fun ls hl => ?_)
        refine lv_iinc (v := 3) (lv' := [(3, .int 3), (2, .int 0), (0, .ref (ad 197)), (1, .int vw)]) hx hb dX12_count_65 hl (k := 1) rfl (by decide) (by decide) rfl (fun ls hl => ?_)
        refine lv_goto (tgt := 42) hx hb dX12_count_68 (by decide) ?_
        refine lv_iload_n hx hb dX12_count_42 rfl (lv_at hl 0 rfl) ?_
        refine lv_iconst (v := 4) hx hb dX12_count_43 (by decide) ?_
        refine lv_icmp_ge (tgt := 71) hx hb dX12_count_44 (by decide) (fun h => absurd h (by decide)) (fun _ => ?_)
        refine lv_iload_n hx hb dX12_count_47 rfl (lv_at hl 1 rfl) ?_
        refine lv_aload_n hx hb dX12_count_48 rfl (lv_at hl 2 rfl) ?_
        refine q_get X iX12_count_12 hP (by decide) h197 rfl 36 (by decide) (List.mem_of_getElem? (i := 6) rfl) (v := .ref (ad 214)) rfl dX12_count_49 ?_
        refine lv_iload_n hx hb dX12_count_52 rfl (lv_at hl 0 rfl) ?_
        refine q_iald X hP (by decide) h214 (by unfold vp_in; decide) dX12_count_53 ?_
        refine lv_iconst (v := (-1)) hx hb dX12_count_54 (by decide) ?_
        refine lv_icmp_ne (tgt := 62) hx hb dX12_count_55 (by decide) (fun h => absurd h (by decide)) (fun _ => ?_)
        refine lv_iconst (v := 0) hx hb dX12_count_58 (by decide) ?_
        refine lv_goto (tgt := 63) hx hb dX12_count_59 (by decide) ?_
        refine lv_iadd hx hb dX12_count_63 ?_
        refine lv_topi (fun z_7 ez_7 => ?_)
        obtain rfl : z_7 = 0 := ez_7.trans (by decide)
        refine lv_istore_n (lv' := [(2, .int 0), (3, .int 3), (0, .ref (ad 197)), (1, .int vw)]) hx hb dX12_count_64 rfl hl (by decide) rfl (fun ls hl => ?_)
        refine lv_iinc (v := 4) (lv' := [(3, .int 4), (2, .int 0), (0, .ref (ad 197)), (1, .int vw)]) hx hb dX12_count_65 hl (k := 1) rfl (by decide) (by decide) rfl (fun ls hl => ?_)
        refine lv_goto (tgt := 42) hx hb dX12_count_68 (by decide) ?_
        refine lv_iload_n hx hb dX12_count_42 rfl (lv_at hl 0 rfl) ?_
        refine lv_iconst (v := 4) hx hb dX12_count_43 (by decide) ?_
        refine lv_icmp_ge (tgt := 71) hx hb dX12_count_44 (by decide) (fun _ => ?_) (fun h => absurd h (by decide))
        refine lv_iload_n hx hb dX12_count_71 rfl (lv_at hl 1 rfl) ?_
        exact q_iret X hP hS (by rw [show vw = 10 from hc_33]; unfold aCnt; rfl) dX12_count_72
      · refine lv_iconst (v := (-1)) hx hb dX12_count_36 (by decide) ?_
        exact q_iret X hP hS (in_8n hw_1 hc_9 hc_22 hc_33).symm dX12_count_37
    · refine lv_aload_n hx hb dX12_count_25 rfl (lv_at hl 0 rfl) ?_
      refine q_get X iX12_count_12 hP (by decide) h197 rfl 5 (by decide) (List.mem_of_getElem? (i := 7) rfl) (v := .int 0) rfl dX12_count_26 ?_
      exact q_iret X hP hS (by rw [show vw = 9 from hc_22]; unfold aCnt; rfl) dX12_count_29
  · refine lv_aload_n hx hb dX12_count_12 rfl (lv_at hl 0 rfl) ?_
    refine q_get X iX12_count_12 hP (by decide) h197 rfl 1 (by decide) (List.mem_of_getElem? (i := 8) rfl) (v := .ref (ad 198)) rfl dX12_count_13 ?_
    refine lv_iload_n hx hb dX12_count_16 rfl (lv_at hl 1 rfl) ?_
    refine q_iald X hP (by decide) h198 (in_8v hw_1 hc_9) dX12_count_17 ?_
    exact q_iret X hP hS (in_8a hw_1 hc_9).symm dX12_count_18
end
section
theorem dX12_feed_0 : decode cX12_feed 0 = .ok (.aload_n 0, 1) := by decide +kernel
theorem dX12_feed_1 : decode cX12_feed 1 = .ok (.getfield 86, 3) := by decide +kernel
theorem dX12_feed_4 : decode cX12_feed 4 = .ok (.bipush 20, 2) := by decide +kernel
theorem dX12_feed_6 : decode cX12_feed 6 = .ok (.iadd, 1) := by decide +kernel
theorem dX12_feed_7 : decode cX12_feed 7 = .ok (.sipush 1000, 3) := by decide +kernel
theorem dX12_feed_10 : decode cX12_feed 10 = .ok (.if_icmp .le 5, 3) := by decide +kernel
theorem dX12_feed_15 : decode cX12_feed 15 = .ok (.aload_n 0, 1) := by decide +kernel
theorem dX12_feed_16 : decode cX12_feed 16 = .ok (.getfield 24, 3) := by decide +kernel
theorem dX12_feed_19 : decode cX12_feed 19 = .ok (.iconst 0, 1) := by decide +kernel
theorem dX12_feed_20 : decode cX12_feed 20 = .ok (.iload_n 1, 1) := by decide +kernel
theorem dX12_feed_21 : decode cX12_feed 21 = .ok (.iastore, 1) := by decide +kernel
theorem dX12_feed_22 : decode cX12_feed 22 = .ok (.aload_n 0, 1) := by decide +kernel
theorem dX12_feed_23 : decode cX12_feed 23 = .ok (.getfield 24, 3) := by decide +kernel
theorem dX12_feed_26 : decode cX12_feed 26 = .ok (.iconst 1, 1) := by decide +kernel
theorem dX12_feed_27 : decode cX12_feed 27 = .ok (.iload_n 2, 1) := by decide +kernel
theorem dX12_feed_28 : decode cX12_feed 28 = .ok (.iastore, 1) := by decide +kernel
theorem dX12_feed_29 : decode cX12_feed 29 = .ok (.aload_n 0, 1) := by decide +kernel
theorem dX12_feed_30 : decode cX12_feed 30 = .ok (.getfield 24, 3) := by decide +kernel
theorem dX12_feed_33 : decode cX12_feed 33 = .ok (.iconst 2, 1) := by decide +kernel
theorem dX12_feed_34 : decode cX12_feed 34 = .ok (.iload_n 3, 1) := by decide +kernel
theorem dX12_feed_35 : decode cX12_feed 35 = .ok (.iastore, 1) := by decide +kernel
theorem dX12_feed_36 : decode cX12_feed 36 = .ok (.aload_n 0, 1) := by decide +kernel
theorem dX12_feed_37 : decode cX12_feed 37 = .ok (.getfield 24, 3) := by decide +kernel
theorem dX12_feed_40 : decode cX12_feed 40 = .ok (.iconst 3, 1) := by decide +kernel
theorem dX12_feed_41 : decode cX12_feed 41 = .ok (.iload 4, 2) := by decide +kernel
theorem dX12_feed_43 : decode cX12_feed 43 = .ok (.iastore, 1) := by decide +kernel
theorem dX12_feed_44 : decode cX12_feed 44 = .ok (.aload_n 0, 1) := by decide +kernel
theorem dX12_feed_45 : decode cX12_feed 45 = .ok (.getfield 24, 3) := by decide +kernel
theorem dX12_feed_48 : decode cX12_feed 48 = .ok (.iconst 4, 1) := by decide +kernel
theorem dX12_feed_49 : decode cX12_feed 49 = .ok (.iload 5, 2) := by decide +kernel
theorem dX12_feed_51 : decode cX12_feed 51 = .ok (.iastore, 1) := by decide +kernel
theorem dX12_feed_52 : decode cX12_feed 52 = .ok (.iconst 0, 1) := by decide +kernel
theorem dX12_feed_53 : decode cX12_feed 53 = .ok (.istore 6, 2) := by decide +kernel
theorem dX12_feed_55 : decode cX12_feed 55 = .ok (.iload 6, 2) := by decide +kernel
theorem dX12_feed_57 : decode cX12_feed 57 = .ok (.bipush 20, 2) := by decide +kernel
theorem dX12_feed_59 : decode cX12_feed 59 = .ok (.if_icmp .ge 42, 3) := by decide +kernel
theorem dX12_feed_101 : decode cX12_feed 101 = .ok (.aload_n 0, 1) := by decide +kernel
theorem dX12_feed_102 : decode cX12_feed 102 = .ok (.dup, 1) := by decide +kernel
theorem dX12_feed_103 : decode cX12_feed 103 = .ok (.getfield 86, 3) := by decide +kernel
theorem dX12_feed_106 : decode cX12_feed 106 = .ok (.bipush 20, 2) := by decide +kernel
theorem dX12_feed_108 : decode cX12_feed 108 = .ok (.iadd, 1) := by decide +kernel
theorem dX12_feed_109 : decode cX12_feed 109 = .ok (.putfield 86, 3) := by decide +kernel
theorem dX12_feed_112 : decode cX12_feed 112 = .ok (.aload_n 0, 1) := by decide +kernel
theorem dX12_feed_113 : decode cX12_feed 113 = .ok (.getfield 86, 3) := by decide +kernel
theorem dX12_feed_116 : decode cX12_feed 116 = .ok (.ireturn, 1) := by decide +kernel
theorem dX12_feed_62 : decode cX12_feed 62 = .ok (.aload_n 0, 1) := by decide +kernel
theorem dX12_feed_63 : decode cX12_feed 63 = .ok (.getfield 20, 3) := by decide +kernel
theorem dX12_feed_66 : decode cX12_feed 66 = .ok (.aload_n 0, 1) := by decide +kernel
theorem dX12_feed_67 : decode cX12_feed 67 = .ok (.getfield 86, 3) := by decide +kernel
theorem dX12_feed_70 : decode cX12_feed 70 = .ok (.iload 6, 2) := by decide +kernel
theorem dX12_feed_72 : decode cX12_feed 72 = .ok (.iadd, 1) := by decide +kernel
theorem dX12_feed_73 : decode cX12_feed 73 = .ok (.aload_n 0, 1) := by decide +kernel
theorem dX12_feed_74 : decode cX12_feed 74 = .ok (.getfield 24, 3) := by decide +kernel
theorem dX12_feed_77 : decode cX12_feed 77 = .ok (.iload 6, 2) := by decide +kernel
theorem dX12_feed_79 : decode cX12_feed 79 = .ok (.iconst 4, 1) := by decide +kernel
theorem dX12_feed_80 : decode cX12_feed 80 = .ok (.idiv, 1) := by decide +kernel
theorem dX12_feed_81 : decode cX12_feed 81 = .ok (.iaload, 1) := by decide +kernel
theorem dX12_feed_82 : decode cX12_feed 82 = .ok (.bipush 24, 2) := by decide +kernel
theorem dX12_feed_84 : decode cX12_feed 84 = .ok (.bipush 8, 2) := by decide +kernel
theorem dX12_feed_86 : decode cX12_feed 86 = .ok (.iload 6, 2) := by decide +kernel
theorem dX12_feed_88 : decode cX12_feed 88 = .ok (.iconst 4, 1) := by decide +kernel
theorem dX12_feed_89 : decode cX12_feed 89 = .ok (.irem, 1) := by decide +kernel
theorem dX12_feed_90 : decode cX12_feed 90 = .ok (.imul, 1) := by decide +kernel
theorem dX12_feed_91 : decode cX12_feed 91 = .ok (.isub, 1) := by decide +kernel
theorem dX12_feed_92 : decode cX12_feed 92 = .ok (.ishr, 1) := by decide +kernel
theorem dX12_feed_93 : decode cX12_feed 93 = .ok (.i2b, 1) := by decide +kernel
theorem dX12_feed_94 : decode cX12_feed 94 = .ok (.bastore, 1) := by decide +kernel
theorem dX12_feed_95 : decode cX12_feed 95 = .ok (.iinc 6 1, 3) := by decide +kernel
theorem dX12_feed_98 : decode cX12_feed 98 = .ok (.goto (-43), 3) := by decide +kernel
def vX12_feed : List Cond := .code yX12_feed cX12_feed 7 (some .int) :: ([.fieldLink RX12 86 "IcicleClockModel" "taped" "I", .fieldLink RX12 24 "IcicleClockModel" "five" "[I", .fieldLink RX12 20 "IcicleClockModel" "tape" "[B"] ++ wsX120)
theorem iX12_feed_12 : ∀ w ∈ wsX120, w ∈ vX12_feed := fun _ h => List.mem_cons_of_mem _ (List.mem_append_right _ h)
set_option maxHeartbeats 4000000 in
set_option maxRecDepth 100000 in
theorem m_feed (l : Launch) (D : va_G) (cs : Nat → ClassId) (ad : Nat → Nat) (hj : wJ ad nW) (g : Nat → va_E) (va : Int32) (vb : Int32) (vc : Int32) (vd : Int32) (vf : Int32) (h197 : g 197 = .inr (12, [.int 0, .ref (ad 198), .ref (ad 199), .ref (ad 200), .ref (ad 201), .int 0, .ref (ad 202), .int 0, .int 0, .int 0, .int 0, .int 0, .int 0, .int (-1), .ref (ad 203), .ref (ad 204), .ref (ad 205), .int 0, .int 0, .ref (ad 206), .ref (ad 207), .ref (ad 208), .int 0, .int 0, .int 0, .int 0, .int 0, .ref (ad 209), .ref (ad 210), .ref (ad 211), .long 0, .long 0, .ref (ad 212), .ref (ad 213), .int 0, .int 0, .ref (ad 214), .ref (ad 215), .ref (ad 216), .ref (ad 217)])) (h201 : g 201 = .inl (cs 0, 1000, .inl (fun _ => 0))) (h202 : g 202 = .inl (cs 1, 5, .inl (fun _ => 0))) : cI l yX12_feed vX12_feed { frames := 0, cells := 0, slots := 0, locals := 0 } D cs ad nW [.ref (ad 197), .int va, .int vb, .int vc, .int vd, .int vf] g (fun r g2 => r = 20) := by
  refine Met.start (cc := cX12_feed) (maxL := 7) (ret := (some .int)) RX12 rfl (by decide) rfl (Nat.le_of_ble_eq_true rfl) ?_
  intro p e s m below meth c ls X hP hl
  have hx := X.1
  have hb := X.2.1
  have hS : va_S (wA ad nW) s.heap s.heap [] := va_S.rf
  have hA : ∀ i, i < nW → wA ad nW (ad i) := fun i h => ⟨i, h, rfl⟩
  have hl : lv_has ls 7 [(0, .ref (ad 197)), (1, .int va), (2, .int vb), (3, .int vc), (4, .int vd), (5, .int vf)] := hl
  refine lv_aload_n hx hb dX12_feed_0 rfl (lv_at hl 0 rfl) ?_
  refine q_get X iX12_feed_12 hP (by decide) h197 rfl 5 (by decide) (List.mem_of_getElem? (i := 1) rfl) (v := .int 0) rfl dX12_feed_1 ?_
  refine lv_bipush (v := 20) hx hb dX12_feed_4 (by decide) ?_
  refine lv_iadd hx hb dX12_feed_6 ?_
  refine lv_topi (fun z_1 ez_1 => ?_)
  obtain rfl : z_1 = 20 := ez_1.trans (by decide)
  refine lv_sipush (v := 1000) hx hb dX12_feed_7 (by decide) ?_
  refine lv_icmp_le (tgt := 15) hx hb dX12_feed_10 (by decide) (fun _ => ?_) (fun h => absurd h (by decide))
  refine lv_aload_n hx hb dX12_feed_15 rfl (lv_at hl 0 rfl) ?_
  refine q_get X iX12_feed_12 hP (by decide) h197 rfl 6 (by decide) (List.mem_of_getElem? (i := 2) rfl) (v := .ref (ad 202)) rfl dX12_feed_16 ?_
  refine lv_iconst (v := 0) hx hb dX12_feed_19 (by decide) ?_
  refine lv_iload_n hx hb dX12_feed_20 rfl (lv_at hl 1 rfl) ?_
  refine q_iast X hP hj hA hS (by decide) h202 (by unfold vp_in; decide) dX12_feed_21 (fun H locs hP hS => ?_)
  generalize eg_2 : va_up g 202 _ = g_2 at hP
  have h_4 : g_2 197 = .inr (12, [.int 0, .ref (ad 198), .ref (ad 199), .ref (ad 200), .ref (ad 201), .int 0, .ref (ad 202), .int 0, .int 0, .int 0, .int 0, .int 0, .int 0, .int (-1), .ref (ad 203), .ref (ad 204), .ref (ad 205), .int 0, .int 0, .ref (ad 206), .ref (ad 207), .ref (ad 208), .int 0, .int 0, .int 0, .int 0, .int 0, .ref (ad 209), .ref (ad 210), .ref (ad 211), .long 0, .long 0, .ref (ad 212), .ref (ad 213), .int 0, .int 0, .ref (ad 214), .ref (ad 215), .ref (ad 216), .ref (ad 217)]) := by rw [← eg_2, va_up_ne _ _ (by decide)]; exact h197
  have h_5 : g_2 201 = .inl (cs 0, 1000, .inl (fun _ => 0)) := by rw [← eg_2, va_up_ne _ _ (by decide)]; exact h201
  obtain ⟨f_3, h_6⟩ : ∃ f, g_2 202 = .inl (cs 1, 5, .inl f) := ⟨_, by rw [← eg_2]; exact va_up_self _ _ _⟩
  refine lv_aload_n hx hb dX12_feed_22 rfl (lv_at hl 0 rfl) ?_
  refine q_get X iX12_feed_12 hP (by decide) h_4 rfl 6 (by decide) (List.mem_of_getElem? (i := 2) rfl) (v := .ref (ad 202)) rfl dX12_feed_23 ?_
  refine lv_iconst (v := 1) hx hb dX12_feed_26 (by decide) ?_
  refine lv_iload_n hx hb dX12_feed_27 rfl (lv_at hl 2 rfl) ?_
  refine q_iast X hP hj hA hS (by decide) h_6 (by unfold vp_in; decide) dX12_feed_28 (fun H locs hP hS => ?_)
  generalize eg_7 : va_up g_2 202 _ = g_7 at hP
  have h_9 : g_7 197 = .inr (12, [.int 0, .ref (ad 198), .ref (ad 199), .ref (ad 200), .ref (ad 201), .int 0, .ref (ad 202), .int 0, .int 0, .int 0, .int 0, .int 0, .int 0, .int (-1), .ref (ad 203), .ref (ad 204), .ref (ad 205), .int 0, .int 0, .ref (ad 206), .ref (ad 207), .ref (ad 208), .int 0, .int 0, .int 0, .int 0, .int 0, .ref (ad 209), .ref (ad 210), .ref (ad 211), .long 0, .long 0, .ref (ad 212), .ref (ad 213), .int 0, .int 0, .ref (ad 214), .ref (ad 215), .ref (ad 216), .ref (ad 217)]) := by rw [← eg_7, va_up_ne _ _ (by decide)]; exact h_4
  have h_10 : g_7 201 = .inl (cs 0, 1000, .inl (fun _ => 0)) := by rw [← eg_7, va_up_ne _ _ (by decide)]; exact h_5
  obtain ⟨f_8, h_11⟩ : ∃ f, g_7 202 = .inl (cs 1, 5, .inl f) := ⟨_, by rw [← eg_7]; exact va_up_self _ _ _⟩
  refine lv_aload_n hx hb dX12_feed_29 rfl (lv_at hl 0 rfl) ?_
  refine q_get X iX12_feed_12 hP (by decide) h_9 rfl 6 (by decide) (List.mem_of_getElem? (i := 2) rfl) (v := .ref (ad 202)) rfl dX12_feed_30 ?_
  refine lv_iconst (v := 2) hx hb dX12_feed_33 (by decide) ?_
  refine lv_iload_n hx hb dX12_feed_34 rfl (lv_at hl 3 rfl) ?_
  refine q_iast X hP hj hA hS (by decide) h_11 (by unfold vp_in; decide) dX12_feed_35 (fun H locs hP hS => ?_)
  generalize eg_12 : va_up g_7 202 _ = g_12 at hP
  have h_14 : g_12 197 = .inr (12, [.int 0, .ref (ad 198), .ref (ad 199), .ref (ad 200), .ref (ad 201), .int 0, .ref (ad 202), .int 0, .int 0, .int 0, .int 0, .int 0, .int 0, .int (-1), .ref (ad 203), .ref (ad 204), .ref (ad 205), .int 0, .int 0, .ref (ad 206), .ref (ad 207), .ref (ad 208), .int 0, .int 0, .int 0, .int 0, .int 0, .ref (ad 209), .ref (ad 210), .ref (ad 211), .long 0, .long 0, .ref (ad 212), .ref (ad 213), .int 0, .int 0, .ref (ad 214), .ref (ad 215), .ref (ad 216), .ref (ad 217)]) := by rw [← eg_12, va_up_ne _ _ (by decide)]; exact h_9
  have h_15 : g_12 201 = .inl (cs 0, 1000, .inl (fun _ => 0)) := by rw [← eg_12, va_up_ne _ _ (by decide)]; exact h_10
  obtain ⟨f_13, h_16⟩ : ∃ f, g_12 202 = .inl (cs 1, 5, .inl f) := ⟨_, by rw [← eg_12]; exact va_up_self _ _ _⟩
  refine lv_aload_n hx hb dX12_feed_36 rfl (lv_at hl 0 rfl) ?_
  refine q_get X iX12_feed_12 hP (by decide) h_14 rfl 6 (by decide) (List.mem_of_getElem? (i := 2) rfl) (v := .ref (ad 202)) rfl dX12_feed_37 ?_
  refine lv_iconst (v := 3) hx hb dX12_feed_40 (by decide) ?_
  refine lv_iload hx hb dX12_feed_41 (lv_at hl 4 rfl) ?_
  refine q_iast X hP hj hA hS (by decide) h_16 (by unfold vp_in; decide) dX12_feed_43 (fun H locs hP hS => ?_)
  generalize eg_17 : va_up g_12 202 _ = g_17 at hP
  have h_19 : g_17 197 = .inr (12, [.int 0, .ref (ad 198), .ref (ad 199), .ref (ad 200), .ref (ad 201), .int 0, .ref (ad 202), .int 0, .int 0, .int 0, .int 0, .int 0, .int 0, .int (-1), .ref (ad 203), .ref (ad 204), .ref (ad 205), .int 0, .int 0, .ref (ad 206), .ref (ad 207), .ref (ad 208), .int 0, .int 0, .int 0, .int 0, .int 0, .ref (ad 209), .ref (ad 210), .ref (ad 211), .long 0, .long 0, .ref (ad 212), .ref (ad 213), .int 0, .int 0, .ref (ad 214), .ref (ad 215), .ref (ad 216), .ref (ad 217)]) := by rw [← eg_17, va_up_ne _ _ (by decide)]; exact h_14
  have h_20 : g_17 201 = .inl (cs 0, 1000, .inl (fun _ => 0)) := by rw [← eg_17, va_up_ne _ _ (by decide)]; exact h_15
  obtain ⟨f_18, h_21⟩ : ∃ f, g_17 202 = .inl (cs 1, 5, .inl f) := ⟨_, by rw [← eg_17]; exact va_up_self _ _ _⟩
  refine lv_aload_n hx hb dX12_feed_44 rfl (lv_at hl 0 rfl) ?_
  refine q_get X iX12_feed_12 hP (by decide) h_19 rfl 6 (by decide) (List.mem_of_getElem? (i := 2) rfl) (v := .ref (ad 202)) rfl dX12_feed_45 ?_
  refine lv_iconst (v := 4) hx hb dX12_feed_48 (by decide) ?_
  refine lv_iload hx hb dX12_feed_49 (lv_at hl 5 rfl) ?_
  refine q_iast X hP hj hA hS (by decide) h_21 (by unfold vp_in; decide) dX12_feed_51 (fun H locs hP hS => ?_)
  generalize eg_22 : va_up g_17 202 _ = g_22 at hP
  have h_24 : g_22 197 = .inr (12, [.int 0, .ref (ad 198), .ref (ad 199), .ref (ad 200), .ref (ad 201), .int 0, .ref (ad 202), .int 0, .int 0, .int 0, .int 0, .int 0, .int 0, .int (-1), .ref (ad 203), .ref (ad 204), .ref (ad 205), .int 0, .int 0, .ref (ad 206), .ref (ad 207), .ref (ad 208), .int 0, .int 0, .int 0, .int 0, .int 0, .ref (ad 209), .ref (ad 210), .ref (ad 211), .long 0, .long 0, .ref (ad 212), .ref (ad 213), .int 0, .int 0, .ref (ad 214), .ref (ad 215), .ref (ad 216), .ref (ad 217)]) := by rw [← eg_22, va_up_ne _ _ (by decide)]; exact h_19
  have h_25 : g_22 201 = .inl (cs 0, 1000, .inl (fun _ => 0)) := by rw [← eg_22, va_up_ne _ _ (by decide)]; exact h_20
  obtain ⟨f_23, h_26⟩ : ∃ f, g_22 202 = .inl (cs 1, 5, .inl f) := ⟨_, by rw [← eg_22]; exact va_up_self _ _ _⟩
  refine lv_iconst (v := 0) hx hb dX12_feed_52 (by decide) ?_
  refine lv_istore (lv' := [(6, .int 0), (0, .ref (ad 197)), (1, .int va), (2, .int vb), (3, .int vc), (4, .int vd), (5, .int vf)]) hx hb dX12_feed_53 hl (by decide) rfl (fun ls hl => ?_)
  have HL55 : ∀ (d55 k55 : Nat) (f55_201 : Nat → Int32) (G55 : Nat → va_E) (H : Heap) (locs : List Loc) (ls : Array Slot), k55 + d55 = 20 → G55 197 = .inr (12, [.int 0, .ref (ad 198), .ref (ad 199), .ref (ad 200), .ref (ad 201), .int 0, .ref (ad 202), .int 0, .int 0, .int 0, .int 0, .int 0, .int 0, .int (-1), .ref (ad 203), .ref (ad 204), .ref (ad 205), .int 0, .int 0, .ref (ad 206), .ref (ad 207), .ref (ad 208), .int 0, .int 0, .int 0, .int 0, .int 0, .ref (ad 209), .ref (ad 210), .ref (ad 211), .long 0, .long 0, .ref (ad 212), .ref (ad 213), .int 0, .int 0, .ref (ad 214), .ref (ad 215), .ref (ad 216), .ref (ad 217)]) → G55 201 = .inl (cs 0, 1000, .inl f55_201) → G55 202 = .inl (cs 1, 5, .inl f_23) → va_P D vwCl (wL ad G55 nW) H → va_S (wA ad nW) s.heap H locs → lv_has ls 7 [(6, .int (nI k55)), (0, .ref (ad 197)), (1, .int va), (2, .int vb), (3, .int vc), (4, .int vd), (5, .int vf)] → W p l e ({ frames := 0, cells := 0, slots := 0, locals := 0 } : Room) s m ([.ref (ad 197), .int va, .int vb, .int vc, .int vd, .int vf] : List Value).toArray below meth c H locs 0 0 (MQ below (qI D ad nW (fun r g2 => r = 20)) ([.ref (ad 197), .int va, .int vb, .int vc, .int vd, .int vf] : List Value).toArray s 0 0 (wA ad nW)) (F0 m 55 ls []) := by
    intro d55
    induction d55 with
    | zero =>
      intro k55 f55_201 G55 H locs ls hk55 h55_197 h55_201 h55_202 hP hS hl
      obtain rfl : k55 = 20 := by omega
      refine lv_iload hx hb dX12_feed_55 (lv_at hl 0 rfl) ?_
      refine lv_bipush (v := 20) hx hb dX12_feed_57 (by decide) ?_
      refine lv_icmp_ge (tgt := 101) hx hb dX12_feed_59 (by decide) (fun _ => ?_) (fun h => absurd h (by decide))
      refine lv_aload_n hx hb dX12_feed_101 rfl (lv_at hl 1 rfl) ?_
      refine lv_dup hx hb dX12_feed_102 rfl ?_
      refine q_get X iX12_feed_12 hP (by decide) h55_197 rfl 5 (by decide) (List.mem_of_getElem? (i := 1) rfl) (v := .int 0) rfl dX12_feed_103 ?_
      refine lv_bipush (v := 20) hx hb dX12_feed_106 (by decide) ?_
      refine lv_iadd hx hb dX12_feed_108 ?_
      refine lv_topi (fun z_27 ez_27 => ?_)
      obtain rfl : z_27 = 20 := ez_27.trans (by decide)
      refine q_put X iX12_feed_12 tyX12 tyX12_ok nmX12 hP hj hA hS (by decide) h55_197 rfl 5 (by decide) (List.mem_of_getElem? (i := 1) rfl) rfl (ty := .int) (v := .int 20) (by decide +kernel) rfl rfl (Nat.le_of_ble_eq_true rfl) dX12_feed_109 (fun H locs hP hS => ?_)
      generalize eg_28 : va_up G55 197 _ = g_28 at hP
      have h_29 : g_28 197 = .inr (12, [.int 0, .ref (ad 198), .ref (ad 199), .ref (ad 200), .ref (ad 201), .int 20, .ref (ad 202), .int 0, .int 0, .int 0, .int 0, .int 0, .int 0, .int (-1), .ref (ad 203), .ref (ad 204), .ref (ad 205), .int 0, .int 0, .ref (ad 206), .ref (ad 207), .ref (ad 208), .int 0, .int 0, .int 0, .int 0, .int 0, .ref (ad 209), .ref (ad 210), .ref (ad 211), .long 0, .long 0, .ref (ad 212), .ref (ad 213), .int 0, .int 0, .ref (ad 214), .ref (ad 215), .ref (ad 216), .ref (ad 217)]) := by rw [← eg_28]; exact va_up_self _ _ _
      have h_30 : g_28 201 = .inl (cs 0, 1000, .inl f55_201) := by rw [← eg_28, va_up_ne _ _ (by decide)]; exact h55_201
      have h_31 : g_28 202 = .inl (cs 1, 5, .inl f_23) := by rw [← eg_28, va_up_ne _ _ (by decide)]; exact h55_202
      refine lv_aload_n hx hb dX12_feed_112 rfl (lv_at hl 1 rfl) ?_
      refine q_get X iX12_feed_12 hP (by decide) h_29 rfl 5 (by decide) (List.mem_of_getElem? (i := 1) rfl) (v := .int 20) rfl dX12_feed_113 ?_
      exact q_iret X hP hS rfl dX12_feed_116
    | succ d55 ih55 =>
      intro k55 f55_201 G55 H locs ls hk55 h55_197 h55_201 h55_202 hP hS hl
      refine lv_iload hx hb dX12_feed_55 (lv_at hl 0 rfl) ?_
      refine lv_bipush (v := 20) hx hb dX12_feed_57 (by decide) ?_
      refine lv_icmp_ge (tgt := 101) hx hb dX12_feed_59 (by decide) (fun hc_59 => absurd hc_59 (nI_ge (a := k55) (b := 20) (by omega) (by decide))) (fun hc_59 => ?_)
      refine lv_aload_n hx hb dX12_feed_62 rfl (lv_at hl 1 rfl) ?_
      refine q_get X iX12_feed_12 hP (by decide) h55_197 rfl 4 (by decide) (List.mem_of_getElem? (i := 3) rfl) (v := .ref (ad 201)) rfl dX12_feed_63 ?_
      refine lv_aload_n hx hb dX12_feed_66 rfl (lv_at hl 1 rfl) ?_
      refine q_get X iX12_feed_12 hP (by decide) h55_197 rfl 5 (by decide) (List.mem_of_getElem? (i := 1) rfl) (v := .int 0) rfl dX12_feed_67 ?_
      refine lv_iload hx hb dX12_feed_70 (lv_at hl 0 rfl) ?_
      refine lv_iadd hx hb dX12_feed_72 ?_
      refine lv_topi (fun z_32 ez_32 => ?_)
      obtain rfl : z_32 = nI (0 + k55) := ez_32.trans (nI_add 0 k55)
      refine lv_aload_n hx hb dX12_feed_73 rfl (lv_at hl 1 rfl) ?_
      refine q_get X iX12_feed_12 hP (by decide) h55_197 rfl 6 (by decide) (List.mem_of_getElem? (i := 2) rfl) (v := .ref (ad 202)) rfl dX12_feed_74 ?_
      refine lv_iload hx hb dX12_feed_77 (lv_at hl 0 rfl) ?_
      refine lv_iconst (v := 4) hx hb dX12_feed_79 (by decide) ?_
      refine lv_idiv hx hb dX12_feed_80 (by decide) ?_
      refine lv_topi (fun z_33 ez_33 => ?_)
      obtain rfl : z_33 = nI (k55 / 4) := ez_33.trans (pk_div (by omega) (by decide) (by decide))
      refine q_iald X hP (by decide) h55_202 (vp_in_nI (by omega) (by decide)) dX12_feed_81 ?_
      refine lv_bipush (v := 24) hx hb dX12_feed_82 (by decide) ?_
      refine lv_bipush (v := 8) hx hb dX12_feed_84 (by decide) ?_
      refine lv_iload hx hb dX12_feed_86 (lv_at hl 0 rfl) ?_
      refine lv_iconst (v := 4) hx hb dX12_feed_88 (by decide) ?_
      refine lv_irem hx hb dX12_feed_89 (by decide) ?_
      refine lv_topi (fun z_34 ez_34 => ?_)
      obtain rfl : z_34 = nI (k55 % 4) := ez_34.trans (pk_rem (by omega) (by decide) (by decide))
      refine lv_imul hx hb dX12_feed_90 ?_
      refine lv_topi (fun z_35 ez_35 => ?_)
      obtain rfl : z_35 = nI (8 * (k55 % 4)) := ez_35.trans (pk_mul 8 (k55 % 4))
      refine lv_isub hx hb dX12_feed_91 ?_
      refine lv_topi (fun z_36 ez_36 => ?_)
      refine lv_ishr hx hb dX12_feed_92 ?_
      refine lv_topi (fun z_37 ez_37 => ?_)
      refine lv_i2b hx hb dX12_feed_93 rfl ?_
      refine lv_topi (fun z_38 ez_38 => ?_)
      refine q_bast X hP hj hA hS (by decide) h55_201 (vp_in_nI (by omega) (by decide)) dX12_feed_94 (fun H locs hP hS => ?_)
      generalize eg_39 : va_up G55 201 _ = g_39 at hP
      have h_41 : g_39 197 = .inr (12, [.int 0, .ref (ad 198), .ref (ad 199), .ref (ad 200), .ref (ad 201), .int 0, .ref (ad 202), .int 0, .int 0, .int 0, .int 0, .int 0, .int 0, .int (-1), .ref (ad 203), .ref (ad 204), .ref (ad 205), .int 0, .int 0, .ref (ad 206), .ref (ad 207), .ref (ad 208), .int 0, .int 0, .int 0, .int 0, .int 0, .ref (ad 209), .ref (ad 210), .ref (ad 211), .long 0, .long 0, .ref (ad 212), .ref (ad 213), .int 0, .int 0, .ref (ad 214), .ref (ad 215), .ref (ad 216), .ref (ad 217)]) := by rw [← eg_39, va_up_ne _ _ (by decide)]; exact h55_197
      obtain ⟨f_40, h_42⟩ : ∃ f, g_39 201 = .inl (cs 0, 1000, .inl f) := ⟨_, by rw [← eg_39]; exact va_up_self _ _ _⟩
      have h_43 : g_39 202 = .inl (cs 1, 5, .inl f_23) := by rw [← eg_39, va_up_ne _ _ (by decide)]; exact h55_202
      refine lv_iinc (v := (nI (k55 + 1))) (lv' := [(6, .int (nI (k55 + 1))), (0, .ref (ad 197)), (1, .int va), (2, .int vb), (3, .int vc), (4, .int vd), (5, .int vf)]) hx hb dX12_feed_95 hl (k := 0) rfl (nI_add k55 1) (by decide) rfl (fun ls hl => ?_)
      refine lv_goto (tgt := 55) hx hb dX12_feed_98 (by decide) ?_
      exact ih55 (k55 + 1) _ g_39 _ _ ls (by omega) h_41 h_42 h_43 hP hS (lv_sub hl [0, 1, 2, 3, 4, 5, 6] rfl)
  exact HL55 20 0 _ g_22 _ _ ls (by omega) h_24 h_25 h_26 hP hS (lv_sub hl [0, 1, 2, 3, 4, 5, 6] rfl)
end
section
theorem dX12_see_0 : decode cX12_see 0 = .ok (.iload_n 1, 1) := by decide +kernel
theorem dX12_see_1 : decode cX12_see 1 = .ok (.aload_n 0, 1) := by decide +kernel
theorem dX12_see_2 : decode cX12_see 2 = .ok (.getfield 89, 3) := by decide +kernel
theorem dX12_see_5 : decode cX12_see 5 = .ok (.if_icmp .ge 16, 3) := by decide +kernel
theorem dX12_see_21 : decode cX12_see 21 = .ok (.iconst (-1), 1) := by decide +kernel
theorem dX12_see_22 : decode cX12_see 22 = .ok (.ireturn, 1) := by decide +kernel
def vX12_see : List Cond := .code yX12_see cX12_see 2 (some .int) :: ([.fieldLink RX12 89 "IcicleClockModel" "size" "I"] ++ wsX120)
theorem iX12_see_12 : ∀ w ∈ wsX120, w ∈ vX12_see := fun _ h => List.mem_cons_of_mem _ (List.mem_append_right _ h)
set_option maxHeartbeats 4000000 in
set_option maxRecDepth 100000 in
theorem m_see (l : Launch) (D : va_G) (cs : Nat → ClassId) (ad : Nat → Nat) (hj : wJ ad nW) (g : Nat → va_E) (h197 : g 197 = .inr (12, [.int 0, .ref (ad 198), .ref (ad 199), .ref (ad 200), .ref (ad 201), .int 0, .ref (ad 202), .int 0, .int 0, .int 0, .int 0, .int 0, .int 0, .int (-1), .ref (ad 203), .ref (ad 204), .ref (ad 205), .int 0, .int 0, .ref (ad 206), .ref (ad 207), .ref (ad 208), .int 0, .int 0, .int 0, .int 0, .int 0, .ref (ad 209), .ref (ad 210), .ref (ad 211), .long 0, .long 0, .ref (ad 212), .ref (ad 213), .int 0, .int 0, .ref (ad 214), .ref (ad 215), .ref (ad 216), .ref (ad 217)])) : cI l yX12_see vX12_see { frames := 0, cells := 0, slots := 0, locals := 0 } D cs ad nW [.ref (ad 197), .int 0] g (fun r g2 => r = (-1) ∧ g2 = g) := by
  refine Met.start (cc := cX12_see) (maxL := 2) (ret := (some .int)) RX12 rfl (by decide) rfl (Nat.le_of_ble_eq_true rfl) ?_
  intro p e s m below meth c ls X hP hl
  have hx := X.1
  have hb := X.2.1
  have hS : va_S (wA ad nW) s.heap s.heap [] := va_S.rf
  have hA : ∀ i, i < nW → wA ad nW (ad i) := fun i h => ⟨i, h, rfl⟩
  have hl : lv_has ls 2 [(0, .ref (ad 197)), (1, .int 0)] := hl
  refine lv_iload_n hx hb dX12_see_0 rfl (lv_at hl 1 rfl) ?_
  refine lv_aload_n hx hb dX12_see_1 rfl (lv_at hl 0 rfl) ?_
  refine q_get X iX12_see_12 hP (by decide) h197 rfl 7 (by decide) (List.mem_of_getElem? (i := 1) rfl) (v := .int 0) rfl dX12_see_2 ?_
  refine lv_icmp_ge (tgt := 21) hx hb dX12_see_5 (by decide) (fun _ => ?_) (fun h => absurd h (by decide))
  refine lv_iconst (v := (-1)) hx hb dX12_see_21 (by decide) ?_
  exact q_iret X hP hS ⟨rfl, rfl⟩ dX12_see_22

theorem dX12_good_0 : decode cX12_good 0 = .ok (.aload_n 0, 1) := by decide +kernel
theorem dX12_good_1 : decode cX12_good 1 = .ok (.getfield 123, 3) := by decide +kernel
theorem dX12_good_4 : decode cX12_good 4 = .ok (.ifCond .ne 7, 3) := by decide +kernel
theorem dX12_good_7 : decode cX12_good 7 = .ok (.iconst 1, 1) := by decide +kernel
theorem dX12_good_8 : decode cX12_good 8 = .ok (.goto 4, 3) := by decide +kernel
theorem dX12_good_12 : decode cX12_good 12 = .ok (.ireturn, 1) := by decide +kernel
def vX12_good : List Cond := .code yX12_good cX12_good 1 (some .boolean) :: ([.fieldLink RX12 123 "IcicleClockModel" "faultKind" "I"] ++ wsX120)
theorem iX12_good_12 : ∀ w ∈ wsX120, w ∈ vX12_good := fun _ h => List.mem_cons_of_mem _ (List.mem_append_right _ h)
set_option maxHeartbeats 4000000 in
set_option maxRecDepth 100000 in
theorem m_good (l : Launch) (D : va_G) (cs : Nat → ClassId) (ad : Nat → Nat) (hj : wJ ad nW) (g : Nat → va_E) (h197 : g 197 = .inr (12, [.int 0, .ref (ad 198), .ref (ad 199), .ref (ad 200), .ref (ad 201), .int 0, .ref (ad 202), .int 0, .int 0, .int 0, .int 0, .int 0, .int 0, .int (-1), .ref (ad 203), .ref (ad 204), .ref (ad 205), .int 0, .int 0, .ref (ad 206), .ref (ad 207), .ref (ad 208), .int 0, .int 0, .int 0, .int 0, .int 0, .ref (ad 209), .ref (ad 210), .ref (ad 211), .long 0, .long 0, .ref (ad 212), .ref (ad 213), .int 0, .int 0, .ref (ad 214), .ref (ad 215), .ref (ad 216), .ref (ad 217)])) : cI l yX12_good vX12_good { frames := 0, cells := 0, slots := 0, locals := 0 } D cs ad nW [.ref (ad 197)] g (fun r g2 => r = 1 ∧ g2 = g) := by
  refine Met.start (cc := cX12_good) (maxL := 1) (ret := (some .boolean)) RX12 rfl (by decide) rfl (Nat.le_of_ble_eq_true rfl) ?_
  intro p e s m below meth c ls X hP hl
  have hx := X.1
  have hb := X.2.1
  have hS : va_S (wA ad nW) s.heap s.heap [] := va_S.rf
  have hA : ∀ i, i < nW → wA ad nW (ad i) := fun i h => ⟨i, h, rfl⟩
  have hl : lv_has ls 1 [(0, .ref (ad 197))] := hl
  refine lv_aload_n hx hb dX12_good_0 rfl (lv_at hl 0 rfl) ?_
  refine q_get X iX12_good_12 hP (by decide) h197 rfl 12 (by decide) (List.mem_of_getElem? (i := 1) rfl) (v := .int 0) rfl dX12_good_1 ?_
  refine lv_if_ne (tgt := 11) hx hb dX12_good_4 (by decide) (fun h => absurd h (by decide)) (fun _ => ?_)
  refine lv_iconst (v := 1) hx hb dX12_good_7 (by decide) ?_
  refine lv_goto (tgt := 12) hx hb dX12_good_8 (by decide) ?_
  exact q_zret X hP hS rfl ⟨rfl, rfl⟩ dX12_good_12

theorem dX12_advance_0 : decode cX12_advance 0 = .ok (.aload_n 0, 1) := by decide +kernel
theorem dX12_advance_1 : decode cX12_advance 1 = .ok (.aload_n 0, 1) := by decide +kernel
theorem dX12_advance_2 : decode cX12_advance 2 = .ok (.getfield 92, 3) := by decide +kernel
theorem dX12_advance_5 : decode cX12_advance 5 = .ok (.invokevirtual 95, 3) := by decide +kernel
theorem dX12_advance_8 : decode cX12_advance 8 = .ok (.bipush 32, 2) := by decide +kernel
theorem dX12_advance_10 : decode cX12_advance 10 = .ok (.if_icmp .eq 16, 3) := by decide +kernel
theorem dX12_advance_13 : decode cX12_advance 13 = .ok (.aload_n 0, 1) := by decide +kernel
theorem dX12_advance_14 : decode cX12_advance 14 = .ok (.aload_n 0, 1) := by decide +kernel
theorem dX12_advance_15 : decode cX12_advance 15 = .ok (.getfield 92, 3) := by decide +kernel
theorem dX12_advance_18 : decode cX12_advance 18 = .ok (.invokevirtual 95, 3) := by decide +kernel
theorem dX12_advance_21 : decode cX12_advance 21 = .ok (.bipush 10, 2) := by decide +kernel
theorem dX12_advance_23 : decode cX12_advance 23 = .ok (.if_icmp .ne 16, 3) := by decide +kernel
theorem dX12_advance_39 : decode cX12_advance 39 = .ok (.aload_n 0, 1) := by decide +kernel
theorem dX12_advance_40 : decode cX12_advance 40 = .ok (.aload_n 0, 1) := by decide +kernel
theorem dX12_advance_41 : decode cX12_advance 41 = .ok (.getfield 92, 3) := by decide +kernel
theorem dX12_advance_44 : decode cX12_advance 44 = .ok (.putfield 99, 3) := by decide +kernel
theorem dX12_advance_47 : decode cX12_advance 47 = .ok (.aload_n 0, 1) := by decide +kernel
theorem dX12_advance_48 : decode cX12_advance 48 = .ok (.aload_n 0, 1) := by decide +kernel
theorem dX12_advance_49 : decode cX12_advance 49 = .ok (.getfield 92, 3) := by decide +kernel
theorem dX12_advance_52 : decode cX12_advance 52 = .ok (.invokevirtual 95, 3) := by decide +kernel
theorem dX12_advance_55 : decode cX12_advance 55 = .ok (.istore_n 1, 1) := by decide +kernel
theorem dX12_advance_56 : decode cX12_advance 56 = .ok (.iload_n 1, 1) := by decide +kernel
theorem dX12_advance_57 : decode cX12_advance 57 = .ok (.iconst (-1), 1) := by decide +kernel
theorem dX12_advance_58 : decode cX12_advance 58 = .ok (.if_icmp .ne 11, 3) := by decide +kernel
theorem dX12_advance_61 : decode cX12_advance 61 = .ok (.aload_n 0, 1) := by decide +kernel
theorem dX12_advance_62 : decode cX12_advance 62 = .ok (.iconst 0, 1) := by decide +kernel
theorem dX12_advance_63 : decode cX12_advance 63 = .ok (.putfield 102, 3) := by decide +kernel
theorem dX12_advance_66 : decode cX12_advance 66 = .ok (.goto 173, 3) := by decide +kernel
theorem dX12_advance_239 : decode cX12_advance 239 = .ok (.return_, 1) := by decide +kernel
def vX12_advance : List Cond := .code yX12_advance cX12_advance 2 none :: ([.fieldLink RX12 92 "IcicleClockModel" "at" "I", .methodLink RX12 95 yX12_see, .instanceMethod yX12_see, .selects RX12 yX12_see yX12_see, .initialized RX12, .code yX12_see cX12_see 2 (some .int), .fieldLink RX12 89 "IcicleClockModel" "size" "I", .fieldLink RX12 99 "IcicleClockModel" "from" "I", .fieldLink RX12 102 "IcicleClockModel" "token" "I"] ++ wsX120)
theorem iX12_advance_12 : ∀ w ∈ wsX120, w ∈ vX12_advance := fun _ h => List.mem_cons_of_mem _ (List.mem_append_right _ h)
set_option maxRecDepth 20000 in
theorem gg_X12_advance_X12_see : GoodIn vX12_advance (wsV RX12 95 RX12 yX12_see vX12_see) := goodIn_r _ [2, 3, 4, 5, 6, 7, 10, 11, 12, 13, 14, 15, 16, 17, 18, 19, 20, 21, 22, 23, 24, 25, 26, 27, 28, 29, 30, 31, 32, 33, 34, 35, 36, 37, 38, 39, 40, 41, 42, 43, 44, 45, 46, 47, 48, 49] (by decide +kernel) (by decide +kernel)
set_option maxHeartbeats 4000000 in
set_option maxRecDepth 100000 in
theorem m_advance (l : Launch) (D : va_G) (cs : Nat → ClassId) (ad : Nat → Nat) (hj : wJ ad nW) (g : Nat → va_E) (h197 : g 197 = .inr (12, [.int 0, .ref (ad 198), .ref (ad 199), .ref (ad 200), .ref (ad 201), .int 0, .ref (ad 202), .int 0, .int 0, .int 0, .int 0, .int 0, .int 0, .int (-1), .ref (ad 203), .ref (ad 204), .ref (ad 205), .int 0, .int 0, .ref (ad 206), .ref (ad 207), .ref (ad 208), .int 0, .int 0, .int 0, .int 0, .int 0, .ref (ad 209), .ref (ad 210), .ref (ad 211), .long 0, .long 0, .ref (ad 212), .ref (ad 213), .int 0, .int 0, .ref (ad 214), .ref (ad 215), .ref (ad 216), .ref (ad 217)])) : cV l yX12_advance vX12_advance { frames := 1, cells := 0, slots := 0, locals := 21 } D cs ad nW [.ref (ad 197)] g (fun g2 => g2 197 = .inr (12, [.int 0, .ref (ad 198), .ref (ad 199), .ref (ad 200), .ref (ad 201), .int 0, .ref (ad 202), .int 0, .int 0, .int 0, .int 0, .int 0, .int 0, .int (-1), .ref (ad 203), .ref (ad 204), .ref (ad 205), .int 0, .int 0, .ref (ad 206), .ref (ad 207), .ref (ad 208), .int 0, .int 0, .int 0, .int 0, .int 0, .ref (ad 209), .ref (ad 210), .ref (ad 211), .long 0, .long 0, .ref (ad 212), .ref (ad 213), .int 0, .int 0, .ref (ad 214), .ref (ad 215), .ref (ad 216), .ref (ad 217)]) ∧ ∀ j, j ≠ 197 → g2 j = g j) := by
  refine Met.start (cc := cX12_advance) (maxL := 2) (ret := none) RX12 rfl (by decide) rfl (Nat.le_of_ble_eq_true rfl) ?_
  intro p e s m below meth c ls X hP hl
  have hx := X.1
  have hb := X.2.1
  have hS : va_S (wA ad nW) s.heap s.heap [] := va_S.rf
  have hA : ∀ i, i < nW → wA ad nW (ad i) := fun i h => ⟨i, h, rfl⟩
  have hfr : ∀ j, j ≠ 197 → g j = g j := fun _ _ => rfl
  have hl : lv_has ls 2 [(0, .ref (ad 197))] := hl
  refine lv_aload_n hx hb dX12_advance_0 rfl (lv_at hl 0 rfl) ?_
  refine lv_aload_n hx hb dX12_advance_1 rfl (lv_at hl 0 rfl) ?_
  refine q_get X iX12_advance_12 hP (by decide) h197 rfl 8 (by decide) (List.mem_of_getElem? (i := 1) rfl) (v := .int 0) rfl dX12_advance_2 ?_
  refine q_calli (q := (RX12, TX12, 40)) (As := [.int 0]) (rest := []) X (m_see l D cs ad hj g  h197) (cwV 1 X.2.2.2.2.1 gg_X12_advance_X12_see rfl rfl rfl (by decide +kernel) ⟨Nat.le_of_ble_eq_true rfl, Nat.le_of_ble_eq_true rfl⟩) (by decide) h197 rfl hP hA hS rfl hl.1 rfl (Nat.le_of_ble_eq_true rfl) dX12_advance_5 ⟨Nat.le_of_ble_eq_true rfl, Nat.le_of_ble_eq_true rfl⟩ (fun r_3 g_2 H locs hw_1 hP hS => ?_)
  obtain ⟨hw_1a, hw_1b⟩ := hw_1
  subst hw_1a
  rw [hw_1b] at hP
  refine lv_bipush (v := 32) hx hb dX12_advance_8 (by decide) ?_
  refine lv_icmp_eq (tgt := 26) hx hb dX12_advance_10 (by decide) (fun h => absurd h (by decide)) (fun _ => ?_)
  refine lv_aload_n hx hb dX12_advance_13 rfl (lv_at hl 0 rfl) ?_
  refine lv_aload_n hx hb dX12_advance_14 rfl (lv_at hl 0 rfl) ?_
  refine q_get X iX12_advance_12 hP (by decide) h197 rfl 8 (by decide) (List.mem_of_getElem? (i := 1) rfl) (v := .int 0) rfl dX12_advance_15 ?_
  refine q_calli (q := (RX12, TX12, 40)) (As := [.int 0]) (rest := []) X (m_see l D cs ad hj g  h197) (cwV 1 X.2.2.2.2.1 gg_X12_advance_X12_see rfl rfl rfl (by decide +kernel) ⟨Nat.le_of_ble_eq_true rfl, Nat.le_of_ble_eq_true rfl⟩) (by decide) h197 rfl hP hA hS rfl hl.1 rfl (Nat.le_of_ble_eq_true rfl) dX12_advance_18 ⟨Nat.le_of_ble_eq_true rfl, Nat.le_of_ble_eq_true rfl⟩ (fun r_6 g_5 H locs hw_4 hP hS => ?_)
  obtain ⟨hw_4a, hw_4b⟩ := hw_4
  subst hw_4a
  rw [hw_4b] at hP
  refine lv_bipush (v := 10) hx hb dX12_advance_21 (by decide) ?_
  refine lv_icmp_ne (tgt := 39) hx hb dX12_advance_23 (by decide) (fun _ => ?_) (fun h => absurd h (by decide))
  refine lv_aload_n hx hb dX12_advance_39 rfl (lv_at hl 0 rfl) ?_
  refine lv_aload_n hx hb dX12_advance_40 rfl (lv_at hl 0 rfl) ?_
  refine q_get X iX12_advance_12 hP (by decide) h197 rfl 8 (by decide) (List.mem_of_getElem? (i := 1) rfl) (v := .int 0) rfl dX12_advance_41 ?_
  refine q_put X iX12_advance_12 tyX12 tyX12_ok nmX12 hP hj hA hS (by decide) h197 rfl 9 (by decide) (List.mem_of_getElem? (i := 8) rfl) rfl (ty := .int) (v := .int 0) (by decide +kernel) rfl rfl (Nat.le_of_ble_eq_true rfl) dX12_advance_44 (fun H locs hP hS => ?_)
  generalize eg_7 : va_up g 197 _ = g_7 at hP
  have hfr_8 : ∀ j, j ≠ 197 → g_7 j = g j := fun j hj => by rw [← eg_7]; exact (va_up_ne _ _ (by omega)).trans (hfr j hj)
  have h_9 : g_7 197 = .inr (12, [.int 0, .ref (ad 198), .ref (ad 199), .ref (ad 200), .ref (ad 201), .int 0, .ref (ad 202), .int 0, .int 0, .int 0, .int 0, .int 0, .int 0, .int (-1), .ref (ad 203), .ref (ad 204), .ref (ad 205), .int 0, .int 0, .ref (ad 206), .ref (ad 207), .ref (ad 208), .int 0, .int 0, .int 0, .int 0, .int 0, .ref (ad 209), .ref (ad 210), .ref (ad 211), .long 0, .long 0, .ref (ad 212), .ref (ad 213), .int 0, .int 0, .ref (ad 214), .ref (ad 215), .ref (ad 216), .ref (ad 217)]) := by rw [← eg_7]; exact va_up_self _ _ _
  refine lv_aload_n hx hb dX12_advance_47 rfl (lv_at hl 0 rfl) ?_
  refine lv_aload_n hx hb dX12_advance_48 rfl (lv_at hl 0 rfl) ?_
  refine q_get X iX12_advance_12 hP (by decide) h_9 rfl 8 (by decide) (List.mem_of_getElem? (i := 1) rfl) (v := .int 0) rfl dX12_advance_49 ?_
  refine q_calli (q := (RX12, TX12, 40)) (As := [.int 0]) (rest := []) X (m_see l D cs ad hj g_7  h_9) (cwV 1 X.2.2.2.2.1 gg_X12_advance_X12_see rfl rfl rfl (by decide +kernel) ⟨Nat.le_of_ble_eq_true rfl, Nat.le_of_ble_eq_true rfl⟩) (by decide) h_9 rfl hP hA hS rfl hl.1 rfl (Nat.le_of_ble_eq_true rfl) dX12_advance_52 ⟨Nat.le_of_ble_eq_true rfl, Nat.le_of_ble_eq_true rfl⟩ (fun r_12 g_11 H locs hw_10 hP hS => ?_)
  obtain ⟨hw_10a, hw_10b⟩ := hw_10
  subst hw_10a
  rw [hw_10b] at hP
  refine lv_istore_n (lv' := [(1, .int (-1)), (0, .ref (ad 197))]) hx hb dX12_advance_55 rfl hl (by decide) rfl (fun ls hl => ?_)
  refine lv_iload_n hx hb dX12_advance_56 rfl (lv_at hl 0 rfl) ?_
  refine lv_iconst (v := (-1)) hx hb dX12_advance_57 (by decide) ?_
  refine lv_icmp_ne (tgt := 69) hx hb dX12_advance_58 (by decide) (fun h => absurd h (by decide)) (fun _ => ?_)
  refine lv_aload_n hx hb dX12_advance_61 rfl (lv_at hl 1 rfl) ?_
  refine lv_iconst (v := 0) hx hb dX12_advance_62 (by decide) ?_
  refine q_put X iX12_advance_12 tyX12 tyX12_ok nmX12 hP hj hA hS (by decide) h_9 rfl 10 (by decide) (List.mem_of_getElem? (i := 9) rfl) rfl (ty := .int) (v := .int 0) (by decide +kernel) rfl rfl (Nat.le_of_ble_eq_true rfl) dX12_advance_63 (fun H locs hP hS => ?_)
  generalize eg_13 : va_up g_7 197 _ = g_13 at hP
  have hfr_14 : ∀ j, j ≠ 197 → g_13 j = g j := fun j hj => by rw [← eg_13]; exact (va_up_ne _ _ (by omega)).trans (hfr_8 j hj)
  have h_15 : g_13 197 = .inr (12, [.int 0, .ref (ad 198), .ref (ad 199), .ref (ad 200), .ref (ad 201), .int 0, .ref (ad 202), .int 0, .int 0, .int 0, .int 0, .int 0, .int 0, .int (-1), .ref (ad 203), .ref (ad 204), .ref (ad 205), .int 0, .int 0, .ref (ad 206), .ref (ad 207), .ref (ad 208), .int 0, .int 0, .int 0, .int 0, .int 0, .ref (ad 209), .ref (ad 210), .ref (ad 211), .long 0, .long 0, .ref (ad 212), .ref (ad 213), .int 0, .int 0, .ref (ad 214), .ref (ad 215), .ref (ad 216), .ref (ad 217)]) := by rw [← eg_13]; exact va_up_self _ _ _
  refine lv_goto (tgt := 239) hx hb dX12_advance_66 (by decide) ?_
  exact q_vret X hP hS ⟨h_15, hfr_14⟩ dX12_advance_239

theorem dX12_street_0 : decode cX12_street 0 = .ok (.aload_n 0, 1) := by decide +kernel
theorem dX12_street_1 : decode cX12_street 1 = .ok (.aload_n 0, 1) := by decide +kernel
theorem dX12_street_2 : decode cX12_street 2 = .ok (.getfield 86, 3) := by decide +kernel
theorem dX12_street_5 : decode cX12_street 5 = .ok (.putfield 89, 3) := by decide +kernel
theorem dX12_street_8 : decode cX12_street 8 = .ok (.aload_n 0, 1) := by decide +kernel
theorem dX12_street_9 : decode cX12_street 9 = .ok (.iconst 0, 1) := by decide +kernel
theorem dX12_street_10 : decode cX12_street 10 = .ok (.putfield 86, 3) := by decide +kernel
theorem dX12_street_13 : decode cX12_street 13 = .ok (.aload_n 0, 1) := by decide +kernel
theorem dX12_street_14 : decode cX12_street 14 = .ok (.iconst 0, 1) := by decide +kernel
theorem dX12_street_15 : decode cX12_street 15 = .ok (.putfield 92, 3) := by decide +kernel
theorem dX12_street_18 : decode cX12_street 18 = .ok (.aload_n 0, 1) := by decide +kernel
theorem dX12_street_19 : decode cX12_street 19 = .ok (.iconst 0, 1) := by decide +kernel
theorem dX12_street_20 : decode cX12_street 20 = .ok (.putfield 123, 3) := by decide +kernel
theorem dX12_street_23 : decode cX12_street 23 = .ok (.aload_n 0, 1) := by decide +kernel
theorem dX12_street_24 : decode cX12_street 24 = .ok (.iconst (-1), 1) := by decide +kernel
theorem dX12_street_25 : decode cX12_street 25 = .ok (.putfield 27, 3) := by decide +kernel
theorem dX12_street_28 : decode cX12_street 28 = .ok (.iconst 0, 1) := by decide +kernel
theorem dX12_street_29 : decode cX12_street 29 = .ok (.istore_n 1, 1) := by decide +kernel
theorem dX12_street_30 : decode cX12_street 30 = .ok (.iload_n 1, 1) := by decide +kernel
theorem dX12_street_31 : decode cX12_street 31 = .ok (.bipush 118, 2) := by decide +kernel
theorem dX12_street_33 : decode cX12_street 33 = .ok (.if_icmp .ge 16, 3) := by decide +kernel
theorem dX12_street_49 : decode cX12_street 49 = .ok (.aload_n 0, 1) := by decide +kernel
theorem dX12_street_50 : decode cX12_street 50 = .ok (.invokevirtual 144, 3) := by decide +kernel
theorem dX12_street_53 : decode cX12_street 53 = .ok (.aload_n 0, 1) := by decide +kernel
theorem dX12_street_54 : decode cX12_street 54 = .ok (.invokevirtual 126, 3) := by decide +kernel
theorem dX12_street_57 : decode cX12_street 57 = .ok (.ifCond .eq 17, 3) := by decide +kernel
theorem dX12_street_60 : decode cX12_street 60 = .ok (.aload_n 0, 1) := by decide +kernel
theorem dX12_street_61 : decode cX12_street 61 = .ok (.getfield 102, 3) := by decide +kernel
theorem dX12_street_64 : decode cX12_street 64 = .ok (.ifCond .eq 10, 3) := by decide +kernel
theorem dX12_street_74 : decode cX12_street 74 = .ok (.aload_n 0, 1) := by decide +kernel
theorem dX12_street_75 : decode cX12_street 75 = .ok (.invokevirtual 126, 3) := by decide +kernel
theorem dX12_street_78 : decode cX12_street 78 = .ok (.ifCond .ne 6, 3) := by decide +kernel
theorem dX12_street_84 : decode cX12_street 84 = .ok (.iconst 0, 1) := by decide +kernel
theorem dX12_street_85 : decode cX12_street 85 = .ok (.istore_n 1, 1) := by decide +kernel
theorem dX12_street_86 : decode cX12_street 86 = .ok (.iload_n 1, 1) := by decide +kernel
theorem dX12_street_87 : decode cX12_street 87 = .ok (.bipush 118, 2) := by decide +kernel
theorem dX12_street_89 : decode cX12_street 89 = .ok (.if_icmp .ge 21, 3) := by decide +kernel
theorem dX12_street_110 : decode cX12_street 110 = .ok (.aload_n 0, 1) := by decide +kernel
theorem dX12_street_111 : decode cX12_street 111 = .ok (.getfield 9, 3) := by decide +kernel
theorem dX12_street_114 : decode cX12_street 114 = .ok (.bipush 8, 2) := by decide +kernel
theorem dX12_street_116 : decode cX12_street 116 = .ok (.iaload, 1) := by decide +kernel
theorem dX12_street_117 : decode cX12_street 117 = .ok (.ireturn, 1) := by decide +kernel
theorem dX12_street_92 : decode cX12_street 92 = .ok (.aload_n 0, 1) := by decide +kernel
theorem dX12_street_93 : decode cX12_street 93 = .ok (.getfield 9, 3) := by decide +kernel
theorem dX12_street_96 : decode cX12_street 96 = .ok (.iload_n 1, 1) := by decide +kernel
theorem dX12_street_97 : decode cX12_street 97 = .ok (.aload_n 0, 1) := by decide +kernel
theorem dX12_street_98 : decode cX12_street 98 = .ok (.getfield 31, 3) := by decide +kernel
theorem dX12_street_101 : decode cX12_street 101 = .ok (.iload_n 1, 1) := by decide +kernel
theorem dX12_street_102 : decode cX12_street 102 = .ok (.iaload, 1) := by decide +kernel
theorem dX12_street_103 : decode cX12_street 103 = .ok (.iastore, 1) := by decide +kernel
theorem dX12_street_104 : decode cX12_street 104 = .ok (.iinc 1 1, 3) := by decide +kernel
theorem dX12_street_107 : decode cX12_street 107 = .ok (.goto (-21), 3) := by decide +kernel
theorem dX12_street_36 : decode cX12_street 36 = .ok (.aload_n 0, 1) := by decide +kernel
theorem dX12_street_37 : decode cX12_street 37 = .ok (.getfield 31, 3) := by decide +kernel
theorem dX12_street_40 : decode cX12_street 40 = .ok (.iload_n 1, 1) := by decide +kernel
theorem dX12_street_41 : decode cX12_street 41 = .ok (.iconst 0, 1) := by decide +kernel
theorem dX12_street_42 : decode cX12_street 42 = .ok (.iastore, 1) := by decide +kernel
theorem dX12_street_43 : decode cX12_street 43 = .ok (.iinc 1 1, 3) := by decide +kernel
theorem dX12_street_46 : decode cX12_street 46 = .ok (.goto (-16), 3) := by decide +kernel
def vX12_street : List Cond := .code yX12_street cX12_street 2 (some .int) :: ([.fieldLink RX12 86 "IcicleClockModel" "taped" "I", .fieldLink RX12 89 "IcicleClockModel" "size" "I", .fieldLink RX12 92 "IcicleClockModel" "at" "I", .fieldLink RX12 123 "IcicleClockModel" "faultKind" "I", .fieldLink RX12 27 "IcicleClockModel" "faultPlace" "I", .methodLink RX12 144 yX12_advance, .instanceMethod yX12_advance, .selects RX12 yX12_advance yX12_advance, .initialized RX12, .code yX12_advance cX12_advance 2 none, .methodLink RX12 95 yX12_see, .instanceMethod yX12_see, .selects RX12 yX12_see yX12_see, .code yX12_see cX12_see 2 (some .int), .fieldLink RX12 99 "IcicleClockModel" "from" "I", .fieldLink RX12 102 "IcicleClockModel" "token" "I", .methodLink RX12 126 yX12_good, .instanceMethod yX12_good, .selects RX12 yX12_good yX12_good, .code yX12_good cX12_good 1 (some .boolean), .fieldLink RX12 9 "IcicleClockModel" "world" "[I", .fieldLink RX12 31 "IcicleClockModel" "fresh" "[I"] ++ wsX120)
theorem iX12_street_12 : ∀ w ∈ wsX120, w ∈ vX12_street := fun _ h => List.mem_cons_of_mem _ (List.mem_append_right _ h)
set_option maxRecDepth 20000 in
theorem gg_X12_street_X12_advance : GoodIn vX12_street (wsV RX12 144 RX12 yX12_advance vX12_advance) := goodIn_r _ [6, 7, 8, 9, 10, 3, 11, 12, 13, 9, 14, 2, 15, 16, 23, 24, 25, 26, 27, 28, 29, 30, 31, 32, 33, 34, 35, 36, 37, 38, 39, 40, 41, 42, 43, 44, 45, 46, 47, 48, 49, 50, 51, 52, 53, 54, 55, 56, 57, 58, 59, 60, 61, 62] (by decide +kernel) (by decide +kernel)
set_option maxRecDepth 20000 in
theorem gg_X12_street_X12_good : GoodIn vX12_street (wsV RX12 126 RX12 yX12_good vX12_good) := goodIn_r _ [17, 18, 19, 9, 20, 4, 23, 24, 25, 26, 27, 28, 29, 30, 31, 32, 33, 34, 35, 36, 37, 38, 39, 40, 41, 42, 43, 44, 45, 46, 47, 48, 49, 50, 51, 52, 53, 54, 55, 56, 57, 58, 59, 60, 61, 62] (by decide +kernel) (by decide +kernel)
set_option maxHeartbeats 4000000 in
set_option maxRecDepth 100000 in
theorem m_street (l : Launch) (D : va_G) (cs : Nat → ClassId) (ad : Nat → Nat) (hj : wJ ad nW) (g : Nat → va_E) (h197 : g 197 = .inr (12, [.int 0, .ref (ad 198), .ref (ad 199), .ref (ad 200), .ref (ad 201), .int 0, .ref (ad 202), .int 0, .int 0, .int 0, .int 0, .int 0, .int 0, .int (-1), .ref (ad 203), .ref (ad 204), .ref (ad 205), .int 0, .int 0, .ref (ad 206), .ref (ad 207), .ref (ad 208), .int 0, .int 0, .int 0, .int 0, .int 0, .ref (ad 209), .ref (ad 210), .ref (ad 211), .long 0, .long 0, .ref (ad 212), .ref (ad 213), .int 0, .int 0, .ref (ad 214), .ref (ad 215), .ref (ad 216), .ref (ad 217)])) (h198 : g 198 = .inl (cs 1, 118, .inl (fun _ => 0))) (h203 : g 203 = .inl (cs 1, 118, .inl (fun _ => 0))) : cI l yX12_street vX12_street { frames := 2, cells := 0, slots := 0, locals := 42 } D cs ad nW [.ref (ad 197)] g (fun r g2 => r = 0) := by
  refine Met.start (cc := cX12_street) (maxL := 2) (ret := (some .int)) RX12 rfl (by decide) rfl (Nat.le_of_ble_eq_true rfl) ?_
  intro p e s m below meth c ls X hP hl
  have hx := X.1
  have hb := X.2.1
  have hS : va_S (wA ad nW) s.heap s.heap [] := va_S.rf
  have hA : ∀ i, i < nW → wA ad nW (ad i) := fun i h => ⟨i, h, rfl⟩
  have hl : lv_has ls 2 [(0, .ref (ad 197))] := hl
  refine lv_aload_n hx hb dX12_street_0 rfl (lv_at hl 0 rfl) ?_
  refine lv_aload_n hx hb dX12_street_1 rfl (lv_at hl 0 rfl) ?_
  refine q_get X iX12_street_12 hP (by decide) h197 rfl 5 (by decide) (List.mem_of_getElem? (i := 1) rfl) (v := .int 0) rfl dX12_street_2 ?_
  refine q_put X iX12_street_12 tyX12 tyX12_ok nmX12 hP hj hA hS (by decide) h197 rfl 7 (by decide) (List.mem_of_getElem? (i := 2) rfl) rfl (ty := .int) (v := .int 0) (by decide +kernel) rfl rfl (Nat.le_of_ble_eq_true rfl) dX12_street_5 (fun H locs hP hS => ?_)
  generalize eg_1 : va_up g 197 _ = g_1 at hP
  have h_2 : g_1 197 = .inr (12, [.int 0, .ref (ad 198), .ref (ad 199), .ref (ad 200), .ref (ad 201), .int 0, .ref (ad 202), .int 0, .int 0, .int 0, .int 0, .int 0, .int 0, .int (-1), .ref (ad 203), .ref (ad 204), .ref (ad 205), .int 0, .int 0, .ref (ad 206), .ref (ad 207), .ref (ad 208), .int 0, .int 0, .int 0, .int 0, .int 0, .ref (ad 209), .ref (ad 210), .ref (ad 211), .long 0, .long 0, .ref (ad 212), .ref (ad 213), .int 0, .int 0, .ref (ad 214), .ref (ad 215), .ref (ad 216), .ref (ad 217)]) := by rw [← eg_1]; exact va_up_self _ _ _
  have h_3 : g_1 198 = .inl (cs 1, 118, .inl (fun _ => 0)) := by rw [← eg_1, va_up_ne _ _ (by decide)]; exact h198
  have h_4 : g_1 203 = .inl (cs 1, 118, .inl (fun _ => 0)) := by rw [← eg_1, va_up_ne _ _ (by decide)]; exact h203
  refine lv_aload_n hx hb dX12_street_8 rfl (lv_at hl 0 rfl) ?_
  refine lv_iconst (v := 0) hx hb dX12_street_9 (by decide) ?_
  refine q_put X iX12_street_12 tyX12 tyX12_ok nmX12 hP hj hA hS (by decide) h_2 rfl 5 (by decide) (List.mem_of_getElem? (i := 1) rfl) rfl (ty := .int) (v := .int 0) (by decide +kernel) rfl rfl (Nat.le_of_ble_eq_true rfl) dX12_street_10 (fun H locs hP hS => ?_)
  generalize eg_5 : va_up g_1 197 _ = g_5 at hP
  have h_6 : g_5 197 = .inr (12, [.int 0, .ref (ad 198), .ref (ad 199), .ref (ad 200), .ref (ad 201), .int 0, .ref (ad 202), .int 0, .int 0, .int 0, .int 0, .int 0, .int 0, .int (-1), .ref (ad 203), .ref (ad 204), .ref (ad 205), .int 0, .int 0, .ref (ad 206), .ref (ad 207), .ref (ad 208), .int 0, .int 0, .int 0, .int 0, .int 0, .ref (ad 209), .ref (ad 210), .ref (ad 211), .long 0, .long 0, .ref (ad 212), .ref (ad 213), .int 0, .int 0, .ref (ad 214), .ref (ad 215), .ref (ad 216), .ref (ad 217)]) := by rw [← eg_5]; exact va_up_self _ _ _
  have h_7 : g_5 198 = .inl (cs 1, 118, .inl (fun _ => 0)) := by rw [← eg_5, va_up_ne _ _ (by decide)]; exact h_3
  have h_8 : g_5 203 = .inl (cs 1, 118, .inl (fun _ => 0)) := by rw [← eg_5, va_up_ne _ _ (by decide)]; exact h_4
  refine lv_aload_n hx hb dX12_street_13 rfl (lv_at hl 0 rfl) ?_
  refine lv_iconst (v := 0) hx hb dX12_street_14 (by decide) ?_
  refine q_put X iX12_street_12 tyX12 tyX12_ok nmX12 hP hj hA hS (by decide) h_6 rfl 8 (by decide) (List.mem_of_getElem? (i := 3) rfl) rfl (ty := .int) (v := .int 0) (by decide +kernel) rfl rfl (Nat.le_of_ble_eq_true rfl) dX12_street_15 (fun H locs hP hS => ?_)
  generalize eg_9 : va_up g_5 197 _ = g_9 at hP
  have h_10 : g_9 197 = .inr (12, [.int 0, .ref (ad 198), .ref (ad 199), .ref (ad 200), .ref (ad 201), .int 0, .ref (ad 202), .int 0, .int 0, .int 0, .int 0, .int 0, .int 0, .int (-1), .ref (ad 203), .ref (ad 204), .ref (ad 205), .int 0, .int 0, .ref (ad 206), .ref (ad 207), .ref (ad 208), .int 0, .int 0, .int 0, .int 0, .int 0, .ref (ad 209), .ref (ad 210), .ref (ad 211), .long 0, .long 0, .ref (ad 212), .ref (ad 213), .int 0, .int 0, .ref (ad 214), .ref (ad 215), .ref (ad 216), .ref (ad 217)]) := by rw [← eg_9]; exact va_up_self _ _ _
  have h_11 : g_9 198 = .inl (cs 1, 118, .inl (fun _ => 0)) := by rw [← eg_9, va_up_ne _ _ (by decide)]; exact h_7
  have h_12 : g_9 203 = .inl (cs 1, 118, .inl (fun _ => 0)) := by rw [← eg_9, va_up_ne _ _ (by decide)]; exact h_8
  refine lv_aload_n hx hb dX12_street_18 rfl (lv_at hl 0 rfl) ?_
  refine lv_iconst (v := 0) hx hb dX12_street_19 (by decide) ?_
  refine q_put X iX12_street_12 tyX12 tyX12_ok nmX12 hP hj hA hS (by decide) h_10 rfl 12 (by decide) (List.mem_of_getElem? (i := 4) rfl) rfl (ty := .int) (v := .int 0) (by decide +kernel) rfl rfl (Nat.le_of_ble_eq_true rfl) dX12_street_20 (fun H locs hP hS => ?_)
  generalize eg_13 : va_up g_9 197 _ = g_13 at hP
  have h_14 : g_13 197 = .inr (12, [.int 0, .ref (ad 198), .ref (ad 199), .ref (ad 200), .ref (ad 201), .int 0, .ref (ad 202), .int 0, .int 0, .int 0, .int 0, .int 0, .int 0, .int (-1), .ref (ad 203), .ref (ad 204), .ref (ad 205), .int 0, .int 0, .ref (ad 206), .ref (ad 207), .ref (ad 208), .int 0, .int 0, .int 0, .int 0, .int 0, .ref (ad 209), .ref (ad 210), .ref (ad 211), .long 0, .long 0, .ref (ad 212), .ref (ad 213), .int 0, .int 0, .ref (ad 214), .ref (ad 215), .ref (ad 216), .ref (ad 217)]) := by rw [← eg_13]; exact va_up_self _ _ _
  have h_15 : g_13 198 = .inl (cs 1, 118, .inl (fun _ => 0)) := by rw [← eg_13, va_up_ne _ _ (by decide)]; exact h_11
  have h_16 : g_13 203 = .inl (cs 1, 118, .inl (fun _ => 0)) := by rw [← eg_13, va_up_ne _ _ (by decide)]; exact h_12
  refine lv_aload_n hx hb dX12_street_23 rfl (lv_at hl 0 rfl) ?_
  refine lv_iconst (v := (-1)) hx hb dX12_street_24 (by decide) ?_
  refine q_put X iX12_street_12 tyX12 tyX12_ok nmX12 hP hj hA hS (by decide) h_14 rfl 13 (by decide) (List.mem_of_getElem? (i := 5) rfl) rfl (ty := .int) (v := .int (-1)) (by decide +kernel) rfl rfl (Nat.le_of_ble_eq_true rfl) dX12_street_25 (fun H locs hP hS => ?_)
  generalize eg_17 : va_up g_13 197 _ = g_17 at hP
  have h_18 : g_17 197 = .inr (12, [.int 0, .ref (ad 198), .ref (ad 199), .ref (ad 200), .ref (ad 201), .int 0, .ref (ad 202), .int 0, .int 0, .int 0, .int 0, .int 0, .int 0, .int (-1), .ref (ad 203), .ref (ad 204), .ref (ad 205), .int 0, .int 0, .ref (ad 206), .ref (ad 207), .ref (ad 208), .int 0, .int 0, .int 0, .int 0, .int 0, .ref (ad 209), .ref (ad 210), .ref (ad 211), .long 0, .long 0, .ref (ad 212), .ref (ad 213), .int 0, .int 0, .ref (ad 214), .ref (ad 215), .ref (ad 216), .ref (ad 217)]) := by rw [← eg_17]; exact va_up_self _ _ _
  have h_19 : g_17 198 = .inl (cs 1, 118, .inl (fun _ => 0)) := by rw [← eg_17, va_up_ne _ _ (by decide)]; exact h_15
  have h_20 : g_17 203 = .inl (cs 1, 118, .inl (fun _ => 0)) := by rw [← eg_17, va_up_ne _ _ (by decide)]; exact h_16
  refine lv_iconst (v := 0) hx hb dX12_street_28 (by decide) ?_
  refine lv_istore_n (lv' := [(1, .int 0), (0, .ref (ad 197))]) hx hb dX12_street_29 rfl hl (by decide) rfl (fun ls hl => ?_)
  have HL30 : ∀ (d30 k30 : Nat) (f30_203 : Nat → Int32) (G30 : Nat → va_E) (H : Heap) (locs : List Loc) (ls : Array Slot), k30 + d30 = 118 → (∀ j, f30_203 j = 0) → G30 197 = .inr (12, [.int 0, .ref (ad 198), .ref (ad 199), .ref (ad 200), .ref (ad 201), .int 0, .ref (ad 202), .int 0, .int 0, .int 0, .int 0, .int 0, .int 0, .int (-1), .ref (ad 203), .ref (ad 204), .ref (ad 205), .int 0, .int 0, .ref (ad 206), .ref (ad 207), .ref (ad 208), .int 0, .int 0, .int 0, .int 0, .int 0, .ref (ad 209), .ref (ad 210), .ref (ad 211), .long 0, .long 0, .ref (ad 212), .ref (ad 213), .int 0, .int 0, .ref (ad 214), .ref (ad 215), .ref (ad 216), .ref (ad 217)]) → G30 198 = .inl (cs 1, 118, .inl (fun _ => 0)) → G30 203 = .inl (cs 1, 118, .inl f30_203) → va_P D vwCl (wL ad G30 nW) H → va_S (wA ad nW) s.heap H locs → lv_has ls 2 [(1, .int (nI k30)), (0, .ref (ad 197))] → W p l e ({ frames := 2, cells := 0, slots := 0, locals := 42 } : Room) s m ([.ref (ad 197)] : List Value).toArray below meth c H locs 0 0 (MQ below (qI D ad nW (fun r g2 => r = 0)) ([.ref (ad 197)] : List Value).toArray s 0 0 (wA ad nW)) (F0 m 30 ls []) := by
    intro d30
    induction d30 with
    | zero =>
      intro k30 f30_203 G30 H locs ls hk30 hz30_203 h30_197 h30_198 h30_203 hP hS hl
      obtain rfl : k30 = 118 := by omega
      refine lv_iload_n hx hb dX12_street_30 rfl (lv_at hl 0 rfl) ?_
      refine lv_bipush (v := 118) hx hb dX12_street_31 (by decide) ?_
      refine lv_icmp_ge (tgt := 49) hx hb dX12_street_33 (by decide) (fun _ => ?_) (fun h => absurd h (by decide))
      refine lv_aload_n hx hb dX12_street_49 rfl (lv_at hl 1 rfl) ?_
      refine q_callv (q := (RX12, TX12, 40)) (As := []) (rest := []) X (m_advance l D cs ad hj G30  h30_197) (cwV 0 X.2.2.2.2.1 gg_X12_street_X12_advance rfl rfl rfl (by decide +kernel) ⟨Nat.le_of_ble_eq_true rfl, Nat.le_of_ble_eq_true rfl⟩) (by decide) h30_197 rfl hP hA hS rfl hl.1 rfl (Nat.le_of_ble_eq_true rfl) dX12_street_50 ⟨Nat.le_of_ble_eq_true rfl, Nat.le_of_ble_eq_true rfl⟩ (fun g_22 H locs hw_21 hP hS => ?_)
      obtain ⟨h_24, hf_25⟩ := hw_21
      have h_26 : g_22 198 = .inl (cs 1, 118, .inl (fun _ => 0)) := (hf_25 198 (by decide)).trans h30_198
      have h_27 : g_22 203 = .inl (cs 1, 118, .inl f30_203) := (hf_25 203 (by decide)).trans h30_203
      refine lv_aload_n hx hb dX12_street_53 rfl (lv_at hl 1 rfl) ?_
      refine q_calli (q := (RX12, TX12, 40)) (As := []) (rest := []) X (m_good l D cs ad hj g_22  h_24) (cwV 0 X.2.2.2.2.1 gg_X12_street_X12_good rfl rfl rfl (by decide +kernel) ⟨Nat.le_of_ble_eq_true rfl, Nat.le_of_ble_eq_true rfl⟩) (by decide) h_24 rfl hP hA hS rfl hl.1 rfl (Nat.le_of_ble_eq_true rfl) dX12_street_54 ⟨Nat.le_of_ble_eq_true rfl, Nat.le_of_ble_eq_true rfl⟩ (fun r_30 g_29 H locs hw_28 hP hS => ?_)
      obtain ⟨hw_28a, hw_28b⟩ := hw_28
      subst hw_28a
      rw [hw_28b] at hP
      refine lv_if_eq (tgt := 74) hx hb dX12_street_57 (by decide) (fun h => absurd h (by decide)) (fun _ => ?_)
      refine lv_aload_n hx hb dX12_street_60 rfl (lv_at hl 1 rfl) ?_
      refine q_get X iX12_street_12 hP (by decide) h_24 rfl 10 (by decide) (List.mem_of_getElem? (i := 16) rfl) (v := .int 0) rfl dX12_street_61 ?_
      refine lv_if_eq (tgt := 74) hx hb dX12_street_64 (by decide) (fun _ => ?_) (fun h => absurd h (by decide))
      refine lv_aload_n hx hb dX12_street_74 rfl (lv_at hl 1 rfl) ?_
      refine q_calli (q := (RX12, TX12, 40)) (As := []) (rest := []) X (m_good l D cs ad hj g_22  h_24) (cwV 0 X.2.2.2.2.1 gg_X12_street_X12_good rfl rfl rfl (by decide +kernel) ⟨Nat.le_of_ble_eq_true rfl, Nat.le_of_ble_eq_true rfl⟩) (by decide) h_24 rfl hP hA hS rfl hl.1 rfl (Nat.le_of_ble_eq_true rfl) dX12_street_75 ⟨Nat.le_of_ble_eq_true rfl, Nat.le_of_ble_eq_true rfl⟩ (fun r_33 g_32 H locs hw_31 hP hS => ?_)
      obtain ⟨hw_31a, hw_31b⟩ := hw_31
      subst hw_31a
      rw [hw_31b] at hP
      refine lv_if_ne (tgt := 84) hx hb dX12_street_78 (by decide) (fun _ => ?_) (fun h => absurd h (by decide))
      refine lv_iconst (v := 0) hx hb dX12_street_84 (by decide) ?_
      refine lv_istore_n (lv' := [(1, .int 0), (0, .ref (ad 197))]) hx hb dX12_street_85 rfl hl (by decide) rfl (fun ls hl => ?_)
      have HL86 : ∀ (d86 k86 : Nat) (f86_198 : Nat → Int32) (G86 : Nat → va_E) (H : Heap) (locs : List Loc) (ls : Array Slot), k86 + d86 = 118 → (∀ j, f86_198 j = 0) → G86 197 = .inr (12, [.int 0, .ref (ad 198), .ref (ad 199), .ref (ad 200), .ref (ad 201), .int 0, .ref (ad 202), .int 0, .int 0, .int 0, .int 0, .int 0, .int 0, .int (-1), .ref (ad 203), .ref (ad 204), .ref (ad 205), .int 0, .int 0, .ref (ad 206), .ref (ad 207), .ref (ad 208), .int 0, .int 0, .int 0, .int 0, .int 0, .ref (ad 209), .ref (ad 210), .ref (ad 211), .long 0, .long 0, .ref (ad 212), .ref (ad 213), .int 0, .int 0, .ref (ad 214), .ref (ad 215), .ref (ad 216), .ref (ad 217)]) → G86 198 = .inl (cs 1, 118, .inl f86_198) → G86 203 = .inl (cs 1, 118, .inl f30_203) → va_P D vwCl (wL ad G86 nW) H → va_S (wA ad nW) s.heap H locs → lv_has ls 2 [(1, .int (nI k86)), (0, .ref (ad 197))] → W p l e ({ frames := 2, cells := 0, slots := 0, locals := 42 } : Room) s m ([.ref (ad 197)] : List Value).toArray below meth c H locs 0 0 (MQ below (qI D ad nW (fun r g2 => r = 0)) ([.ref (ad 197)] : List Value).toArray s 0 0 (wA ad nW)) (F0 m 86 ls []) := by
        intro d86
        induction d86 with
        | zero =>
          intro k86 f86_198 G86 H locs ls hk86 hz86_198 h86_197 h86_198 h86_203 hP hS hl
          obtain rfl : k86 = 118 := by omega
          refine lv_iload_n hx hb dX12_street_86 rfl (lv_at hl 0 rfl) ?_
          refine lv_bipush (v := 118) hx hb dX12_street_87 (by decide) ?_
          refine lv_icmp_ge (tgt := 110) hx hb dX12_street_89 (by decide) (fun _ => ?_) (fun h => absurd h (by decide))
          refine lv_aload_n hx hb dX12_street_110 rfl (lv_at hl 1 rfl) ?_
          refine q_get X iX12_street_12 hP (by decide) h86_197 rfl 1 (by decide) (List.mem_of_getElem? (i := 21) rfl) (v := .ref (ad 198)) rfl dX12_street_111 ?_
          refine lv_bipush (v := 8) hx hb dX12_street_114 (by decide) ?_
          refine q_ialdv X hP (by decide) h86_198 (by unfold vp_in; decide) (v := 0) (hz86_198 _) dX12_street_116 ?_
          exact q_iret X hP hS rfl dX12_street_117
        | succ d86 ih86 =>
          intro k86 f86_198 G86 H locs ls hk86 hz86_198 h86_197 h86_198 h86_203 hP hS hl
          refine lv_iload_n hx hb dX12_street_86 rfl (lv_at hl 0 rfl) ?_
          refine lv_bipush (v := 118) hx hb dX12_street_87 (by decide) ?_
          refine lv_icmp_ge (tgt := 110) hx hb dX12_street_89 (by decide) (fun hc_89 => absurd hc_89 (nI_ge (a := k86) (b := 118) (by omega) (by decide))) (fun hc_89 => ?_)
          refine lv_aload_n hx hb dX12_street_92 rfl (lv_at hl 1 rfl) ?_
          refine q_get X iX12_street_12 hP (by decide) h86_197 rfl 1 (by decide) (List.mem_of_getElem? (i := 21) rfl) (v := .ref (ad 198)) rfl dX12_street_93 ?_
          refine lv_iload_n hx hb dX12_street_96 rfl (lv_at hl 0 rfl) ?_
          refine lv_aload_n hx hb dX12_street_97 rfl (lv_at hl 1 rfl) ?_
          refine q_get X iX12_street_12 hP (by decide) h86_197 rfl 14 (by decide) (List.mem_of_getElem? (i := 22) rfl) (v := .ref (ad 203)) rfl dX12_street_98 ?_
          refine lv_iload_n hx hb dX12_street_101 rfl (lv_at hl 0 rfl) ?_
          refine q_ialdv X hP (by decide) h86_203 (vp_in_nI (by omega) (by decide)) (v := 0) (hz30_203 _) dX12_street_102 ?_
          refine q_iast X hP hj hA hS (by decide) h86_198 (vp_in_nI (by omega) (by decide)) dX12_street_103 (fun H locs hP hS => ?_)
          generalize eg_34 : va_up G86 198 _ = g_34 at hP
          have h_36 : g_34 197 = .inr (12, [.int 0, .ref (ad 198), .ref (ad 199), .ref (ad 200), .ref (ad 201), .int 0, .ref (ad 202), .int 0, .int 0, .int 0, .int 0, .int 0, .int 0, .int (-1), .ref (ad 203), .ref (ad 204), .ref (ad 205), .int 0, .int 0, .ref (ad 206), .ref (ad 207), .ref (ad 208), .int 0, .int 0, .int 0, .int 0, .int 0, .ref (ad 209), .ref (ad 210), .ref (ad 211), .long 0, .long 0, .ref (ad 212), .ref (ad 213), .int 0, .int 0, .ref (ad 214), .ref (ad 215), .ref (ad 216), .ref (ad 217)]) := by rw [← eg_34, va_up_ne _ _ (by decide)]; exact h86_197
          obtain ⟨f_35, hz_38, h_37⟩ : ∃ f : Nat → Int32, (∀ j, f j = 0) ∧ g_34 198 = .inl (cs 1, 118, .inl f) := ⟨_, fun j => z_upd hz86_198 _ j, by rw [← eg_34]; exact va_up_self _ _ _⟩
          have h_39 : g_34 203 = .inl (cs 1, 118, .inl f30_203) := by rw [← eg_34, va_up_ne _ _ (by decide)]; exact h86_203
          refine lv_iinc (v := (nI (k86 + 1))) (lv' := [(1, .int (nI (k86 + 1))), (0, .ref (ad 197))]) hx hb dX12_street_104 hl (k := 0) rfl (nI_add k86 1) (by decide) rfl (fun ls hl => ?_)
          refine lv_goto (tgt := 86) hx hb dX12_street_107 (by decide) ?_
          exact ih86 (k86 + 1) _ g_34 _ _ ls (by omega) hz_38 h_36 h_37 h_39 hP hS (lv_sub hl [0, 1] rfl)
      exact HL86 118 0 _ g_22 _ _ ls (by omega) (fun _ => rfl) h_24 h_26 h_27 hP hS (lv_sub hl [0, 1] rfl)
    | succ d30 ih30 =>
      intro k30 f30_203 G30 H locs ls hk30 hz30_203 h30_197 h30_198 h30_203 hP hS hl
      refine lv_iload_n hx hb dX12_street_30 rfl (lv_at hl 0 rfl) ?_
      refine lv_bipush (v := 118) hx hb dX12_street_31 (by decide) ?_
      refine lv_icmp_ge (tgt := 49) hx hb dX12_street_33 (by decide) (fun hc_33 => absurd hc_33 (nI_ge (a := k30) (b := 118) (by omega) (by decide))) (fun hc_33 => ?_)
      refine lv_aload_n hx hb dX12_street_36 rfl (lv_at hl 1 rfl) ?_
      refine q_get X iX12_street_12 hP (by decide) h30_197 rfl 14 (by decide) (List.mem_of_getElem? (i := 22) rfl) (v := .ref (ad 203)) rfl dX12_street_37 ?_
      refine lv_iload_n hx hb dX12_street_40 rfl (lv_at hl 0 rfl) ?_
      refine lv_iconst (v := 0) hx hb dX12_street_41 (by decide) ?_
      refine q_iast X hP hj hA hS (by decide) h30_203 (vp_in_nI (by omega) (by decide)) dX12_street_42 (fun H locs hP hS => ?_)
      generalize eg_40 : va_up G30 203 _ = g_40 at hP
      have h_42 : g_40 197 = .inr (12, [.int 0, .ref (ad 198), .ref (ad 199), .ref (ad 200), .ref (ad 201), .int 0, .ref (ad 202), .int 0, .int 0, .int 0, .int 0, .int 0, .int 0, .int (-1), .ref (ad 203), .ref (ad 204), .ref (ad 205), .int 0, .int 0, .ref (ad 206), .ref (ad 207), .ref (ad 208), .int 0, .int 0, .int 0, .int 0, .int 0, .ref (ad 209), .ref (ad 210), .ref (ad 211), .long 0, .long 0, .ref (ad 212), .ref (ad 213), .int 0, .int 0, .ref (ad 214), .ref (ad 215), .ref (ad 216), .ref (ad 217)]) := by rw [← eg_40, va_up_ne _ _ (by decide)]; exact h30_197
      have h_43 : g_40 198 = .inl (cs 1, 118, .inl (fun _ => 0)) := by rw [← eg_40, va_up_ne _ _ (by decide)]; exact h30_198
      obtain ⟨f_41, hz_45, h_44⟩ : ∃ f : Nat → Int32, (∀ j, f j = 0) ∧ g_40 203 = .inl (cs 1, 118, .inl f) := ⟨_, fun j => z_upd hz30_203 _ j, by rw [← eg_40]; exact va_up_self _ _ _⟩
      refine lv_iinc (v := (nI (k30 + 1))) (lv' := [(1, .int (nI (k30 + 1))), (0, .ref (ad 197))]) hx hb dX12_street_43 hl (k := 0) rfl (nI_add k30 1) (by decide) rfl (fun ls hl => ?_)
      refine lv_goto (tgt := 30) hx hb dX12_street_46 (by decide) ?_
      exact ih30 (k30 + 1) _ g_40 _ _ ls (by omega) hz_45 h_42 h_43 h_44 hP hS (lv_sub hl [0, 1] rfl)
  exact HL30 118 0 _ g_17 _ _ ls (by omega) (fun _ => rfl) h_18 h_19 h_20 hP hS (lv_sub hl [0, 1] rfl)
end
