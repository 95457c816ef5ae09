section
-- ===== PART A: goes FIRST, ahead of the names: the tables' words, and 'selects' of the private methods out of them =====
/-- a private method of a class that the tables say can be made, by its rows of tables_1 -/
def lw_okq (q : MethodName × Nat) : Prop := (q.1.cls ≠ "java/lang/invoke/MethodHandle" ∧ q.1.cls ≠ "java/lang/invoke/VarHandle") ∧ Cond.instantiable q.1.cls q.2 ∈ tables_1 ∧ Cond.privateMethod q.1 ∈ tables_1 ∧ Cond.instanceMethod q.1 ∈ tables_1
theorem lw_p0 : lw_okq (⟨"IcicleClock$Acts", "tally", "(III)V"⟩, 5) := ⟨⟨by decide +kernel, by decide +kernel⟩, List.mem_of_getElem? (i := 69) (by decide +kernel), List.mem_of_getElem? (i := 464) (by decide +kernel), List.mem_of_getElem? (i := 465) (by decide +kernel)⟩
theorem lw_p1 : lw_okq (⟨"IcicleClock$Tape", "advance", "()V"⟩, 7) := ⟨⟨by decide +kernel, by decide +kernel⟩, List.mem_of_getElem? (i := 31) (by decide +kernel), List.mem_of_getElem? (i := 468) (by decide +kernel), List.mem_of_getElem? (i := 469) (by decide +kernel)⟩
theorem lw_p2 : lw_okq (⟨"IcicleClock$Tape", "readFirst", "(LIcicleClock$Street;)V"⟩, 7) := ⟨⟨by decide +kernel, by decide +kernel⟩, List.mem_of_getElem? (i := 31) (by decide +kernel), List.mem_of_getElem? (i := 475) (by decide +kernel), List.mem_of_getElem? (i := 476) (by decide +kernel)⟩
theorem lw_p3 : lw_okq (⟨"IcicleClock$Tape", "isWord", "(Ljava/lang/String;)Z"⟩, 7) := ⟨⟨by decide +kernel, by decide +kernel⟩, List.mem_of_getElem? (i := 31) (by decide +kernel), List.mem_of_getElem? (i := 480) (by decide +kernel), List.mem_of_getElem? (i := 481) (by decide +kernel)⟩
theorem lw_p4 : lw_okq (⟨"IcicleClock$Tape", "pass", "(Z)V"⟩, 7) := ⟨⟨by decide +kernel, by decide +kernel⟩, List.mem_of_getElem? (i := 31) (by decide +kernel), List.mem_of_getElem? (i := 532) (by decide +kernel), List.mem_of_getElem? (i := 533) (by decide +kernel)⟩
theorem lw_p5 : lw_okq (⟨"IcicleClock$Tape", "blame", "(I)V"⟩, 7) := ⟨⟨by decide +kernel, by decide +kernel⟩, List.mem_of_getElem? (i := 31) (by decide +kernel), List.mem_of_getElem? (i := 536) (by decide +kernel), List.mem_of_getElem? (i := 537) (by decide +kernel)⟩
theorem lw_p6 : lw_okq (⟨"IcicleClock$Tape", "numberBehind", "(Ljava/lang/String;I)I"⟩, 7) := ⟨⟨by decide +kernel, by decide +kernel⟩, List.mem_of_getElem? (i := 31) (by decide +kernel), List.mem_of_getElem? (i := 541) (by decide +kernel), List.mem_of_getElem? (i := 542) (by decide +kernel)⟩
theorem lw_p7 : lw_okq (⟨"IcicleClock$Tape", "passNumber", "(II)I"⟩, 7) := ⟨⟨by decide +kernel, by decide +kernel⟩, List.mem_of_getElem? (i := 31) (by decide +kernel), List.mem_of_getElem? (i := 545) (by decide +kernel), List.mem_of_getElem? (i := 546) (by decide +kernel)⟩
theorem lw_p8 : lw_okq (⟨"IcicleClock$Tape", "numberHere", "()I"⟩, 7) := ⟨⟨by decide +kernel, by decide +kernel⟩, List.mem_of_getElem? (i := 31) (by decide +kernel), List.mem_of_getElem? (i := 549) (by decide +kernel), List.mem_of_getElem? (i := 550) (by decide +kernel)⟩
theorem lw_p9 : lw_okq (⟨"IcicleClock$Tape", "readDay", "(LIcicleClock$Street;)V"⟩, 7) := ⟨⟨by decide +kernel, by decide +kernel⟩, List.mem_of_getElem? (i := 31) (by decide +kernel), List.mem_of_getElem? (i := 559) (by decide +kernel), List.mem_of_getElem? (i := 560) (by decide +kernel)⟩
theorem lw_p10 : lw_okq (⟨"IcicleClock$Tape", "readEave", "(LIcicleClock$Street;)V"⟩, 7) := ⟨⟨by decide +kernel, by decide +kernel⟩, List.mem_of_getElem? (i := 31) (by decide +kernel), List.mem_of_getElem? (i := 566) (by decide +kernel), List.mem_of_getElem? (i := 567) (by decide +kernel)⟩
theorem lw_p11 : lw_okq (⟨"IcicleClock$Tape", "readIcicle", "(LIcicleClock$Street;)V"⟩, 7) := ⟨⟨by decide +kernel, by decide +kernel⟩, List.mem_of_getElem? (i := 31) (by decide +kernel), List.mem_of_getElem? (i := 572) (by decide +kernel), List.mem_of_getElem? (i := 573) (by decide +kernel)⟩
theorem lw_p12 : lw_okq (⟨"IcicleClock$Tape", "readDue", "(LIcicleClock$Street;)V"⟩, 7) := ⟨⟨by decide +kernel, by decide +kernel⟩, List.mem_of_getElem? (i := 31) (by decide +kernel), List.mem_of_getElem? (i := 580) (by decide +kernel), List.mem_of_getElem? (i := 581) (by decide +kernel)⟩
theorem lw_p13 : lw_okq (⟨"IcicleClock", "isDay", "(I)Z"⟩, 14) := ⟨⟨by decide +kernel, by decide +kernel⟩, List.mem_of_getElem? (i := 23) (by decide +kernel), List.mem_of_getElem? (i := 629) (by decide +kernel), List.mem_of_getElem? (i := 630) (by decide +kernel)⟩
theorem lw_p14 : lw_okq (⟨"IcicleClock", "isEave", "(I)Z"⟩, 14) := ⟨⟨by decide +kernel, by decide +kernel⟩, List.mem_of_getElem? (i := 23) (by decide +kernel), List.mem_of_getElem? (i := 637) (by decide +kernel), List.mem_of_getElem? (i := 638) (by decide +kernel)⟩
theorem lw_p15 : lw_okq (⟨"IcicleClock", "isIcicle", "(I)Z"⟩, 14) := ⟨⟨by decide +kernel, by decide +kernel⟩, List.mem_of_getElem? (i := 23) (by decide +kernel), List.mem_of_getElem? (i := 646) (by decide +kernel), List.mem_of_getElem? (i := 647) (by decide +kernel)⟩
def lw_privs_1 : List (MethodName × Nat) := [(⟨"IcicleClock$Acts", "tally", "(III)V"⟩, 5), (⟨"IcicleClock$Tape", "advance", "()V"⟩, 7), (⟨"IcicleClock$Tape", "readFirst", "(LIcicleClock$Street;)V"⟩, 7), (⟨"IcicleClock$Tape", "isWord", "(Ljava/lang/String;)Z"⟩, 7), (⟨"IcicleClock$Tape", "pass", "(Z)V"⟩, 7), (⟨"IcicleClock$Tape", "blame", "(I)V"⟩, 7), (⟨"IcicleClock$Tape", "numberBehind", "(Ljava/lang/String;I)I"⟩, 7), (⟨"IcicleClock$Tape", "passNumber", "(II)I"⟩, 7), (⟨"IcicleClock$Tape", "numberHere", "()I"⟩, 7), (⟨"IcicleClock$Tape", "readDay", "(LIcicleClock$Street;)V"⟩, 7), (⟨"IcicleClock$Tape", "readEave", "(LIcicleClock$Street;)V"⟩, 7), (⟨"IcicleClock$Tape", "readIcicle", "(LIcicleClock$Street;)V"⟩, 7), (⟨"IcicleClock$Tape", "readDue", "(LIcicleClock$Street;)V"⟩, 7), (⟨"IcicleClock", "isDay", "(I)Z"⟩, 14), (⟨"IcicleClock", "isEave", "(I)Z"⟩, 14), (⟨"IcicleClock", "isIcicle", "(I)Z"⟩, 14)]
theorem lw_r1 : ∀ q ∈ lw_privs_1, lw_okq q := List.forall_mem_cons.mpr ⟨lw_p0, List.forall_mem_cons.mpr ⟨lw_p1, List.forall_mem_cons.mpr ⟨lw_p2, List.forall_mem_cons.mpr ⟨lw_p3, List.forall_mem_cons.mpr ⟨lw_p4, List.forall_mem_cons.mpr ⟨lw_p5, List.forall_mem_cons.mpr ⟨lw_p6, List.forall_mem_cons.mpr ⟨lw_p7, List.forall_mem_cons.mpr ⟨lw_p8, List.forall_mem_cons.mpr ⟨lw_p9, List.forall_mem_cons.mpr ⟨lw_p10, List.forall_mem_cons.mpr ⟨lw_p11, List.forall_mem_cons.mpr ⟨lw_p12, List.forall_mem_cons.mpr ⟨lw_p13, List.forall_mem_cons.mpr ⟨lw_p14, List.forall_mem_cons.mpr ⟨lw_p15, fun _ h => absurd h List.not_mem_nil⟩⟩⟩⟩⟩⟩⟩⟩⟩⟩⟩⟩⟩⟩⟩⟩
theorem lw_p16 : lw_okq (⟨"IcicleClock", "isWork", "(I)Z"⟩, 14) := ⟨⟨by decide +kernel, by decide +kernel⟩, List.mem_of_getElem? (i := 23) (by decide +kernel), List.mem_of_getElem? (i := 654) (by decide +kernel), List.mem_of_getElem? (i := 655) (by decide +kernel)⟩
theorem lw_p17 : lw_okq (⟨"IcicleClock", "isTold", "()Z"⟩, 14) := ⟨⟨by decide +kernel, by decide +kernel⟩, List.mem_of_getElem? (i := 23) (by decide +kernel), List.mem_of_getElem? (i := 714) (by decide +kernel), List.mem_of_getElem? (i := 715) (by decide +kernel)⟩
theorem lw_p18 : lw_okq (⟨"IcicleClock", "leastSize", "(II)I"⟩, 14) := ⟨⟨by decide +kernel, by decide +kernel⟩, List.mem_of_getElem? (i := 23) (by decide +kernel), List.mem_of_getElem? (i := 799) (by decide +kernel), List.mem_of_getElem? (i := 800) (by decide +kernel)⟩
theorem lw_p19 : lw_okq (⟨"IcicleClock", "mostSize", "(II)I"⟩, 14) := ⟨⟨by decide +kernel, by decide +kernel⟩, List.mem_of_getElem? (i := 23) (by decide +kernel), List.mem_of_getElem? (i := 803) (by decide +kernel), List.mem_of_getElem? (i := 804) (by decide +kernel)⟩
theorem lw_p20 : lw_okq (⟨"IcicleClock", "bestLength", "(I)I"⟩, 14) := ⟨⟨by decide +kernel, by decide +kernel⟩, List.mem_of_getElem? (i := 23) (by decide +kernel), List.mem_of_getElem? (i := 820) (by decide +kernel), List.mem_of_getElem? (i := 821) (by decide +kernel)⟩
theorem lw_p21 : lw_okq (⟨"IcicleClock", "offIfHung", "(II)I"⟩, 14) := ⟨⟨by decide +kernel, by decide +kernel⟩, List.mem_of_getElem? (i := 23) (by decide +kernel), List.mem_of_getElem? (i := 824) (by decide +kernel), List.mem_of_getElem? (i := 825) (by decide +kernel)⟩
theorem lw_p22 : lw_okq (⟨"IcicleClock", "areEaves", "(I)Z"⟩, 14) := ⟨⟨by decide +kernel, by decide +kernel⟩, List.mem_of_getElem? (i := 23) (by decide +kernel), List.mem_of_getElem? (i := 841) (by decide +kernel), List.mem_of_getElem? (i := 842) (by decide +kernel)⟩
theorem lw_p23 : lw_okq (⟨"IcicleClock", "refusal", "(IZI)I"⟩, 14) := ⟨⟨by decide +kernel, by decide +kernel⟩, List.mem_of_getElem? (i := 23) (by decide +kernel), List.mem_of_getElem? (i := 859) (by decide +kernel), List.mem_of_getElem? (i := 860) (by decide +kernel)⟩
theorem lw_p24 : lw_okq (⟨"IcicleClock$Seen", "note", "(II)V"⟩, 2) := ⟨⟨by decide +kernel, by decide +kernel⟩, List.mem_of_getElem? (i := 268) (by decide +kernel), List.mem_of_getElem? (i := 874) (by decide +kernel), List.mem_of_getElem? (i := 875) (by decide +kernel)⟩
theorem lw_p25 : lw_okq (⟨"IcicleClock$Slams", "searchUnder", "(LIcicleClock$Street;LIcicleClock$Winter;LIcicleClock$Seen;I)V"⟩, 3) := ⟨⟨by decide +kernel, by decide +kernel⟩, List.mem_of_getElem? (i := 283) (by decide +kernel), List.mem_of_getElem? (i := 884) (by decide +kernel), List.mem_of_getElem? (i := 885) (by decide +kernel)⟩
theorem lw_p26 : lw_okq (⟨"IcicleClock$Slams", "note", "(LIcicleClock$Street;LIcicleClock$Winter;)V"⟩, 3) := ⟨⟨by decide +kernel, by decide +kernel⟩, List.mem_of_getElem? (i := 283) (by decide +kernel), List.mem_of_getElem? (i := 896) (by decide +kernel), List.mem_of_getElem? (i := 897) (by decide +kernel)⟩
theorem lw_p27 : lw_okq (⟨"IcicleClock", "weatherRefusal", "(IIZ)I"⟩, 14) := ⟨⟨by decide +kernel, by decide +kernel⟩, List.mem_of_getElem? (i := 23) (by decide +kernel), List.mem_of_getElem? (i := 922) (by decide +kernel), List.mem_of_getElem? (i := 923) (by decide +kernel)⟩
theorem lw_p28 : lw_okq (⟨"IcicleClock$Weathers", "bound", "(II)V"⟩, 4) := ⟨⟨by decide +kernel, by decide +kernel⟩, List.mem_of_getElem? (i := 302) (by decide +kernel), List.mem_of_getElem? (i := 935) (by decide +kernel), List.mem_of_getElem? (i := 936) (by decide +kernel)⟩
theorem lw_p29 : lw_okq (⟨"IcicleClock$Weathers", "countGoings", "()V"⟩, 4) := ⟨⟨by decide +kernel, by decide +kernel⟩, List.mem_of_getElem? (i := 302) (by decide +kernel), List.mem_of_getElem? (i := 939) (by decide +kernel), List.mem_of_getElem? (i := 940) (by decide +kernel)⟩
theorem lw_p30 : lw_okq (⟨"IcicleClock$Weathers", "goingsBy", "(II)I"⟩, 4) := ⟨⟨by decide +kernel, by decide +kernel⟩, List.mem_of_getElem? (i := 302) (by decide +kernel), List.mem_of_getElem? (i := 944) (by decide +kernel), List.mem_of_getElem? (i := 945) (by decide +kernel)⟩
theorem lw_p31 : lw_okq (⟨"IcicleClock$Weathers", "sumsReached", "()I"⟩, 4) := ⟨⟨by decide +kernel, by decide +kernel⟩, List.mem_of_getElem? (i := 302) (by decide +kernel), List.mem_of_getElem? (i := 968) (by decide +kernel), List.mem_of_getElem? (i := 969) (by decide +kernel)⟩
def lw_privs_2 : List (MethodName × Nat) := [(⟨"IcicleClock", "isWork", "(I)Z"⟩, 14), (⟨"IcicleClock", "isTold", "()Z"⟩, 14), (⟨"IcicleClock", "leastSize", "(II)I"⟩, 14), (⟨"IcicleClock", "mostSize", "(II)I"⟩, 14), (⟨"IcicleClock", "bestLength", "(I)I"⟩, 14), (⟨"IcicleClock", "offIfHung", "(II)I"⟩, 14), (⟨"IcicleClock", "areEaves", "(I)Z"⟩, 14), (⟨"IcicleClock", "refusal", "(IZI)I"⟩, 14), (⟨"IcicleClock$Seen", "note", "(II)V"⟩, 2), (⟨"IcicleClock$Slams", "searchUnder", "(LIcicleClock$Street;LIcicleClock$Winter;LIcicleClock$Seen;I)V"⟩, 3), (⟨"IcicleClock$Slams", "note", "(LIcicleClock$Street;LIcicleClock$Winter;)V"⟩, 3), (⟨"IcicleClock", "weatherRefusal", "(IIZ)I"⟩, 14), (⟨"IcicleClock$Weathers", "bound", "(II)V"⟩, 4), (⟨"IcicleClock$Weathers", "countGoings", "()V"⟩, 4), (⟨"IcicleClock$Weathers", "goingsBy", "(II)I"⟩, 4), (⟨"IcicleClock$Weathers", "sumsReached", "()I"⟩, 4)]
theorem lw_r2 : ∀ q ∈ lw_privs_2, lw_okq q := List.forall_mem_cons.mpr ⟨lw_p16, List.forall_mem_cons.mpr ⟨lw_p17, List.forall_mem_cons.mpr ⟨lw_p18, List.forall_mem_cons.mpr ⟨lw_p19, List.forall_mem_cons.mpr ⟨lw_p20, List.forall_mem_cons.mpr ⟨lw_p21, List.forall_mem_cons.mpr ⟨lw_p22, List.forall_mem_cons.mpr ⟨lw_p23, List.forall_mem_cons.mpr ⟨lw_p24, List.forall_mem_cons.mpr ⟨lw_p25, List.forall_mem_cons.mpr ⟨lw_p26, List.forall_mem_cons.mpr ⟨lw_p27, List.forall_mem_cons.mpr ⟨lw_p28, List.forall_mem_cons.mpr ⟨lw_p29, List.forall_mem_cons.mpr ⟨lw_p30, List.forall_mem_cons.mpr ⟨lw_p31, fun _ h => absurd h List.not_mem_nil⟩⟩⟩⟩⟩⟩⟩⟩⟩⟩⟩⟩⟩⟩⟩⟩
theorem lw_p32 : lw_okq (⟨"IcicleClock$Chances", "warmOrNot", "(I)V"⟩, 4) := ⟨⟨by decide +kernel, by decide +kernel⟩, List.mem_of_getElem? (i := 322) (by decide +kernel), List.mem_of_getElem? (i := 988) (by decide +kernel), List.mem_of_getElem? (i := 989) (by decide +kernel)⟩
theorem lw_p33 : lw_okq (⟨"IcicleClock$Chances", "letFall", "(II)J"⟩, 4) := ⟨⟨by decide +kernel, by decide +kernel⟩, List.mem_of_getElem? (i := 322) (by decide +kernel), List.mem_of_getElem? (i := 995) (by decide +kernel), List.mem_of_getElem? (i := 996) (by decide +kernel)⟩
theorem lw_p34 : lw_okq (⟨"IcicleClock$Walker", "planFrom", "(II)V"⟩, 6) := ⟨⟨by decide +kernel, by decide +kernel⟩, List.mem_of_getElem? (i := 343) (by decide +kernel), List.mem_of_getElem? (i := 1023) (by decide +kernel), List.mem_of_getElem? (i := 1024) (by decide +kernel)⟩
theorem lw_p35 : lw_okq (⟨"IcicleClock$Walker", "firstOf", "(IIII)I"⟩, 6) := ⟨⟨by decide +kernel, by decide +kernel⟩, List.mem_of_getElem? (i := 343) (by decide +kernel), List.mem_of_getElem? (i := 1037) (by decide +kernel), List.mem_of_getElem? (i := 1038) (by decide +kernel)⟩
theorem lw_p36 : lw_okq (⟨"IcicleClock$Clerks", "isRest", "(LIcicleClock$Street;II)Z"⟩, 3) := ⟨⟨by decide +kernel, by decide +kernel⟩, List.mem_of_getElem? (i := 370) (by decide +kernel), List.mem_of_getElem? (i := 1059) (by decide +kernel), List.mem_of_getElem? (i := 1060) (by decide +kernel)⟩
theorem lw_p37 : lw_okq (⟨"IcicleClock$Clerks", "firstHas", "(LIcicleClock$Street;II)I"⟩, 3) := ⟨⟨by decide +kernel, by decide +kernel⟩, List.mem_of_getElem? (i := 370) (by decide +kernel), List.mem_of_getElem? (i := 1063) (by decide +kernel), List.mem_of_getElem? (i := 1064) (by decide +kernel)⟩
theorem lw_p38 : lw_okq (⟨"IcicleClock$Clerks", "secondHas", "(LIcicleClock$Street;II)I"⟩, 3) := ⟨⟨by decide +kernel, by decide +kernel⟩, List.mem_of_getElem? (i := 370) (by decide +kernel), List.mem_of_getElem? (i := 1067) (by decide +kernel), List.mem_of_getElem? (i := 1068) (by decide +kernel)⟩
theorem lw_p39 : lw_okq (⟨"IcicleClock", "drawWinter", "(J)V"⟩, 14) := ⟨⟨by decide +kernel, by decide +kernel⟩, List.mem_of_getElem? (i := 23) (by decide +kernel), List.mem_of_getElem? (i := 1102) (by decide +kernel), List.mem_of_getElem? (i := 1103) (by decide +kernel)⟩
theorem lw_p40 : lw_okq (⟨"IcicleClock", "slotsLaid", "()I"⟩, 14) := ⟨⟨by decide +kernel, by decide +kernel⟩, List.mem_of_getElem? (i := 23) (by decide +kernel), List.mem_of_getElem? (i := 1123) (by decide +kernel), List.mem_of_getElem? (i := 1124) (by decide +kernel)⟩
theorem lw_p41 : lw_okq (⟨"IcicleClockModel", "advance", "()V"⟩, 40) := ⟨⟨by decide +kernel, by decide +kernel⟩, List.mem_of_getElem? (i := 1160) (by decide +kernel), List.mem_of_getElem? (i := 1314) (by decide +kernel), List.mem_of_getElem? (i := 1315) (by decide +kernel)⟩
theorem lw_p42 : lw_okq (⟨"IcicleClockModel", "see", "(I)I"⟩, 40) := ⟨⟨by decide +kernel, by decide +kernel⟩, List.mem_of_getElem? (i := 1160) (by decide +kernel), List.mem_of_getElem? (i := 1318) (by decide +kernel), List.mem_of_getElem? (i := 1319) (by decide +kernel)⟩
theorem lw_p43 : lw_okq (⟨"IcicleClockModel", "good", "()Z"⟩, 40) := ⟨⟨by decide +kernel, by decide +kernel⟩, List.mem_of_getElem? (i := 1160) (by decide +kernel), List.mem_of_getElem? (i := 1328) (by decide +kernel), List.mem_of_getElem? (i := 1329) (by decide +kernel)⟩
theorem lw_p44 : lw_okq (⟨"IcicleClockModel", "readLine", "()V"⟩, 40) := ⟨⟨by decide +kernel, by decide +kernel⟩, List.mem_of_getElem? (i := 1160) (by decide +kernel), List.mem_of_getElem? (i := 1332) (by decide +kernel), List.mem_of_getElem? (i := 1333) (by decide +kernel)⟩
theorem lw_p45 : lw_okq (⟨"IcicleClockModel", "needs", "(Ljava/lang/String;)V"⟩, 40) := ⟨⟨by decide +kernel, by decide +kernel⟩, List.mem_of_getElem? (i := 1160) (by decide +kernel), List.mem_of_getElem? (i := 1337) (by decide +kernel), List.mem_of_getElem? (i := 1338) (by decide +kernel)⟩
theorem lw_p46 : lw_okq (⟨"IcicleClockModel", "takes", "(Ljava/lang/String;)Z"⟩, 40) := ⟨⟨by decide +kernel, by decide +kernel⟩, List.mem_of_getElem? (i := 1160) (by decide +kernel), List.mem_of_getElem? (i := 1341) (by decide +kernel), List.mem_of_getElem? (i := 1342) (by decide +kernel)⟩
theorem lw_p47 : lw_okq (⟨"IcicleClockModel", "is", "(Ljava/lang/String;)Z"⟩, 40) := ⟨⟨by decide +kernel, by decide +kernel⟩, List.mem_of_getElem? (i := 1160) (by decide +kernel), List.mem_of_getElem? (i := 1345) (by decide +kernel), List.mem_of_getElem? (i := 1346) (by decide +kernel)⟩
def lw_privs_3 : List (MethodName × Nat) := [(⟨"IcicleClock$Chances", "warmOrNot", "(I)V"⟩, 4), (⟨"IcicleClock$Chances", "letFall", "(II)J"⟩, 4), (⟨"IcicleClock$Walker", "planFrom", "(II)V"⟩, 6), (⟨"IcicleClock$Walker", "firstOf", "(IIII)I"⟩, 6), (⟨"IcicleClock$Clerks", "isRest", "(LIcicleClock$Street;II)Z"⟩, 3), (⟨"IcicleClock$Clerks", "firstHas", "(LIcicleClock$Street;II)I"⟩, 3), (⟨"IcicleClock$Clerks", "secondHas", "(LIcicleClock$Street;II)I"⟩, 3), (⟨"IcicleClock", "drawWinter", "(J)V"⟩, 14), (⟨"IcicleClock", "slotsLaid", "()I"⟩, 14), (⟨"IcicleClockModel", "advance", "()V"⟩, 40), (⟨"IcicleClockModel", "see", "(I)I"⟩, 40), (⟨"IcicleClockModel", "good", "()Z"⟩, 40), (⟨"IcicleClockModel", "readLine", "()V"⟩, 40), (⟨"IcicleClockModel", "needs", "(Ljava/lang/String;)V"⟩, 40), (⟨"IcicleClockModel", "takes", "(Ljava/lang/String;)Z"⟩, 40), (⟨"IcicleClockModel", "is", "(Ljava/lang/String;)Z"⟩, 40)]
theorem lw_r3 : ∀ q ∈ lw_privs_3, lw_okq q := List.forall_mem_cons.mpr ⟨lw_p32, List.forall_mem_cons.mpr ⟨lw_p33, List.forall_mem_cons.mpr ⟨lw_p34, List.forall_mem_cons.mpr ⟨lw_p35, List.forall_mem_cons.mpr ⟨lw_p36, List.forall_mem_cons.mpr ⟨lw_p37, List.forall_mem_cons.mpr ⟨lw_p38, List.forall_mem_cons.mpr ⟨lw_p39, List.forall_mem_cons.mpr ⟨lw_p40, List.forall_mem_cons.mpr ⟨lw_p41, List.forall_mem_cons.mpr ⟨lw_p42, List.forall_mem_cons.mpr ⟨lw_p43, List.forall_mem_cons.mpr ⟨lw_p44, List.forall_mem_cons.mpr ⟨lw_p45, List.forall_mem_cons.mpr ⟨lw_p46, List.forall_mem_cons.mpr ⟨lw_p47, fun _ h => absurd h List.not_mem_nil⟩⟩⟩⟩⟩⟩⟩⟩⟩⟩⟩⟩⟩⟩⟩⟩
theorem lw_p48 : lw_okq (⟨"IcicleClockModel", "errs", "(I)V"⟩, 40) := ⟨⟨by decide +kernel, by decide +kernel⟩, List.mem_of_getElem? (i := 1160) (by decide +kernel), List.mem_of_getElem? (i := 1351) (by decide +kernel), List.mem_of_getElem? (i := 1352) (by decide +kernel)⟩
theorem lw_p49 : lw_okq (⟨"IcicleClockModel", "told", "(Ljava/lang/String;II)I"⟩, 40) := ⟨⟨by decide +kernel, by decide +kernel⟩, List.mem_of_getElem? (i := 1160) (by decide +kernel), List.mem_of_getElem? (i := 1356) (by decide +kernel), List.mem_of_getElem? (i := 1357) (by decide +kernel)⟩
theorem lw_p50 : lw_okq (⟨"IcicleClockModel", "number", "(II)I"⟩, 40) := ⟨⟨by decide +kernel, by decide +kernel⟩, List.mem_of_getElem? (i := 1160) (by decide +kernel), List.mem_of_getElem? (i := 1360) (by decide +kernel), List.mem_of_getElem? (i := 1361) (by decide +kernel)⟩
theorem lw_p51 : lw_okq (⟨"IcicleClockModel", "readNext", "()V"⟩, 40) := ⟨⟨by decide +kernel, by decide +kernel⟩, List.mem_of_getElem? (i := 1160) (by decide +kernel), List.mem_of_getElem? (i := 1366) (by decide +kernel), List.mem_of_getElem? (i := 1367) (by decide +kernel)⟩
theorem lw_p52 : lw_okq (⟨"IcicleClockModel", "readDay", "()V"⟩, 40) := ⟨⟨by decide +kernel, by decide +kernel⟩, List.mem_of_getElem? (i := 1160) (by decide +kernel), List.mem_of_getElem? (i := 1374) (by decide +kernel), List.mem_of_getElem? (i := 1375) (by decide +kernel)⟩
theorem lw_p53 : lw_okq (⟨"IcicleClockModel", "readIcicle", "()V"⟩, 40) := ⟨⟨by decide +kernel, by decide +kernel⟩, List.mem_of_getElem? (i := 1160) (by decide +kernel), List.mem_of_getElem? (i := 1381) (by decide +kernel), List.mem_of_getElem? (i := 1382) (by decide +kernel)⟩
theorem lw_p54 : lw_okq (⟨"IcicleClockModel", "isDay", "(I)Z"⟩, 40) := ⟨⟨by decide +kernel, by decide +kernel⟩, List.mem_of_getElem? (i := 1160) (by decide +kernel), List.mem_of_getElem? (i := 1393) (by decide +kernel), List.mem_of_getElem? (i := 1394) (by decide +kernel)⟩
theorem lw_p55 : lw_okq (⟨"IcicleClockModel", "thawOf", "(I)I"⟩, 40) := ⟨⟨by decide +kernel, by decide +kernel⟩, List.mem_of_getElem? (i := 1160) (by decide +kernel), List.mem_of_getElem? (i := 1397) (by decide +kernel), List.mem_of_getElem? (i := 1398) (by decide +kernel)⟩
theorem lw_p56 : lw_okq (⟨"IcicleClockModel", "isEave", "(I)Z"⟩, 40) := ⟨⟨by decide +kernel, by decide +kernel⟩, List.mem_of_getElem? (i := 1160) (by decide +kernel), List.mem_of_getElem? (i := 1405) (by decide +kernel), List.mem_of_getElem? (i := 1406) (by decide +kernel)⟩
theorem lw_p57 : lw_okq (⟨"IcicleClockModel", "sunOf", "(I)I"⟩, 40) := ⟨⟨by decide +kernel, by decide +kernel⟩, List.mem_of_getElem? (i := 1160) (by decide +kernel), List.mem_of_getElem? (i := 1409) (by decide +kernel), List.mem_of_getElem? (i := 1410) (by decide +kernel)⟩
theorem lw_p58 : lw_okq (⟨"IcicleClockModel", "isIcicle", "(J)Z"⟩, 40) := ⟨⟨by decide +kernel, by decide +kernel⟩, List.mem_of_getElem? (i := 1160) (by decide +kernel), List.mem_of_getElem? (i := 1420) (by decide +kernel), List.mem_of_getElem? (i := 1421) (by decide +kernel)⟩
theorem lw_p59 : lw_okq (⟨"IcicleClockModel", "of", "(II)I"⟩, 40) := ⟨⟨by decide +kernel, by decide +kernel⟩, List.mem_of_getElem? (i := 1160) (by decide +kernel), List.mem_of_getElem? (i := 1424) (by decide +kernel), List.mem_of_getElem? (i := 1425) (by decide +kernel)⟩
theorem lw_p60 : lw_okq (⟨"IcicleClockModel", "isWork", "(I)Z"⟩, 40) := ⟨⟨by decide +kernel, by decide +kernel⟩, List.mem_of_getElem? (i := 1160) (by decide +kernel), List.mem_of_getElem? (i := 1432) (by decide +kernel), List.mem_of_getElem? (i := 1433) (by decide +kernel)⟩
theorem lw_p61 : lw_okq (⟨"IcicleClockModel", "layAll", "()V"⟩, 40) := ⟨⟨by decide +kernel, by decide +kernel⟩, List.mem_of_getElem? (i := 1160) (by decide +kernel), List.mem_of_getElem? (i := 1444) (by decide +kernel), List.mem_of_getElem? (i := 1445) (by decide +kernel)⟩
theorem lw_p62 : lw_okq (⟨"IcicleClockModel", "layOff", "(I)V"⟩, 40) := ⟨⟨by decide +kernel, by decide +kernel⟩, List.mem_of_getElem? (i := 1160) (by decide +kernel), List.mem_of_getElem? (i := 1448) (by decide +kernel), List.mem_of_getElem? (i := 1449) (by decide +kernel)⟩
theorem lw_p63 : lw_okq (⟨"IcicleClockModel", "layFalls", "()V"⟩, 40) := ⟨⟨by decide +kernel, by decide +kernel⟩, List.mem_of_getElem? (i := 1160) (by decide +kernel), List.mem_of_getElem? (i := 1455) (by decide +kernel), List.mem_of_getElem? (i := 1456) (by decide +kernel)⟩
def lw_privs_4 : List (MethodName × Nat) := [(⟨"IcicleClockModel", "errs", "(I)V"⟩, 40), (⟨"IcicleClockModel", "told", "(Ljava/lang/String;II)I"⟩, 40), (⟨"IcicleClockModel", "number", "(II)I"⟩, 40), (⟨"IcicleClockModel", "readNext", "()V"⟩, 40), (⟨"IcicleClockModel", "readDay", "()V"⟩, 40), (⟨"IcicleClockModel", "readIcicle", "()V"⟩, 40), (⟨"IcicleClockModel", "isDay", "(I)Z"⟩, 40), (⟨"IcicleClockModel", "thawOf", "(I)I"⟩, 40), (⟨"IcicleClockModel", "isEave", "(I)Z"⟩, 40), (⟨"IcicleClockModel", "sunOf", "(I)I"⟩, 40), (⟨"IcicleClockModel", "isIcicle", "(J)Z"⟩, 40), (⟨"IcicleClockModel", "of", "(II)I"⟩, 40), (⟨"IcicleClockModel", "isWork", "(I)Z"⟩, 40), (⟨"IcicleClockModel", "layAll", "()V"⟩, 40), (⟨"IcicleClockModel", "layOff", "(I)V"⟩, 40), (⟨"IcicleClockModel", "layFalls", "()V"⟩, 40)]
theorem lw_r4 : ∀ q ∈ lw_privs_4, lw_okq q := List.forall_mem_cons.mpr ⟨lw_p48, List.forall_mem_cons.mpr ⟨lw_p49, List.forall_mem_cons.mpr ⟨lw_p50, List.forall_mem_cons.mpr ⟨lw_p51, List.forall_mem_cons.mpr ⟨lw_p52, List.forall_mem_cons.mpr ⟨lw_p53, List.forall_mem_cons.mpr ⟨lw_p54, List.forall_mem_cons.mpr ⟨lw_p55, List.forall_mem_cons.mpr ⟨lw_p56, List.forall_mem_cons.mpr ⟨lw_p57, List.forall_mem_cons.mpr ⟨lw_p58, List.forall_mem_cons.mpr ⟨lw_p59, List.forall_mem_cons.mpr ⟨lw_p60, List.forall_mem_cons.mpr ⟨lw_p61, List.forall_mem_cons.mpr ⟨lw_p62, List.forall_mem_cons.mpr ⟨lw_p63, fun _ h => absurd h List.not_mem_nil⟩⟩⟩⟩⟩⟩⟩⟩⟩⟩⟩⟩⟩⟩⟩⟩
theorem lw_p64 : lw_okq (⟨"IcicleClockModel", "fallsBy", "(II)I"⟩, 40) := ⟨⟨by decide +kernel, by decide +kernel⟩, List.mem_of_getElem? (i := 1160) (by decide +kernel), List.mem_of_getElem? (i := 1459) (by decide +kernel), List.mem_of_getElem? (i := 1460) (by decide +kernel)⟩
theorem lw_p65 : lw_okq (⟨"IcicleClockModel", "lengthBehind", "(II)I"⟩, 40) := ⟨⟨by decide +kernel, by decide +kernel⟩, List.mem_of_getElem? (i := 1160) (by decide +kernel), List.mem_of_getElem? (i := 1467) (by decide +kernel), List.mem_of_getElem? (i := 1468) (by decide +kernel)⟩
theorem lw_p66 : lw_okq (⟨"IcicleClockModel", "dropsOn", "(I)I"⟩, 40) := ⟨⟨by decide +kernel, by decide +kernel⟩, List.mem_of_getElem? (i := 1160) (by decide +kernel), List.mem_of_getElem? (i := 1480) (by decide +kernel), List.mem_of_getElem? (i := 1481) (by decide +kernel)⟩
theorem lw_p67 : lw_okq (⟨"IcicleClockModel", "fellBy", "(II)Z"⟩, 40) := ⟨⟨by decide +kernel, by decide +kernel⟩, List.mem_of_getElem? (i := 1160) (by decide +kernel), List.mem_of_getElem? (i := 1488) (by decide +kernel), List.mem_of_getElem? (i := 1489) (by decide +kernel)⟩
theorem lw_p68 : lw_okq (⟨"IcicleClockModel", "isStreet", "()Z"⟩, 40) := ⟨⟨by decide +kernel, by decide +kernel⟩, List.mem_of_getElem? (i := 1160) (by decide +kernel), List.mem_of_getElem? (i := 1500) (by decide +kernel), List.mem_of_getElem? (i := 1501) (by decide +kernel)⟩
theorem lw_p69 : lw_okq (⟨"IcicleClockModel", "timeOf", "(II)I"⟩, 40) := ⟨⟨by decide +kernel, by decide +kernel⟩, List.mem_of_getElem? (i := 1160) (by decide +kernel), List.mem_of_getElem? (i := 1511) (by decide +kernel), List.mem_of_getElem? (i := 1512) (by decide +kernel)⟩
theorem lw_p70 : lw_okq (⟨"IcicleClockModel", "meetOf", "(II)I"⟩, 40) := ⟨⟨by decide +kernel, by decide +kernel⟩, List.mem_of_getElem? (i := 1160) (by decide +kernel), List.mem_of_getElem? (i := 1523) (by decide +kernel), List.mem_of_getElem? (i := 1524) (by decide +kernel)⟩
theorem lw_p71 : lw_okq (⟨"IcicleClockModel", "lateOf", "(I)I"⟩, 40) := ⟨⟨by decide +kernel, by decide +kernel⟩, List.mem_of_getElem? (i := 1160) (by decide +kernel), List.mem_of_getElem? (i := 1536) (by decide +kernel), List.mem_of_getElem? (i := 1537) (by decide +kernel)⟩
theorem lw_p72 : lw_okq (⟨"IcicleClockModel", "offAll", "()I"⟩, 40) := ⟨⟨by decide +kernel, by decide +kernel⟩, List.mem_of_getElem? (i := 1160) (by decide +kernel), List.mem_of_getElem? (i := 1548) (by decide +kernel), List.mem_of_getElem? (i := 1549) (by decide +kernel)⟩
theorem lw_p73 : lw_okq (⟨"IcicleClockModel", "areThen", "(II)Z"⟩, 40) := ⟨⟨by decide +kernel, by decide +kernel⟩, List.mem_of_getElem? (i := 1160) (by decide +kernel), List.mem_of_getElem? (i := 1560) (by decide +kernel), List.mem_of_getElem? (i := 1561) (by decide +kernel)⟩
theorem lw_p74 : lw_okq (⟨"IcicleClockModel", "bestOf", "(I)I"⟩, 40) := ⟨⟨by decide +kernel, by decide +kernel⟩, List.mem_of_getElem? (i := 1160) (by decide +kernel), List.mem_of_getElem? (i := 1577) (by decide +kernel), List.mem_of_getElem? (i := 1578) (by decide +kernel)⟩
theorem lw_p75 : lw_okq (⟨"IcicleClockModel", "dropsAt", "(II)I"⟩, 40) := ⟨⟨by decide +kernel, by decide +kernel⟩, List.mem_of_getElem? (i := 1160) (by decide +kernel), List.mem_of_getElem? (i := 1598) (by decide +kernel), List.mem_of_getElem? (i := 1599) (by decide +kernel)⟩
theorem lw_p76 : lw_okq (⟨"IcicleClockModel", "isRound", "(II)Z"⟩, 40) := ⟨⟨by decide +kernel, by decide +kernel⟩, List.mem_of_getElem? (i := 1160) (by decide +kernel), List.mem_of_getElem? (i := 1610) (by decide +kernel), List.mem_of_getElem? (i := 1611) (by decide +kernel)⟩
theorem lw_p77 : lw_okq (⟨"IcicleClockModel", "layRounds", "(II)I"⟩, 40) := ⟨⟨by decide +kernel, by decide +kernel⟩, List.mem_of_getElem? (i := 1160) (by decide +kernel), List.mem_of_getElem? (i := 1614) (by decide +kernel), List.mem_of_getElem? (i := 1615) (by decide +kernel)⟩
theorem lw_p78 : lw_okq (⟨"IcicleClockModel", "roundBy", "(III)I"⟩, 40) := ⟨⟨by decide +kernel, by decide +kernel⟩, List.mem_of_getElem? (i := 1160) (by decide +kernel), List.mem_of_getElem? (i := 1618) (by decide +kernel), List.mem_of_getElem? (i := 1619) (by decide +kernel)⟩
theorem lw_p79 : lw_okq (⟨"IcicleClockModel", "laySlams", "(I)I"⟩, 40) := ⟨⟨by decide +kernel, by decide +kernel⟩, List.mem_of_getElem? (i := 1160) (by decide +kernel), List.mem_of_getElem? (i := 1630) (by decide +kernel), List.mem_of_getElem? (i := 1631) (by decide +kernel)⟩
def lw_privs_5 : List (MethodName × Nat) := [(⟨"IcicleClockModel", "fallsBy", "(II)I"⟩, 40), (⟨"IcicleClockModel", "lengthBehind", "(II)I"⟩, 40), (⟨"IcicleClockModel", "dropsOn", "(I)I"⟩, 40), (⟨"IcicleClockModel", "fellBy", "(II)Z"⟩, 40), (⟨"IcicleClockModel", "isStreet", "()Z"⟩, 40), (⟨"IcicleClockModel", "timeOf", "(II)I"⟩, 40), (⟨"IcicleClockModel", "meetOf", "(II)I"⟩, 40), (⟨"IcicleClockModel", "lateOf", "(I)I"⟩, 40), (⟨"IcicleClockModel", "offAll", "()I"⟩, 40), (⟨"IcicleClockModel", "areThen", "(II)Z"⟩, 40), (⟨"IcicleClockModel", "bestOf", "(I)I"⟩, 40), (⟨"IcicleClockModel", "dropsAt", "(II)I"⟩, 40), (⟨"IcicleClockModel", "isRound", "(II)Z"⟩, 40), (⟨"IcicleClockModel", "layRounds", "(II)I"⟩, 40), (⟨"IcicleClockModel", "roundBy", "(III)I"⟩, 40), (⟨"IcicleClockModel", "laySlams", "(I)I"⟩, 40)]
theorem lw_r5 : ∀ q ∈ lw_privs_5, lw_okq q := List.forall_mem_cons.mpr ⟨lw_p64, List.forall_mem_cons.mpr ⟨lw_p65, List.forall_mem_cons.mpr ⟨lw_p66, List.forall_mem_cons.mpr ⟨lw_p67, List.forall_mem_cons.mpr ⟨lw_p68, List.forall_mem_cons.mpr ⟨lw_p69, List.forall_mem_cons.mpr ⟨lw_p70, List.forall_mem_cons.mpr ⟨lw_p71, List.forall_mem_cons.mpr ⟨lw_p72, List.forall_mem_cons.mpr ⟨lw_p73, List.forall_mem_cons.mpr ⟨lw_p74, List.forall_mem_cons.mpr ⟨lw_p75, List.forall_mem_cons.mpr ⟨lw_p76, List.forall_mem_cons.mpr ⟨lw_p77, List.forall_mem_cons.mpr ⟨lw_p78, List.forall_mem_cons.mpr ⟨lw_p79, fun _ h => absurd h List.not_mem_nil⟩⟩⟩⟩⟩⟩⟩⟩⟩⟩⟩⟩⟩⟩⟩⟩
theorem lw_p80 : lw_okq (⟨"IcicleClockModel", "asksSeen", "(IZI)I"⟩, 40) := ⟨⟨by decide +kernel, by decide +kernel⟩, List.mem_of_getElem? (i := 1160) (by decide +kernel), List.mem_of_getElem? (i := 1634) (by decide +kernel), List.mem_of_getElem? (i := 1635) (by decide +kernel)⟩
theorem lw_p81 : lw_okq (⟨"IcicleClockModel", "numberAt", "(II)J"⟩, 40) := ⟨⟨by decide +kernel, by decide +kernel⟩, List.mem_of_getElem? (i := 1160) (by decide +kernel), List.mem_of_getElem? (i := 1642) (by decide +kernel), List.mem_of_getElem? (i := 1643) (by decide +kernel)⟩
theorem lw_p82 : lw_okq (⟨"IcicleClockModel", "isSeen", "(I)Z"⟩, 40) := ⟨⟨by decide +kernel, by decide +kernel⟩, List.mem_of_getElem? (i := 1160) (by decide +kernel), List.mem_of_getElem? (i := 1647) (by decide +kernel), List.mem_of_getElem? (i := 1648) (by decide +kernel)⟩
theorem lw_p83 : lw_okq (⟨"IcicleClockModel", "layWeathers", "(IIZ)I"⟩, 40) := ⟨⟨by decide +kernel, by decide +kernel⟩, List.mem_of_getElem? (i := 1160) (by decide +kernel), List.mem_of_getElem? (i := 1667) (by decide +kernel), List.mem_of_getElem? (i := 1668) (by decide +kernel)⟩
theorem lw_p84 : lw_okq (⟨"IcicleClockModel", "layWarm", "(II)V"⟩, 40) := ⟨⟨by decide +kernel, by decide +kernel⟩, List.mem_of_getElem? (i := 1160) (by decide +kernel), List.mem_of_getElem? (i := 1688) (by decide +kernel), List.mem_of_getElem? (i := 1689) (by decide +kernel)⟩
theorem lw_p85 : lw_okq (⟨"IcicleClockModel", "goWarm", "(I)V"⟩, 40) := ⟨⟨by decide +kernel, by decide +kernel⟩, List.mem_of_getElem? (i := 1160) (by decide +kernel), List.mem_of_getElem? (i := 1692) (by decide +kernel), List.mem_of_getElem? (i := 1693) (by decide +kernel)⟩
theorem lw_p86 : lw_okq (⟨"IcicleClockModel", "isThaw", "(I)Z"⟩, 40) := ⟨⟨by decide +kernel, by decide +kernel⟩, List.mem_of_getElem? (i := 1160) (by decide +kernel), List.mem_of_getElem? (i := 1696) (by decide +kernel), List.mem_of_getElem? (i := 1697) (by decide +kernel)⟩
theorem lw_p87 : lw_okq (⟨"IcicleClockModel", "layWalks", "()Z"⟩, 40) := ⟨⟨by decide +kernel, by decide +kernel⟩, List.mem_of_getElem? (i := 1160) (by decide +kernel), List.mem_of_getElem? (i := 1715) (by decide +kernel), List.mem_of_getElem? (i := 1716) (by decide +kernel)⟩
theorem lw_p88 : lw_okq (⟨"IcicleClockModel", "leastFrom", "(II)I"⟩, 40) := ⟨⟨by decide +kernel, by decide +kernel⟩, List.mem_of_getElem? (i := 1160) (by decide +kernel), List.mem_of_getElem? (i := 1719) (by decide +kernel), List.mem_of_getElem? (i := 1720) (by decide +kernel)⟩
theorem lw_p89 : lw_okq (⟨"IcicleClockModel", "struckFrom", "(II)I"⟩, 40) := ⟨⟨by decide +kernel, by decide +kernel⟩, List.mem_of_getElem? (i := 1160) (by decide +kernel), List.mem_of_getElem? (i := 1723) (by decide +kernel), List.mem_of_getElem? (i := 1724) (by decide +kernel)⟩
theorem lw_p90 : lw_okq (⟨"IcicleClockModel", "waysFrom", "(II)I"⟩, 40) := ⟨⟨by decide +kernel, by decide +kernel⟩, List.mem_of_getElem? (i := 1160) (by decide +kernel), List.mem_of_getElem? (i := 1727) (by decide +kernel), List.mem_of_getElem? (i := 1728) (by decide +kernel)⟩
theorem lw_p91 : lw_okq (⟨"IcicleClockModel", "layRests", "()I"⟩, 40) := ⟨⟨by decide +kernel, by decide +kernel⟩, List.mem_of_getElem? (i := 1160) (by decide +kernel), List.mem_of_getElem? (i := 1743) (by decide +kernel), List.mem_of_getElem? (i := 1744) (by decide +kernel)⟩
theorem lw_p92 : lw_okq (⟨"IcicleClockModel", "isRest", "(II)Z"⟩, 40) := ⟨⟨by decide +kernel, by decide +kernel⟩, List.mem_of_getElem? (i := 1160) (by decide +kernel), List.mem_of_getElem? (i := 1747) (by decide +kernel), List.mem_of_getElem? (i := 1748) (by decide +kernel)⟩
theorem lw_p93 : lw_okq (⟨"IcicleClockModel", "hasFirst", "(II)I"⟩, 40) := ⟨⟨by decide +kernel, by decide +kernel⟩, List.mem_of_getElem? (i := 1160) (by decide +kernel), List.mem_of_getElem? (i := 1751) (by decide +kernel), List.mem_of_getElem? (i := 1752) (by decide +kernel)⟩
theorem lw_p94 : lw_okq (⟨"IcicleClockModel", "hasSecond", "(II)I"⟩, 40) := ⟨⟨by decide +kernel, by decide +kernel⟩, List.mem_of_getElem? (i := 1160) (by decide +kernel), List.mem_of_getElem? (i := 1755) (by decide +kernel), List.mem_of_getElem? (i := 1756) (by decide +kernel)⟩
theorem lw_p95 : lw_okq (⟨"IcicleClockModel", "keepAct", "(I)Z"⟩, 40) := ⟨⟨by decide +kernel, by decide +kernel⟩, List.mem_of_getElem? (i := 1160) (by decide +kernel), List.mem_of_getElem? (i := 1767) (by decide +kernel), List.mem_of_getElem? (i := 1768) (by decide +kernel)⟩
def lw_privs_6 : List (MethodName × Nat) := [(⟨"IcicleClockModel", "asksSeen", "(IZI)I"⟩, 40), (⟨"IcicleClockModel", "numberAt", "(II)J"⟩, 40), (⟨"IcicleClockModel", "isSeen", "(I)Z"⟩, 40), (⟨"IcicleClockModel", "layWeathers", "(IIZ)I"⟩, 40), (⟨"IcicleClockModel", "layWarm", "(II)V"⟩, 40), (⟨"IcicleClockModel", "goWarm", "(I)V"⟩, 40), (⟨"IcicleClockModel", "isThaw", "(I)Z"⟩, 40), (⟨"IcicleClockModel", "layWalks", "()Z"⟩, 40), (⟨"IcicleClockModel", "leastFrom", "(II)I"⟩, 40), (⟨"IcicleClockModel", "struckFrom", "(II)I"⟩, 40), (⟨"IcicleClockModel", "waysFrom", "(II)I"⟩, 40), (⟨"IcicleClockModel", "layRests", "()I"⟩, 40), (⟨"IcicleClockModel", "isRest", "(II)Z"⟩, 40), (⟨"IcicleClockModel", "hasFirst", "(II)I"⟩, 40), (⟨"IcicleClockModel", "hasSecond", "(II)I"⟩, 40), (⟨"IcicleClockModel", "keepAct", "(I)Z"⟩, 40)]
theorem lw_r6 : ∀ q ∈ lw_privs_6, lw_okq q := List.forall_mem_cons.mpr ⟨lw_p80, List.forall_mem_cons.mpr ⟨lw_p81, List.forall_mem_cons.mpr ⟨lw_p82, List.forall_mem_cons.mpr ⟨lw_p83, List.forall_mem_cons.mpr ⟨lw_p84, List.forall_mem_cons.mpr ⟨lw_p85, List.forall_mem_cons.mpr ⟨lw_p86, List.forall_mem_cons.mpr ⟨lw_p87, List.forall_mem_cons.mpr ⟨lw_p88, List.forall_mem_cons.mpr ⟨lw_p89, List.forall_mem_cons.mpr ⟨lw_p90, List.forall_mem_cons.mpr ⟨lw_p91, List.forall_mem_cons.mpr ⟨lw_p92, List.forall_mem_cons.mpr ⟨lw_p93, List.forall_mem_cons.mpr ⟨lw_p94, List.forall_mem_cons.mpr ⟨lw_p95, fun _ h => absurd h List.not_mem_nil⟩⟩⟩⟩⟩⟩⟩⟩⟩⟩⟩⟩⟩⟩⟩⟩
theorem lw_p96 : lw_okq (⟨"IcicleClockModel", "goDrawn", "(J)V"⟩, 40) := ⟨⟨by decide +kernel, by decide +kernel⟩, List.mem_of_getElem? (i := 1160) (by decide +kernel), List.mem_of_getElem? (i := 1791) (by decide +kernel), List.mem_of_getElem? (i := 1792) (by decide +kernel)⟩
def lw_privs_7 : List (MethodName × Nat) := [(⟨"IcicleClockModel", "goDrawn", "(J)V"⟩, 40)]
theorem lw_r7 : ∀ q ∈ lw_privs_7, lw_okq q := List.forall_mem_cons.mpr ⟨lw_p96, fun _ h => absurd h List.not_mem_nil⟩
def lw_privs : List (MethodName × Nat) := lw_privs_1 ++ (lw_privs_2 ++ (lw_privs_3 ++ (lw_privs_4 ++ (lw_privs_5 ++ (lw_privs_6 ++ (lw_privs_7))))))
def lw_tbl : List Cond := k2_sels lw_privs ++ tables_1
theorem lw_privs_ok : ∀ q ∈ lw_privs, lw_okq q := by
  show ∀ q ∈ lw_privs_1 ++ (lw_privs_2 ++ (lw_privs_3 ++ (lw_privs_4 ++ (lw_privs_5 ++ (lw_privs_6 ++ (lw_privs_7)))))), lw_okq q
  exact List.forall_mem_append.mpr ⟨lw_r1, List.forall_mem_append.mpr ⟨lw_r2, List.forall_mem_append.mpr ⟨lw_r3, List.forall_mem_append.mpr ⟨lw_r4, List.forall_mem_append.mpr ⟨lw_r5, List.forall_mem_append.mpr ⟨lw_r6, lw_r7⟩⟩⟩⟩⟩⟩
end
section
theorem goodIn_r {big : List Cond} (ws : List Cond) (ps : List Nat) (hp : ws = ps.filterMap (fun i => big[i]?)) (h : ws.all goodWord = true) : GoodIn big ws := by
  intro w hw
  have h1 := List.all_eq_true.mp h w hw
  rw [hp] at hw
  obtain ⟨i, -, hi⟩ := List.mem_filterMap.mp hw
  have hm : w ∈ big := by first | exact List.mem_of_getElem? hi | exact List.getElem?_mem hi
  exact ⟨hm, good_of_word h1⟩
theorem goodIn_app {big a b : List Cond} (ha : GoodIn big a) (hb : GoodIn big b) : GoodIn big (a ++ b) := fun w h => (List.mem_append.mp h).elim (ha w) (hb w)
theorem goodIn_ca {big a b : List Cond} {c : Cond} (ha : GoodIn big (c :: a)) (hb : GoodIn big b) : GoodIn big (c :: (a ++ b)) := fun w h => (List.mem_cons.mp h).elim (fun e => ha w (List.mem_cons.mpr (Or.inl e))) (fun h => (List.mem_append.mp h).elim (fun h => ha w (List.mem_cons.mpr (Or.inr h))) (hb w))
theorem goodIn_sub {big ws : List Cond} (hm : ∀ w ∈ ws, w ∈ big) (h : ws.all goodWord = true) : GoodIn big ws := fun w hw => ⟨hm w hw, good_of_word (List.all_eq_true.mp h w hw)⟩
def RX0 : String := "IcicleClock$Acts"
def TX0 : u_T := fun k => match k with
  | 0 => ("IcicleClock$Acts", "done", "I", false)
  | 1 => ("IcicleClock$Acts", "eaves", "[I", true)
  | 2 => ("IcicleClock$Acts", "days", "[I", true)
  | 3 => ("IcicleClock$Acts", "slammed", "[[I", true)
  | _ => ("IcicleClock$Acts", "rung", "[I", true)
def tyX0 : Nat → FieldType := fun k => match k with
  | 0 => .int
  | 1 => .array .int
  | 2 => .array .int
  | 3 => .array (.array .int)
  | _ => .array .int
abbrev wsX00 : List Cond := u_ws RX0 TX0 5
theorem nmX0 : ∀ a, a < 5 → ∀ b, b < 5 → a ≠ b → (TX0 a).2.1 ≠ (TX0 b).2.1 := by decide +kernel
theorem tyX0_ok : ∀ k, k < 5 → parseFieldDescriptor (TX0 k).2.2.1 = some (tyX0 k) := by decide +kernel
abbrev cX0_init : ByteArray := prog_2_method_1_code
def yX0_init : MethodName := ⟨RX0, "<init>", "()V"⟩
abbrev cX0_add : ByteArray := prog_2_method_2_code
def yX0_add : MethodName := ⟨RX0, "add", "(II)Z"⟩
abbrev cX0_takeBack : ByteArray := prog_2_method_3_code
def yX0_takeBack : MethodName := ⟨RX0, "takeBack", "()Z"⟩
abbrev cX0_clear : ByteArray := prog_2_method_4_code
def yX0_clear : MethodName := ⟨RX0, "clear", "()V"⟩
abbrev cX0_copyFrom : ByteArray := prog_2_method_5_code
def yX0_copyFrom : MethodName := ⟨RX0, "copyFrom", "(LIcicleClock$Acts;)V"⟩
abbrev cX0_tally : ByteArray := prog_2_method_6_code
def yX0_tally : MethodName := ⟨RX0, "tally", "(III)V"⟩
def RX1 : String := "IcicleClock$Chances"
def TX1 : u_T := fun k => match k with
  | 0 => ("IcicleClock$Chances", "hanging", "[J", true)
  | 1 => ("IcicleClock$Chances", "weight", "[J", true)
  | 2 => ("IcicleClock$Chances", "whole", "[J", true)
  | _ => ("IcicleClock$Chances", "mostWarm", "I", false)
def tyX1 : Nat → FieldType := fun k => match k with
  | 0 => .array .long
  | 1 => .array .long
  | 2 => .array .long
  | _ => .int
abbrev wsX10 : List Cond := u_ws RX1 TX1 4
theorem nmX1 : ∀ a, a < 4 → ∀ b, b < 4 → a ≠ b → (TX1 a).2.1 ≠ (TX1 b).2.1 := by decide +kernel
theorem tyX1_ok : ∀ k, k < 4 → parseFieldDescriptor (TX1 k).2.2.1 = some (tyX1 k) := by decide +kernel
abbrev cX1_init : ByteArray := prog_3_method_1_code
def yX1_init : MethodName := ⟨RX1, "<init>", "()V"⟩
abbrev cX1_weigh : ByteArray := prog_3_method_2_code
def yX1_weigh : MethodName := ⟨RX1, "weigh", "(LIcicleClock$Street;LIcicleClock$Winter;III)V"⟩
abbrev cX1_warmOrNot : ByteArray := prog_3_method_3_code
def yX1_warmOrNot : MethodName := ⟨RX1, "warmOrNot", "(I)V"⟩
abbrev cX1_letFall : ByteArray := prog_3_method_4_code
def yX1_letFall : MethodName := ⟨RX1, "letFall", "(II)J"⟩
abbrev cX1_likeliestDay : ByteArray := prog_3_method_5_code
def yX1_likeliestDay : MethodName := ⟨RX1, "likeliestDay", "(I)I"⟩
def RX2 : String := "IcicleClock$Clerks"
def TX2 : u_T := fun k => match k with
  | 0 => ("IcicleClock$Clerks", "resting", "I", false)
  | 1 => ("IcicleClock$Clerks", "first", "I", false)
  | _ => ("IcicleClock$Clerks", "shared", "[[I", true)
def tyX2 : Nat → FieldType := fun k => match k with
  | 0 => .int
  | 1 => .int
  | _ => .array (.array .int)
abbrev wsX20 : List Cond := u_ws RX2 TX2 3
theorem nmX2 : ∀ a, a < 3 → ∀ b, b < 3 → a ≠ b → (TX2 a).2.1 ≠ (TX2 b).2.1 := by decide +kernel
theorem tyX2_ok : ∀ k, k < 3 → parseFieldDescriptor (TX2 k).2.2.1 = some (tyX2 k) := by decide +kernel
abbrev cX2_init : ByteArray := prog_4_method_1_code
def yX2_init : MethodName := ⟨RX2, "<init>", "()V"⟩
abbrev cX2_compare : ByteArray := prog_4_method_2_code
def yX2_compare : MethodName := ⟨RX2, "compare", "(LIcicleClock$Street;LIcicleClock$Winter;)V"⟩
abbrev cX2_isRest : ByteArray := prog_4_method_3_code
def yX2_isRest : MethodName := ⟨RX2, "isRest", "(LIcicleClock$Street;II)Z"⟩
abbrev cX2_firstHas : ByteArray := prog_4_method_4_code
def yX2_firstHas : MethodName := ⟨RX2, "firstHas", "(LIcicleClock$Street;II)I"⟩
abbrev cX2_secondHas : ByteArray := prog_4_method_5_code
def yX2_secondHas : MethodName := ⟨RX2, "secondHas", "(LIcicleClock$Street;II)I"⟩
def RX3 : String := "IcicleClock$Seen"
def TX3 : u_T := fun k => match k with
  | 0 => ("IcicleClock$Seen", "fall", "[I", true)
  | _ => ("IcicleClock$Seen", "torn", "Z", false)
def tyX3 : Nat → FieldType := fun k => match k with
  | 0 => .array .int
  | _ => .boolean
abbrev wsX30 : List Cond := u_ws RX3 TX3 2
theorem nmX3 : ∀ a, a < 2 → ∀ b, b < 2 → a ≠ b → (TX3 a).2.1 ≠ (TX3 b).2.1 := by decide +kernel
theorem tyX3_ok : ∀ k, k < 2 → parseFieldDescriptor (TX3 k).2.2.1 = some (tyX3 k) := by decide +kernel
abbrev cX3_init : ByteArray := prog_5_method_1_code
def yX3_init : MethodName := ⟨RX3, "<init>", "()V"⟩
abbrev cX3_read : ByteArray := prog_5_method_2_code
def yX3_read : MethodName := ⟨RX3, "read", "(LIcicleClock$Slot;II)Z"⟩
abbrev cX3_note : ByteArray := prog_5_method_3_code
def yX3_note : MethodName := ⟨RX3, "note", "(II)V"⟩
abbrev cX3_fits : ByteArray := prog_5_method_4_code
def yX3_fits : MethodName := ⟨RX3, "fits", "(LIcicleClock$Street;LIcicleClock$Winter;)Z"⟩
def RX4 : String := "IcicleClock$Slams"
def TX4 : u_T := fun k => match k with
  | 0 => ("IcicleClock$Slams", "fitting", "I", false)
  | 1 => ("IcicleClock$Slams", "first", "I", false)
  | _ => ("IcicleClock$Slams", "tally", "[[I", true)
def tyX4 : Nat → FieldType := fun k => match k with
  | 0 => .int
  | 1 => .int
  | _ => .array (.array .int)
abbrev wsX40 : List Cond := u_ws RX4 TX4 3
theorem nmX4 : ∀ a, a < 3 → ∀ b, b < 3 → a ≠ b → (TX4 a).2.1 ≠ (TX4 b).2.1 := by decide +kernel
theorem tyX4_ok : ∀ k, k < 3 → parseFieldDescriptor (TX4 k).2.2.1 = some (tyX4 k) := by decide +kernel
abbrev cX4_init : ByteArray := prog_6_method_1_code
def yX4_init : MethodName := ⟨RX4, "<init>", "()V"⟩
abbrev cX4_search : ByteArray := prog_6_method_2_code
def yX4_search : MethodName := ⟨RX4, "search", "(LIcicleClock$Street;LIcicleClock$Winter;LIcicleClock$Seen;)V"⟩
abbrev cX4_searchUnder : ByteArray := prog_6_method_3_code
def yX4_searchUnder : MethodName := ⟨RX4, "searchUnder", "(LIcicleClock$Street;LIcicleClock$Winter;LIcicleClock$Seen;I)V"⟩
abbrev cX4_note : ByteArray := prog_6_method_4_code
def yX4_note : MethodName := ⟨RX4, "note", "(LIcicleClock$Street;LIcicleClock$Winter;)V"⟩
abbrev cX4_bestQuestion : ByteArray := prog_6_method_5_code
def yX4_bestQuestion : MethodName := ⟨RX4, "bestQuestion", "(LIcicleClock$Street;)I"⟩
def RX5 : String := "IcicleClock$Slot"
def TX5 : u_T := fun k => match k with
  | 0 => ("IcicleClock$Slot", "numbers", "[J", true)
  | 1 => ("IcicleClock$Slot", "laid", "Z", false)
  | 2 => ("IcicleClock$Slot", "width", "I", false)
  | _ => ("IcicleClock$Slot", "held", "I", false)
def tyX5 : Nat → FieldType := fun k => match k with
  | 0 => .array .long
  | 1 => .boolean
  | 2 => .int
  | _ => .int
abbrev wsX50 : List Cond := u_ws RX5 TX5 4
theorem nmX5 : ∀ a, a < 4 → ∀ b, b < 4 → a ≠ b → (TX5 a).2.1 ≠ (TX5 b).2.1 := by decide +kernel
theorem tyX5_ok : ∀ k, k < 4 → parseFieldDescriptor (TX5 k).2.2.1 = some (tyX5 k) := by decide +kernel
abbrev cX5_init : ByteArray := prog_7_method_1_code
def yX5_init : MethodName := ⟨RX5, "<init>", "()V"⟩
abbrev cX5_lay : ByteArray := prog_7_method_2_code
def yX5_lay : MethodName := ⟨RX5, "lay", "(II)V"⟩
abbrev cX5_cut : ByteArray := prog_7_method_3_code
def yX5_cut : MethodName := ⟨RX5, "cut", "(J)J"⟩
abbrev cX5_covers : ByteArray := prog_7_method_4_code
def yX5_covers : MethodName := ⟨RX5, "covers", "(II)Z"⟩
def RX6 : String := "IcicleClock$Street"
def TX6 : u_T := fun k => match k with
  | 0 => ("IcicleClock$Street", "slamTakes", "I", false)
  | 1 => ("IcicleClock$Street", "bellTakes", "I", false)
  | 2 => ("IcicleClock$Street", "odds", "I", false)
  | 3 => ("IcicleClock$Street", "days", "I", false)
  | 4 => ("IcicleClock$Street", "eaves", "I", false)
  | 5 => ("IcicleClock$Street", "icicles", "I", false)
  | 6 => ("IcicleClock$Street", "works", "I", false)
  | 7 => ("IcicleClock$Street", "lines", "I", false)
  | 8 => ("IcicleClock$Street", "thaw", "[I", true)
  | 9 => ("IcicleClock$Street", "isThaw", "[Z", true)
  | 10 => ("IcicleClock$Street", "sun", "[I", true)
  | 11 => ("IcicleClock$Street", "eaveOf", "[I", true)
  | 12 => ("IcicleClock$Street", "lengthTold", "[I", true)
  | 13 => ("IcicleClock$Street", "lengthHung", "[I", true)
  | 14 => ("IcicleClock$Street", "hourOf", "[I", true)
  | 15 => ("IcicleClock$Street", "dueHour", "[I", true)
  | 16 => ("IcicleClock$Street", "dueDay", "[I", true)
  | _ => ("IcicleClock$Street", "acts", "LIcicleClock$Acts;", true)
def tyX6 : Nat → FieldType := fun k => match k with
  | 0 => .int
  | 1 => .int
  | 2 => .int
  | 3 => .int
  | 4 => .int
  | 5 => .int
  | 6 => .int
  | 7 => .int
  | 8 => .array .int
  | 9 => .array .boolean
  | 10 => .array .int
  | 11 => .array .int
  | 12 => .array .int
  | 13 => .array .int
  | 14 => .array .int
  | 15 => .array .int
  | 16 => .array .int
  | _ => .object "IcicleClock$Acts"
abbrev wsX60 : List Cond := u_ws RX6 TX6 18
theorem nmX6 : ∀ a, a < 18 → ∀ b, b < 18 → a ≠ b → (TX6 a).2.1 ≠ (TX6 b).2.1 := by decide +kernel
theorem tyX6_ok : ∀ k, k < 18 → parseFieldDescriptor (TX6 k).2.2.1 = some (tyX6 k) := by decide +kernel
abbrev cX6_init : ByteArray := prog_8_method_1_code
def yX6_init : MethodName := ⟨RX6, "<init>", "()V"⟩
abbrev cX6_clear : ByteArray := prog_8_method_2_code
def yX6_clear : MethodName := ⟨RX6, "clear", "()V"⟩
abbrev cX6_copyFrom : ByteArray := prog_8_method_3_code
def yX6_copyFrom : MethodName := ⟨RX6, "copyFrom", "(LIcicleClock$Street;)V"⟩
abbrev cX6_meltOn : ByteArray := prog_8_method_4_code
def yX6_meltOn : MethodName := ⟨RX6, "meltOn", "(II)I"⟩
abbrev cX6_takenByActs : ByteArray := prog_8_method_5_code
def yX6_takenByActs : MethodName := ⟨RX6, "takenByActs", "(II)I"⟩
def RX7 : String := "IcicleClock$Tape"
def TX7 : u_T := fun k => match k with
  | 0 => ("IcicleClock$Tape", "bytes", "[B", true)
  | 1 => ("IcicleClock$Tape", "filled", "I", false)
  | 2 => ("IcicleClock$Tape", "fault", "I", false)
  | 3 => ("IcicleClock$Tape", "faultPlace", "I", false)
  | 4 => ("IcicleClock$Tape", "start", "I", false)
  | 5 => ("IcicleClock$Tape", "stop", "I", false)
  | _ => ("IcicleClock$Tape", "kind", "I", false)
def tyX7 : Nat → FieldType := fun k => match k with
  | 0 => .array .byte
  | 1 => .int
  | 2 => .int
  | 3 => .int
  | 4 => .int
  | 5 => .int
  | _ => .int
abbrev wsX70 : List Cond := u_ws RX7 TX7 7
theorem nmX7 : ∀ a, a < 7 → ∀ b, b < 7 → a ≠ b → (TX7 a).2.1 ≠ (TX7 b).2.1 := by decide +kernel
theorem tyX7_ok : ∀ k, k < 7 → parseFieldDescriptor (TX7 k).2.2.1 = some (tyX7 k) := by decide +kernel
abbrev cX7_init : ByteArray := prog_9_method_1_code
def yX7_init : MethodName := ⟨RX7, "<init>", "()V"⟩
abbrev cX7_putFour : ByteArray := prog_9_method_2_code
def yX7_putFour : MethodName := ⟨RX7, "putFour", "(I)V"⟩
abbrev cX7_readInto : ByteArray := prog_9_method_3_code
def yX7_readInto : MethodName := ⟨RX7, "readInto", "(LIcicleClock$Street;)Z"⟩
abbrev cX7_readFirst : ByteArray := prog_9_method_4_code
def yX7_readFirst : MethodName := ⟨RX7, "readFirst", "(LIcicleClock$Street;)V"⟩
abbrev cX7_readDay : ByteArray := prog_9_method_5_code
def yX7_readDay : MethodName := ⟨RX7, "readDay", "(LIcicleClock$Street;)V"⟩
abbrev cX7_readEave : ByteArray := prog_9_method_6_code
def yX7_readEave : MethodName := ⟨RX7, "readEave", "(LIcicleClock$Street;)V"⟩
abbrev cX7_readIcicle : ByteArray := prog_9_method_7_code
def yX7_readIcicle : MethodName := ⟨RX7, "readIcicle", "(LIcicleClock$Street;)V"⟩
abbrev cX7_readDue : ByteArray := prog_9_method_8_code
def yX7_readDue : MethodName := ⟨RX7, "readDue", "(LIcicleClock$Street;)V"⟩
abbrev cX7_numberBehind : ByteArray := prog_9_method_9_code
def yX7_numberBehind : MethodName := ⟨RX7, "numberBehind", "(Ljava/lang/String;I)I"⟩
abbrev cX7_pass : ByteArray := prog_9_method_10_code
def yX7_pass : MethodName := ⟨RX7, "pass", "(Z)V"⟩
abbrev cX7_passNumber : ByteArray := prog_9_method_11_code
def yX7_passNumber : MethodName := ⟨RX7, "passNumber", "(II)I"⟩
abbrev cX7_numberHere : ByteArray := prog_9_method_12_code
def yX7_numberHere : MethodName := ⟨RX7, "numberHere", "()I"⟩
abbrev cX7_blame : ByteArray := prog_9_method_13_code
def yX7_blame : MethodName := ⟨RX7, "blame", "(I)V"⟩
abbrev cX7_isWord : ByteArray := prog_9_method_14_code
def yX7_isWord : MethodName := ⟨RX7, "isWord", "(Ljava/lang/String;)Z"⟩
abbrev cX7_advance : ByteArray := prog_9_method_15_code
def yX7_advance : MethodName := ⟨RX7, "advance", "()V"⟩
abbrev cX7_kindOf : ByteArray := prog_9_method_16_code
def yX7_kindOf : MethodName := ⟨RX7, "kindOf", "(I)I"⟩
def RX8 : String := "IcicleClock$Walker"
def TX8 : u_T := fun k => match k with
  | 0 => ("IcicleClock$Walker", "leastOfAll", "I", false)
  | 1 => ("IcicleClock$Walker", "struck", "[[I", true)
  | 2 => ("IcicleClock$Walker", "least", "[[I", true)
  | 3 => ("IcicleClock$Walker", "many", "[[I", true)
  | 4 => ("IcicleClock$Walker", "days", "I", false)
  | _ => ("IcicleClock$Walker", "eaves", "I", false)
def tyX8 : Nat → FieldType := fun k => match k with
  | 0 => .int
  | 1 => .array (.array .int)
  | 2 => .array (.array .int)
  | 3 => .array (.array .int)
  | 4 => .int
  | _ => .int
abbrev wsX80 : List Cond := u_ws RX8 TX8 6
theorem nmX8 : ∀ a, a < 6 → ∀ b, b < 6 → a ≠ b → (TX8 a).2.1 ≠ (TX8 b).2.1 := by decide +kernel
theorem tyX8_ok : ∀ k, k < 6 → parseFieldDescriptor (TX8 k).2.2.1 = some (tyX8 k) := by decide +kernel
abbrev cX8_init : ByteArray := prog_10_method_1_code
def yX8_init : MethodName := ⟨RX8, "<init>", "()V"⟩
abbrev cX8_plan : ByteArray := prog_10_method_2_code
def yX8_plan : MethodName := ⟨RX8, "plan", "(LIcicleClock$Street;LIcicleClock$Winter;)V"⟩
abbrev cX8_planFrom : ByteArray := prog_10_method_3_code
def yX8_planFrom : MethodName := ⟨RX8, "planFrom", "(II)V"⟩
abbrev cX8_howMany : ByteArray := prog_10_method_4_code
def yX8_howMany : MethodName := ⟨RX8, "howMany", "()I"⟩
abbrev cX8_eaveOfFirst : ByteArray := prog_10_method_5_code
def yX8_eaveOfFirst : MethodName := ⟨RX8, "eaveOfFirst", "(I)I"⟩
abbrev cX8_firstOf : ByteArray := prog_10_method_6_code
def yX8_firstOf : MethodName := ⟨RX8, "firstOf", "(IIII)I"⟩
def RX9 : String := "IcicleClock$Weathers"
def TX9 : u_T := fun k => match k with
  | 0 => ("IcicleClock$Weathers", "least", "[I", true)
  | 1 => ("IcicleClock$Weathers", "most", "[I", true)
  | 2 => ("IcicleClock$Weathers", "goings", "[[I", true)
  | _ => ("IcicleClock$Weathers", "days", "I", false)
def tyX9 : Nat → FieldType := fun k => match k with
  | 0 => .array .int
  | 1 => .array .int
  | 2 => .array (.array .int)
  | _ => .int
abbrev wsX90 : List Cond := u_ws RX9 TX9 4
theorem nmX9 : ∀ a, a < 4 → ∀ b, b < 4 → a ≠ b → (TX9 a).2.1 ≠ (TX9 b).2.1 := by decide +kernel
theorem tyX9_ok : ∀ k, k < 4 → parseFieldDescriptor (TX9 k).2.2.1 = some (tyX9 k) := by decide +kernel
abbrev cX9_init : ByteArray := prog_11_method_1_code
def yX9_init : MethodName := ⟨RX9, "<init>", "()V"⟩
abbrev cX9_search : ByteArray := prog_11_method_2_code
def yX9_search : MethodName := ⟨RX9, "search", "(LIcicleClock$Street;LIcicleClock$Seen;I)V"⟩
abbrev cX9_sumNeeded : ByteArray := prog_11_method_3_code
def yX9_sumNeeded : MethodName := ⟨RX9, "sumNeeded", "(LIcicleClock$Street;I)I"⟩
abbrev cX9_bound : ByteArray := prog_11_method_4_code
def yX9_bound : MethodName := ⟨RX9, "bound", "(II)V"⟩
abbrev cX9_countGoings : ByteArray := prog_11_method_5_code
def yX9_countGoings : MethodName := ⟨RX9, "countGoings", "()V"⟩
abbrev cX9_goingsBy : ByteArray := prog_11_method_6_code
def yX9_goingsBy : MethodName := ⟨RX9, "goingsBy", "(II)I"⟩
abbrev cX9_fitting : ByteArray := prog_11_method_7_code
def yX9_fitting : MethodName := ⟨RX9, "fitting", "()I"⟩
abbrev cX9_thawOfFirst : ByteArray := prog_11_method_8_code
def yX9_thawOfFirst : MethodName := ⟨RX9, "thawOfFirst", "(I)I"⟩
abbrev cX9_leastSum : ByteArray := prog_11_method_9_code
def yX9_leastSum : MethodName := ⟨RX9, "leastSum", "()I"⟩
abbrev cX9_greatestSum : ByteArray := prog_11_method_10_code
def yX9_greatestSum : MethodName := ⟨RX9, "greatestSum", "()I"⟩
abbrev cX9_sumsReached : ByteArray := prog_11_method_11_code
def yX9_sumsReached : MethodName := ⟨RX9, "sumsReached", "()I"⟩
def RX10 : String := "IcicleClock$Winter"
def TX10 : u_T := fun k => match k with
  | 0 => ("IcicleClock$Winter", "warm", "I", false)
  | 1 => ("IcicleClock$Winter", "doorEave", "I", false)
  | 2 => ("IcicleClock$Winter", "doorDay", "I", false)
  | _ => ("IcicleClock$Winter", "fall", "[I", true)
def tyX10 : Nat → FieldType := fun k => match k with
  | 0 => .int
  | 1 => .int
  | 2 => .int
  | _ => .array .int
abbrev wsX100 : List Cond := u_ws RX10 TX10 4
theorem nmX10 : ∀ a, a < 4 → ∀ b, b < 4 → a ≠ b → (TX10 a).2.1 ≠ (TX10 b).2.1 := by decide +kernel
theorem tyX10_ok : ∀ k, k < 4 → parseFieldDescriptor (TX10 k).2.2.1 = some (tyX10 k) := by decide +kernel
abbrev cX10_init : ByteArray := prog_12_method_1_code
def yX10_init : MethodName := ⟨RX10, "<init>", "()V"⟩
abbrev cX10_passOver : ByteArray := prog_12_method_2_code
def yX10_passOver : MethodName := ⟨RX10, "passOver", "(LIcicleClock$Street;)V"⟩
abbrev cX10_passUnder : ByteArray := prog_12_method_3_code
def yX10_passUnder : MethodName := ⟨RX10, "passUnder", "(LIcicleClock$Street;I)V"⟩
abbrev cX10_fallOf : ByteArray := prog_12_method_4_code
def yX10_fallOf : MethodName := ⟨RX10, "fallOf", "(LIcicleClock$Street;II)I"⟩
abbrev cX10_lossOn : ByteArray := prog_12_method_5_code
def yX10_lossOn : MethodName := ⟨RX10, "lossOn", "(LIcicleClock$Street;II)I"⟩
abbrev cX10_lossThrough : ByteArray := prog_12_method_6_code
def yX10_lossThrough : MethodName := ⟨RX10, "lossThrough", "(LIcicleClock$Street;II)I"⟩
abbrev cX10_fellBy : ByteArray := prog_12_method_7_code
def yX10_fellBy : MethodName := ⟨RX10, "fellBy", "(II)Z"⟩
abbrev cX10_fallenOn : ByteArray := prog_12_method_8_code
def yX10_fallenOn : MethodName := ⟨RX10, "fallenOn", "(LIcicleClock$Street;I)I"⟩
abbrev cX10_fallenBy : ByteArray := prog_12_method_9_code
def yX10_fallenBy : MethodName := ⟨RX10, "fallenBy", "(LIcicleClock$Street;I)I"⟩
abbrev cX10_fallsUnder : ByteArray := prog_12_method_10_code
def yX10_fallsUnder : MethodName := ⟨RX10, "fallsUnder", "(LIcicleClock$Street;II)I"⟩
abbrev cX10_timeAt : ByteArray := prog_12_method_11_code
def yX10_timeAt : MethodName := ⟨RX10, "timeAt", "(LIcicleClock$Street;II)I"⟩
abbrev cX10_daysOfOneTime : ByteArray := prog_12_method_12_code
def yX10_daysOfOneTime : MethodName := ⟨RX10, "daysOfOneTime", "(LIcicleClock$Street;II)I"⟩
abbrev cX10_lateness : ByteArray := prog_12_method_13_code
def yX10_lateness : MethodName := ⟨RX10, "lateness", "(LIcicleClock$Street;I)I"⟩
abbrev cX10_offTogether : ByteArray := prog_12_method_14_code
def yX10_offTogether : MethodName := ⟨RX10, "offTogether", "(LIcicleClock$Street;)I"⟩
def RX11 : String := "IcicleClock"
def TX11 : u_T := fun k => match k with
  | 0 => ("IcicleClock", "tape", "LIcicleClock$Tape;", true)
  | 1 => ("IcicleClock", "now", "LIcicleClock$Street;", true)
  | 2 => ("IcicleClock", "draft", "LIcicleClock$Street;", true)
  | 3 => ("IcicleClock", "images", "[LIcicleClock$Street;", true)
  | 4 => ("IcicleClock", "kept", "[Z", true)
  | 5 => ("IcicleClock", "slots", "[LIcicleClock$Slot;", true)
  | 6 => ("IcicleClock", "winter", "LIcicleClock$Winter;", true)
  | 7 => ("IcicleClock", "whatIf", "LIcicleClock$Winter;", true)
  | 8 => ("IcicleClock", "seen", "LIcicleClock$Seen;", true)
  | 9 => ("IcicleClock", "slammings", "LIcicleClock$Slams;", true)
  | 10 => ("IcicleClock", "skies", "LIcicleClock$Weathers;", true)
  | 11 => ("IcicleClock", "chances", "LIcicleClock$Chances;", true)
  | 12 => ("IcicleClock", "walker", "LIcicleClock$Walker;", true)
  | _ => ("IcicleClock", "clerks", "LIcicleClock$Clerks;", true)
def tyX11 : Nat → FieldType := fun k => match k with
  | 0 => .object "IcicleClock$Tape"
  | 1 => .object "IcicleClock$Street"
  | 2 => .object "IcicleClock$Street"
  | 3 => .array (.object "IcicleClock$Street")
  | 4 => .array .boolean
  | 5 => .array (.object "IcicleClock$Slot")
  | 6 => .object "IcicleClock$Winter"
  | 7 => .object "IcicleClock$Winter"
  | 8 => .object "IcicleClock$Seen"
  | 9 => .object "IcicleClock$Slams"
  | 10 => .object "IcicleClock$Weathers"
  | 11 => .object "IcicleClock$Chances"
  | 12 => .object "IcicleClock$Walker"
  | _ => .object "IcicleClock$Clerks"
abbrev wsX110 : List Cond := u_ws RX11 TX11 14
theorem nmX11 : ∀ a, a < 14 → ∀ b, b < 14 → a ≠ b → (TX11 a).2.1 ≠ (TX11 b).2.1 := by decide +kernel
theorem tyX11_ok : ∀ k, k < 14 → parseFieldDescriptor (TX11 k).2.2.1 = some (tyX11 k) := by decide +kernel
abbrev cX11_init : ByteArray := prog_1_method_1_code
def yX11_init : MethodName := ⟨RX11, "<init>", "()V"⟩
abbrev cX11_feed : ByteArray := prog_1_method_2_code
def yX11_feed : MethodName := ⟨RX11, "feed", "(IIIII)I"⟩
abbrev cX11_end : ByteArray := prog_1_method_3_code
def yX11_end : MethodName := ⟨RX11, "end", "(I)I"⟩
abbrev cX11_street : ByteArray := prog_1_method_4_code
def yX11_street : MethodName := ⟨RX11, "street", "()I"⟩
abbrev cX11_fault : ByteArray := prog_1_method_5_code
def yX11_fault : MethodName := ⟨RX11, "fault", "(I)I"⟩
abbrev cX11_day : ByteArray := prog_1_method_6_code
def yX11_day : MethodName := ⟨RX11, "day", "(I)I"⟩
abbrev cX11_melt : ByteArray := prog_1_method_7_code
def yX11_melt : MethodName := ⟨RX11, "melt", "(II)I"⟩
abbrev cX11_icicle : ByteArray := prog_1_method_8_code
def yX11_icicle : MethodName := ⟨RX11, "icicle", "(II)I"⟩
abbrev cX11_work : ByteArray := prog_1_method_9_code
def yX11_work : MethodName := ⟨RX11, "work", "(II)I"⟩
abbrev cX11_eave : ByteArray := prog_1_method_10_code
def yX11_eave : MethodName := ⟨RX11, "eave", "(I)I"⟩
abbrev cX11_falls : ByteArray := prog_1_method_11_code
def yX11_falls : MethodName := ⟨RX11, "falls", "(I)I"⟩
abbrev cX11_length : ByteArray := prog_1_method_12_code
def yX11_length : MethodName := ⟨RX11, "length", "(II)I"⟩
abbrev cX11_longest : ByteArray := prog_1_method_13_code
def yX11_longest : MethodName := ⟨RX11, "longest", "(I)I"⟩
abbrev cX11_drops : ByteArray := prog_1_method_14_code
def yX11_drops : MethodName := ⟨RX11, "drops", "(I)I"⟩
abbrev cX11_hang : ByteArray := prog_1_method_15_code
def yX11_hang : MethodName := ⟨RX11, "hang", "(I)I"⟩
abbrev cX11_under : ByteArray := prog_1_method_16_code
def yX11_under : MethodName := ⟨RX11, "under", "(I)I"⟩
abbrev cX11_rush : ByteArray := prog_1_method_17_code
def yX11_rush : MethodName := ⟨RX11, "rush", "()I"⟩
abbrev cX11_next : ByteArray := prog_1_method_18_code
def yX11_next : MethodName := ⟨RX11, "next", "(II)I"⟩
abbrev cX11_barest : ByteArray := prog_1_method_19_code
def yX11_barest : MethodName := ⟨RX11, "barest", "()I"⟩
abbrev cX11_time : ByteArray := prog_1_method_20_code
def yX11_time : MethodName := ⟨RX11, "time", "(II)I"⟩
abbrev cX11_hour : ByteArray := prog_1_method_21_code
def yX11_hour : MethodName := ⟨RX11, "hour", "(I)I"⟩
abbrev cX11_meet : ByteArray := prog_1_method_22_code
def yX11_meet : MethodName := ⟨RX11, "meet", "(II)I"⟩
abbrev cX11_apart : ByteArray := prog_1_method_23_code
def yX11_apart : MethodName := ⟨RX11, "apart", "(II)I"⟩
abbrev cX11_tells : ByteArray := prog_1_method_24_code
def yX11_tells : MethodName := ⟨RX11, "tells", "(I)I"⟩
abbrev cX11_late : ByteArray := prog_1_method_25_code
def yX11_late : MethodName := ⟨RX11, "late", "(I)I"⟩
abbrev cX11_lates : ByteArray := prog_1_method_26_code
def yX11_lates : MethodName := ⟨RX11, "lates", "()I"⟩
abbrev cX11_off : ByteArray := prog_1_method_27_code
def yX11_off : MethodName := ⟨RX11, "off", "()I"⟩
abbrev cX11_worst : ByteArray := prog_1_method_28_code
def yX11_worst : MethodName := ⟨RX11, "worst", "()I"⟩
abbrev cX11_size : ByteArray := prog_1_method_29_code
def yX11_size : MethodName := ⟨RX11, "size", "(II)I"⟩
abbrev cX11_sizes : ByteArray := prog_1_method_30_code
def yX11_sizes : MethodName := ⟨RX11, "sizes", "(II)I"⟩
abbrev cX11_place : ByteArray := prog_1_method_31_code
def yX11_place : MethodName := ⟨RX11, "place", "(II)I"⟩
abbrev cX11_best : ByteArray := prog_1_method_32_code
def yX11_best : MethodName := ⟨RX11, "best", "(I)I"⟩
abbrev cX11_offs : ByteArray := prog_1_method_33_code
def yX11_offs : MethodName := ⟨RX11, "offs", "(I)I"⟩
abbrev cX11_doors : ByteArray := prog_1_method_34_code
def yX11_doors : MethodName := ⟨RX11, "doors", "(II)I"⟩
abbrev cX11_round : ByteArray := prog_1_method_35_code
def yX11_round : MethodName := ⟨RX11, "round", "(II)I"⟩
abbrev cX11_rounds : ByteArray := prog_1_method_36_code
def yX11_rounds : MethodName := ⟨RX11, "rounds", "(III)I"⟩
abbrev cX11_slams : ByteArray := prog_1_method_37_code
def yX11_slams : MethodName := ⟨RX11, "slams", "(I)I"⟩
abbrev cX11_slam : ByteArray := prog_1_method_38_code
def yX11_slam : MethodName := ⟨RX11, "slam", "(I)I"⟩
abbrev cX11_calm : ByteArray := prog_1_method_39_code
def yX11_calm : MethodName := ⟨RX11, "calm", "(I)I"⟩
abbrev cX11_ask : ByteArray := prog_1_method_40_code
def yX11_ask : MethodName := ⟨RX11, "ask", "(I)I"⟩
abbrev cX11_weathers : ByteArray := prog_1_method_41_code
def yX11_weathers : MethodName := ⟨RX11, "weathers", "(II)I"⟩
abbrev cX11_weather : ByteArray := prog_1_method_42_code
def yX11_weather : MethodName := ⟨RX11, "weather", "(III)I"⟩
abbrev cX11_warmth : ByteArray := prog_1_method_43_code
def yX11_warmth : MethodName := ⟨RX11, "warmth", "(III)I"⟩
abbrev cX11_chance : ByteArray := prog_1_method_44_code
def yX11_chance : MethodName := ⟨RX11, "chance", "(III)J"⟩
abbrev cX11_likely : ByteArray := prog_1_method_45_code
def yX11_likely : MethodName := ⟨RX11, "likely", "(I)I"⟩
abbrev cX11_surest : ByteArray := prog_1_method_46_code
def yX11_surest : MethodName := ⟨RX11, "surest", "(II)I"⟩
abbrev cX11_walk : ByteArray := prog_1_method_47_code
def yX11_walk : MethodName := ⟨RX11, "walk", "()I"⟩
abbrev cX11_walks : ByteArray := prog_1_method_48_code
def yX11_walks : MethodName := ⟨RX11, "walks", "(I)I"⟩
abbrev cX11_ways : ByteArray := prog_1_method_49_code
def yX11_ways : MethodName := ⟨RX11, "ways", "()I"⟩
abbrev cX11_rests : ByteArray := prog_1_method_50_code
def yX11_rests : MethodName := ⟨RX11, "rests", "()I"⟩
abbrev cX11_rest : ByteArray := prog_1_method_51_code
def yX11_rest : MethodName := ⟨RX11, "rest", "()I"⟩
abbrev cX11_door : ByteArray := prog_1_method_52_code
def yX11_door : MethodName := ⟨RX11, "door", "(II)I"⟩
abbrev cX11_ring : ByteArray := prog_1_method_53_code
def yX11_ring : MethodName := ⟨RX11, "ring", "(I)I"⟩
abbrev cX11_undo : ByteArray := prog_1_method_54_code
def yX11_undo : MethodName := ⟨RX11, "undo", "()I"⟩
abbrev cX11_anew : ByteArray := prog_1_method_55_code
def yX11_anew : MethodName := ⟨RX11, "anew", "()I"⟩
abbrev cX11_drawn : ByteArray := prog_1_method_56_code
def yX11_drawn : MethodName := ⟨RX11, "drawn", "(II)I"⟩
abbrev cX11_luck : ByteArray := prog_1_method_57_code
def yX11_luck : MethodName := ⟨RX11, "luck", "(IIII)I"⟩
abbrev cX11_hung : ByteArray := prog_1_method_58_code
def yX11_hung : MethodName := ⟨RX11, "hung", "(II)I"⟩
abbrev cX11_count : ByteArray := prog_1_method_59_code
def yX11_count : MethodName := ⟨RX11, "count", "(I)I"⟩
abbrev cX11_image : ByteArray := prog_1_method_60_code
def yX11_image : MethodName := ⟨RX11, "image", "(I)I"⟩
abbrev cX11_back : ByteArray := prog_1_method_61_code
def yX11_back : MethodName := ⟨RX11, "back", "(I)I"⟩
abbrev cX11_row : ByteArray := prog_1_method_62_code
def yX11_row : MethodName := ⟨RX11, "row", "(III)I"⟩
abbrev cX11_write : ByteArray := prog_1_method_63_code
def yX11_write : MethodName := ⟨RX11, "write", "(IIJ)I"⟩
abbrev cX11_paste : ByteArray := prog_1_method_64_code
def yX11_paste : MethodName := ⟨RX11, "paste", "(IIIII)I"⟩
abbrev cX11_isTold : ByteArray := prog_1_method_65_code
def yX11_isTold : MethodName := ⟨RX11, "isTold", "()Z"⟩
abbrev cX11_isDay : ByteArray := prog_1_method_66_code
def yX11_isDay : MethodName := ⟨RX11, "isDay", "(I)Z"⟩
abbrev cX11_isEave : ByteArray := prog_1_method_67_code
def yX11_isEave : MethodName := ⟨RX11, "isEave", "(I)Z"⟩
abbrev cX11_areEaves : ByteArray := prog_1_method_68_code
def yX11_areEaves : MethodName := ⟨RX11, "areEaves", "(I)Z"⟩
abbrev cX11_isIcicle : ByteArray := prog_1_method_69_code
def yX11_isIcicle : MethodName := ⟨RX11, "isIcicle", "(I)Z"⟩
abbrev cX11_isWork : ByteArray := prog_1_method_70_code
def yX11_isWork : MethodName := ⟨RX11, "isWork", "(I)Z"⟩
abbrev cX11_isEither : ByteArray := prog_1_method_71_code
def yX11_isEither : MethodName := ⟨RX11, "isEither", "(I)Z"⟩
abbrev cX11_isSeed : ByteArray := prog_1_method_72_code
def yX11_isSeed : MethodName := ⟨RX11, "isSeed", "(I)Z"⟩
abbrev cX11_isSlot : ByteArray := prog_1_method_73_code
def yX11_isSlot : MethodName := ⟨RX11, "isSlot", "(I)Z"⟩
abbrev cX11_slotsLaid : ByteArray := prog_1_method_74_code
def yX11_slotsLaid : MethodName := ⟨RX11, "slotsLaid", "()I"⟩
abbrev cX11_leastSize : ByteArray := prog_1_method_75_code
def yX11_leastSize : MethodName := ⟨RX11, "leastSize", "(II)I"⟩
abbrev cX11_mostSize : ByteArray := prog_1_method_76_code
def yX11_mostSize : MethodName := ⟨RX11, "mostSize", "(II)I"⟩
abbrev cX11_bestLength : ByteArray := prog_1_method_77_code
def yX11_bestLength : MethodName := ⟨RX11, "bestLength", "(I)I"⟩
abbrev cX11_offIfHung : ByteArray := prog_1_method_78_code
def yX11_offIfHung : MethodName := ⟨RX11, "offIfHung", "(II)I"⟩
abbrev cX11_leastSteps : ByteArray := prog_1_method_79_code
def yX11_leastSteps : MethodName := ⟨RX11, "leastSteps", "(II)I"⟩
abbrev cX11_firstStop : ByteArray := prog_1_method_80_code
def yX11_firstStop : MethodName := ⟨RX11, "firstStop", "(II)I"⟩
abbrev cX11_refusal : ByteArray := prog_1_method_81_code
def yX11_refusal : MethodName := ⟨RX11, "refusal", "(IZI)I"⟩
abbrev cX11_weatherRefusal : ByteArray := prog_1_method_82_code
def yX11_weatherRefusal : MethodName := ⟨RX11, "weatherRefusal", "(IIZ)I"⟩
abbrev cX11_greatestDivisor : ByteArray := prog_1_method_83_code
def yX11_greatestDivisor : MethodName := ⟨RX11, "greatestDivisor", "(JJ)J"⟩
abbrev cX11_drawWinter : ByteArray := prog_1_method_84_code
def yX11_drawWinter : MethodName := ⟨RX11, "drawWinter", "(J)V"⟩
def RX12 : String := "IcicleClockModel"
def TX12 : u_T := fun k => match k with
  | 0 => ("IcicleClockModel", "thrown", "I", false)
  | 1 => ("IcicleClockModel", "world", "[I", true)
  | 2 => ("IcicleClockModel", "images", "[I", true)
  | 3 => ("IcicleClockModel", "hasImage", "[Z", true)
  | 4 => ("IcicleClockModel", "tape", "[B", true)
  | 5 => ("IcicleClockModel", "taped", "I", false)
  | 6 => ("IcicleClockModel", "five", "[I", true)
  | 7 => ("IcicleClockModel", "size", "I", false)
  | 8 => ("IcicleClockModel", "at", "I", false)
  | 9 => ("IcicleClockModel", "from", "I", false)
  | 10 => ("IcicleClockModel", "token", "I", false)
  | 11 => ("IcicleClockModel", "value", "I", false)
  | 12 => ("IcicleClockModel", "faultKind", "I", false)
  | 13 => ("IcicleClockModel", "faultPlace", "I", false)
  | 14 => ("IcicleClockModel", "fresh", "[I", true)
  | 15 => ("IcicleClockModel", "off", "[I", true)
  | 16 => ("IcicleClockModel", "fell", "[I", true)
  | 17 => ("IcicleClockModel", "days", "I", false)
  | 18 => ("IcicleClockModel", "leastOff", "I", false)
  | 19 => ("IcicleClockModel", "rounds", "[I", true)
  | 20 => ("IcicleClockModel", "pairs", "[I", true)
  | 21 => ("IcicleClockModel", "fellBy", "[I", true)
  | 22 => ("IcicleClockModel", "pairMany", "I", false)
  | 23 => ("IcicleClockModel", "weatherMany", "I", false)
  | 24 => ("IcicleClockModel", "weatherFirst", "I", false)
  | 25 => ("IcicleClockModel", "weatherLeast", "I", false)
  | 26 => ("IcicleClockModel", "weatherMost", "I", false)
  | 27 => ("IcicleClockModel", "hangs", "[J", true)
  | 28 => ("IcicleClockModel", "hangsThen", "[J", true)
  | 29 => ("IcicleClockModel", "oftenOn", "[J", true)
  | 30 => ("IcicleClockModel", "oftenAll", "J", false)
  | 31 => ("IcicleClockModel", "oftenNever", "J", false)
  | 32 => ("IcicleClockModel", "struck", "[I", true)
  | 33 => ("IcicleClockModel", "struckWays", "[I", true)
  | 34 => ("IcicleClockModel", "restFirst", "I", false)
  | 35 => ("IcicleClockModel", "warmSet", "I", false)
  | 36 => ("IcicleClockModel", "many", "[I", true)
  | 37 => ("IcicleClockModel", "width", "[I", true)
  | 38 => ("IcicleClockModel", "numbers", "[J", true)
  | _ => ("IcicleClockModel", "moving", "[J", true)
def tyX12 : Nat → FieldType := fun k => match k with
  | 0 => .int
  | 1 => .array .int
  | 2 => .array .int
  | 3 => .array .boolean
  | 4 => .array .byte
  | 5 => .int
  | 6 => .array .int
  | 7 => .int
  | 8 => .int
  | 9 => .int
  | 10 => .int
  | 11 => .int
  | 12 => .int
  | 13 => .int
  | 14 => .array .int
  | 15 => .array .int
  | 16 => .array .int
  | 17 => .int
  | 18 => .int
  | 19 => .array .int
  | 20 => .array .int
  | 21 => .array .int
  | 22 => .int
  | 23 => .int
  | 24 => .int
  | 25 => .int
  | 26 => .int
  | 27 => .array .long
  | 28 => .array .long
  | 29 => .array .long
  | 30 => .long
  | 31 => .long
  | 32 => .array .int
  | 33 => .array .int
  | 34 => .int
  | 35 => .int
  | 36 => .array .int
  | 37 => .array .int
  | 38 => .array .long
  | _ => .array .long
abbrev wsX120 : List Cond := u_ws RX12 TX12 40
theorem nmX12 : ∀ a, a < 40 → ∀ b, b < 40 → a ≠ b → (TX12 a).2.1 ≠ (TX12 b).2.1 := by decide +kernel
theorem tyX12_ok : ∀ k, k < 40 → parseFieldDescriptor (TX12 k).2.2.1 = some (tyX12 k) := by decide +kernel
abbrev cX12_init : ByteArray := prog_14_method_1_code
def yX12_init : MethodName := ⟨RX12, "<init>", "()V"⟩
abbrev cX12_in : ByteArray := prog_14_method_3_code
def yX12_in : MethodName := ⟨RX12, "in", "(JJJ)Z"⟩
abbrev cX12_bits : ByteArray := prog_14_method_4_code
def yX12_bits : MethodName := ⟨RX12, "bits", "(I)I"⟩
abbrev cX12_bit : ByteArray := prog_14_method_5_code
def yX12_bit : MethodName := ⟨RX12, "bit", "(II)I"⟩
abbrev cX12_image : ByteArray := prog_14_method_6_code
def yX12_image : MethodName := ⟨RX12, "image", "(I)I"⟩
abbrev cX12_back : ByteArray := prog_14_method_7_code
def yX12_back : MethodName := ⟨RX12, "back", "(I)I"⟩
abbrev cX12_isStreet : ByteArray := prog_14_method_8_code
def yX12_isStreet : MethodName := ⟨RX12, "isStreet", "()Z"⟩
abbrev cX12_isDay : ByteArray := prog_14_method_9_code
def yX12_isDay : MethodName := ⟨RX12, "isDay", "(I)Z"⟩
abbrev cX12_isEave : ByteArray := prog_14_method_10_code
def yX12_isEave : MethodName := ⟨RX12, "isEave", "(I)Z"⟩
abbrev cX12_isIcicle : ByteArray := prog_14_method_11_code
def yX12_isIcicle : MethodName := ⟨RX12, "isIcicle", "(J)Z"⟩
abbrev cX12_isWork : ByteArray := prog_14_method_12_code
def yX12_isWork : MethodName := ⟨RX12, "isWork", "(I)Z"⟩
abbrev cX12_thawOf : ByteArray := prog_14_method_13_code
def yX12_thawOf : MethodName := ⟨RX12, "thawOf", "(I)I"⟩
abbrev cX12_isThaw : ByteArray := prog_14_method_14_code
def yX12_isThaw : MethodName := ⟨RX12, "isThaw", "(I)Z"⟩
abbrev cX12_sunOf : ByteArray := prog_14_method_15_code
def yX12_sunOf : MethodName := ⟨RX12, "sunOf", "(I)I"⟩
abbrev cX12_of : ByteArray := prog_14_method_16_code
def yX12_of : MethodName := ⟨RX12, "of", "(II)I"⟩
abbrev cX12_feed : ByteArray := prog_14_method_17_code
def yX12_feed : MethodName := ⟨RX12, "feed", "(IIIII)I"⟩
abbrev cX12_end : ByteArray := prog_14_method_18_code
def yX12_end : MethodName := ⟨RX12, "end", "(I)I"⟩
abbrev cX12_see : ByteArray := prog_14_method_19_code
def yX12_see : MethodName := ⟨RX12, "see", "(I)I"⟩
abbrev cX12_advance : ByteArray := prog_14_method_20_code
def yX12_advance : MethodName := ⟨RX12, "advance", "()V"⟩
abbrev cX12_good : ByteArray := prog_14_method_21_code
def yX12_good : MethodName := ⟨RX12, "good", "()Z"⟩
abbrev cX12_errs : ByteArray := prog_14_method_22_code
def yX12_errs : MethodName := ⟨RX12, "errs", "(I)V"⟩
abbrev cX12_is : ByteArray := prog_14_method_23_code
def yX12_is : MethodName := ⟨RX12, "is", "(Ljava/lang/String;)Z"⟩
abbrev cX12_takes : ByteArray := prog_14_method_24_code
def yX12_takes : MethodName := ⟨RX12, "takes", "(Ljava/lang/String;)Z"⟩
abbrev cX12_needs : ByteArray := prog_14_method_25_code
def yX12_needs : MethodName := ⟨RX12, "needs", "(Ljava/lang/String;)V"⟩
abbrev cX12_number : ByteArray := prog_14_method_26_code
def yX12_number : MethodName := ⟨RX12, "number", "(II)I"⟩
abbrev cX12_told : ByteArray := prog_14_method_27_code
def yX12_told : MethodName := ⟨RX12, "told", "(Ljava/lang/String;II)I"⟩
abbrev cX12_fault : ByteArray := prog_14_method_28_code
def yX12_fault : MethodName := ⟨RX12, "fault", "(I)I"⟩
abbrev cX12_readDay : ByteArray := prog_14_method_29_code
def yX12_readDay : MethodName := ⟨RX12, "readDay", "()V"⟩
abbrev cX12_readIcicle : ByteArray := prog_14_method_30_code
def yX12_readIcicle : MethodName := ⟨RX12, "readIcicle", "()V"⟩
abbrev cX12_readNext : ByteArray := prog_14_method_31_code
def yX12_readNext : MethodName := ⟨RX12, "readNext", "()V"⟩
abbrev cX12_readLine : ByteArray := prog_14_method_32_code
def yX12_readLine : MethodName := ⟨RX12, "readLine", "()V"⟩
abbrev cX12_street : ByteArray := prog_14_method_33_code
def yX12_street : MethodName := ⟨RX12, "street", "()I"⟩
abbrev cX12_day : ByteArray := prog_14_method_34_code
def yX12_day : MethodName := ⟨RX12, "day", "(I)I"⟩
abbrev cX12_meltBy : ByteArray := prog_14_method_35_code
def yX12_meltBy : MethodName := ⟨RX12, "meltBy", "(II)I"⟩
abbrev cX12_melt : ByteArray := prog_14_method_36_code
def yX12_melt : MethodName := ⟨RX12, "melt", "(II)I"⟩
abbrev cX12_icicle : ByteArray := prog_14_method_37_code
def yX12_icicle : MethodName := ⟨RX12, "icicle", "(II)I"⟩
abbrev cX12_work : ByteArray := prog_14_method_38_code
def yX12_work : MethodName := ⟨RX12, "work", "(II)I"⟩
abbrev cX12_eave : ByteArray := prog_14_method_39_code
def yX12_eave : MethodName := ⟨RX12, "eave", "(I)I"⟩
abbrev cX12_layOff : ByteArray := prog_14_method_40_code
def yX12_layOff : MethodName := ⟨RX12, "layOff", "(I)V"⟩
abbrev cX12_fallsBy : ByteArray := prog_14_method_41_code
def yX12_fallsBy : MethodName := ⟨RX12, "fallsBy", "(II)I"⟩
abbrev cX12_layFalls : ByteArray := prog_14_method_42_code
def yX12_layFalls : MethodName := ⟨RX12, "layFalls", "()V"⟩
abbrev cX12_layAll : ByteArray := prog_14_method_43_code
def yX12_layAll : MethodName := ⟨RX12, "layAll", "()V"⟩
abbrev cX12_falls : ByteArray := prog_14_method_44_code
def yX12_falls : MethodName := ⟨RX12, "falls", "(I)I"⟩
abbrev cX12_lengthBehind : ByteArray := prog_14_method_45_code
def yX12_lengthBehind : MethodName := ⟨RX12, "lengthBehind", "(II)I"⟩
abbrev cX12_length : ByteArray := prog_14_method_46_code
def yX12_length : MethodName := ⟨RX12, "length", "(II)I"⟩
abbrev cX12_longest : ByteArray := prog_14_method_47_code
def yX12_longest : MethodName := ⟨RX12, "longest", "(I)I"⟩
abbrev cX12_dropsOn : ByteArray := prog_14_method_48_code
def yX12_dropsOn : MethodName := ⟨RX12, "dropsOn", "(I)I"⟩
abbrev cX12_drops : ByteArray := prog_14_method_49_code
def yX12_drops : MethodName := ⟨RX12, "drops", "(I)I"⟩
abbrev cX12_fellBy : ByteArray := prog_14_method_50_code
def yX12_fellBy : MethodName := ⟨RX12, "fellBy", "(II)Z"⟩
abbrev cX12_hang : ByteArray := prog_14_method_51_code
def yX12_hang : MethodName := ⟨RX12, "hang", "(I)I"⟩
abbrev cX12_under : ByteArray := prog_14_method_52_code
def yX12_under : MethodName := ⟨RX12, "under", "(I)I"⟩
abbrev cX12_rush : ByteArray := prog_14_method_53_code
def yX12_rush : MethodName := ⟨RX12, "rush", "()I"⟩
abbrev cX12_timeOf : ByteArray := prog_14_method_54_code
def yX12_timeOf : MethodName := ⟨RX12, "timeOf", "(II)I"⟩
abbrev cX12_time : ByteArray := prog_14_method_55_code
def yX12_time : MethodName := ⟨RX12, "time", "(II)I"⟩
abbrev cX12_hour : ByteArray := prog_14_method_56_code
def yX12_hour : MethodName := ⟨RX12, "hour", "(I)I"⟩
abbrev cX12_meetOf : ByteArray := prog_14_method_57_code
def yX12_meetOf : MethodName := ⟨RX12, "meetOf", "(II)I"⟩
abbrev cX12_meet : ByteArray := prog_14_method_58_code
def yX12_meet : MethodName := ⟨RX12, "meet", "(II)I"⟩
abbrev cX12_apart : ByteArray := prog_14_method_59_code
def yX12_apart : MethodName := ⟨RX12, "apart", "(II)I"⟩
abbrev cX12_lateOf : ByteArray := prog_14_method_60_code
def yX12_lateOf : MethodName := ⟨RX12, "lateOf", "(I)I"⟩
abbrev cX12_late : ByteArray := prog_14_method_61_code
def yX12_late : MethodName := ⟨RX12, "late", "(I)I"⟩
abbrev cX12_lates : ByteArray := prog_14_method_62_code
def yX12_lates : MethodName := ⟨RX12, "lates", "()I"⟩
abbrev cX12_offAll : ByteArray := prog_14_method_63_code
def yX12_offAll : MethodName := ⟨RX12, "offAll", "()I"⟩
abbrev cX12_off : ByteArray := prog_14_method_64_code
def yX12_off : MethodName := ⟨RX12, "off", "()I"⟩
abbrev cX12_worst : ByteArray := prog_14_method_65_code
def yX12_worst : MethodName := ⟨RX12, "worst", "()I"⟩
abbrev cX12_areThen : ByteArray := prog_14_method_66_code
def yX12_areThen : MethodName := ⟨RX12, "areThen", "(II)Z"⟩
abbrev cX12_size : ByteArray := prog_14_method_67_code
def yX12_size : MethodName := ⟨RX12, "size", "(II)I"⟩
abbrev cX12_sizes : ByteArray := prog_14_method_68_code
def yX12_sizes : MethodName := ⟨RX12, "sizes", "(II)I"⟩
abbrev cX12_place : ByteArray := prog_14_method_69_code
def yX12_place : MethodName := ⟨RX12, "place", "(II)I"⟩
abbrev cX12_bestOf : ByteArray := prog_14_method_70_code
def yX12_bestOf : MethodName := ⟨RX12, "bestOf", "(I)I"⟩
abbrev cX12_best : ByteArray := prog_14_method_71_code
def yX12_best : MethodName := ⟨RX12, "best", "(I)I"⟩
abbrev cX12_offs : ByteArray := prog_14_method_72_code
def yX12_offs : MethodName := ⟨RX12, "offs", "(I)I"⟩
abbrev cX12_doors : ByteArray := prog_14_method_73_code
def yX12_doors : MethodName := ⟨RX12, "doors", "(II)I"⟩
abbrev cX12_tells : ByteArray := prog_14_method_74_code
def yX12_tells : MethodName := ⟨RX12, "tells", "(I)I"⟩
abbrev cX12_next : ByteArray := prog_14_method_75_code
def yX12_next : MethodName := ⟨RX12, "next", "(II)I"⟩
abbrev cX12_barest : ByteArray := prog_14_method_76_code
def yX12_barest : MethodName := ⟨RX12, "barest", "()I"⟩
abbrev cX12_roundBy : ByteArray := prog_14_method_77_code
def yX12_roundBy : MethodName := ⟨RX12, "roundBy", "(III)I"⟩
abbrev cX12_layRounds : ByteArray := prog_14_method_78_code
def yX12_layRounds : MethodName := ⟨RX12, "layRounds", "(II)I"⟩
abbrev cX12_isRound : ByteArray := prog_14_method_79_code
def yX12_isRound : MethodName := ⟨RX12, "isRound", "(II)Z"⟩
abbrev cX12_round : ByteArray := prog_14_method_80_code
def yX12_round : MethodName := ⟨RX12, "round", "(II)I"⟩
abbrev cX12_rounds : ByteArray := prog_14_method_81_code
def yX12_rounds : MethodName := ⟨RX12, "rounds", "(III)I"⟩
abbrev cX12_numberAt : ByteArray := prog_14_method_82_code
def yX12_numberAt : MethodName := ⟨RX12, "numberAt", "(II)J"⟩
abbrev cX12_asksSeen : ByteArray := prog_14_method_83_code
def yX12_asksSeen : MethodName := ⟨RX12, "asksSeen", "(IZI)I"⟩
abbrev cX12_isSeen : ByteArray := prog_14_method_84_code
def yX12_isSeen : MethodName := ⟨RX12, "isSeen", "(I)Z"⟩
abbrev cX12_laySlams : ByteArray := prog_14_method_85_code
def yX12_laySlams : MethodName := ⟨RX12, "laySlams", "(I)I"⟩
abbrev cX12_slams : ByteArray := prog_14_method_86_code
def yX12_slams : MethodName := ⟨RX12, "slams", "(I)I"⟩
abbrev cX12_slam : ByteArray := prog_14_method_87_code
def yX12_slam : MethodName := ⟨RX12, "slam", "(I)I"⟩
abbrev cX12_calm : ByteArray := prog_14_method_88_code
def yX12_calm : MethodName := ⟨RX12, "calm", "(I)I"⟩
abbrev cX12_ask : ByteArray := prog_14_method_89_code
def yX12_ask : MethodName := ⟨RX12, "ask", "(I)I"⟩
abbrev cX12_thawIn : ByteArray := prog_14_method_90_code
def yX12_thawIn : MethodName := ⟨RX12, "thawIn", "(III)I"⟩
abbrev cX12_layWeathers : ByteArray := prog_14_method_91_code
def yX12_layWeathers : MethodName := ⟨RX12, "layWeathers", "(IIZ)I"⟩
abbrev cX12_weathers : ByteArray := prog_14_method_92_code
def yX12_weathers : MethodName := ⟨RX12, "weathers", "(II)I"⟩
abbrev cX12_weather : ByteArray := prog_14_method_93_code
def yX12_weather : MethodName := ⟨RX12, "weather", "(III)I"⟩
abbrev cX12_warmth : ByteArray := prog_14_method_94_code
def yX12_warmth : MethodName := ⟨RX12, "warmth", "(III)I"⟩
abbrev cX12_goWarm : ByteArray := prog_14_method_95_code
def yX12_goWarm : MethodName := ⟨RX12, "goWarm", "(I)V"⟩
abbrev cX12_layWarm : ByteArray := prog_14_method_96_code
def yX12_layWarm : MethodName := ⟨RX12, "layWarm", "(II)V"⟩
abbrev cX12_divisor : ByteArray := prog_14_method_97_code
def yX12_divisor : MethodName := ⟨RX12, "divisor", "(JJ)J"⟩
abbrev cX12_chance : ByteArray := prog_14_method_98_code
def yX12_chance : MethodName := ⟨RX12, "chance", "(III)J"⟩
abbrev cX12_likely : ByteArray := prog_14_method_99_code
def yX12_likely : MethodName := ⟨RX12, "likely", "(I)I"⟩
abbrev cX12_surest : ByteArray := prog_14_method_100_code
def yX12_surest : MethodName := ⟨RX12, "surest", "(II)I"⟩
abbrev cX12_dropsAt : ByteArray := prog_14_method_101_code
def yX12_dropsAt : MethodName := ⟨RX12, "dropsAt", "(II)I"⟩
abbrev cX12_struckFrom : ByteArray := prog_14_method_102_code
def yX12_struckFrom : MethodName := ⟨RX12, "struckFrom", "(II)I"⟩
abbrev cX12_leastFrom : ByteArray := prog_14_method_103_code
def yX12_leastFrom : MethodName := ⟨RX12, "leastFrom", "(II)I"⟩
abbrev cX12_waysFrom : ByteArray := prog_14_method_104_code
def yX12_waysFrom : MethodName := ⟨RX12, "waysFrom", "(II)I"⟩
abbrev cX12_layWalks : ByteArray := prog_14_method_105_code
def yX12_layWalks : MethodName := ⟨RX12, "layWalks", "()Z"⟩
abbrev cX12_walk : ByteArray := prog_14_method_106_code
def yX12_walk : MethodName := ⟨RX12, "walk", "()I"⟩
abbrev cX12_ways : ByteArray := prog_14_method_107_code
def yX12_ways : MethodName := ⟨RX12, "ways", "()I"⟩
abbrev cX12_walks : ByteArray := prog_14_method_108_code
def yX12_walks : MethodName := ⟨RX12, "walks", "(I)I"⟩
abbrev cX12_hasFirst : ByteArray := prog_14_method_109_code
def yX12_hasFirst : MethodName := ⟨RX12, "hasFirst", "(II)I"⟩
abbrev cX12_hasSecond : ByteArray := prog_14_method_110_code
def yX12_hasSecond : MethodName := ⟨RX12, "hasSecond", "(II)I"⟩
abbrev cX12_isRest : ByteArray := prog_14_method_111_code
def yX12_isRest : MethodName := ⟨RX12, "isRest", "(II)Z"⟩
abbrev cX12_layRests : ByteArray := prog_14_method_112_code
def yX12_layRests : MethodName := ⟨RX12, "layRests", "()I"⟩
abbrev cX12_rests : ByteArray := prog_14_method_113_code
def yX12_rests : MethodName := ⟨RX12, "rests", "()I"⟩
abbrev cX12_rest : ByteArray := prog_14_method_114_code
def yX12_rest : MethodName := ⟨RX12, "rest", "()I"⟩
abbrev cX12_keepAct : ByteArray := prog_14_method_115_code
def yX12_keepAct : MethodName := ⟨RX12, "keepAct", "(I)Z"⟩
abbrev cX12_door : ByteArray := prog_14_method_116_code
def yX12_door : MethodName := ⟨RX12, "door", "(II)I"⟩
abbrev cX12_ring : ByteArray := prog_14_method_117_code
def yX12_ring : MethodName := ⟨RX12, "ring", "(I)I"⟩
abbrev cX12_undo : ByteArray := prog_14_method_118_code
def yX12_undo : MethodName := ⟨RX12, "undo", "()I"⟩
abbrev cX12_anew : ByteArray := prog_14_method_119_code
def yX12_anew : MethodName := ⟨RX12, "anew", "()I"⟩
abbrev cX12_goDrawn : ByteArray := prog_14_method_120_code
def yX12_goDrawn : MethodName := ⟨RX12, "goDrawn", "(J)V"⟩
abbrev cX12_isSeed : ByteArray := prog_14_method_121_code
def yX12_isSeed : MethodName := ⟨RX12, "isSeed", "(I)Z"⟩
abbrev cX12_drawn : ByteArray := prog_14_method_122_code
def yX12_drawn : MethodName := ⟨RX12, "drawn", "(II)I"⟩
abbrev cX12_luck : ByteArray := prog_14_method_123_code
def yX12_luck : MethodName := ⟨RX12, "luck", "(IIII)I"⟩
abbrev cX12_hung : ByteArray := prog_14_method_124_code
def yX12_hung : MethodName := ⟨RX12, "hung", "(II)I"⟩
abbrev cX12_count : ByteArray := prog_14_method_125_code
def yX12_count : MethodName := ⟨RX12, "count", "(I)I"⟩
abbrev cX12_isSlot : ByteArray := prog_14_method_126_code
def yX12_isSlot : MethodName := ⟨RX12, "isSlot", "(I)Z"⟩
abbrev cX12_cut : ByteArray := prog_14_method_127_code
def yX12_cut : MethodName := ⟨RX12, "cut", "(JI)J"⟩
abbrev cX12_row : ByteArray := prog_14_method_128_code
def yX12_row : MethodName := ⟨RX12, "row", "(III)I"⟩
abbrev cX12_write : ByteArray := prog_14_method_129_code
def yX12_write : MethodName := ⟨RX12, "write", "(IIJ)I"⟩
abbrev cX12_paste : ByteArray := prog_14_method_130_code
def yX12_paste : MethodName := ⟨RX12, "paste", "(IIIII)I"⟩
def RJx145de : String := "java/io/Serializable"
def RJx9f9b0 : String := "java/lang/CharSequence"
def RJxb160c : String := "java/lang/Comparable"
def RJ6 : String := "java/lang/Integer"
abbrev cJ6_bitCount_0f7a4 : ByteArray := prog_15_method_49_code
def yJ6_bitCount_0f7a4 : MethodName := ⟨RJ6, "bitCount", "(I)I"⟩
def RJ9 : String := "java/lang/Math"
abbrev cJ9_abs_0f7a4 : ByteArray := prog_16_method_59_code
def yJ9_abs_0f7a4 : MethodName := ⟨RJ9, "abs", "(I)I"⟩
abbrev cJ9_max_7cf53 : ByteArray := prog_16_method_65_code
def yJ9_max_7cf53 : MethodName := ⟨RJ9, "max", "(II)I"⟩
abbrev cJ9_min_7cf53 : ByteArray := prog_16_method_69_code
def yJ9_min_7cf53 : MethodName := ⟨RJ9, "min", "(II)I"⟩
def RJ0 : String := "java/lang/String"
abbrev cJ0_length_8abf5 : ByteArray := prog_17_method_54_code
def yJ0_length_8abf5 : MethodName := ⟨RJ0, "length", "()I"⟩
abbrev cJ0_charAt_5068e : ByteArray := prog_17_method_56_code
def yJ0_charAt_5068e : MethodName := ⟨RJ0, "charAt", "(I)C"⟩
abbrev cJ0_coder_7d493 : ByteArray := prog_17_method_152_code
def yJ0_coder_7d493 : MethodName := ⟨RJ0, "coder", "()B"⟩
abbrev cJ0_isLatin1_aae02 : ByteArray := prog_17_method_154_code
def yJ0_isLatin1_aae02 : MethodName := ⟨RJ0, "isLatin1", "()Z"⟩
abbrev cJ0_checkIndex_df160 : ByteArray := prog_17_method_155_code
def yJ0_checkIndex_df160 : MethodName := ⟨RJ0, "checkIndex", "(II)V"⟩
def RJ1 : String := "java/lang/StringLatin1"
abbrev cJ1_charAt_3b067 : ByteArray := prog_18_method_2_code
def yJ1_charAt_3b067 : MethodName := ⟨RJ1, "charAt", "([BI)C"⟩
def RJ2 : String := "java/lang/StringUTF16"
abbrev cJ2_getChar_3b067 : ByteArray := prog_19_method_5_code
def yJ2_getChar_3b067 : MethodName := ⟨RJ2, "getChar", "([BI)C"⟩
abbrev cJ2_length_9d52b : ByteArray := prog_19_method_6_code
def yJ2_length_9d52b : MethodName := ⟨RJ2, "length", "([B)I"⟩
abbrev cJ2_charAt_3b067 : ByteArray := prog_19_method_83_code
def yJ2_charAt_3b067 : MethodName := ⟨RJ2, "charAt", "([BI)C"⟩
abbrev cJ2_checkIndex_2214a : ByteArray := prog_19_method_91_code
def yJ2_checkIndex_2214a : MethodName := ⟨RJ2, "checkIndex", "(I[B)V"⟩
def RJ10 : String := "java/lang/System"
def RJxfd54e : String := "java/lang/constant/Constable"
def RJx3cf43 : String := "java/lang/constant/ConstantDesc"
def RJ7 : String := "java/util/Arrays"
abbrev cJ7_fill_d0a16 : ByteArray := prog_21_method_101_code
def yJ7_fill_d0a16 : MethodName := ⟨RJ7, "fill", "([JJ)V"⟩
abbrev cJ7_fill_53178 : ByteArray := prog_21_method_103_code
def yJ7_fill_53178 : MethodName := ⟨RJ7, "fill", "([II)V"⟩
def RJ3 : String := "jdk/internal/util/Preconditions"
abbrev cJ3_checkIndex_8e157 : ByteArray := prog_22_method_11_code
def yJ3_checkIndex_8e157 : MethodName := ⟨RJ3, "checkIndex", "(IILjava/util/function/BiFunction;)I"⟩
def RL : String := "IcicleClockLaw"
abbrev cL_law : ByteArray := code
def yL_law : MethodName := ⟨RL, "law", "([I)Z"⟩
abbrev vwCl : List vw_C := [(RX0, TX0, 5), (RX1, TX1, 4), (RX2, TX2, 3), (RX3, TX3, 2), (RX4, TX4, 3), (RX5, TX5, 4), (RX6, TX6, 18), (RX7, TX7, 7), (RX8, TX8, 6), (RX9, TX9, 4), (RX10, TX10, 4), (RX11, TX11, 14), (RX12, TX12, 40)]
end
section
-- THE WORLD BY NUMBERS: cell i of n lies at the address ad i and holds g i
def wL (ad : Nat → Nat) (g : Nat → va_E) (n : Nat) : va_W := (List.range n).map (fun i => (ad i, g i))
def wA (ad : Nat → Nat) (n : Nat) : Nat → Prop := fun q => ∃ i, i < n ∧ q = ad i
def wJ (ad : Nat → Nat) (n : Nat) : Prop := ∀ i j, i < n → j < n → ad i = ad j → i = j
theorem wL_at {ad : Nat → Nat} {g : Nat → va_E} {n i : Nat} {e : va_E} (h : i < n) (he : g i = e) : (wL ad g n)[i]? = some (ad i, e) := by
  unfold wL
  rw [List.getElem?_map, List.getElem?_range h]
  simp [he]
theorem wL_inv {ad : Nat → Nat} {g : Nat → va_E} {n k : Nat} {q : Nat × va_E} (h : (wL ad g n)[k]? = some q) : k < n ∧ q = (ad k, g k) := by
  unfold wL at h
  rw [List.getElem?_map] at h
  by_cases hk : k < n
  · rw [List.getElem?_range hk] at h
    exact ⟨hk, (Option.some.inj h).symm⟩
  · have h0 : (List.range n)[k]? = none := List.getElem?_eq_none (by rw [List.length_range]; omega)
    rw [h0] at h
    cases h
theorem wL_length (ad : Nat → Nat) (g : Nat → va_E) (n : Nat) : (wL ad g n).length = n := by simp [wL]
theorem wL_no {ad : Nat → Nat} {g : Nat → va_E} {n k : Nat} (h : ¬ k < n) : (wL ad g n)[k]? = none := List.getElem?_eq_none (by rw [wL_length]; omega)
theorem wL_set {ad : Nat → Nat} {g : Nat → va_E} {n i : Nat} {e : va_E} : (wL ad g n).set i (ad i, e) = wL ad (va_up g i e) n := by
  apply List.ext_getElem?
  intro k
  rw [List.getElem?_set]
  by_cases hk : k < n
  · rw [wL_at (g := va_up g i e) hk rfl]
    by_cases hi : i = k
    · subst hi
      rw [if_pos rfl, if_pos (by rw [wL_length]; exact hk), va_up_self]
    · rw [if_neg hi, wL_at hk rfl, va_up_ne g e (fun h => hi h.symm)]
  · rw [wL_no (g := va_up g i e) hk]
    by_cases hi : i = k
    · subst hi
      rw [if_pos rfl, if_neg (by rw [wL_length]; exact hk)]
    · rw [if_neg hi, wL_no hk]
theorem wL_D {ad : Nat → Nat} {g : Nat → va_E} {n : Nat} {A : Nat → Prop} (hj : wJ ad n) (hA : ∀ i, i < n → A (ad i)) : va_D A (wL ad g n) :=
  ⟨fun i j p q h1 h2 h => by
    obtain ⟨a1, rfl⟩ := wL_inv h1
    obtain ⟨a2, rfl⟩ := wL_inv h2
    exact hj i j a1 a2 h, fun k q h => by
    obtain ⟨a1, rfl⟩ := wL_inv h
    exact hA k a1⟩
/-- the array classes: bytes, ints, longs, booleans, Slots, Streets, rows of rows -/
def tyL (cs : Nat → ClassId) : List (ClassId × FieldType) := [(cs 0, .byte), (cs 1, .int), (cs 2, .long), (cs 3, .boolean), (cs 4, .object "IcicleClock$Slot"), (cs 5, .object "IcicleClock$Street"), (cs 6, .array .int)]
/-- what stands still in a method -/
def Cx (p : Program) (s : State) (m : MethodId) (args : Array Value) (meth : Method) (c : Code) (cc : ByteArray) (nL : Nat) (rt : Option FieldType) (Ts : List Cond) (own : String) (D : va_G) (cs : Nat → ClassId) : Prop :=
  p.tables.exec = Jvm.exec ∧ c.code = cc ∧ meth.sig.returnType = rt ∧ c.maxLocals = nL ∧ (∀ w ∈ Ts, w.before args s = true) ∧ s.vm.findClass own = some m.cls ∧ va_K D vwCl (tyL cs) s ∧ meth.locks = false
/-- a contract's start and its ends -/
abbrev pC (D : va_G) (cs : Nat → ClassId) (ad : Nat → Nat) (n : Nat) (as : List Value) (g : Nat → va_E) : Array Value → State → Prop := va_Pc as (fun U => va_P D vwCl (wL ad g n) U.heap ∧ va_K D vwCl (tyL cs) U)
abbrev qI (D : va_G) (ad : Nat → Nat) (n : Nat) (post : Int32 → (Nat → va_E) → Prop) : Array Value → State → Outcome → State → Prop := va_Qi post (fun g' t => va_P D vwCl (wL ad g' n) t.heap) (wA ad n)
abbrev qJ (D : va_G) (ad : Nat → Nat) (n : Nat) (post : Int64 → (Nat → va_E) → Prop) : Array Value → State → Outcome → State → Prop := va_Ql post (fun g' t => va_P D vwCl (wL ad g' n) t.heap) (wA ad n)
abbrev qV (D : va_G) (ad : Nat → Nat) (n : Nat) (post : (Nat → va_E) → Prop) : Array Value → State → Outcome → State → Prop := va_Qv post (fun g' t => va_P D vwCl (wL ad g' n) t.heap) (wA ad n)
def cI (l : Launch) (y : MethodName) (ws : List Cond) (rm : Room) (D : va_G) (cs : Nat → ClassId) (ad : Nat → Nat) (n : Nat) (as : List Value) (g : Nat → va_E) (post : Int32 → (Nat → va_E) → Prop) : Prop := Met l y ws rm (pC D cs ad n as g) (qI D ad n post) 0 0 (wA ad n)
def cJ (l : Launch) (y : MethodName) (ws : List Cond) (rm : Room) (D : va_G) (cs : Nat → ClassId) (ad : Nat → Nat) (n : Nat) (as : List Value) (g : Nat → va_E) (post : Int64 → (Nat → va_E) → Prop) : Prop := Met l y ws rm (pC D cs ad n as g) (qJ D ad n post) 0 0 (wA ad n)
def cV (l : Launch) (y : MethodName) (ws : List Cond) (rm : Room) (D : va_G) (cs : Nat → ClassId) (ad : Nat → Nat) (n : Nat) (as : List Value) (g : Nat → va_E) (post : (Nat → va_E) → Prop) : Prop := Met l y ws rm (pC D cs ad n as g) (qV D ad n post) 0 0 (wA ad n)
theorem pC_blind {D : va_G} {cs : Nat → ClassId} {ad : Nat → Nat} {n : Nat} {as : List Value} {g : Nat → va_E} : FrameBlind (pC D cs ad n as g) := fun a U f mk q => by
  obtain ⟨q0, qP, qK⟩ := q
  exact ⟨q0, qP, va_K.moved (u := U) (U := U.calling f mk a) (Vm.Alike.refl U.vm) qK⟩
theorem Met.start {l : Launch} {y : MethodName} {ws ws' : List Cond} {rm : Room} {D : va_G} {cs : Nat → ClassId} {ad : Nat → Nat} {n : Nat} {as : List Value} {g : Nat → va_E} {Qc : Array Value → State → Outcome → State → Prop} {cc : ByteArray} {maxL : Nat} {ret : Option FieldType} {mc ms : Nat} {free : Addr → Prop} (own : String) (ho : y.cls = own) (hy : plainName y.cls = true) (hw : ws = Cond.code y cc maxL ret :: ws') (hlen : (lg_sl as).length ≤ maxL)
    (body : ∀ (p : Program) (e : Env) (s : State) (m : MethodId) (below : List Frame) (meth : Method) (c : Code) (ls : Array Slot), Cx p s m as.toArray meth c cc maxL ret ws own D cs → va_P D vwCl (wL ad g n) s.heap → lv_has ls maxL (lv_args 0 as) → W p l e rm s m as.toArray below meth c s.heap [] 0 0 (MQ below Qc as.toArray s mc ms free) (F0 m 0 ls [])) : Met l y ws rm (pC D cs ad n as g) Qc mc ms free := by
  refine Met.ofW (cc := cc) (maxL := maxL) (ret := ret) hy hw ?_
  intro p e s m args below meth c s₁ B hml hv
  obtain ⟨rfl, hP, hK⟩ := hv
  subst ho
  rw [lg_entry_eq]
  exact body p e s m below meth c _ ⟨B.exec, B.bytes, B.returns, hml, atoms_spec (ws := ws) B.pre, findClass_of_methodNamed B.named, hK, B.notSynchronized⟩ hP (lv_entry as hlen)
section BASE
variable {p : Program} {l : Launch} {e : Env} {R : Room} {s : State} {m : MethodId} {args : Array Value} {below : List Frame} {meth : Method} {c : Code} {H H0 : Heap} {locs : List Loc} {cells slots : Nat} {Q : State → Prop}
variable {cc : ByteArray} {pc nL n : Nat} {ls : Array Slot} {rest : List Value} {D : va_G} {cs : Nat → ClassId} {A : Nat → Prop} {ad : Nat → Nat} {g : Nat → va_E} {rt : Option FieldType} {Ts : List Cond} {own : String}
theorem q_get (X : Cx p s m args meth c cc nL rt Ts own D cs) {C : String} {T : u_T} {N ci index : Nat} (hin : ∀ w ∈ u_ws C T N, w ∈ Ts) (hP : va_P D vwCl (wL ad g n) H) {i : Nat} {fs : List Value} (hi : i < n) (hg : g i = .inr (ci, fs)) (hc : vwCl[ci]? = some (C, T, N)) (k : Nat) (hk : k < N) (hlink : Cond.fieldLink own index (T k).1 (T k).2.1 (T k).2.2.1 ∈ Ts) {v : Value} (hv : fs[k]? = some v) (hdg : decode cc pc = .ok (.getfield index, 3))
    (kk : W p l e R s m args below meth c H locs cells slots Q (F0 m (pc + 3) ls (v :: rest))) : W p l e R s m args below meth c H locs cells slots Q (F0 m pc ls (.ref (ad i) :: rest)) :=
  va_get X.1 X.2.1 X.2.2.2.2.1 hin X.2.2.2.2.2.1 X.2.2.2.2.2.2.1 hP i (wL_at hi hg) hc k hk (X.2.2.2.2.1 _ hlink) (fun _ h => h) hv hdg kk
theorem q_put (X : Cx p s m args meth c cc nL rt Ts own D cs) {C : String} {T : u_T} {N ci index : Nat} (hin : ∀ w ∈ u_ws C T N, w ∈ Ts) (ty0 : Nat → FieldType) (hty : ∀ k, k < N → parseFieldDescriptor (T k).2.2.1 = some (ty0 k)) (hnm : ∀ a, a < N → ∀ b, b < N → a ≠ b → (T a).2.1 ≠ (T b).2.1) (hP : va_P D vwCl (wL ad g n) H) (hj : wJ ad n) (hA : ∀ i, i < n → A (ad i)) (hS : va_S A H0 H locs) {i : Nat} {fs : List Value} (hi : i < n) (hg : g i = .inr (ci, fs)) (hc : vwCl[ci]? = some (C, T, N)) (k : Nat) (hk : k < N) (hlink : Cond.fieldLink own index (T k).1 (T k).2.1 (T k).2.2.1 ∈ Ts) (hfin : (T k).2.2.2 = false) {ty : FieldType} {v : Value} (hd : parseFieldDescriptor (T k).2.2.1 = some ty) (hn : narrow ty v = v) (hfit : fits ty v = true) (hl : k < fs.length) (hdg : decode cc pc = .ok (.putfield index, 3))
    (kk : ∀ (H1 : Heap) (locs1 : List Loc), va_P D vwCl (wL ad (va_up g i (.inr (ci, fs.set k v))) n) H1 → va_S A H0 H1 locs1 → W p l e R s m args below meth c H1 locs1 cells slots Q (F0 m (pc + 3) ls rest)) : W p l e R s m args below meth c H locs cells slots Q (F0 m pc ls (v :: .ref (ad i) :: rest)) :=
  va_put X.1 X.2.1 X.2.2.2.2.1 hin ty0 hty hnm X.2.2.2.2.2.1 X.2.2.2.2.2.2.1 hP (wL_D hj hA) hS i (wL_at hi hg) hc k hk (X.2.2.2.2.1 _ hlink) (fun _ h => h) hfin hd hn hfit hl hdg (fun H1 locs1 hP1 _ hS1 => kk H1 locs1 (by rw [← wL_set]; exact hP1) hS1)
theorem q_iald (X : Cx p s m args meth c cc nL rt Ts own D cs) (hP : va_P D vwCl (wL ad g n) H) {i N : Nat} {f : Nat → Int32} (hi : i < n) (hg : g i = .inl (cs 1, N, .inl f)) {k : Int32} (hin : vp_in k N) (hdg : decode cc pc = .ok (.iaload, 1))
    (kk : W p l e R s m args below meth c H locs cells slots Q (F0 m (pc + 1) ls (.int (f k.toNatClampNeg) :: rest))) : W p l e R s m args below meth c H locs cells slots Q (F0 m pc ls (.int k :: .ref (ad i) :: rest)) :=
  va_iald X.1 X.2.1 X.2.2.2.2.2.2.1 hP i 1 (wL_at hi hg) rfl hin hdg kk
theorem q_bald (X : Cx p s m args meth c cc nL rt Ts own D cs) (hP : va_P D vwCl (wL ad g n) H) {i N : Nat} {f : Nat → Int32} (hi : i < n) (hg : g i = .inl (cs 0, N, .inl f)) {k : Int32} (hin : vp_in k N) (hdg : decode cc pc = .ok (.baload, 1))
    (kk : W p l e R s m args below meth c H locs cells slots Q (F0 m (pc + 1) ls (.int (f k.toNatClampNeg) :: rest))) : W p l e R s m args below meth c H locs cells slots Q (F0 m pc ls (.int k :: .ref (ad i) :: rest)) :=
  va_bald X.1 X.2.1 X.2.2.2.2.2.2.1 hP i 0 (wL_at hi hg) rfl hin hdg kk
theorem q_zald (X : Cx p s m args meth c cc nL rt Ts own D cs) (hP : va_P D vwCl (wL ad g n) H) {i N : Nat} {f : Nat → Int32} (hi : i < n) (hg : g i = .inl (cs 3, N, .inl f)) {k : Int32} (hin : vp_in k N) (hdg : decode cc pc = .ok (.baload, 1))
    (kk : W p l e R s m args below meth c H locs cells slots Q (F0 m (pc + 1) ls (.int (f k.toNatClampNeg) :: rest))) : W p l e R s m args below meth c H locs cells slots Q (F0 m pc ls (.int k :: .ref (ad i) :: rest)) :=
  va_zald X.1 X.2.1 X.2.2.2.2.2.2.1 hP i 3 (wL_at hi hg) rfl hin hdg kk
theorem q_lald (X : Cx p s m args meth c cc nL rt Ts own D cs) (hP : va_P D vwCl (wL ad g n) H) {i N : Nat} {f : Nat → Int64} (hi : i < n) (hg : g i = .inl (cs 2, N, .inr (.inl f))) {k : Int32} (hin : vp_in k N) (hdg : decode cc pc = .ok (.laload, 1))
    (kk : W p l e R s m args below meth c H locs cells slots Q (F0 m (pc + 1) ls (.long (f k.toNatClampNeg) :: rest))) : W p l e R s m args below meth c H locs cells slots Q (F0 m pc ls (.int k :: .ref (ad i) :: rest)) :=
  va_lald X.1 X.2.1 X.2.2.2.2.2.2.1 hP i 2 (wL_at hi hg) rfl hin hdg kk
theorem q_iast (X : Cx p s m args meth c cc nL rt Ts own D cs) (hP : va_P D vwCl (wL ad g n) H) (hj : wJ ad n) (hA : ∀ i, i < n → A (ad i)) (hS : va_S A H0 H locs) {i N : Nat} {f : Nat → Int32} (hi : i < n) (hg : g i = .inl (cs 1, N, .inl f)) {k x : Int32} (hin : vp_in k N) (hdg : decode cc pc = .ok (.iastore, 1))
    (kk : ∀ (H1 : Heap) (locs1 : List Loc), va_P D vwCl (wL ad (va_up g i (.inl (cs 1, N, .inl (upd f k.toNatClampNeg x)))) n) H1 → va_S A H0 H1 locs1 → W p l e R s m args below meth c H1 locs1 cells slots Q (F0 m (pc + 1) ls rest)) : W p l e R s m args below meth c H locs cells slots Q (F0 m pc ls (.int x :: .int k :: .ref (ad i) :: rest)) :=
  va_iast X.1 X.2.1 X.2.2.2.2.2.2.1 hP (wL_D hj hA) hS i 1 (wL_at hi hg) rfl hin hdg (fun H1 locs1 hP1 _ hS1 => kk H1 locs1 (by rw [← wL_set]; exact hP1) hS1)
theorem q_bast (X : Cx p s m args meth c cc nL rt Ts own D cs) (hP : va_P D vwCl (wL ad g n) H) (hj : wJ ad n) (hA : ∀ i, i < n → A (ad i)) (hS : va_S A H0 H locs) {i N : Nat} {f : Nat → Int32} (hi : i < n) (hg : g i = .inl (cs 0, N, .inl f)) {k x : Int32} (hin : vp_in k N) (hdg : decode cc pc = .ok (.bastore, 1))
    (kk : ∀ (H1 : Heap) (locs1 : List Loc), va_P D vwCl (wL ad (va_up g i (.inl (cs 0, N, .inl (upd f k.toNatClampNeg (vp_nar .byte x))))) n) H1 → va_S A H0 H1 locs1 → W p l e R s m args below meth c H1 locs1 cells slots Q (F0 m (pc + 1) ls rest)) : W p l e R s m args below meth c H locs cells slots Q (F0 m pc ls (.int x :: .int k :: .ref (ad i) :: rest)) :=
  va_bast X.1 X.2.1 X.2.2.2.2.2.2.1 hP (wL_D hj hA) hS i 0 (wL_at hi hg) rfl hin hdg (fun H1 locs1 hP1 _ hS1 => kk H1 locs1 (by rw [← wL_set]; exact hP1) hS1)
theorem q_zast (X : Cx p s m args meth c cc nL rt Ts own D cs) (hP : va_P D vwCl (wL ad g n) H) (hj : wJ ad n) (hA : ∀ i, i < n → A (ad i)) (hS : va_S A H0 H locs) {i N : Nat} {f : Nat → Int32} (hi : i < n) (hg : g i = .inl (cs 3, N, .inl f)) {k x : Int32} (hin : vp_in k N) (hdg : decode cc pc = .ok (.bastore, 1))
    (kk : ∀ (H1 : Heap) (locs1 : List Loc), va_P D vwCl (wL ad (va_up g i (.inl (cs 3, N, .inl (upd f k.toNatClampNeg (vp_nar .boolean x))))) n) H1 → va_S A H0 H1 locs1 → W p l e R s m args below meth c H1 locs1 cells slots Q (F0 m (pc + 1) ls rest)) : W p l e R s m args below meth c H locs cells slots Q (F0 m pc ls (.int x :: .int k :: .ref (ad i) :: rest)) :=
  va_zast X.1 X.2.1 X.2.2.2.2.2.2.1 hP (wL_D hj hA) hS i 3 (wL_at hi hg) rfl hin hdg (fun H1 locs1 hP1 _ hS1 => kk H1 locs1 (by rw [← wL_set]; exact hP1) hS1)
theorem q_last (X : Cx p s m args meth c cc nL rt Ts own D cs) (hP : va_P D vwCl (wL ad g n) H) (hj : wJ ad n) (hA : ∀ i, i < n → A (ad i)) (hS : va_S A H0 H locs) {i N : Nat} {f : Nat → Int64} (hi : i < n) (hg : g i = .inl (cs 2, N, .inr (.inl f))) {k : Int32} {x : Int64} (hin : vp_in k N) (hdg : decode cc pc = .ok (.lastore, 1))
    (kk : ∀ (H1 : Heap) (locs1 : List Loc), va_P D vwCl (wL ad (va_up g i (.inl (cs 2, N, .inr (.inl (vp_updL f k.toNatClampNeg x))))) n) H1 → va_S A H0 H1 locs1 → W p l e R s m args below meth c H1 locs1 cells slots Q (F0 m (pc + 1) ls rest)) : W p l e R s m args below meth c H locs cells slots Q (F0 m pc ls (.long x :: .int k :: .ref (ad i) :: rest)) :=
  va_last X.1 X.2.1 X.2.2.2.2.2.2.1 hP (wL_D hj hA) hS i 2 (wL_at hi hg) rfl hin hdg (fun H1 locs1 hP1 _ hS1 => kk H1 locs1 (by rw [← wL_set]; exact hP1) hS1)
theorem q_iret (X : Cx p s m args meth c cc nL (some .int) Ts own D cs) {post : Int32 → (Nat → va_E) → Prop} (hP : va_P D vwCl (wL ad g n) H) (hS : va_S (wA ad n) s.heap H locs) {v : Int32} (hpost : post v g) (hdg : decode cc pc = .ok (.ireturn, 1)) : W p l e R s m args below meth c H locs 0 0 (MQ below (qI D ad n post) args s 0 0 (wA ad n)) (F0 m pc ls [.int v]) :=
  W.iret X.1 X.2.1 X.2.2.1 (fun t ht _ => ⟨⟨v, g, rfl, hpost, (by show va_P D vwCl (wL ad g n) t.heap; rw [ht]; exact hP)⟩, hS.F ht⟩) hS.2.2 hdg X.2.2.2.2.2.2.2
theorem q_zret (X : Cx p s m args meth c cc nL (some .boolean) Ts own D cs) {post : Int32 → (Nat → va_E) → Prop} (hP : va_P D vwCl (wL ad g n) H) (hS : va_S (wA ad n) s.heap H locs) {v : Int32} (hn : narrow .boolean (.int v) = .int v) (hpost : post v g) (hdg : decode cc pc = .ok (.ireturn, 1)) : W p l e R s m args below meth c H locs 0 0 (MQ below (qI D ad n post) args s 0 0 (wA ad n)) (F0 m pc ls [.int v]) :=
  W.zret X.1 X.2.1 X.2.2.1 hn (fun t ht _ => ⟨⟨v, g, rfl, hpost, (by show va_P D vwCl (wL ad g n) t.heap; rw [ht]; exact hP)⟩, hS.F ht⟩) hS.2.2 hdg X.2.2.2.2.2.2.2
theorem q_lret (X : Cx p s m args meth c cc nL (some .long) Ts own D cs) {post : Int64 → (Nat → va_E) → Prop} (hP : va_P D vwCl (wL ad g n) H) (hS : va_S (wA ad n) s.heap H locs) {v : Int64} (hpost : post v g) (hdg : decode cc pc = .ok (.lreturn, 1)) : W p l e R s m args below meth c H locs 0 0 (MQ below (qJ D ad n post) args s 0 0 (wA ad n)) (F0 m pc ls [.long v]) :=
  W.lret X.1 X.2.1 X.2.2.1 (fun t ht _ => ⟨⟨v, g, rfl, hpost, (by show va_P D vwCl (wL ad g n) t.heap; rw [ht]; exact hP)⟩, hS.F ht⟩) hS.2.2 hdg X.2.2.2.2.2.2.2
theorem q_vret (X : Cx p s m args meth c cc nL none Ts own D cs) {post : (Nat → va_E) → Prop} (hP : va_P D vwCl (wL ad g n) H) (hS : va_S (wA ad n) s.heap H locs) (hpost : post g) (hdg : decode cc pc = .ok (.return_, 1)) : W p l e R s m args below meth c H locs 0 0 (MQ below (qV D ad n post) args s 0 0 (wA ad n)) (F0 m pc ls []) :=
  W.vret X.1 X.2.1 X.2.2.1 (fun t ht _ => ⟨⟨g, rfl, hpost, (by show va_P D vwCl (wL ad g n) t.heap; rw [ht]; exact hP)⟩, hS.F ht⟩) hS.2.2 hdg X.2.2.2.2.2.2.2
variable {y : MethodName} {ws ws' : List Cond} {rm : Room} {bytes : ByteArray} {maxL index k : Nat} {ret : Option FieldType} {C : String} {As : List Value} {st : List Value}
theorem wA_in (hA : ∀ i, i < n → A (ad i)) : ∀ q, wA ad n q → A q := fun q h => by
  obtain ⟨i, hi, rfl⟩ := h
  exact hA i hi
theorem q_preV (X : Cx p s m args meth c cc nL rt Ts own D cs) (hP : va_P D vwCl (wL ad g n) H) {i ci : Nat} {fs : List Value} {q : vw_C} (hi : i < n) (hg : g i = .inr (ci, fs)) (hc : vwCl[ci]? = some q) : PreV s H q.1 (ad i) (pC D cs ad n (.ref (ad i) :: As) g) As :=
  ⟨pC_blind, va_recv X.2.2.2.2.2.2.1 hP hc (wL_at hi hg), fun U hU hW => ⟨rfl, by rw [hU]; exact hP, va_K.moved hW.alike X.2.2.2.2.2.2.1⟩⟩
theorem q_preS (X : Cx p s m args meth c cc nL rt Ts own D cs) (hP : va_P D vwCl (wL ad g n) H) : PreS s H (pC D cs ad n As g) As :=
  ⟨pC_blind, fun U hU hW => ⟨rfl, by rw [hU]; exact hP, va_K.moved hW.alike X.2.2.2.2.2.2.1⟩⟩
theorem q_calli (X : Cx p s m args meth c cc nL rt Ts own D cs) {i ci : Nat} {fs : List Value} {q : vw_C} {post : Int32 → (Nat → va_E) → Prop} (hM : cI l y ws rm D cs ad n (.ref (ad i) :: As) g post) (cw : CallW R s args own q.1 index y bytes maxL ret ws rm 0 0 k) (hi : i < n) (hg : g i = .inr (ci, fs)) (hc : vwCl[ci]? = some q) (hP : va_P D vwCl (wL ad g n) H) (hA : ∀ i, i < n → A (ad i)) (hS : va_S A H0 H locs) (hn : As.length = k) (hsz : ls.size = nL) (hst : st = As.reverse ++ .ref (ad i) :: rest) (hcat : (rest.map fun v => v.category).sum ≤ 8) (hdg : decode cc pc = .ok (.invokevirtual index, 3)) (hf : cells + 0 ≤ R.cells ∧ slots + 0 ≤ R.slots)
    (kk : ∀ (r : Int32) (g' : Nat → va_E) (H1 : Heap) (locs1 : List Loc), post r g' → va_P D vwCl (wL ad g' n) H1 → va_S A H0 H1 locs1 → W p l e R s m args below meth c H1 locs1 cells slots Q (F0 m (pc + 3) ls (.int r :: rest))) : W p l e R s m args below meth c H locs cells slots Q (F0 m pc ls st) :=
  va_calli (va_runV (nL := nL) (b := ad i) (As := As) (rest := rest) ⟨X.1, X.2.1, X.2.2.2.1, X.2.2.2.2.2.1, X.2.2.2.2.1⟩ hM cw (q_preV X hP hi hg hc) rfl hn hsz hst (lv_room hcat) hdg hf) hS (fun q _ h => wA_in hA q h) (wA_in hA) (fun r u t H1 locs1 ht _ hw hB _ _ hS1 => kk r u H1 locs1 hw (by rw [← ht]; exact hB) hS1)
theorem q_callj (X : Cx p s m args meth c cc nL rt Ts own D cs) {i ci : Nat} {fs : List Value} {q : vw_C} {post : Int64 → (Nat → va_E) → Prop} (hM : cJ l y ws rm D cs ad n (.ref (ad i) :: As) g post) (cw : CallW R s args own q.1 index y bytes maxL ret ws rm 0 0 k) (hi : i < n) (hg : g i = .inr (ci, fs)) (hc : vwCl[ci]? = some q) (hP : va_P D vwCl (wL ad g n) H) (hA : ∀ i, i < n → A (ad i)) (hS : va_S A H0 H locs) (hn : As.length = k) (hsz : ls.size = nL) (hst : st = As.reverse ++ .ref (ad i) :: rest) (hcat : (rest.map fun v => v.category).sum ≤ 8) (hdg : decode cc pc = .ok (.invokevirtual index, 3)) (hf : cells + 0 ≤ R.cells ∧ slots + 0 ≤ R.slots)
    (kk : ∀ (r : Int64) (g' : Nat → va_E) (H1 : Heap) (locs1 : List Loc), post r g' → va_P D vwCl (wL ad g' n) H1 → va_S A H0 H1 locs1 → W p l e R s m args below meth c H1 locs1 cells slots Q (F0 m (pc + 3) ls (.long r :: rest))) : W p l e R s m args below meth c H locs cells slots Q (F0 m pc ls st) :=
  va_calll (va_runV (nL := nL) (b := ad i) (As := As) (rest := rest) ⟨X.1, X.2.1, X.2.2.2.1, X.2.2.2.2.2.1, X.2.2.2.2.1⟩ hM cw (q_preV X hP hi hg hc) rfl hn hsz hst (lv_room hcat) hdg hf) hS (fun q _ h => wA_in hA q h) (wA_in hA) (fun r u t H1 locs1 ht _ hw hB _ _ hS1 => kk r u H1 locs1 hw (by rw [← ht]; exact hB) hS1)
theorem q_callv (X : Cx p s m args meth c cc nL rt Ts own D cs) {i ci : Nat} {fs : List Value} {q : vw_C} {post : (Nat → va_E) → Prop} (hM : cV l y ws rm D cs ad n (.ref (ad i) :: As) g post) (cw : CallW R s args own q.1 index y bytes maxL ret ws rm 0 0 k) (hi : i < n) (hg : g i = .inr (ci, fs)) (hc : vwCl[ci]? = some q) (hP : va_P D vwCl (wL ad g n) H) (hA : ∀ i, i < n → A (ad i)) (hS : va_S A H0 H locs) (hn : As.length = k) (hsz : ls.size = nL) (hst : st = As.reverse ++ .ref (ad i) :: rest) (hcat : (rest.map fun v => v.category).sum ≤ 8) (hdg : decode cc pc = .ok (.invokevirtual index, 3)) (hf : cells + 0 ≤ R.cells ∧ slots + 0 ≤ R.slots)
    (kk : ∀ (g' : Nat → va_E) (H1 : Heap) (locs1 : List Loc), post g' → va_P D vwCl (wL ad g' n) H1 → va_S A H0 H1 locs1 → W p l e R s m args below meth c H1 locs1 cells slots Q (F0 m (pc + 3) ls rest)) : W p l e R s m args below meth c H locs cells slots Q (F0 m pc ls st) :=
  va_callv (va_runV (nL := nL) (b := ad i) (As := As) (rest := rest) ⟨X.1, X.2.1, X.2.2.2.1, X.2.2.2.2.2.1, X.2.2.2.2.1⟩ hM cw (q_preV X hP hi hg hc) rfl hn hsz hst (lv_room hcat) hdg hf) hS (fun q _ h => wA_in hA q h) (wA_in hA) (fun u t H1 locs1 ht _ hw hB _ _ hS1 => kk u H1 locs1 hw (by rw [← ht]; exact hB) hS1)
theorem q_callSi (X : Cx p s m args meth c cc nL rt Ts own D cs) {post : Int32 → (Nat → va_E) → Prop} (hM : cI l y ws rm D cs ad n As g post) (cw : CallB R s args own index y bytes maxL ret ws rm 0 0 k ∧ (Cond.static y).before args s = true) (hP : va_P D vwCl (wL ad g n) H) (hA : ∀ i, i < n → A (ad i)) (hS : va_S A H0 H locs) (hn : As.length = k) (hsz : ls.size = nL) (hst : st = As.reverse ++ rest) (hcat : (rest.map fun v => v.category).sum ≤ 8) (hdg : decode cc pc = .ok (.invokestatic index, 3)) (hf : cells + 0 ≤ R.cells ∧ slots + 0 ≤ R.slots)
    (kk : ∀ (r : Int32) (g' : Nat → va_E) (H1 : Heap) (locs1 : List Loc), post r g' → va_P D vwCl (wL ad g' n) H1 → va_S A H0 H1 locs1 → W p l e R s m args below meth c H1 locs1 cells slots Q (F0 m (pc + 3) ls (.int r :: rest))) : W p l e R s m args below meth c H locs cells slots Q (F0 m pc ls st) :=
  va_calli (va_runS (nL := nL) (As := As) (rest := rest) ⟨X.1, X.2.1, X.2.2.2.1, X.2.2.2.2.2.1, X.2.2.2.2.1⟩ hM cw (q_preS X hP) rfl hn hsz hst (lv_room hcat) hdg hf) hS (fun q _ h => wA_in hA q h) (wA_in hA) (fun r u t H1 locs1 ht _ hw hB _ _ hS1 => kk r u H1 locs1 hw (by rw [← ht]; exact hB) hS1)
theorem q_callSj (X : Cx p s m args meth c cc nL rt Ts own D cs) {post : Int64 → (Nat → va_E) → Prop} (hM : cJ l y ws rm D cs ad n As g post) (cw : CallB R s args own index y bytes maxL ret ws rm 0 0 k ∧ (Cond.static y).before args s = true) (hP : va_P D vwCl (wL ad g n) H) (hA : ∀ i, i < n → A (ad i)) (hS : va_S A H0 H locs) (hn : As.length = k) (hsz : ls.size = nL) (hst : st = As.reverse ++ rest) (hcat : (rest.map fun v => v.category).sum ≤ 8) (hdg : decode cc pc = .ok (.invokestatic index, 3)) (hf : cells + 0 ≤ R.cells ∧ slots + 0 ≤ R.slots)
    (kk : ∀ (r : Int64) (g' : Nat → va_E) (H1 : Heap) (locs1 : List Loc), post r g' → va_P D vwCl (wL ad g' n) H1 → va_S A H0 H1 locs1 → W p l e R s m args below meth c H1 locs1 cells slots Q (F0 m (pc + 3) ls (.long r :: rest))) : W p l e R s m args below meth c H locs cells slots Q (F0 m pc ls st) :=
  va_calll (va_runS (nL := nL) (As := As) (rest := rest) ⟨X.1, X.2.1, X.2.2.2.1, X.2.2.2.2.2.1, X.2.2.2.2.1⟩ hM cw (q_preS X hP) rfl hn hsz hst (lv_room hcat) hdg hf) hS (fun q _ h => wA_in hA q h) (wA_in hA) (fun r u t H1 locs1 ht _ hw hB _ _ hS1 => kk r u H1 locs1 hw (by rw [← ht]; exact hB) hS1)
end BASE
end
section
abbrev nW : Nat := 218
theorem i_ge {x : Int32} (h : ¬ x < 0) : 0 ≤ x := Int32.not_lt.mp h
theorem dX11_isDay_0 : decode cX11_isDay 0 = .ok (.iload_n 1, 1) := by decide +kernel
theorem dX11_isDay_1 : decode cX11_isDay 1 = .ok (.ifCond .lt 18, 3) := by decide +kernel
theorem dX11_isDay_19 : decode cX11_isDay 19 = .ok (.iconst 0, 1) := by decide +kernel
theorem dX11_isDay_20 : decode cX11_isDay 20 = .ok (.ireturn, 1) := by decide +kernel
theorem dX11_isDay_4 : decode cX11_isDay 4 = .ok (.iload_n 1, 1) := by decide +kernel
theorem dX11_isDay_5 : decode cX11_isDay 5 = .ok (.aload_n 0, 1) := by decide +kernel
theorem dX11_isDay_6 : decode cX11_isDay 6 = .ok (.getfield 19, 3) := by decide +kernel
theorem dX11_isDay_9 : decode cX11_isDay 9 = .ok (.getfield 177, 3) := by decide +kernel
theorem dX11_isDay_12 : decode cX11_isDay 12 = .ok (.if_icmp .ge 7, 3) := by decide +kernel
def vX11_isDay : List Cond := .code yX11_isDay cX11_isDay 2 (some .boolean) :: ([.fieldLink RX11 19 "IcicleClock" "now" "LIcicleClock$Street;", .fieldLink RX11 177 "IcicleClock$Street" "days" "I"] ++ wsX110 ++ wsX60)
theorem iX11_isDay_11 : ∀ w ∈ wsX110, w ∈ vX11_isDay := fun _ h => List.mem_cons_of_mem _ (List.mem_append_left _ (List.mem_append_right _ h))
theorem iX11_isDay_6 : ∀ w ∈ wsX60, w ∈ vX11_isDay := fun _ h => List.mem_cons_of_mem _ (List.mem_append_right _ h)
set_option maxHeartbeats 4000000 in
set_option maxRecDepth 100000 in
theorem k_isDay (l : Launch) (D : va_G) (cs : Nat → ClassId) (ad : Nat → Nat) (hj : wJ ad nW) (g : Nat → va_E) (x : Int32) (h0 : g 0 = .inr (11, [.ref (ad 1), .ref (ad 3), .ref (ad 23), .ref (ad 43), .ref (ad 104), .ref (ad 105), .ref (ad 114), .ref (ad 116), .ref (ad 118), .ref (ad 120), .ref (ad 130), .ref (ad 140), .ref (ad 144), .ref (ad 190)])) (h3 : g 3 = .inr (6, [.int 0, .int 0, .int 0, .int 0, .int 0, .int 0, .int 0, .int 0, .ref (ad 4), .ref (ad 5), .ref (ad 6), .ref (ad 7), .ref (ad 8), .ref (ad 9), .ref (ad 10), .ref (ad 11), .ref (ad 12), .ref (ad 13)])) : cI l yX11_isDay vX11_isDay { frames := 0, cells := 0, slots := 0, locals := 0 } D cs ad nW [.ref (ad 0), .int x] g (fun r g2 => r = 0 ∧ g2 = g) := by
  refine Met.start (cc := cX11_isDay) (maxL := 2) (ret := (some .boolean)) RX11 rfl (by decide) rfl (Nat.le_of_ble_eq_true rfl) ?_
  intro p e s m below meth c ls X hP hl
  have hx := X.1
  have hb := X.2.1
  have hS : va_S (wA ad nW) s.heap s.heap [] := va_S.rf
  have hA : ∀ i, i < nW → wA ad nW (ad i) := fun i h => ⟨i, h, rfl⟩
  have hl : lv_has ls 2 [(0, .ref (ad 0)), (1, .int x)] := hl
  refine lv_iload_n hx hb dX11_isDay_0 rfl (lv_at hl 1 rfl) ?_
  refine lv_if_lt (tgt := 19) hx hb dX11_isDay_1 (by decide) (fun hc_1 => ?_) (fun hc_1 => ?_)
  · refine lv_iconst (v := 0) hx hb dX11_isDay_19 (by decide) ?_
    exact q_zret X hP hS rfl ⟨rfl, rfl⟩ dX11_isDay_20
  · refine lv_iload_n hx hb dX11_isDay_4 rfl (lv_at hl 1 rfl) ?_
    refine lv_aload_n hx hb dX11_isDay_5 rfl (lv_at hl 0 rfl) ?_
    refine q_get X iX11_isDay_11 hP (by decide) h0 rfl 1 (by decide) (List.mem_of_getElem? (i := 1) rfl) (v := .ref (ad 3)) rfl dX11_isDay_6 ?_
    refine q_get X iX11_isDay_6 hP (by decide) h3 rfl 3 (by decide) (List.mem_of_getElem? (i := 2) rfl) (v := .int 0) rfl dX11_isDay_9 ?_
    refine lv_icmp_ge (tgt := 19) hx hb dX11_isDay_12 (by decide) (fun hc_12 => ?_) (fun hc_12 => absurd (i_ge hc_1) hc_12)
    refine lv_iconst (v := 0) hx hb dX11_isDay_19 (by decide) ?_
    exact q_zret X hP hS rfl ⟨rfl, rfl⟩ dX11_isDay_20

theorem dX11_isEave_0 : decode cX11_isEave 0 = .ok (.iload_n 1, 1) := by decide +kernel
theorem dX11_isEave_1 : decode cX11_isEave 1 = .ok (.ifCond .lt 18, 3) := by decide +kernel
theorem dX11_isEave_19 : decode cX11_isEave 19 = .ok (.iconst 0, 1) := by decide +kernel
theorem dX11_isEave_20 : decode cX11_isEave 20 = .ok (.ireturn, 1) := by decide +kernel
theorem dX11_isEave_4 : decode cX11_isEave 4 = .ok (.iload_n 1, 1) := by decide +kernel
theorem dX11_isEave_5 : decode cX11_isEave 5 = .ok (.aload_n 0, 1) := by decide +kernel
theorem dX11_isEave_6 : decode cX11_isEave 6 = .ok (.getfield 19, 3) := by decide +kernel
theorem dX11_isEave_9 : decode cX11_isEave 9 = .ok (.getfield 208, 3) := by decide +kernel
theorem dX11_isEave_12 : decode cX11_isEave 12 = .ok (.if_icmp .ge 7, 3) := by decide +kernel
def vX11_isEave : List Cond := .code yX11_isEave cX11_isEave 2 (some .boolean) :: ([.fieldLink RX11 19 "IcicleClock" "now" "LIcicleClock$Street;", .fieldLink RX11 208 "IcicleClock$Street" "eaves" "I"] ++ wsX110 ++ wsX60)
theorem iX11_isEave_11 : ∀ w ∈ wsX110, w ∈ vX11_isEave := fun _ h => List.mem_cons_of_mem _ (List.mem_append_left _ (List.mem_append_right _ h))
theorem iX11_isEave_6 : ∀ w ∈ wsX60, w ∈ vX11_isEave := fun _ h => List.mem_cons_of_mem _ (List.mem_append_right _ h)
set_option maxHeartbeats 4000000 in
set_option maxRecDepth 100000 in
theorem k_isEave (l : Launch) (D : va_G) (cs : Nat → ClassId) (ad : Nat → Nat) (hj : wJ ad nW) (g : Nat → va_E) (x : Int32) (h0 : g 0 = .inr (11, [.ref (ad 1), .ref (ad 3), .ref (ad 23), .ref (ad 43), .ref (ad 104), .ref (ad 105), .ref (ad 114), .ref (ad 116), .ref (ad 118), .ref (ad 120), .ref (ad 130), .ref (ad 140), .ref (ad 144), .ref (ad 190)])) (h3 : g 3 = .inr (6, [.int 0, .int 0, .int 0, .int 0, .int 0, .int 0, .int 0, .int 0, .ref (ad 4), .ref (ad 5), .ref (ad 6), .ref (ad 7), .ref (ad 8), .ref (ad 9), .ref (ad 10), .ref (ad 11), .ref (ad 12), .ref (ad 13)])) : cI l yX11_isEave vX11_isEave { frames := 0, cells := 0, slots := 0, locals := 0 } D cs ad nW [.ref (ad 0), .int x] g (fun r g2 => r = 0 ∧ g2 = g) := by
  refine Met.start (cc := cX11_isEave) (maxL := 2) (ret := (some .boolean)) RX11 rfl (by decide) rfl (Nat.le_of_ble_eq_true rfl) ?_
  intro p e s m below meth c ls X hP hl
  have hx := X.1
  have hb := X.2.1
  have hS : va_S (wA ad nW) s.heap s.heap [] := va_S.rf
  have hA : ∀ i, i < nW → wA ad nW (ad i) := fun i h => ⟨i, h, rfl⟩
  have hl : lv_has ls 2 [(0, .ref (ad 0)), (1, .int x)] := hl
  refine lv_iload_n hx hb dX11_isEave_0 rfl (lv_at hl 1 rfl) ?_
  refine lv_if_lt (tgt := 19) hx hb dX11_isEave_1 (by decide) (fun hc_1 => ?_) (fun hc_1 => ?_)
  · refine lv_iconst (v := 0) hx hb dX11_isEave_19 (by decide) ?_
    exact q_zret X hP hS rfl ⟨rfl, rfl⟩ dX11_isEave_20
  · refine lv_iload_n hx hb dX11_isEave_4 rfl (lv_at hl 1 rfl) ?_
    refine lv_aload_n hx hb dX11_isEave_5 rfl (lv_at hl 0 rfl) ?_
    refine q_get X iX11_isEave_11 hP (by decide) h0 rfl 1 (by decide) (List.mem_of_getElem? (i := 1) rfl) (v := .ref (ad 3)) rfl dX11_isEave_6 ?_
    refine q_get X iX11_isEave_6 hP (by decide) h3 rfl 4 (by decide) (List.mem_of_getElem? (i := 2) rfl) (v := .int 0) rfl dX11_isEave_9 ?_
    refine lv_icmp_ge (tgt := 19) hx hb dX11_isEave_12 (by decide) (fun hc_12 => ?_) (fun hc_12 => absurd (i_ge hc_1) hc_12)
    refine lv_iconst (v := 0) hx hb dX11_isEave_19 (by decide) ?_
    exact q_zret X hP hS rfl ⟨rfl, rfl⟩ dX11_isEave_20

theorem dX11_isIcicle_0 : decode cX11_isIcicle 0 = .ok (.iload_n 1, 1) := by decide +kernel
theorem dX11_isIcicle_1 : decode cX11_isIcicle 1 = .ok (.ifCond .lt 18, 3) := by decide +kernel
theorem dX11_isIcicle_19 : decode cX11_isIcicle 19 = .ok (.iconst 0, 1) := by decide +kernel
theorem dX11_isIcicle_20 : decode cX11_isIcicle 20 = .ok (.ireturn, 1) := by decide +kernel
theorem dX11_isIcicle_4 : decode cX11_isIcicle 4 = .ok (.iload_n 1, 1) := by decide +kernel
theorem dX11_isIcicle_5 : decode cX11_isIcicle 5 = .ok (.aload_n 0, 1) := by decide +kernel
theorem dX11_isIcicle_6 : decode cX11_isIcicle 6 = .ok (.getfield 19, 3) := by decide +kernel
theorem dX11_isIcicle_9 : decode cX11_isIcicle 9 = .ok (.getfield 160, 3) := by decide +kernel
theorem dX11_isIcicle_12 : decode cX11_isIcicle 12 = .ok (.if_icmp .ge 7, 3) := by decide +kernel
def vX11_isIcicle : List Cond := .code yX11_isIcicle cX11_isIcicle 2 (some .boolean) :: ([.fieldLink RX11 19 "IcicleClock" "now" "LIcicleClock$Street;", .fieldLink RX11 160 "IcicleClock$Street" "icicles" "I"] ++ wsX110 ++ wsX60)
theorem iX11_isIcicle_11 : ∀ w ∈ wsX110, w ∈ vX11_isIcicle := fun _ h => List.mem_cons_of_mem _ (List.mem_append_left _ (List.mem_append_right _ h))
theorem iX11_isIcicle_6 : ∀ w ∈ wsX60, w ∈ vX11_isIcicle := fun _ h => List.mem_cons_of_mem _ (List.mem_append_right _ h)
set_option maxHeartbeats 4000000 in
set_option maxRecDepth 100000 in
theorem k_isIcicle (l : Launch) (D : va_G) (cs : Nat → ClassId) (ad : Nat → Nat) (hj : wJ ad nW) (g : Nat → va_E) (x : Int32) (h0 : g 0 = .inr (11, [.ref (ad 1), .ref (ad 3), .ref (ad 23), .ref (ad 43), .ref (ad 104), .ref (ad 105), .ref (ad 114), .ref (ad 116), .ref (ad 118), .ref (ad 120), .ref (ad 130), .ref (ad 140), .ref (ad 144), .ref (ad 190)])) (h3 : g 3 = .inr (6, [.int 0, .int 0, .int 0, .int 0, .int 0, .int 0, .int 0, .int 0, .ref (ad 4), .ref (ad 5), .ref (ad 6), .ref (ad 7), .ref (ad 8), .ref (ad 9), .ref (ad 10), .ref (ad 11), .ref (ad 12), .ref (ad 13)])) : cI l yX11_isIcicle vX11_isIcicle { frames := 0, cells := 0, slots := 0, locals := 0 } D cs ad nW [.ref (ad 0), .int x] g (fun r g2 => r = 0 ∧ g2 = g) := by
  refine Met.start (cc := cX11_isIcicle) (maxL := 2) (ret := (some .boolean)) RX11 rfl (by decide) rfl (Nat.le_of_ble_eq_true rfl) ?_
  intro p e s m below meth c ls X hP hl
  have hx := X.1
  have hb := X.2.1
  have hS : va_S (wA ad nW) s.heap s.heap [] := va_S.rf
  have hA : ∀ i, i < nW → wA ad nW (ad i) := fun i h => ⟨i, h, rfl⟩
  have hl : lv_has ls 2 [(0, .ref (ad 0)), (1, .int x)] := hl
  refine lv_iload_n hx hb dX11_isIcicle_0 rfl (lv_at hl 1 rfl) ?_
  refine lv_if_lt (tgt := 19) hx hb dX11_isIcicle_1 (by decide) (fun hc_1 => ?_) (fun hc_1 => ?_)
  · refine lv_iconst (v := 0) hx hb dX11_isIcicle_19 (by decide) ?_
    exact q_zret X hP hS rfl ⟨rfl, rfl⟩ dX11_isIcicle_20
  · refine lv_iload_n hx hb dX11_isIcicle_4 rfl (lv_at hl 1 rfl) ?_
    refine lv_aload_n hx hb dX11_isIcicle_5 rfl (lv_at hl 0 rfl) ?_
    refine q_get X iX11_isIcicle_11 hP (by decide) h0 rfl 1 (by decide) (List.mem_of_getElem? (i := 1) rfl) (v := .ref (ad 3)) rfl dX11_isIcicle_6 ?_
    refine q_get X iX11_isIcicle_6 hP (by decide) h3 rfl 5 (by decide) (List.mem_of_getElem? (i := 2) rfl) (v := .int 0) rfl dX11_isIcicle_9 ?_
    refine lv_icmp_ge (tgt := 19) hx hb dX11_isIcicle_12 (by decide) (fun hc_12 => ?_) (fun hc_12 => absurd (i_ge hc_1) hc_12)
    refine lv_iconst (v := 0) hx hb dX11_isIcicle_19 (by decide) ?_
    exact q_zret X hP hS rfl ⟨rfl, rfl⟩ dX11_isIcicle_20

theorem dX11_isWork_0 : decode cX11_isWork 0 = .ok (.iload_n 1, 1) := by decide +kernel
theorem dX11_isWork_1 : decode cX11_isWork 1 = .ok (.ifCond .lt 18, 3) := by decide +kernel
theorem dX11_isWork_19 : decode cX11_isWork 19 = .ok (.iconst 0, 1) := by decide +kernel
theorem dX11_isWork_20 : decode cX11_isWork 20 = .ok (.ireturn, 1) := by decide +kernel
theorem dX11_isWork_4 : decode cX11_isWork 4 = .ok (.iload_n 1, 1) := by decide +kernel
theorem dX11_isWork_5 : decode cX11_isWork 5 = .ok (.aload_n 0, 1) := by decide +kernel
theorem dX11_isWork_6 : decode cX11_isWork 6 = .ok (.getfield 19, 3) := by decide +kernel
theorem dX11_isWork_9 : decode cX11_isWork 9 = .ok (.getfield 226, 3) := by decide +kernel
theorem dX11_isWork_12 : decode cX11_isWork 12 = .ok (.if_icmp .ge 7, 3) := by decide +kernel
def vX11_isWork : List Cond := .code yX11_isWork cX11_isWork 2 (some .boolean) :: ([.fieldLink RX11 19 "IcicleClock" "now" "LIcicleClock$Street;", .fieldLink RX11 226 "IcicleClock$Street" "works" "I"] ++ wsX110 ++ wsX60)
theorem iX11_isWork_11 : ∀ w ∈ wsX110, w ∈ vX11_isWork := fun _ h => List.mem_cons_of_mem _ (List.mem_append_left _ (List.mem_append_right _ h))
theorem iX11_isWork_6 : ∀ w ∈ wsX60, w ∈ vX11_isWork := fun _ h => List.mem_cons_of_mem _ (List.mem_append_right _ h)
set_option maxHeartbeats 4000000 in
set_option maxRecDepth 100000 in
theorem k_isWork (l : Launch) (D : va_G) (cs : Nat → ClassId) (ad : Nat → Nat) (hj : wJ ad nW) (g : Nat → va_E) (x : Int32) (h0 : g 0 = .inr (11, [.ref (ad 1), .ref (ad 3), .ref (ad 23), .ref (ad 43), .ref (ad 104), .ref (ad 105), .ref (ad 114), .ref (ad 116), .ref (ad 118), .ref (ad 120), .ref (ad 130), .ref (ad 140), .ref (ad 144), .ref (ad 190)])) (h3 : g 3 = .inr (6, [.int 0, .int 0, .int 0, .int 0, .int 0, .int 0, .int 0, .int 0, .ref (ad 4), .ref (ad 5), .ref (ad 6), .ref (ad 7), .ref (ad 8), .ref (ad 9), .ref (ad 10), .ref (ad 11), .ref (ad 12), .ref (ad 13)])) : cI l yX11_isWork vX11_isWork { frames := 0, cells := 0, slots := 0, locals := 0 } D cs ad nW [.ref (ad 0), .int x] g (fun r g2 => r = 0 ∧ g2 = g) := by
  refine Met.start (cc := cX11_isWork) (maxL := 2) (ret := (some .boolean)) RX11 rfl (by decide) rfl (Nat.le_of_ble_eq_true rfl) ?_
  intro p e s m below meth c ls X hP hl
  have hx := X.1
  have hb := X.2.1
  have hS : va_S (wA ad nW) s.heap s.heap [] := va_S.rf
  have hA : ∀ i, i < nW → wA ad nW (ad i) := fun i h => ⟨i, h, rfl⟩
  have hl : lv_has ls 2 [(0, .ref (ad 0)), (1, .int x)] := hl
  refine lv_iload_n hx hb dX11_isWork_0 rfl (lv_at hl 1 rfl) ?_
  refine lv_if_lt (tgt := 19) hx hb dX11_isWork_1 (by decide) (fun hc_1 => ?_) (fun hc_1 => ?_)
  · refine lv_iconst (v := 0) hx hb dX11_isWork_19 (by decide) ?_
    exact q_zret X hP hS rfl ⟨rfl, rfl⟩ dX11_isWork_20
  · refine lv_iload_n hx hb dX11_isWork_4 rfl (lv_at hl 1 rfl) ?_
    refine lv_aload_n hx hb dX11_isWork_5 rfl (lv_at hl 0 rfl) ?_
    refine q_get X iX11_isWork_11 hP (by decide) h0 rfl 1 (by decide) (List.mem_of_getElem? (i := 1) rfl) (v := .ref (ad 3)) rfl dX11_isWork_6 ?_
    refine q_get X iX11_isWork_6 hP (by decide) h3 rfl 6 (by decide) (List.mem_of_getElem? (i := 2) rfl) (v := .int 0) rfl dX11_isWork_9 ?_
    refine lv_icmp_ge (tgt := 19) hx hb dX11_isWork_12 (by decide) (fun hc_12 => ?_) (fun hc_12 => absurd (i_ge hc_1) hc_12)
    refine lv_iconst (v := 0) hx hb dX11_isWork_19 (by decide) ?_
    exact q_zret X hP hS rfl ⟨rfl, rfl⟩ dX11_isWork_20

theorem dX11_isTold_0 : decode cX11_isTold 0 = .ok (.aload_n 0, 1) := by decide +kernel
theorem dX11_isTold_1 : decode cX11_isTold 1 = .ok (.getfield 19, 3) := by decide +kernel
theorem dX11_isTold_4 : decode cX11_isTold 4 = .ok (.getfield 112, 3) := by decide +kernel
theorem dX11_isTold_7 : decode cX11_isTold 7 = .ok (.ifCond .le 7, 3) := by decide +kernel
theorem dX11_isTold_14 : decode cX11_isTold 14 = .ok (.iconst 0, 1) := by decide +kernel
theorem dX11_isTold_15 : decode cX11_isTold 15 = .ok (.ireturn, 1) := by decide +kernel
def vX11_isTold : List Cond := .code yX11_isTold cX11_isTold 1 (some .boolean) :: ([.fieldLink RX11 19 "IcicleClock" "now" "LIcicleClock$Street;", .fieldLink RX11 112 "IcicleClock$Street" "lines" "I"] ++ wsX110 ++ wsX60)
theorem iX11_isTold_11 : ∀ w ∈ wsX110, w ∈ vX11_isTold := fun _ h => List.mem_cons_of_mem _ (List.mem_append_left _ (List.mem_append_right _ h))
theorem iX11_isTold_6 : ∀ w ∈ wsX60, w ∈ vX11_isTold := fun _ h => List.mem_cons_of_mem _ (List.mem_append_right _ h)
set_option maxHeartbeats 4000000 in
set_option maxRecDepth 100000 in
theorem k_isTold (l : Launch) (D : va_G) (cs : Nat → ClassId) (ad : Nat → Nat) (hj : wJ ad nW) (g : Nat → va_E) (h0 : g 0 = .inr (11, [.ref (ad 1), .ref (ad 3), .ref (ad 23), .ref (ad 43), .ref (ad 104), .ref (ad 105), .ref (ad 114), .ref (ad 116), .ref (ad 118), .ref (ad 120), .ref (ad 130), .ref (ad 140), .ref (ad 144), .ref (ad 190)])) (h3 : g 3 = .inr (6, [.int 0, .int 0, .int 0, .int 0, .int 0, .int 0, .int 0, .int 0, .ref (ad 4), .ref (ad 5), .ref (ad 6), .ref (ad 7), .ref (ad 8), .ref (ad 9), .ref (ad 10), .ref (ad 11), .ref (ad 12), .ref (ad 13)])) : cI l yX11_isTold vX11_isTold { frames := 0, cells := 0, slots := 0, locals := 0 } D cs ad nW [.ref (ad 0)] g (fun r g2 => r = 0 ∧ g2 = g) := by
  refine Met.start (cc := cX11_isTold) (maxL := 1) (ret := (some .boolean)) RX11 rfl (by decide) rfl (Nat.le_of_ble_eq_true rfl) ?_
  intro p e s m below meth c ls X hP hl
  have hx := X.1
  have hb := X.2.1
  have hS : va_S (wA ad nW) s.heap s.heap [] := va_S.rf
  have hA : ∀ i, i < nW → wA ad nW (ad i) := fun i h => ⟨i, h, rfl⟩
  have hl : lv_has ls 1 [(0, .ref (ad 0))] := hl
  refine lv_aload_n hx hb dX11_isTold_0 rfl (lv_at hl 0 rfl) ?_
  refine q_get X iX11_isTold_11 hP (by decide) h0 rfl 1 (by decide) (List.mem_of_getElem? (i := 1) rfl) (v := .ref (ad 3)) rfl dX11_isTold_1 ?_
  refine q_get X iX11_isTold_6 hP (by decide) h3 rfl 7 (by decide) (List.mem_of_getElem? (i := 2) rfl) (v := .int 0) rfl dX11_isTold_4 ?_
  refine lv_if_le (tgt := 14) hx hb dX11_isTold_7 (by decide) (fun _ => ?_) (fun h => absurd h (by decide))
  refine lv_iconst (v := 0) hx hb dX11_isTold_14 (by decide) ?_
  exact q_zret X hP hS rfl ⟨rfl, rfl⟩ dX11_isTold_15

theorem dX11_day_0 : decode cX11_day 0 = .ok (.aload_n 0, 1) := by decide +kernel
theorem dX11_day_1 : decode cX11_day 1 = .ok (.iload_n 1, 1) := by decide +kernel
theorem dX11_day_2 : decode cX11_day 2 = .ok (.invokevirtual 121, 3) := by decide +kernel
theorem dX11_day_5 : decode cX11_day 5 = .ok (.ifCond .eq 15, 3) := by decide +kernel
theorem dX11_day_20 : decode cX11_day 20 = .ok (.sipush (-1000), 3) := by decide +kernel
theorem dX11_day_23 : decode cX11_day 23 = .ok (.ireturn, 1) := by decide +kernel
def vX11_day : List Cond := .code yX11_day cX11_day 2 (some .int) :: ([.methodLink RX11 121 yX11_isDay, .instanceMethod yX11_isDay, .selects RX11 yX11_isDay yX11_isDay, .initialized RX11, .code yX11_isDay cX11_isDay 2 (some .boolean), .fieldLink RX11 19 "IcicleClock" "now" "LIcicleClock$Street;", .fieldLink RX11 177 "IcicleClock$Street" "days" "I"] ++ wsX110 ++ wsX60)
theorem iX11_day_11 : ∀ w ∈ wsX110, w ∈ vX11_day := fun _ h => List.mem_cons_of_mem _ (List.mem_append_left _ (List.mem_append_right _ h))
theorem iX11_day_6 : ∀ w ∈ wsX60, w ∈ vX11_day := fun _ h => List.mem_cons_of_mem _ (List.mem_append_right _ h)
set_option maxRecDepth 20000 in
theorem gg_X11_day_X11_isDay : GoodIn vX11_day (wsV RX11 121 RX11 yX11_isDay vX11_isDay) := goodIn_r _ [1, 2, 3, 4, 5, 6, 7, 8, 9, 10, 11, 12, 13, 14, 15, 16, 17, 18, 19, 20, 21, 22, 23, 24, 25, 26, 27, 28, 29, 30, 31, 32, 33, 34, 35, 36, 37, 38, 39] (by decide +kernel) (by decide +kernel)
set_option maxHeartbeats 4000000 in
set_option maxRecDepth 100000 in
theorem k_day (l : Launch) (D : va_G) (cs : Nat → ClassId) (ad : Nat → Nat) (hj : wJ ad nW) (g : Nat → va_E) (x : Int32) (h0 : g 0 = .inr (11, [.ref (ad 1), .ref (ad 3), .ref (ad 23), .ref (ad 43), .ref (ad 104), .ref (ad 105), .ref (ad 114), .ref (ad 116), .ref (ad 118), .ref (ad 120), .ref (ad 130), .ref (ad 140), .ref (ad 144), .ref (ad 190)])) (h3 : g 3 = .inr (6, [.int 0, .int 0, .int 0, .int 0, .int 0, .int 0, .int 0, .int 0, .ref (ad 4), .ref (ad 5), .ref (ad 6), .ref (ad 7), .ref (ad 8), .ref (ad 9), .ref (ad 10), .ref (ad 11), .ref (ad 12), .ref (ad 13)])) : cI l yX11_day vX11_day { frames := 1, cells := 0, slots := 0, locals := 21 } D cs ad nW [.ref (ad 0), .int x] g (fun r g2 => r = (-1000) ∧ g2 = g) := by
  refine Met.start (cc := cX11_day) (maxL := 2) (ret := (some .int)) RX11 rfl (by decide) rfl (Nat.le_of_ble_eq_true rfl) ?_
  intro p e s m below meth c ls X hP hl
  have hx := X.1
  have hb := X.2.1
  have hS : va_S (wA ad nW) s.heap s.heap [] := va_S.rf
  have hA : ∀ i, i < nW → wA ad nW (ad i) := fun i h => ⟨i, h, rfl⟩
  have hl : lv_has ls 2 [(0, .ref (ad 0)), (1, .int x)] := hl
  refine lv_aload_n hx hb dX11_day_0 rfl (lv_at hl 0 rfl) ?_
  refine lv_iload_n hx hb dX11_day_1 rfl (lv_at hl 1 rfl) ?_
  refine q_calli (q := (RX11, TX11, 14)) (As := [.int x]) (rest := []) X (k_isDay l D cs ad hj g x h0 h3) (cwV 1 X.2.2.2.2.1 gg_X11_day_X11_isDay rfl rfl rfl (by decide +kernel) ⟨Nat.le_of_ble_eq_true rfl, Nat.le_of_ble_eq_true rfl⟩) (by decide) h0 rfl hP hA hS rfl hl.1 rfl (Nat.le_of_ble_eq_true rfl) dX11_day_2 ⟨Nat.le_of_ble_eq_true rfl, Nat.le_of_ble_eq_true rfl⟩ (fun r_3 g_2 H locs hw_1 hP hS => ?_)
  obtain ⟨hw_1a, hw_1b⟩ := hw_1
  subst hw_1a
  rw [hw_1b] at hP
  refine lv_if_eq (tgt := 20) hx hb dX11_day_5 (by decide) (fun _ => ?_) (fun h => absurd h (by decide))
  refine lv_sipush (v := (-1000)) hx hb dX11_day_20 (by decide) ?_
  exact q_iret X hP hS ⟨rfl, rfl⟩ dX11_day_23
end
