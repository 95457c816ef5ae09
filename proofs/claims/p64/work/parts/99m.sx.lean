set_option maxRecDepth 100000 in
set_option maxHeartbeats 8000000 in
theorem sx_of {args : Array Value} {s : State} {ad : Nat → Nat} (hts : ∀ w ∈ lw_tbl, w.before args s = true) (hgv : (Jvm.Cond.and given_1 narrow_1).before args s = true) (hAd : ∀ i, i < 218 → s.heap.size ≤ ad i) : ∃ kS : kSt, SX ad kS s s.heap := by
  have hs := flat_of_before _ hgv
  have hA : ∀ a : Nat, a < s.heap.size → ¬ wA ad 218 a := fun a h ⟨i, hi, e⟩ => by have := hAd i hi; omega
  obtain ⟨a0, t0, x0, y0, p0, q0, r0, u0⟩ := str_0 (A := wA ad 218) hs hA
  obtain ⟨a1, t1, x1, y1, p1, q1, r1, u1⟩ := str_1 (A := wA ad 218) hs hA
  obtain ⟨a2, t2, x2, y2, p2, q2, r2, u2⟩ := str_2 (A := wA ad 218) hs hA
  obtain ⟨a3, t3, x3, y3, p3, q3, r3, u3⟩ := str_3 (A := wA ad 218) hs hA
  obtain ⟨a4, t4, x4, y4, p4, q4, r4, u4⟩ := str_4 (A := wA ad 218) hs hA
  obtain ⟨a5, t5, x5, y5, p5, q5, r5, u5⟩ := str_5 (A := wA ad 218) hs hA
  obtain ⟨a6, t6, x6, y6, p6, q6, r6, u6⟩ := str_6 (A := wA ad 218) hs hA
  obtain ⟨a7, t7, x7, y7, p7, q7, r7, u7⟩ := str_7 (A := wA ad 218) hs hA
  obtain ⟨a8, t8, x8, y8, p8, q8, r8, u8⟩ := str_8 (A := wA ad 218) hs hA
  obtain ⟨a9, t9, x9, y9, p9, q9, r9, u9⟩ := str_9 (A := wA ad 218) hs hA
  obtain ⟨a10, t10, x10, y10, p10, q10, r10, u10⟩ := str_10 (A := wA ad 218) hs hA
  obtain ⟨a11, t11, x11, y11, p11, q11, r11, u11⟩ := str_11 (A := wA ad 218) hs hA
  obtain ⟨a12, t12, x12, y12, p12, q12, r12, u12⟩ := str_12 (A := wA ad 218) hs hA
  obtain ⟨a13, t13, x13, y13, p13, q13, r13, u13⟩ := str_13 (A := wA ad 218) hs hA
  obtain ⟨a14, t14, x14, y14, p14, q14, r14, u14⟩ := str_14 (A := wA ad 218) hs hA
  refine ⟨(fun i => [a0, a1, a2, a3, a4, a5, a6, a7, a8, a9, a10, a11, a12, a13, a14].getD i 0, fun i => [t0, t1, t2, t3, t4, t5, t6, t7, t8, t9, t10, t11, t12, t13, t14].getD i 0, fun i j => .int ((([[115, 116, 114, 101, 101, 116], [115, 108, 97, 109], [98, 101, 108, 108], [111, 100, 100, 115], [100, 97, 121], [102, 114, 111, 115, 116], [116, 104, 97, 119], [101, 97, 118, 101], [115, 117, 110], [105, 99, 105, 99, 108, 101], [97, 116], [108, 101, 110, 103, 116, 104], [104, 111, 117, 114], [100, 117, 101], [111, 110]] : List (List Int32)).getD i []).getD j 0)), fun i hi => ?_, fun q hq => ?_, va_Zof (hts (.laysStatic "java/lang/String" "COMPACT_STRINGS" "Z") (List.mem_of_getElem? (i := 589) (by decide +kernel))) (hts (.initialized "java/lang/String") (List.mem_of_getElem? (i := 111) (by decide +kernel))) (va_eqt (hs (.eq (.static "java/lang/String" "COMPACT_STRINGS" "Z") (.int 1)) (List.mem_of_getElem? (i := 4) (by decide +kernel)))) hA, va_Zqof (hts (.laysStatic "jdk/internal/util/Preconditions" "SIOOBE_FORMATTER" "Ljava/util/function/BiFunction;") (List.mem_of_getElem? (i := 605) (by decide +kernel))) (hts (.initialized "jdk/internal/util/Preconditions") (List.mem_of_getElem? (i := 113) (by decide +kernel))) (hs (.isRef (.static "jdk/internal/util/Preconditions" "SIOOBE_FORMATTER" "Ljava/util/function/BiFunction;")) (List.mem_of_getElem? (i := 5) (by decide +kernel))) hA⟩
  · rcases (by omega : i = 0 ∨ i = 1 ∨ i = 2 ∨ i = 3 ∨ i = 4 ∨ i = 5 ∨ i = 6 ∨ i = 7 ∨ i = 8 ∨ i = 9 ∨ i = 10 ∨ i = 11 ∨ i = 12 ∨ i = 13 ∨ i = 14) with rfl | rfl | rfl | rfl | rfl | rfl | rfl | rfl | rfl | rfl | rfl | rfl | rfl | rfl | rfl
    · exact ⟨p0, q0, r0, u0, fun j _ => ⟨_, rfl⟩⟩
    · exact ⟨p1, q1, r1, u1, fun j _ => ⟨_, rfl⟩⟩
    · exact ⟨p2, q2, r2, u2, fun j _ => ⟨_, rfl⟩⟩
    · exact ⟨p3, q3, r3, u3, fun j _ => ⟨_, rfl⟩⟩
    · exact ⟨p4, q4, r4, u4, fun j _ => ⟨_, rfl⟩⟩
    · exact ⟨p5, q5, r5, u5, fun j _ => ⟨_, rfl⟩⟩
    · exact ⟨p6, q6, r6, u6, fun j _ => ⟨_, rfl⟩⟩
    · exact ⟨p7, q7, r7, u7, fun j _ => ⟨_, rfl⟩⟩
    · exact ⟨p8, q8, r8, u8, fun j _ => ⟨_, rfl⟩⟩
    · exact ⟨p9, q9, r9, u9, fun j _ => ⟨_, rfl⟩⟩
    · exact ⟨p10, q10, r10, u10, fun j _ => ⟨_, rfl⟩⟩
    · exact ⟨p11, q11, r11, u11, fun j _ => ⟨_, rfl⟩⟩
    · exact ⟨p12, q12, r12, u12, fun j _ => ⟨_, rfl⟩⟩
    · exact ⟨p13, q13, r13, u13, fun j _ => ⟨_, rfl⟩⟩
    · exact ⟨p14, q14, r14, u14, fun j _ => ⟨_, rfl⟩⟩
  · simp only [stL, List.mem_cons, List.not_mem_nil, or_false] at hq
    rcases hq with rfl | rfl | rfl | rfl | rfl | rfl | rfl | rfl | rfl | rfl | rfl | rfl | rfl | rfl | rfl | rfl | rfl | rfl | rfl | rfl | rfl | rfl | rfl | rfl | rfl | rfl | rfl | rfl | rfl | rfl
    · exact vk_R.of (hts (.stringRef "IcicleClock$Tape" 78 "street") (List.mem_of_getElem? (i := 575) (by decide +kernel))) x0
    · exact vk_R.of (hts (.stringRef "IcicleClock$Tape" 80 "slam") (List.mem_of_getElem? (i := 636) (by decide +kernel))) x1
    · exact vk_R.of (hts (.stringRef "IcicleClock$Tape" 89 "bell") (List.mem_of_getElem? (i := 652) (by decide +kernel))) x2
    · exact vk_R.of (hts (.stringRef "IcicleClock$Tape" 94 "odds") (List.mem_of_getElem? (i := 653) (by decide +kernel))) x3
    · exact vk_R.of (hts (.stringRef "IcicleClock$Tape" 43 "day") (List.mem_of_getElem? (i := 654) (by decide +kernel))) x4
    · exact vk_R.of (hts (.stringRef "IcicleClock$Tape" 101 "frost") (List.mem_of_getElem? (i := 659) (by decide +kernel))) x5
    · exact vk_R.of (hts (.stringRef "IcicleClock$Tape" 103 "thaw") (List.mem_of_getElem? (i := 660) (by decide +kernel))) x6
    · exact vk_R.of (hts (.stringRef "IcicleClock$Tape" 52 "eave") (List.mem_of_getElem? (i := 661) (by decide +kernel))) x7
    · exact vk_R.of (hts (.stringRef "IcicleClock$Tape" 118 "sun") (List.mem_of_getElem? (i := 666) (by decide +kernel))) x8
    · exact vk_R.of (hts (.stringRef "IcicleClock$Tape" 57 "icicle") (List.mem_of_getElem? (i := 667) (by decide +kernel))) x9
    · exact vk_R.of (hts (.stringRef "IcicleClock$Tape" 125 "at") (List.mem_of_getElem? (i := 672) (by decide +kernel))) x10
    · exact vk_R.of (hts (.stringRef "IcicleClock$Tape" 127 "length") (List.mem_of_getElem? (i := 673) (by decide +kernel))) x11
    · exact vk_R.of (hts (.stringRef "IcicleClock$Tape" 142 "hour") (List.mem_of_getElem? (i := 674) (by decide +kernel))) x12
    · exact vk_R.of (hts (.stringRef "IcicleClock$Tape" 62 "due") (List.mem_of_getElem? (i := 675) (by decide +kernel))) x13
    · exact vk_R.of (hts (.stringRef "IcicleClock$Tape" 153 "on") (List.mem_of_getElem? (i := 680) (by decide +kernel))) x14
    · exact vk_R.of (hts (.stringRef "IcicleClockModel" 191 "street") (List.mem_of_getElem? (i := 1432) (by decide +kernel))) y0
    · exact vk_R.of (hts (.stringRef "IcicleClockModel" 193 "slam") (List.mem_of_getElem? (i := 1451) (by decide +kernel))) y1
    · exact vk_R.of (hts (.stringRef "IcicleClockModel" 195 "bell") (List.mem_of_getElem? (i := 1460) (by decide +kernel))) y2
    · exact vk_R.of (hts (.stringRef "IcicleClockModel" 197 "odds") (List.mem_of_getElem? (i := 1461) (by decide +kernel))) y3
    · exact vk_R.of (hts (.stringRef "IcicleClockModel" 173 "day") (List.mem_of_getElem? (i := 1466) (by decide +kernel))) y4
    · exact vk_R.of (hts (.stringRef "IcicleClockModel" 163 "frost") (List.mem_of_getElem? (i := 1475) (by decide +kernel))) y5
    · exact vk_R.of (hts (.stringRef "IcicleClockModel" 161 "thaw") (List.mem_of_getElem? (i := 1474) (by decide +kernel))) y6
    · exact vk_R.of (hts (.stringRef "IcicleClockModel" 175 "eave") (List.mem_of_getElem? (i := 1467) (by decide +kernel))) y7
    · exact vk_R.of (hts (.stringRef "IcicleClockModel" 184 "sun") (List.mem_of_getElem? (i := 1476) (by decide +kernel))) y8
    · exact vk_R.of (hts (.stringRef "IcicleClockModel" 177 "icicle") (List.mem_of_getElem? (i := 1468) (by decide +kernel))) y9
    · exact vk_R.of (hts (.stringRef "IcicleClockModel" 165 "at") (List.mem_of_getElem? (i := 1481) (by decide +kernel))) y10
    · exact vk_R.of (hts (.stringRef "IcicleClockModel" 170 "length") (List.mem_of_getElem? (i := 1482) (by decide +kernel))) y11
    · exact vk_R.of (hts (.stringRef "IcicleClockModel" 171 "hour") (List.mem_of_getElem? (i := 1483) (by decide +kernel))) y12
    · exact vk_R.of (hts (.stringRef "IcicleClockModel" 179 "due") (List.mem_of_getElem? (i := 1469) (by decide +kernel))) y13
    · exact vk_R.of (hts (.stringRef "IcicleClockModel" 189 "on") (List.mem_of_getElem? (i := 1484) (by decide +kernel))) y14
