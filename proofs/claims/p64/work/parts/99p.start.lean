theorem dL_law_0 : decode cL_law 0 = .ok (.new 7, 3) := by decide +kernel
theorem dL_law_3 : decode cL_law 3 = .ok (.dup, 1) := by decide +kernel
theorem dL_law_4 : decode cL_law 4 = .ok (.invokespecial 9, 3) := by decide +kernel
theorem dL_law_7 : decode cL_law 7 = .ok (.astore_n 1, 1) := by decide +kernel
theorem dL_law_8 : decode cL_law 8 = .ok (.new 10, 3) := by decide +kernel
theorem dL_law_11 : decode cL_law 11 = .ok (.dup, 1) := by decide +kernel
theorem dL_law_12 : decode cL_law 12 = .ok (.invokespecial 12, 3) := by decide +kernel
theorem dL_law_15 : decode cL_law 15 = .ok (.astore_n 2, 1) := by decide +kernel
theorem dL_law_16 : decode cL_law 16 = .ok (.iconst 0, 1) := by decide +kernel
theorem dL_law_17 : decode cL_law 17 = .ok (.istore_n 3, 1) := by decide +kernel
theorem dL_law_18 : decode cL_law 18 = .ok (.iload_n 3, 1) := by decide +kernel
theorem dL_law_19 : decode cL_law 19 = .ok (.aload_n 0, 1) := by decide +kernel
theorem dL_law_20 : decode cL_law 20 = .ok (.arraylength, 1) := by decide +kernel
theorem dL_law_21 : decode cL_law 21 = .ok (.bipush 6, 2) := by decide +kernel
theorem dL_law_23 : decode cL_law 23 = .ok (.isub, 1) := by decide +kernel
theorem dL_law_24 : decode cL_law 24 = .ok (.if_icmp .gt 2051, 3) := by decide +kernel
theorem dL_law_27 : decode cL_law 27 = .ok (.aload_n 0, 1) := by decide +kernel
theorem dL_law_28 : decode cL_law 28 = .ok (.iload_n 3, 1) := by decide +kernel
theorem dL_law_29 : decode cL_law 29 = .ok (.iaload, 1) := by decide +kernel
theorem dL_law_30 : decode cL_law 30 = .ok (.bipush 63, 2) := by decide +kernel
theorem dL_law_32 : decode cL_law 32 = .ok (.iand, 1) := by decide +kernel
theorem dL_law_33 : decode cL_law 33 = .ok (.tableswitch 2036 0 62 #[267, 330, 353, 366, 389, 412, 445, 478, 511, 534, 557, 590, 613, 636, 659, 682, 695, 728, 751, 784, 817, 840, 853, 866, 879, 912, 945, 978, 1001, 1024, 1057, 1080, 1113, 1126, 1159, 1202, 1225, 1248, 1271, 1294, 1327, 1370, 1413, 1456, 1479, 1512, 1525, 1548, 1561, 1574, 1587, 1620, 1643, 1656, 1669, 1702, 1755, 1788, 1811, 1834, 1857, 1900, 1973], 267) := by decide +kernel
theorem dL_law_2069 : decode cL_law 2069 = .ok (.iinc 3 6, 3) := by decide +kernel
theorem dL_law_2072 : decode cL_law 2072 = .ok (.goto (-2054), 3) := by decide +kernel
theorem dL_law_2075 : decode cL_law 2075 = .ok (.iconst 1, 1) := by decide +kernel
theorem dL_law_2076 : decode cL_law 2076 = .ok (.ireturn, 1) := by decide +kernel
set_option maxHeartbeats 8000000 in
set_option maxRecDepth 100000 in
theorem law_switch {p : Program} {e : Env} {s : State} {m : MethodId} {below : List Frame} {meth : Method} {c : Code} (l : Launch) {b L : Nat} {xs : Nat → Int32} {D : va_G} {cs : Nat → ClassId} {ad : Nat → Nat} {kS : kSt} {K : sK} {g : Nat → va_E} {H : Heap} {locs : List Loc} (hL : L ≤ 3072) (C0 : lw_At p s m meth c b L xs) (X : CxL p s m b meth c D cs) (Z : SX ad kS s s.heap) (hj : wJ ad 218) (hA : ∀ i, i < 218 → AL s (ad i)) (hKO : KO K) (hR : KR K) (hW : WF (shp ad K) ad cs g) (hP : va_P D vwCl (wL ad g 218) H) (hS : va_S (AL s) s.heap H locs) (ls : Array Slot) (ii : Int32) (hi0 : 0 ≤ ii.toInt) (hi1 : ii.toInt + 6 ≤ L) (hl : lv_has ls 4 [(3, .int ii), (2, .ref (ad 197)), (1, .ref (ad 0)), (0, .ref b)]) (kk : ∀ (K : sK) (g : Nat → va_E) (H : Heap) (locs : List Loc) (ls : Array Slot), KO K → KR K → WF (shp ad K) ad cs g → va_P D vwCl (wL ad g 218) H → va_S (AL s) s.heap H locs → lv_has ls 4 [(3, .int ii), (2, .ref (ad 197)), (1, .ref (ad 0)), (0, .ref b)] → W p l e room_1 s m #[Value.ref b] below meth c H locs 218 6259 (lw_Z below #[Value.ref b] s) (F0 m 2069 ls [])) : W p l e room_1 s m #[Value.ref b] below meth c H locs 218 6259 (lw_Z below #[Value.ref b] s) (F0 m 27 ls []) := by
  have hx := X.1
  have hb : c.code = cL_law := X.2.1
  obtain ⟨-, -, -, -, -, -, hX, hbl, -, -⟩ := id C0
  have hbA : ¬ AL s b := Nat.not_le.mpr hbl
  refine lv_aload_n hx hb dL_law_27 rfl (lv_at hl 3 rfl) ?_
  refine lv_iload_n hx hb dL_law_28 rfl (lv_at hl 0 rfl) ?_
  refine va_sld hx hb hX hbl hbA hS (i := ii) (n_in (rfl : ii.toInt = ii.toInt) (by omega) (by omega)) dL_law_29 ?_
  refine lv_topi (fun x0 ex0 => ?_)
  refine lv_bipush (v := 63) hx hb dL_law_30 (by decide) ?_
  refine lv_iand hx hb dL_law_32 ?_
  refine lv_topi (fun z ez => ?_)
  obtain ⟨j, hj9, hz⟩ := pk_andE x0 (m := 63) 6 (by decide)
  rw [hz] at ez
  subst ez
  by_cases h63 : j = 63
  · subst h63
    refine lv_tableOut (tgt := 2069) hx hb dL_law_33 (by decide) (by decide) ?_
    exact kk K g _ _ ls hKO hR hW hP hS hl
  · have hjc : j = 0 ∨ j = 1 ∨ j = 2 ∨ j = 3 ∨ j = 4 ∨ j = 5 ∨ j = 6 ∨ j = 7 ∨ j = 8 ∨ j = 9 ∨ j = 10 ∨ j = 11 ∨ j = 12 ∨ j = 13 ∨ j = 14 ∨ j = 15 ∨ j = 16 ∨ j = 17 ∨ j = 18 ∨ j = 19 ∨ j = 20 ∨ j = 21 ∨ j = 22 ∨ j = 23 ∨ j = 24 ∨ j = 25 ∨ j = 26 ∨ j = 27 ∨ j = 28 ∨ j = 29 ∨ j = 30 ∨ j = 31 ∨ j = 32 ∨ j = 33 ∨ j = 34 ∨ j = 35 ∨ j = 36 ∨ j = 37 ∨ j = 38 ∨ j = 39 ∨ j = 40 ∨ j = 41 ∨ j = 42 ∨ j = 43 ∨ j = 44 ∨ j = 45 ∨ j = 46 ∨ j = 47 ∨ j = 48 ∨ j = 49 ∨ j = 50 ∨ j = 51 ∨ j = 52 ∨ j = 53 ∨ j = 54 ∨ j = 55 ∨ j = 56 ∨ j = 57 ∨ j = 58 ∨ j = 59 ∨ j = 60 ∨ j = 61 ∨ j = 62 := by omega
    rcases hjc with rfl | rfl | rfl | rfl | rfl | rfl | rfl | rfl | rfl | rfl | rfl | rfl | rfl | rfl | rfl | rfl | rfl | rfl | rfl | rfl | rfl | rfl | rfl | rfl | rfl | rfl | rfl | rfl | rfl | rfl | rfl | rfl | rfl | rfl | rfl | rfl | rfl | rfl | rfl | rfl | rfl | rfl | rfl | rfl | rfl | rfl | rfl | rfl | rfl | rfl | rfl | rfl | rfl | rfl | rfl | rfl | rfl | rfl | rfl | rfl | rfl | rfl | rfl
    · refine lv_tableIn (off := 267) (tgt := 300) hx hb dL_law_33 (by decide) (by decide) rfl (by decide) ?_
      exact law_c0 l hL C0 X Z hj hA hKO hR hW hP hS ls ii hi0 hi1 hl kk
    · refine lv_tableIn (off := 330) (tgt := 363) hx hb dL_law_33 (by decide) (by decide) rfl (by decide) ?_
      exact law_c1 l hL C0 X Z hj hA hKO hR hW hP hS ls ii hi0 hi1 hl kk
    · refine lv_tableIn (off := 353) (tgt := 386) hx hb dL_law_33 (by decide) (by decide) rfl (by decide) ?_
      exact law_c2 l hL C0 X Z hj hA hKO hR hW hP hS ls ii hi0 hi1 hl kk
    · refine lv_tableIn (off := 366) (tgt := 399) hx hb dL_law_33 (by decide) (by decide) rfl (by decide) ?_
      exact law_c3 l hL C0 X Z hj hA hKO hR hW hP hS ls ii hi0 hi1 hl kk
    · refine lv_tableIn (off := 389) (tgt := 422) hx hb dL_law_33 (by decide) (by decide) rfl (by decide) ?_
      exact law_c4 l hL C0 X Z hj hA hKO hR hW hP hS ls ii hi0 hi1 hl kk
    · refine lv_tableIn (off := 412) (tgt := 445) hx hb dL_law_33 (by decide) (by decide) rfl (by decide) ?_
      exact law_c5 l hL C0 X Z hj hA hKO hR hW hP hS ls ii hi0 hi1 hl kk
    · refine lv_tableIn (off := 445) (tgt := 478) hx hb dL_law_33 (by decide) (by decide) rfl (by decide) ?_
      exact law_c6 l hL C0 X Z hj hA hKO hR hW hP hS ls ii hi0 hi1 hl kk
    · refine lv_tableIn (off := 478) (tgt := 511) hx hb dL_law_33 (by decide) (by decide) rfl (by decide) ?_
      exact law_c7 l hL C0 X Z hj hA hKO hR hW hP hS ls ii hi0 hi1 hl kk
    · refine lv_tableIn (off := 511) (tgt := 544) hx hb dL_law_33 (by decide) (by decide) rfl (by decide) ?_
      exact law_c8 l hL C0 X Z hj hA hKO hR hW hP hS ls ii hi0 hi1 hl kk
    · refine lv_tableIn (off := 534) (tgt := 567) hx hb dL_law_33 (by decide) (by decide) rfl (by decide) ?_
      exact law_c9 l hL C0 X Z hj hA hKO hR hW hP hS ls ii hi0 hi1 hl kk
    · refine lv_tableIn (off := 557) (tgt := 590) hx hb dL_law_33 (by decide) (by decide) rfl (by decide) ?_
      exact law_c10 l hL C0 X Z hj hA hKO hR hW hP hS ls ii hi0 hi1 hl kk
    · refine lv_tableIn (off := 590) (tgt := 623) hx hb dL_law_33 (by decide) (by decide) rfl (by decide) ?_
      exact law_c11 l hL C0 X Z hj hA hKO hR hW hP hS ls ii hi0 hi1 hl kk
    · refine lv_tableIn (off := 613) (tgt := 646) hx hb dL_law_33 (by decide) (by decide) rfl (by decide) ?_
      exact law_c12 l hL C0 X Z hj hA hKO hR hW hP hS ls ii hi0 hi1 hl kk
    · refine lv_tableIn (off := 636) (tgt := 669) hx hb dL_law_33 (by decide) (by decide) rfl (by decide) ?_
      exact law_c13 l hL C0 X Z hj hA hKO hR hW hP hS ls ii hi0 hi1 hl kk
    · refine lv_tableIn (off := 659) (tgt := 692) hx hb dL_law_33 (by decide) (by decide) rfl (by decide) ?_
      exact law_c14 l hL C0 X Z hj hA hKO hR hW hP hS ls ii hi0 hi1 hl kk
    · refine lv_tableIn (off := 682) (tgt := 715) hx hb dL_law_33 (by decide) (by decide) rfl (by decide) ?_
      exact law_c15 l hL C0 X Z hj hA hKO hR hW hP hS ls ii hi0 hi1 hl kk
    · refine lv_tableIn (off := 695) (tgt := 728) hx hb dL_law_33 (by decide) (by decide) rfl (by decide) ?_
      exact law_c16 l hL C0 X Z hj hA hKO hR hW hP hS ls ii hi0 hi1 hl kk
    · refine lv_tableIn (off := 728) (tgt := 761) hx hb dL_law_33 (by decide) (by decide) rfl (by decide) ?_
      exact law_c17 l hL C0 X Z hj hA hKO hR hW hP hS ls ii hi0 hi1 hl kk
    · refine lv_tableIn (off := 751) (tgt := 784) hx hb dL_law_33 (by decide) (by decide) rfl (by decide) ?_
      exact law_c18 l hL C0 X Z hj hA hKO hR hW hP hS ls ii hi0 hi1 hl kk
    · refine lv_tableIn (off := 784) (tgt := 817) hx hb dL_law_33 (by decide) (by decide) rfl (by decide) ?_
      exact law_c19 l hL C0 X Z hj hA hKO hR hW hP hS ls ii hi0 hi1 hl kk
    · refine lv_tableIn (off := 817) (tgt := 850) hx hb dL_law_33 (by decide) (by decide) rfl (by decide) ?_
      exact law_c20 l hL C0 X Z hj hA hKO hR hW hP hS ls ii hi0 hi1 hl kk
    · refine lv_tableIn (off := 840) (tgt := 873) hx hb dL_law_33 (by decide) (by decide) rfl (by decide) ?_
      exact law_c21 l hL C0 X Z hj hA hKO hR hW hP hS ls ii hi0 hi1 hl kk
    · refine lv_tableIn (off := 853) (tgt := 886) hx hb dL_law_33 (by decide) (by decide) rfl (by decide) ?_
      exact law_c22 l hL C0 X Z hj hA hKO hR hW hP hS ls ii hi0 hi1 hl kk
    · refine lv_tableIn (off := 866) (tgt := 899) hx hb dL_law_33 (by decide) (by decide) rfl (by decide) ?_
      exact law_c23 l hL C0 X Z hj hA hKO hR hW hP hS ls ii hi0 hi1 hl kk
    · refine lv_tableIn (off := 879) (tgt := 912) hx hb dL_law_33 (by decide) (by decide) rfl (by decide) ?_
      exact law_c24 l hL C0 X Z hj hA hKO hR hW hP hS ls ii hi0 hi1 hl kk
    · refine lv_tableIn (off := 912) (tgt := 945) hx hb dL_law_33 (by decide) (by decide) rfl (by decide) ?_
      exact law_c25 l hL C0 X Z hj hA hKO hR hW hP hS ls ii hi0 hi1 hl kk
    · refine lv_tableIn (off := 945) (tgt := 978) hx hb dL_law_33 (by decide) (by decide) rfl (by decide) ?_
      exact law_c26 l hL C0 X Z hj hA hKO hR hW hP hS ls ii hi0 hi1 hl kk
    · refine lv_tableIn (off := 978) (tgt := 1011) hx hb dL_law_33 (by decide) (by decide) rfl (by decide) ?_
      exact law_c27 l hL C0 X Z hj hA hKO hR hW hP hS ls ii hi0 hi1 hl kk
    · refine lv_tableIn (off := 1001) (tgt := 1034) hx hb dL_law_33 (by decide) (by decide) rfl (by decide) ?_
      exact law_c28 l hL C0 X Z hj hA hKO hR hW hP hS ls ii hi0 hi1 hl kk
    · refine lv_tableIn (off := 1024) (tgt := 1057) hx hb dL_law_33 (by decide) (by decide) rfl (by decide) ?_
      exact law_c29 l hL C0 X Z hj hA hKO hR hW hP hS ls ii hi0 hi1 hl kk
    · refine lv_tableIn (off := 1057) (tgt := 1090) hx hb dL_law_33 (by decide) (by decide) rfl (by decide) ?_
      exact law_c30 l hL C0 X Z hj hA hKO hR hW hP hS ls ii hi0 hi1 hl kk
    · refine lv_tableIn (off := 1080) (tgt := 1113) hx hb dL_law_33 (by decide) (by decide) rfl (by decide) ?_
      exact law_c31 l hL C0 X Z hj hA hKO hR hW hP hS ls ii hi0 hi1 hl kk
    · refine lv_tableIn (off := 1113) (tgt := 1146) hx hb dL_law_33 (by decide) (by decide) rfl (by decide) ?_
      exact law_c32 l hL C0 X Z hj hA hKO hR hW hP hS ls ii hi0 hi1 hl kk
    · refine lv_tableIn (off := 1126) (tgt := 1159) hx hb dL_law_33 (by decide) (by decide) rfl (by decide) ?_
      exact law_c33 l hL C0 X Z hj hA hKO hR hW hP hS ls ii hi0 hi1 hl kk
    · refine lv_tableIn (off := 1159) (tgt := 1192) hx hb dL_law_33 (by decide) (by decide) rfl (by decide) ?_
      exact law_c34 l hL C0 X Z hj hA hKO hR hW hP hS ls ii hi0 hi1 hl kk
    · refine lv_tableIn (off := 1202) (tgt := 1235) hx hb dL_law_33 (by decide) (by decide) rfl (by decide) ?_
      exact law_c35 l hL C0 X Z hj hA hKO hR hW hP hS ls ii hi0 hi1 hl kk
    · refine lv_tableIn (off := 1225) (tgt := 1258) hx hb dL_law_33 (by decide) (by decide) rfl (by decide) ?_
      exact law_c36 l hL C0 X Z hj hA hKO hR hW hP hS ls ii hi0 hi1 hl kk
    · refine lv_tableIn (off := 1248) (tgt := 1281) hx hb dL_law_33 (by decide) (by decide) rfl (by decide) ?_
      exact law_c37 l hL C0 X Z hj hA hKO hR hW hP hS ls ii hi0 hi1 hl kk
    · refine lv_tableIn (off := 1271) (tgt := 1304) hx hb dL_law_33 (by decide) (by decide) rfl (by decide) ?_
      exact law_c38 l hL C0 X Z hj hA hKO hR hW hP hS ls ii hi0 hi1 hl kk
    · refine lv_tableIn (off := 1294) (tgt := 1327) hx hb dL_law_33 (by decide) (by decide) rfl (by decide) ?_
      exact law_c39 l hL C0 X Z hj hA hKO hR hW hP hS ls ii hi0 hi1 hl kk
    · refine lv_tableIn (off := 1327) (tgt := 1360) hx hb dL_law_33 (by decide) (by decide) rfl (by decide) ?_
      exact law_c40 l hL C0 X Z hj hA hKO hR hW hP hS ls ii hi0 hi1 hl kk
    · refine lv_tableIn (off := 1370) (tgt := 1403) hx hb dL_law_33 (by decide) (by decide) rfl (by decide) ?_
      exact law_c41 l hL C0 X Z hj hA hKO hR hW hP hS ls ii hi0 hi1 hl kk
    · refine lv_tableIn (off := 1413) (tgt := 1446) hx hb dL_law_33 (by decide) (by decide) rfl (by decide) ?_
      exact law_c42 l hL C0 X Z hj hA hKO hR hW hP hS ls ii hi0 hi1 hl kk
    · refine lv_tableIn (off := 1456) (tgt := 1489) hx hb dL_law_33 (by decide) (by decide) rfl (by decide) ?_
      exact law_c43 l hL C0 X Z hj hA hKO hR hW hP hS ls ii hi0 hi1 hl kk
    · refine lv_tableIn (off := 1479) (tgt := 1512) hx hb dL_law_33 (by decide) (by decide) rfl (by decide) ?_
      exact law_c44 l hL C0 X Z hj hA hKO hR hW hP hS ls ii hi0 hi1 hl kk
    · refine lv_tableIn (off := 1512) (tgt := 1545) hx hb dL_law_33 (by decide) (by decide) rfl (by decide) ?_
      exact law_c45 l hL C0 X Z hj hA hKO hR hW hP hS ls ii hi0 hi1 hl kk
    · refine lv_tableIn (off := 1525) (tgt := 1558) hx hb dL_law_33 (by decide) (by decide) rfl (by decide) ?_
      exact law_c46 l hL C0 X Z hj hA hKO hR hW hP hS ls ii hi0 hi1 hl kk
    · refine lv_tableIn (off := 1548) (tgt := 1581) hx hb dL_law_33 (by decide) (by decide) rfl (by decide) ?_
      exact law_c47 l hL C0 X Z hj hA hKO hR hW hP hS ls ii hi0 hi1 hl kk
    · refine lv_tableIn (off := 1561) (tgt := 1594) hx hb dL_law_33 (by decide) (by decide) rfl (by decide) ?_
      exact law_c48 l hL C0 X Z hj hA hKO hR hW hP hS ls ii hi0 hi1 hl kk
    · refine lv_tableIn (off := 1574) (tgt := 1607) hx hb dL_law_33 (by decide) (by decide) rfl (by decide) ?_
      exact law_c49 l hL C0 X Z hj hA hKO hR hW hP hS ls ii hi0 hi1 hl kk
    · refine lv_tableIn (off := 1587) (tgt := 1620) hx hb dL_law_33 (by decide) (by decide) rfl (by decide) ?_
      exact law_c50 l hL C0 X Z hj hA hKO hR hW hP hS ls ii hi0 hi1 hl kk
    · refine lv_tableIn (off := 1620) (tgt := 1653) hx hb dL_law_33 (by decide) (by decide) rfl (by decide) ?_
      exact law_c51 l hL C0 X Z hj hA hKO hR hW hP hS ls ii hi0 hi1 hl kk
    · refine lv_tableIn (off := 1643) (tgt := 1676) hx hb dL_law_33 (by decide) (by decide) rfl (by decide) ?_
      exact law_c52 l hL C0 X Z hj hA hKO hR hW hP hS ls ii hi0 hi1 hl kk
    · refine lv_tableIn (off := 1656) (tgt := 1689) hx hb dL_law_33 (by decide) (by decide) rfl (by decide) ?_
      exact law_c53 l hL C0 X Z hj hA hKO hR hW hP hS ls ii hi0 hi1 hl kk
    · refine lv_tableIn (off := 1669) (tgt := 1702) hx hb dL_law_33 (by decide) (by decide) rfl (by decide) ?_
      exact law_c54 l hL C0 X Z hj hA hKO hR hW hP hS ls ii hi0 hi1 hl kk
    · refine lv_tableIn (off := 1702) (tgt := 1735) hx hb dL_law_33 (by decide) (by decide) rfl (by decide) ?_
      exact law_c55 l hL C0 X Z hj hA hKO hR hW hP hS ls ii hi0 hi1 hl kk
    · refine lv_tableIn (off := 1755) (tgt := 1788) hx hb dL_law_33 (by decide) (by decide) rfl (by decide) ?_
      exact law_c56 l hL C0 X Z hj hA hKO hR hW hP hS ls ii hi0 hi1 hl kk
    · refine lv_tableIn (off := 1788) (tgt := 1821) hx hb dL_law_33 (by decide) (by decide) rfl (by decide) ?_
      exact law_c57 l hL C0 X Z hj hA hKO hR hW hP hS ls ii hi0 hi1 hl kk
    · refine lv_tableIn (off := 1811) (tgt := 1844) hx hb dL_law_33 (by decide) (by decide) rfl (by decide) ?_
      exact law_c58 l hL C0 X Z hj hA hKO hR hW hP hS ls ii hi0 hi1 hl kk
    · refine lv_tableIn (off := 1834) (tgt := 1867) hx hb dL_law_33 (by decide) (by decide) rfl (by decide) ?_
      exact law_c59 l hL C0 X Z hj hA hKO hR hW hP hS ls ii hi0 hi1 hl kk
    · refine lv_tableIn (off := 1857) (tgt := 1890) hx hb dL_law_33 (by decide) (by decide) rfl (by decide) ?_
      exact law_c60 l hL C0 X Z hj hA hKO hR hW hP hS ls ii hi0 hi1 hl kk
    · refine lv_tableIn (off := 1900) (tgt := 1933) hx hb dL_law_33 (by decide) (by decide) rfl (by decide) ?_
      exact law_c61 l hL C0 X Z hj hA hKO hR hW hP hS ls ii hi0 hi1 hl kk
    · refine lv_tableIn (off := 1973) (tgt := 2006) hx hb dL_law_33 (by decide) (by decide) rfl (by decide) ?_
      exact law_c62 l hL C0 X Z hj hA hKO hR hW hP hS ls ii hi0 hi1 hl kk
set_option maxHeartbeats 8000000 in
set_option maxRecDepth 100000 in
theorem law_go {p : Program} {e : Env} {s : State} {m : MethodId} {below : List Frame} {meth : Method} {c : Code} (l : Launch) {b L : Nat} {xs : Nat → Int32} {D : va_G} {cs : Nat → ClassId} {ad : Nat → Nat} {kS : kSt} (hL : L ≤ 3072) (C0 : lw_At p s m meth c b L xs) (X : CxL p s m b meth c D cs) (Z : SX ad kS s s.heap) (hj : wJ ad 218) (hA : ∀ i, i < 218 → AL s (ad i)) : ∀ (n : Nat) (ii : Int32) (K : sK) (g : Nat → va_E) (H : Heap) (locs : List Loc) (ls : Array Slot), ((L : Int) - ii.toInt + 6).toNat < n → 0 ≤ ii.toInt → ii.toInt ≤ L → KO K → KR K → WF (shp ad K) ad cs g → va_P D vwCl (wL ad g 218) H → va_S (AL s) s.heap H locs → lv_has ls 4 [(3, .int ii), (2, .ref (ad 197)), (1, .ref (ad 0)), (0, .ref b)] → W p l e room_1 s m #[Value.ref b] below meth c H locs 218 6259 (lw_Z below #[Value.ref b] s) (F0 m 18 ls []) := by
  have hx := X.1
  have hb : c.code = cL_law := X.2.1
  obtain ⟨-, -, -, -, -, -, hX, hbl, hlocks, -⟩ := id C0
  have hbA : ¬ AL s b := Nat.not_le.mpr hbl
  have hLe : (Int32.ofNat L).toInt = (L : Int) := nI_toInt (by omega)
  intro n
  induction n with
  | zero =>
    intro ii K g H locs ls hm
    exact absurd hm (Nat.not_lt_zero _)
  | succ n ih =>
    intro ii K g H locs ls hm hi0 hi1 hKO hR hW hP hS hl
    refine lv_iload_n hx hb dL_law_18 rfl (lv_at hl 0 rfl) ?_
    refine lv_aload_n hx hb dL_law_19 rfl (lv_at hl 3 rfl) ?_
    refine va_slen hx hb hX hbl hbA hS dL_law_20 ?_
    refine lv_bipush (v := 6) hx hb dL_law_21 (by decide) ?_
    refine lv_isub hx hb dL_law_23 ?_
    refine lv_topi (fun z ez => ?_)
    have hz : z.toInt = (L : Int) - 6 := n_sub hLe (by decide : (6 : Int32).toInt = 6) ez (by omega) (by omega)
    refine lv_icmp_gt (tgt := 2075) hx hb dL_law_24 (by decide) (fun hc => ?_) (fun hc => ?_)
    · refine lv_iconst (v := 1) hx hb dL_law_2075 (by decide) ?_
      refine va_forget (fun q hq => hS.2.2 q hq) ?_
      refine W.widen (k := 600000) (n := 7302250) (Nat.le_of_ble_eq_true rfl) (Nat.le_of_ble_eq_true rfl) ?_
      exact lw_ret hx hb X.2.2.1 hlocks dL_law_2076
    · have hhc := n_nlt (rfl : z.toInt = z.toInt) (rfl : ii.toInt = ii.toInt) hc
      refine law_switch l hL C0 X Z hj hA hKO hR hW hP hS ls ii hi0 (by omega) hl ?_
      intro K g H locs ls hKO hR hW hP hS hl
      obtain ⟨x, ex⟩ : ∃ y : Int32, y = ii + 6 := ⟨_, rfl⟩
      have hxx : x.toInt = ii.toInt + 6 := n_add rfl (by decide : (6 : Int32).toInt = 6) ex (by omega) (by omega)
      refine lv_iinc (v := x) (lv' := [(3, .int x), (2, .ref (ad 197)), (1, .ref (ad 0)), (0, .ref b)]) hx hb dL_law_2069 hl (k := 0) rfl (by rw [ex]; rfl) (by decide) rfl (fun ls hl => ?_)
      refine lv_goto (tgt := 18) hx hb dL_law_2072 (by decide) ?_
      exact ih x K g _ _ ls (by omega) (by omega) (by omega) hKO hR hW hP hS hl
set_option maxHeartbeats 8000000 in
set_option maxRecDepth 100000 in
theorem whole_start {p : Program} {e : Env} {s : State} {m : MethodId} {below : List Frame} {meth : Method} {c : Code} (l : Launch) (hflags : l.flags = flags0) {b L : Nat} {xs : Nat → Int32} (hL : L ≤ 3072) (C0 : lw_At p s m meth c b L xs) : W p l e room_1 s m #[Value.ref b] below meth c s.heap [] 0 0 (lw_Z below #[Value.ref b] s) (entryFrame m ([Value.ref b] : List Value).toArray 4) := by
  obtain ⟨hx, hb, hr, hml, hown, hts, hX, hbl, hlocks, hgv⟩ := id C0
  have hb : c.code = cL_law := hb
  have hA0 : ∀ q : Nat, s.heap.size ≤ q → AL s q := fun _ h => h
  have hbA : ¬ AL s b := Nat.not_le.mpr hbl
  obtain ⟨D, cs, hK⟩ := known_of hts
  have hax : Ax s := ax_of hts
  have X : CxL p s m b meth c D cs := ⟨hx, hb, hr, hml, hts, hown, hK, hlocks⟩
  have hS : va_S (AL s) s.heap s.heap [] := va_S.rf
  have hP : va_P D vwCl ([] : va_W) s.heap := fun k q h => by simp at h
  have hD : va_D (AL s) ([] : va_W) := ⟨fun i j p q h => by simp at h, fun k q h => by simp at h⟩
  have hl := lv_entry ([.ref b]) (n := 4) (Nat.le_of_ble_eq_true rfl)
  rw [lg_entry_eq]
  generalize (lg_sl ([.ref b]) ++ List.replicate (4 - (lg_sl ([.ref b])).length) Slot.unset).toArray = ls at hl ⊢
  have hl : lv_has ls 4 [(0, .ref b)] := hl
  refine r_new (ci := 11) (fs := [.null, .null, .null, .null, .null, .null, .null, .null, .null, .null, .null, .null, .null, .null]) X iT_11 tyX11 tyX11_ok (List.mem_of_getElem? (i := 119) (by decide +kernel)) (List.mem_of_getElem? (i := 120) (by decide +kernel)) (List.mem_of_getElem? (i := 98) (by decide +kernel)) hP hD hS hA0 rfl (fun j hj => by rcases (show j = 0 ∨ j = 1 ∨ j = 2 ∨ j = 3 ∨ j = 4 ∨ j = 5 ∨ j = 6 ∨ j = 7 ∨ j = 8 ∨ j = 9 ∨ j = 10 ∨ j = 11 ∨ j = 12 ∨ j = 13 by omega) with rfl | rfl | rfl | rfl | rfl | rfl | rfl | rfl | rfl | rfl | rfl | rfl | rfl | rfl <;> rfl) (Nat.le_of_ble_eq_true rfl) (Nat.le_of_ble_eq_true rfl) dL_law_0 (fun q0 H hP hD hS => ?_)
  refine lv_dup hx hb dL_law_3 rfl ?_
  refine r_initI X hax hP hD hS hA0 (n_X11 l D cs q0 H.size) (cwI 0 X.2.2.2.2.1 gT_X11_init rfl rfl rfl (hts _ (List.mem_of_getElem? (i := 98) (by decide +kernel))) (hts _ (List.mem_of_getElem? (i := 121) (by decide +kernel))) (hts _ (List.mem_of_getElem? (i := 122) (by decide +kernel))) rfl (by decide +kernel) ⟨Nat.le_of_ble_eq_true rfl, Nat.le_of_ble_eq_true rfl⟩) hl.1 (Nat.le_of_ble_eq_true rfl) dL_law_4 ⟨Nat.le_of_ble_eq_true rfl, Nat.le_of_ble_eq_true rfl⟩ (fun aX gX H locs hq0 hFX hP hD hS => ?_)
  refine W.widen (k := 197) (n := 3251) (Nat.le_of_ble_eq_true rfl) (Nat.le_of_ble_eq_true rfl) ?_
  have hP : va_P D vwCl (wL aX gX 197) H := hP
  have hD : va_D (AL s) (wL aX gX 197) := hD
  refine lv_astore_n (lv' := [(1, .ref q0), (0, .ref b)]) hx hb dL_law_7 rfl hl (by decide) rfl (fun ls hl => ?_)
  refine r_new (ci := 12) (fs := [.int 0, .null, .null, .null, .null, .int 0, .null, .int 0, .int 0, .int 0, .int 0, .int 0, .int 0, .int 0, .null, .null, .null, .int 0, .int 0, .null, .null, .null, .int 0, .int 0, .int 0, .int 0, .int 0, .null, .null, .null, .long 0, .long 0, .null, .null, .int 0, .int 0, .null, .null, .null, .null]) X iT_12 tyX12 tyX12_ok (List.mem_of_getElem? (i := 1256) (by decide +kernel)) (List.mem_of_getElem? (i := 1257) (by decide +kernel)) (List.mem_of_getElem? (i := 110) (by decide +kernel)) hP hD hS hA0 rfl (fun j hj => by rcases (show j = 0 ∨ j = 1 ∨ j = 2 ∨ j = 3 ∨ j = 4 ∨ j = 5 ∨ j = 6 ∨ j = 7 ∨ j = 8 ∨ j = 9 ∨ j = 10 ∨ j = 11 ∨ j = 12 ∨ j = 13 ∨ j = 14 ∨ j = 15 ∨ j = 16 ∨ j = 17 ∨ j = 18 ∨ j = 19 ∨ j = 20 ∨ j = 21 ∨ j = 22 ∨ j = 23 ∨ j = 24 ∨ j = 25 ∨ j = 26 ∨ j = 27 ∨ j = 28 ∨ j = 29 ∨ j = 30 ∨ j = 31 ∨ j = 32 ∨ j = 33 ∨ j = 34 ∨ j = 35 ∨ j = 36 ∨ j = 37 ∨ j = 38 ∨ j = 39 by omega) with rfl | rfl | rfl | rfl | rfl | rfl | rfl | rfl | rfl | rfl | rfl | rfl | rfl | rfl | rfl | rfl | rfl | rfl | rfl | rfl | rfl | rfl | rfl | rfl | rfl | rfl | rfl | rfl | rfl | rfl | rfl | rfl | rfl | rfl | rfl | rfl | rfl | rfl | rfl | rfl <;> rfl) (Nat.le_of_ble_eq_true rfl) (Nat.le_of_ble_eq_true rfl) dL_law_8 (fun q1 H hP hD hS => ?_)
  refine lv_dup hx hb dL_law_11 rfl ?_
  refine r_initI X hax hP hD hS hA0 (n_X12 l D cs q1 H.size) (cwI 0 X.2.2.2.2.1 gT_X12_init rfl rfl rfl (hts _ (List.mem_of_getElem? (i := 110) (by decide +kernel))) (hts _ (List.mem_of_getElem? (i := 1258) (by decide +kernel))) (hts _ (List.mem_of_getElem? (i := 1259) (by decide +kernel))) rfl (by decide +kernel) ⟨Nat.le_of_ble_eq_true rfl, Nat.le_of_ble_eq_true rfl⟩) hl.1 (Nat.le_of_ble_eq_true rfl) dL_law_12 ⟨Nat.le_of_ble_eq_true rfl, Nat.le_of_ble_eq_true rfl⟩ (fun aM gM H locs hq1 hFM hPn hDn hSn => ?_)
  refine W.widen (k := 218) (n := 6259) (Nat.le_of_ble_eq_true rfl) (Nat.le_of_ble_eq_true rfl) ?_
  subst hq0
  subst hq1
  rw [wL_app] at hPn hDn
  have hP : va_P D vwCl (wL (ct aX 197 aM) (ct gX 197 gM) 218) H := hPn
  have hD : va_D (AL s) (wL (ct aX 197 aM) (ct gX 197 gM) 218) := hDn
  have hS : va_S (AL s) s.heap H locs := hSn
  clear hPn hDn hSn
  have hFX : FrX cs (ct aX 197 aM) (ct gX 197 gM) := FrX_ct hFX
  have hFM : FrM cs (ct aX 197 aM) (ct gX 197 gM) := hFM
  refine lv_astore_n (lv' := [(2, .ref (ct aX 197 aM 197)), (1, .ref (ct aX 197 aM 0)), (0, .ref b)]) hx hb dL_law_15 rfl hl (by decide) rfl (fun ls hl => ?_)
  refine lv_iconst (v := 0) hx hb dL_law_16 (by decide) ?_
  refine lv_istore_n (lv' := [(3, .int 0), (2, .ref (ct aX 197 aM 197)), (1, .ref (ct aX 197 aM 0)), (0, .ref b)]) hx hb dL_law_17 rfl hl (by decide) rfl (fun ls hl => ?_)
  generalize ct aX 197 aM = ad at hP hD hFX hFM hl
  generalize ct gX 197 gM = g at hP hD hFX hFM
  obtain ⟨kS, Z⟩ := sx_of (ad := ad) hts hgv (wA_of hD)
  exact law_go l hL C0 X Z (wJ_of hD) (wA_of hD) _ 0 K0 g _ _ ls (Nat.lt_succ_self _) (by decide) (by have h0 : (0 : Int32).toInt = 0 := (by decide); omega) KO0 KR0 (wf0 hFX hFM) hP hS hl
