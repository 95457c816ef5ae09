section LAWI
variable {p : Program} {l : Launch} {e : Env} {R : Room} {s : State} {m : MethodId} {args : Array Value} {below : List Frame} {meth : Method} {c : Code} {H H0 : Heap} {locs : List Loc} {cells slots : Nat} {Q : State → Prop}
variable {cc : ByteArray} {pc nL n : Nat} {ls : Array Slot} {rest : List Value} {D : va_G} {cs : Nat → ClassId} {A : Nat → Prop} {rt : Option FieldType} {Ts : List Cond} {own : String}
variable {y : MethodName} {wy wy' : List Cond} {rm : Room} {bytes : ByteArray} {maxL index mc ms : Nat}
theorem r_initI (X : Cx p s m args meth c cc nL rt Ts own D cs) (hax : Ax s) {T1 : va_W} {q k : Nat} {d1 : va_E} {post : (Nat → Nat) → (Nat → va_E) → Prop} (hP : va_P D vwCl (T1 ++ [(q, d1)]) H) (hD : va_D A (T1 ++ [(q, d1)])) (hS : va_S A H0 H locs) (hA : ∀ q, H0.size ≤ q → A q) (hM : cN l y wy rm D cs q H.size d1 k post mc ms) (cw : CallB R s args own index y bytes maxL none wy rm mc ms 0 ∧ y.name = "<init>" ∧ (Cond.instanceMethod y).before args s = true) (hsz : ls.size = nL) (hcat : (rest.map fun v => v.category).sum ≤ 8) (hdg : decode cc pc = .ok (.invokespecial index, 3)) (hf : cells + mc ≤ R.cells ∧ slots + ms ≤ R.slots)
    (kk : ∀ (a1 : Nat → Nat) (g1 : Nat → va_E) (H1 : Heap) (locs1 : List Loc), a1 0 = q → post a1 g1 → va_P D vwCl (T1 ++ wL a1 g1 k) H1 → va_D A (T1 ++ wL a1 g1 k) → va_S A H0 H1 locs1 → W p l e R s m args below meth c H1 locs1 (cells + mc) (slots + ms) Q (F0 m (pc + 3) ls rest)) : W p l e R s m args below meth c H locs cells slots Q (F0 m pc ls (.ref q :: rest)) := by
  have hl : (T1 ++ [(q, d1)])[T1.length]? = some (q, d1) := by simp
  have hPc : va_P D vwCl [(q, d1)] H := fun i x hx => by
    have h0 : i < 1 := (List.getElem?_eq_some_iff.mp hx).1
    rw [show i = 0 by omega] at hx
    cases hx
    exact hP _ _ hl
  have hFc : ∀ x, va_A [(q, d1)] H.size x → A x := fun x h => by
    rcases h with ⟨i, e1, h⟩ | h
    · have h0 : i < 1 := (List.getElem?_eq_some_iff.mp h).1
      rw [show i = 0 by omega] at h
      cases h
      exact hD.2 _ _ hl
    · exact hA x (Nat.le_trans hS.1 h)
  refine va_callv (va_runI (nL := nL) (b := q) (As := []) (rest := rest) ⟨X.1, X.2.1, X.2.2.2.1, X.2.2.2.2.2.1, X.2.2.2.2.1⟩ hM cw ⟨pN_blind, fun U hU hW => ⟨rfl, by rw [hU], by rw [hU]; exact hPc, va_K.moved hW.alike X.2.2.2.2.2.2.1, hax.warm hW⟩⟩ rfl rfl hsz rfl (lv_room hcat) hdg hf) hS (fun x _ h => hFc x h) hFc (fun u t H1 locs1 ht _ hw hB _ hk1 hS1 => ?_)
  obtain ⟨hB1, hB2⟩ := hB
  have hB1 : va_P D vwCl (wL u.1 u.2 k) H1 := by rw [← ht]; exact hB1
  obtain ⟨hP2, hD2⟩ := join_last hP hD hk1 hFc hB1 hB2
  exact kk u.1 u.2 H1 locs1 hw.1 hw.2 hP2 hD2 hS1
end LAWI
set_option maxRecDepth 20000 in
theorem iT_0 : ∀ w ∈ wsX00, w ∈ lw_tbl := fun w h => (goodIn_r wsX00 [181, 183, 185, 187, 189] (by decide +kernel) (by decide +kernel) w h).1
set_option maxRecDepth 20000 in
theorem iT_1 : ∀ w ∈ wsX10, w ∈ lw_tbl := fun w h => (goodIn_r wsX10 [430, 432, 434, 436] (by decide +kernel) (by decide +kernel) w h).1
set_option maxRecDepth 20000 in
theorem iT_2 : ∀ w ∈ wsX20, w ∈ lw_tbl := fun w h => (goodIn_r wsX20 [478, 480, 482] (by decide +kernel) (by decide +kernel) w h).1
set_option maxRecDepth 20000 in
theorem iT_3 : ∀ w ∈ wsX30, w ∈ lw_tbl := fun w h => (goodIn_r wsX30 [374, 376] (by decide +kernel) (by decide +kernel) w h).1
set_option maxRecDepth 20000 in
theorem iT_4 : ∀ w ∈ wsX40, w ∈ lw_tbl := fun w h => (goodIn_r wsX40 [391, 393, 395] (by decide +kernel) (by decide +kernel) w h).1
set_option maxRecDepth 20000 in
theorem iT_5 : ∀ w ∈ wsX50, w ∈ lw_tbl := fun w h => (goodIn_r wsX50 [328, 330, 332, 334] (by decide +kernel) (by decide +kernel) w h).1
set_option maxRecDepth 20000 in
theorem iT_6 : ∀ w ∈ wsX60, w ∈ lw_tbl := fun w h => (goodIn_r wsX60 [273, 275, 277, 279, 281, 283, 285, 287, 289, 291, 293, 295, 297, 299, 301, 303, 305, 307] (by decide +kernel) (by decide +kernel) w h).1
set_option maxRecDepth 20000 in
theorem iT_7 : ∀ w ∈ wsX70, w ∈ lw_tbl := fun w h => (goodIn_r wsX70 [143, 145, 147, 149, 151, 153, 155] (by decide +kernel) (by decide +kernel) w h).1
set_option maxRecDepth 20000 in
theorem iT_8 : ∀ w ∈ wsX80, w ∈ lw_tbl := fun w h => (goodIn_r wsX80 [453, 455, 457, 459, 461, 463] (by decide +kernel) (by decide +kernel) w h).1
set_option maxRecDepth 20000 in
theorem iT_9 : ∀ w ∈ wsX90, w ∈ lw_tbl := fun w h => (goodIn_r wsX90 [409, 411, 413, 415] (by decide +kernel) (by decide +kernel) w h).1
set_option maxRecDepth 20000 in
theorem iT_10 : ∀ w ∈ wsX100, w ∈ lw_tbl := fun w h => (goodIn_r wsX100 [355, 357, 359, 361] (by decide +kernel) (by decide +kernel) w h).1
set_option maxRecDepth 20000 in
theorem iT_11 : ∀ w ∈ wsX110, w ∈ lw_tbl := fun w h => (goodIn_r wsX110 [499, 501, 503, 505, 507, 509, 511, 513, 515, 517, 519, 521, 523, 525] (by decide +kernel) (by decide +kernel) w h).1
set_option maxRecDepth 20000 in
theorem iT_12 : ∀ w ∈ wsX120, w ∈ lw_tbl := fun w h => (goodIn_r wsX120 [1301, 1303, 1305, 1307, 1309, 1311, 1313, 1315, 1317, 1319, 1321, 1323, 1325, 1327, 1329, 1331, 1333, 1335, 1337, 1339, 1341, 1343, 1345, 1347, 1349, 1351, 1353, 1355, 1357, 1359, 1361, 1363, 1365, 1367, 1369, 1371, 1373, 1375, 1377, 1379] (by decide +kernel) (by decide +kernel) w h).1
set_option maxRecDepth 20000 in
theorem gT_X11_init : GoodIn lw_tbl vX11_init := goodIn_r _ [123, 124, 125, 126, 127, 128, 99, 131, 132, 158, 133, 138, 130, 485, 159, 160, 100, 163, 164, 192, 233, 193, 236, 240, 246, 251, 254, 259, 263, 267, 165, 166, 101, 169, 170, 175, 176, 171, 177, 179, 168, 271, 162, 486, 487, 488, 489, 311, 490, 313, 102, 316, 317, 337, 318, 315, 338, 339, 103, 342, 343, 347, 349, 351, 341, 491, 492, 364, 365, 104, 368, 369, 370, 367, 493, 379, 380, 105, 383, 384, 385, 390, 382, 494, 398, 399, 106, 402, 403, 405, 406, 404, 407, 401, 495, 418, 419, 107, 422, 423, 424, 425, 427, 421, 496, 439, 440, 108, 443, 444, 445, 448, 449, 450, 442, 497, 466, 467, 109, 470, 471, 472, 477, 469, 498, 143, 145, 147, 149, 151, 153, 155, 499, 501, 503, 505, 507, 509, 511, 513, 515, 517, 519, 521, 523, 525, 273, 275, 277, 279, 281, 283, 285, 287, 289, 291, 293, 295, 297, 299, 301, 303, 305, 307, 181, 183, 185, 187, 189, 328, 330, 332, 334, 355, 357, 359, 361, 374, 376, 391, 393, 395, 409, 411, 413, 415, 430, 432, 434, 436, 453, 455, 457, 459, 461, 463, 478, 480, 482] (by decide +kernel) (by decide +kernel)
set_option maxRecDepth 20000 in
theorem gT_X12_init : GoodIn lw_tbl vX12_init := goodIn_r _ [1260, 1261, 125, 126, 192, 1262, 1263, 193, 1264, 158, 1265, 1267, 1274, 1275, 1276, 1277, 1280, 1281, 1282, 337, 1288, 1289, 1290, 1293, 1294, 1297, 1298, 1299, 1300, 1301, 1303, 1305, 1307, 1309, 1311, 1313, 1315, 1317, 1319, 1321, 1323, 1325, 1327, 1329, 1331, 1333, 1335, 1337, 1339, 1341, 1343, 1345, 1347, 1349, 1351, 1353, 1355, 1357, 1359, 1361, 1363, 1365, 1367, 1369, 1371, 1373, 1375, 1377, 1379] (by decide +kernel) (by decide +kernel)
theorem ax_of {s : State} {args : Array Value} (hts : ∀ w ∈ lw_tbl, w.before args s = true) : Ax s := by
  refine ⟨fun q hq => ?_, hts (.arrayOver (.array .int)) (List.mem_of_getElem? (i := 172) (by decide +kernel)), hts (.arrayOver (.object "IcicleClock$Slot")) (List.mem_of_getElem? (i := 312) (by decide +kernel)), hts (.arrayOver (.object "IcicleClock$Street")) (List.mem_of_getElem? (i := 310) (by decide +kernel))⟩
  simp only [nstW, List.mem_cons, List.not_mem_nil, or_false] at hq
  rcases hq with rfl | rfl | rfl | rfl | rfl | rfl | rfl | rfl | rfl | rfl | rfl
  · exact va_Nw.of rfl (hts _ (List.mem_of_getElem? (i := 129) (by decide +kernel)))
  · exact va_Nw.of rfl (hts _ (List.mem_of_getElem? (i := 161) (by decide +kernel)))
  · exact va_Nw.of rfl (hts _ (List.mem_of_getElem? (i := 167) (by decide +kernel)))
  · exact va_Nw.of rfl (hts _ (List.mem_of_getElem? (i := 314) (by decide +kernel)))
  · exact va_Nw.of rfl (hts _ (List.mem_of_getElem? (i := 340) (by decide +kernel)))
  · exact va_Nw.of rfl (hts _ (List.mem_of_getElem? (i := 366) (by decide +kernel)))
  · exact va_Nw.of rfl (hts _ (List.mem_of_getElem? (i := 381) (by decide +kernel)))
  · exact va_Nw.of rfl (hts _ (List.mem_of_getElem? (i := 400) (by decide +kernel)))
  · exact va_Nw.of rfl (hts _ (List.mem_of_getElem? (i := 420) (by decide +kernel)))
  · exact va_Nw.of rfl (hts _ (List.mem_of_getElem? (i := 441) (by decide +kernel)))
  · exact va_Nw.of rfl (hts _ (List.mem_of_getElem? (i := 468) (by decide +kernel)))
theorem arr_of {s : State} {args : Array Value} {ty : FieldType} (hra : ∀ k, s.vm.findClass ("[" ++ ty.toString) = some k → va_RA s k ty) (h : (Cond.arrayClass ty).before args s = true) : ∃ k, ArrOfT s k ty ∧ va_RA s k ty := by
  obtain ⟨c, k, comp, h1, h2, h3⟩ := Cond.arrayClass_spec h
  exact ⟨c, fun n z => ⟨(fun q hq => by cases hq), k, h2, comp, h3⟩, hra c h1⟩
theorem arr_obj {s : State} {args : Array Value} {C : String} (h : (Cond.arrayOver (.object C)).before args s = true) : ∃ k, ArrOfT s k (.object C) ∧ va_RA s k (.object C) := by
  obtain ⟨comp, c, k, h1, h2, h3, h4, h5⟩ := Cond.arrayOver_spec h
  exact ⟨c, fun n z => ⟨(fun q hq => by cases hq), k, h3, comp, h4⟩, k, comp, h3, h4, h1, h5⟩
theorem arr_rows {s : State} {args : Array Value} (h : (Cond.arrayOver (.array .int)).before args s = true) : ∃ k, ArrOfT s k (.array .int) ∧ va_RA s k (.array .int) := by
  obtain ⟨comp, c, k, h1, h2, h3, h4, h5⟩ := Jvm.Stand.arrayOver_specB h
  exact ⟨c, fun n z => ⟨(fun q hq => by cases hq), k, h3, comp, h4⟩, h5⟩
set_option maxHeartbeats 4000000 in
theorem known_of {s : State} {args : Array Value} (hts : ∀ w ∈ lw_tbl, w.before args s = true) : ∃ (D : va_G) (cs : Nat → ClassId), va_K D vwCl (tyL cs) s := by
  obtain ⟨c0, i0, hk0⟩ := u_known (C := RX0) (T := TX0) (N := 5) (n := 5) hts iT_0 (hts (.instantiable RX0 5) (List.mem_of_getElem? (i := 166) (by decide +kernel)))
  obtain ⟨c1, i1, hk1⟩ := u_known (C := RX1) (T := TX1) (N := 4) (n := 4) hts iT_1 (hts (.instantiable RX1 4) (List.mem_of_getElem? (i := 419) (by decide +kernel)))
  obtain ⟨c2, i2, hk2⟩ := u_known (C := RX2) (T := TX2) (N := 3) (n := 3) hts iT_2 (hts (.instantiable RX2 3) (List.mem_of_getElem? (i := 467) (by decide +kernel)))
  obtain ⟨c3, i3, hk3⟩ := u_known (C := RX3) (T := TX3) (N := 2) (n := 2) hts iT_3 (hts (.instantiable RX3 2) (List.mem_of_getElem? (i := 365) (by decide +kernel)))
  obtain ⟨c4, i4, hk4⟩ := u_known (C := RX4) (T := TX4) (N := 3) (n := 3) hts iT_4 (hts (.instantiable RX4 3) (List.mem_of_getElem? (i := 380) (by decide +kernel)))
  obtain ⟨c5, i5, hk5⟩ := u_known (C := RX5) (T := TX5) (N := 4) (n := 4) hts iT_5 (hts (.instantiable RX5 4) (List.mem_of_getElem? (i := 313) (by decide +kernel)))
  obtain ⟨c6, i6, hk6⟩ := u_known (C := RX6) (T := TX6) (N := 18) (n := 18) hts iT_6 (hts (.instantiable RX6 18) (List.mem_of_getElem? (i := 160) (by decide +kernel)))
  obtain ⟨c7, i7, hk7⟩ := u_known (C := RX7) (T := TX7) (N := 7) (n := 7) hts iT_7 (hts (.instantiable RX7 7) (List.mem_of_getElem? (i := 128) (by decide +kernel)))
  obtain ⟨c8, i8, hk8⟩ := u_known (C := RX8) (T := TX8) (N := 6) (n := 6) hts iT_8 (hts (.instantiable RX8 6) (List.mem_of_getElem? (i := 440) (by decide +kernel)))
  obtain ⟨c9, i9, hk9⟩ := u_known (C := RX9) (T := TX9) (N := 4) (n := 4) hts iT_9 (hts (.instantiable RX9 4) (List.mem_of_getElem? (i := 399) (by decide +kernel)))
  obtain ⟨c10, i10, hk10⟩ := u_known (C := RX10) (T := TX10) (N := 4) (n := 4) hts iT_10 (hts (.instantiable RX10 4) (List.mem_of_getElem? (i := 339) (by decide +kernel)))
  obtain ⟨c11, i11, hk11⟩ := u_known (C := RX11) (T := TX11) (N := 14) (n := 14) hts iT_11 (hts (.instantiable RX11 14) (List.mem_of_getElem? (i := 120) (by decide +kernel)))
  obtain ⟨c12, i12, hk12⟩ := u_known (C := RX12) (T := TX12) (N := 40) (n := 40) hts iT_12 (hts (.instantiable RX12 40) (List.mem_of_getElem? (i := 1257) (by decide +kernel)))
  obtain ⟨a0, ha0⟩ := arr_of (ty := .byte) (fun _ h => h) (hts (.arrayClass .byte) (List.mem_of_getElem? (i := 158) (by decide +kernel)))
  obtain ⟨a1, ha1⟩ := arr_of (ty := .int) (fun _ h => h) (hts (.arrayClass .int) (List.mem_of_getElem? (i := 192) (by decide +kernel)))
  obtain ⟨a2, ha2⟩ := arr_of (ty := .long) (fun _ h => h) (hts (.arrayClass .long) (List.mem_of_getElem? (i := 337) (by decide +kernel)))
  obtain ⟨a3, ha3⟩ := arr_of (ty := .boolean) (fun _ h => h) (hts (.arrayClass .boolean) (List.mem_of_getElem? (i := 193) (by decide +kernel)))
  obtain ⟨a4, ha4⟩ := arr_obj (hts (.arrayOver (.object "IcicleClock$Slot")) (List.mem_of_getElem? (i := 312) (by decide +kernel)))
  obtain ⟨a5, ha5⟩ := arr_obj (hts (.arrayOver (.object "IcicleClock$Street")) (List.mem_of_getElem? (i := 310) (by decide +kernel)))
  obtain ⟨a6, ha6⟩ := arr_rows (hts (.arrayOver (.array .int)) (List.mem_of_getElem? (i := 172) (by decide +kernel)))
  refine ⟨(fun k => [c0, c1, c2, c3, c4, c5, c6, c7, c8, c9, c10, c11, c12].getD k c0, fun k => [i0, i1, i2, i3, i4, i5, i6, i7, i8, i9, i10, i11, i12].getD k i0), fun k => [a0, a1, a2, a3, a4, a5, a6].getD k a0, ?_, ?_⟩
  · intro k q hq
    match k, hq with
    | 0, hq => cases hq; exact hk0
    | 1, hq => cases hq; exact hk1
    | 2, hq => cases hq; exact hk2
    | 3, hq => cases hq; exact hk3
    | 4, hq => cases hq; exact hk4
    | 5, hq => cases hq; exact hk5
    | 6, hq => cases hq; exact hk6
    | 7, hq => cases hq; exact hk7
    | 8, hq => cases hq; exact hk8
    | 9, hq => cases hq; exact hk9
    | 10, hq => cases hq; exact hk10
    | 11, hq => cases hq; exact hk11
    | 12, hq => cases hq; exact hk12
    | k + 13, hq => simp [vwCl] at hq
  · intro k q hq
    match k, hq with
    | 0, hq => cases hq; exact ha0
    | 1, hq => cases hq; exact ha1
    | 2, hq => cases hq; exact ha2
    | 3, hq => cases hq; exact ha3
    | 4, hq => cases hq; exact ha4
    | 5, hq => cases hq; exact ha5
    | 6, hq => cases hq; exact ha6
    | k + 7, hq => simp [tyL] at hq
theorem dL_law_0 : decode cL_law 0 = .ok (.new 7, 3) := by decide +kernel
theorem dL_law_3 : decode cL_law 3 = .ok (.dup, 1) := by decide +kernel
theorem dL_law_4 : decode cL_law 4 = .ok (.invokespecial 9, 3) := by decide +kernel
theorem dL_law_7 : decode cL_law 7 = .ok (.astore_n 1, 1) := by decide +kernel
theorem dL_law_8 : decode cL_law 8 = .ok (.new 10, 3) := by decide +kernel
theorem dL_law_11 : decode cL_law 11 = .ok (.dup, 1) := by decide +kernel
theorem dL_law_12 : decode cL_law 12 = .ok (.invokespecial 12, 3) := by decide +kernel
theorem dL_law_15 : decode cL_law 15 = .ok (.astore_n 2, 1) := by decide +kernel
theorem dL_law_16 : decode cL_law 16 = .ok (.iconst 0, 1) := by decide +kernel
theorem dL_law_17 : decode cL_law 17 = .ok (.istore_n 3, 1) := by decide +kernel
theorem dL_law_27 : decode cL_law 27 = .ok (.aload_n 0, 1) := by decide +kernel
theorem dL_law_28 : decode cL_law 28 = .ok (.iload_n 3, 1) := by decide +kernel
theorem dL_law_29 : decode cL_law 29 = .ok (.iaload, 1) := by decide +kernel
theorem dL_law_30 : decode cL_law 30 = .ok (.bipush 63, 2) := by decide +kernel
theorem dL_law_32 : decode cL_law 32 = .ok (.iand, 1) := by decide +kernel
theorem dL_law_33 : decode cL_law 33 = .ok (.tableswitch 2037 0 62 #[267, 330, 353, 366, 389, 412, 445, 478, 511, 534, 557, 590, 613, 636, 659, 682, 695, 728, 751, 784, 817, 840, 853, 866, 879, 912, 945, 978, 1001, 1024, 1057, 1080, 1113, 1126, 1159, 1202, 1225, 1248, 1271, 1294, 1327, 1370, 1413, 1457, 1480, 1513, 1526, 1549, 1562, 1575, 1588, 1621, 1644, 1657, 1670, 1703, 1756, 1789, 1812, 1835, 1858, 1901, 1974], 267) := by decide +kernel
set_option maxHeartbeats 8000000 in
set_option maxRecDepth 100000 in
theorem law_switch {p : Program} {e : Env} {s : State} {m : MethodId} {below : List Frame} {meth : Method} {c : Code} (l : Launch) {b : Nat} {xs : Nat → Int32} {D : va_G} {cs : Nat → ClassId} {ad : Nat → Nat} {g : Nat → va_E} {H : Heap} {locs : List Loc} (C0 : lw_At p s m meth c b 6 xs) (X : CxL p s m b meth c D cs) (hj : wJ ad nW) (hA : ∀ i, i < nW → AL s (ad i)) (hFX : FrX cs ad g) (hFM : FrM cs ad g) (hP : va_P D vwCl (wL ad g nW) H) (hS : va_S (AL s) s.heap H locs) (ls : Array Slot) (hl : lv_has ls 4 [(3, .int 0), (2, .ref (ad 197)), (1, .ref (ad 0)), (0, .ref b)]) : W p l e room_1 s m #[Value.ref b] below meth c H locs 218 6259 (lw_Z below #[Value.ref b] s) (F0 m 27 ls []) := by
  have hx := X.1
  have hb : c.code = cL_law := X.2.1
  obtain ⟨-, -, -, -, -, -, hX, hbl, -, -⟩ := id C0
  have hbA : ¬ AL s b := Nat.not_le.mpr hbl
  refine lv_aload_n hx hb dL_law_27 rfl (lv_at hl 3 rfl) ?_
  refine lv_iload_n hx hb dL_law_28 rfl (lv_at hl 0 rfl) ?_
  refine va_sld hx hb hX hbl hbA hS (i := 0) (by unfold vp_in; decide) dL_law_29 ?_
  refine lv_bipush (v := 63) hx hb dL_law_30 (by decide) ?_
  refine lv_iand hx hb dL_law_32 ?_
  refine lv_topi (fun z ez => ?_)
  obtain ⟨j, hj9, hz⟩ := pk_andE (xs (Int32.toNatClampNeg 0)) (m := 63) 6 (by decide)
  rw [hz] at ez
  subst ez
  by_cases h63 : j = 63
  · subst h63
    refine lv_tableOut (tgt := 2070) hx hb dL_law_33 (by decide) (by decide) ?_
    exact law_tail l C0 X hS ls hl
  · have hjc : j = 0 ∨ j = 1 ∨ j = 2 ∨ j = 3 ∨ j = 4 ∨ j = 5 ∨ j = 6 ∨ j = 7 ∨ j = 8 ∨ j = 9 ∨ j = 10 ∨ j = 11 ∨ j = 12 ∨ j = 13 ∨ j = 14 ∨ j = 15 ∨ j = 16 ∨ j = 17 ∨ j = 18 ∨ j = 19 ∨ j = 20 ∨ j = 21 ∨ j = 22 ∨ j = 23 ∨ j = 24 ∨ j = 25 ∨ j = 26 ∨ j = 27 ∨ j = 28 ∨ j = 29 ∨ j = 30 ∨ j = 31 ∨ j = 32 ∨ j = 33 ∨ j = 34 ∨ j = 35 ∨ j = 36 ∨ j = 37 ∨ j = 38 ∨ j = 39 ∨ j = 40 ∨ j = 41 ∨ j = 42 ∨ j = 43 ∨ j = 44 ∨ j = 45 ∨ j = 46 ∨ j = 47 ∨ j = 48 ∨ j = 49 ∨ j = 50 ∨ j = 51 ∨ j = 52 ∨ j = 53 ∨ j = 54 ∨ j = 55 ∨ j = 56 ∨ j = 57 ∨ j = 58 ∨ j = 59 ∨ j = 60 ∨ j = 61 ∨ j = 62 := by omega
    rcases hjc with rfl | rfl | rfl | rfl | rfl | rfl | rfl | rfl | rfl | rfl | rfl | rfl | rfl | rfl | rfl | rfl | rfl | rfl | rfl | rfl | rfl | rfl | rfl | rfl | rfl | rfl | rfl | rfl | rfl | rfl | rfl | rfl | rfl | rfl | rfl | rfl | rfl | rfl | rfl | rfl | rfl | rfl | rfl | rfl | rfl | rfl | rfl | rfl | rfl | rfl | rfl | rfl | rfl | rfl | rfl | rfl | rfl | rfl | rfl | rfl | rfl | rfl | rfl
    · refine lv_tableIn (off := 267) (tgt := 300) hx hb dL_law_33 (by decide) (by decide) rfl (by decide) ?_
      exact law_c0 l C0 X hj hA hFX hFM hP hS ls hl
    · refine lv_tableIn (off := 330) (tgt := 363) hx hb dL_law_33 (by decide) (by decide) rfl (by decide) ?_
      exact law_c1 l C0 X hj hA hFX hFM hP hS ls hl
    · refine lv_tableIn (off := 353) (tgt := 386) hx hb dL_law_33 (by decide) (by decide) rfl (by decide) ?_
      exact law_c2 l C0 X hj hA hFX hFM hP hS ls hl
    · refine lv_tableIn (off := 366) (tgt := 399) hx hb dL_law_33 (by decide) (by decide) rfl (by decide) ?_
      exact law_c3 l C0 X hj hA hFX hFM hP hS ls hl
    · refine lv_tableIn (off := 389) (tgt := 422) hx hb dL_law_33 (by decide) (by decide) rfl (by decide) ?_
      exact law_c4 l C0 X hj hA hFX hFM hP hS ls hl
    · refine lv_tableIn (off := 412) (tgt := 445) hx hb dL_law_33 (by decide) (by decide) rfl (by decide) ?_
      exact law_c5 l C0 X hj hA hFX hFM hP hS ls hl
    · refine lv_tableIn (off := 445) (tgt := 478) hx hb dL_law_33 (by decide) (by decide) rfl (by decide) ?_
      exact law_c6 l C0 X hj hA hFX hFM hP hS ls hl
    · refine lv_tableIn (off := 478) (tgt := 511) hx hb dL_law_33 (by decide) (by decide) rfl (by decide) ?_
      exact law_c7 l C0 X hj hA hFX hFM hP hS ls hl
    · refine lv_tableIn (off := 511) (tgt := 544) hx hb dL_law_33 (by decide) (by decide) rfl (by decide) ?_
      exact law_c8 l C0 X hj hA hFX hFM hP hS ls hl
    · refine lv_tableIn (off := 534) (tgt := 567) hx hb dL_law_33 (by decide) (by decide) rfl (by decide) ?_
      exact law_c9 l C0 X hj hA hFX hFM hP hS ls hl
    · refine lv_tableIn (off := 557) (tgt := 590) hx hb dL_law_33 (by decide) (by decide) rfl (by decide) ?_
      exact law_c10 l C0 X hj hA hFX hFM hP hS ls hl
    · refine lv_tableIn (off := 590) (tgt := 623) hx hb dL_law_33 (by decide) (by decide) rfl (by decide) ?_
      exact law_c11 l C0 X hj hA hFX hFM hP hS ls hl
    · refine lv_tableIn (off := 613) (tgt := 646) hx hb dL_law_33 (by decide) (by decide) rfl (by decide) ?_
      exact law_c12 l C0 X hj hA hFX hFM hP hS ls hl
    · refine lv_tableIn (off := 636) (tgt := 669) hx hb dL_law_33 (by decide) (by decide) rfl (by decide) ?_
      exact law_c13 l C0 X hj hA hFX hFM hP hS ls hl
    · refine lv_tableIn (off := 659) (tgt := 692) hx hb dL_law_33 (by decide) (by decide) rfl (by decide) ?_
      exact law_c14 l C0 X hj hA hFX hFM hP hS ls hl
    · refine lv_tableIn (off := 682) (tgt := 715) hx hb dL_law_33 (by decide) (by decide) rfl (by decide) ?_
      exact law_c15 l C0 X hj hA hFX hFM hP hS ls hl
    · refine lv_tableIn (off := 695) (tgt := 728) hx hb dL_law_33 (by decide) (by decide) rfl (by decide) ?_
      exact law_c16 l C0 X hj hA hFX hFM hP hS ls hl
    · refine lv_tableIn (off := 728) (tgt := 761) hx hb dL_law_33 (by decide) (by decide) rfl (by decide) ?_
      exact law_c17 l C0 X hj hA hFX hFM hP hS ls hl
    · refine lv_tableIn (off := 751) (tgt := 784) hx hb dL_law_33 (by decide) (by decide) rfl (by decide) ?_
      exact law_c18 l C0 X hj hA hFX hFM hP hS ls hl
    · refine lv_tableIn (off := 784) (tgt := 817) hx hb dL_law_33 (by decide) (by decide) rfl (by decide) ?_
      exact law_c19 l C0 X hj hA hFX hFM hP hS ls hl
    · refine lv_tableIn (off := 817) (tgt := 850) hx hb dL_law_33 (by decide) (by decide) rfl (by decide) ?_
      exact law_c20 l C0 X hj hA hFX hFM hP hS ls hl
    · refine lv_tableIn (off := 840) (tgt := 873) hx hb dL_law_33 (by decide) (by decide) rfl (by decide) ?_
      exact law_c21 l C0 X hj hA hFX hFM hP hS ls hl
    · refine lv_tableIn (off := 853) (tgt := 886) hx hb dL_law_33 (by decide) (by decide) rfl (by decide) ?_
      exact law_c22 l C0 X hj hA hFX hFM hP hS ls hl
    · refine lv_tableIn (off := 866) (tgt := 899) hx hb dL_law_33 (by decide) (by decide) rfl (by decide) ?_
      exact law_c23 l C0 X hj hA hFX hFM hP hS ls hl
    · refine lv_tableIn (off := 879) (tgt := 912) hx hb dL_law_33 (by decide) (by decide) rfl (by decide) ?_
      exact law_c24 l C0 X hj hA hFX hFM hP hS ls hl
    · refine lv_tableIn (off := 912) (tgt := 945) hx hb dL_law_33 (by decide) (by decide) rfl (by decide) ?_
      exact law_c25 l C0 X hj hA hFX hFM hP hS ls hl
    · refine lv_tableIn (off := 945) (tgt := 978) hx hb dL_law_33 (by decide) (by decide) rfl (by decide) ?_
      exact law_c26 l C0 X hj hA hFX hFM hP hS ls hl
    · refine lv_tableIn (off := 978) (tgt := 1011) hx hb dL_law_33 (by decide) (by decide) rfl (by decide) ?_
      exact law_c27 l C0 X hj hA hFX hFM hP hS ls hl
    · refine lv_tableIn (off := 1001) (tgt := 1034) hx hb dL_law_33 (by decide) (by decide) rfl (by decide) ?_
      exact law_c28 l C0 X hj hA hFX hFM hP hS ls hl
    · refine lv_tableIn (off := 1024) (tgt := 1057) hx hb dL_law_33 (by decide) (by decide) rfl (by decide) ?_
      exact law_c29 l C0 X hj hA hFX hFM hP hS ls hl
    · refine lv_tableIn (off := 1057) (tgt := 1090) hx hb dL_law_33 (by decide) (by decide) rfl (by decide) ?_
      exact law_c30 l C0 X hj hA hFX hFM hP hS ls hl
    · refine lv_tableIn (off := 1080) (tgt := 1113) hx hb dL_law_33 (by decide) (by decide) rfl (by decide) ?_
      exact law_c31 l C0 X hj hA hFX hFM hP hS ls hl
    · refine lv_tableIn (off := 1113) (tgt := 1146) hx hb dL_law_33 (by decide) (by decide) rfl (by decide) ?_
      exact law_c32 l C0 X hj hA hFX hFM hP hS ls hl
    · refine lv_tableIn (off := 1126) (tgt := 1159) hx hb dL_law_33 (by decide) (by decide) rfl (by decide) ?_
      exact law_c33 l C0 X hj hA hFX hFM hP hS ls hl
    · refine lv_tableIn (off := 1159) (tgt := 1192) hx hb dL_law_33 (by decide) (by decide) rfl (by decide) ?_
      exact law_c34 l C0 X hj hA hFX hFM hP hS ls hl
    · refine lv_tableIn (off := 1202) (tgt := 1235) hx hb dL_law_33 (by decide) (by decide) rfl (by decide) ?_
      exact law_c35 l C0 X hj hA hFX hFM hP hS ls hl
    · refine lv_tableIn (off := 1225) (tgt := 1258) hx hb dL_law_33 (by decide) (by decide) rfl (by decide) ?_
      exact law_c36 l C0 X hj hA hFX hFM hP hS ls hl
    · refine lv_tableIn (off := 1248) (tgt := 1281) hx hb dL_law_33 (by decide) (by decide) rfl (by decide) ?_
      exact law_c37 l C0 X hj hA hFX hFM hP hS ls hl
    · refine lv_tableIn (off := 1271) (tgt := 1304) hx hb dL_law_33 (by decide) (by decide) rfl (by decide) ?_
      exact law_c38 l C0 X hj hA hFX hFM hP hS ls hl
    · refine lv_tableIn (off := 1294) (tgt := 1327) hx hb dL_law_33 (by decide) (by decide) rfl (by decide) ?_
      exact law_c39 l C0 X hj hA hFX hFM hP hS ls hl
    · refine lv_tableIn (off := 1327) (tgt := 1360) hx hb dL_law_33 (by decide) (by decide) rfl (by decide) ?_
      exact law_c40 l C0 X hj hA hFX hFM hP hS ls hl
    · refine lv_tableIn (off := 1370) (tgt := 1403) hx hb dL_law_33 (by decide) (by decide) rfl (by decide) ?_
      exact law_c41 l C0 X hj hA hFX hFM hP hS ls hl
    · refine lv_tableIn (off := 1413) (tgt := 1446) hx hb dL_law_33 (by decide) (by decide) rfl (by decide) ?_
      exact law_c42 l C0 X hj hA hFX hFM hP hS ls hl
    · refine lv_tableIn (off := 1457) (tgt := 1490) hx hb dL_law_33 (by decide) (by decide) rfl (by decide) ?_
      exact law_c43 l C0 X hj hA hFX hFM hP hS ls hl
    · refine lv_tableIn (off := 1480) (tgt := 1513) hx hb dL_law_33 (by decide) (by decide) rfl (by decide) ?_
      exact law_c44 l C0 X hj hA hFX hFM hP hS ls hl
    · refine lv_tableIn (off := 1513) (tgt := 1546) hx hb dL_law_33 (by decide) (by decide) rfl (by decide) ?_
      exact law_c45 l C0 X hj hA hFX hFM hP hS ls hl
    · refine lv_tableIn (off := 1526) (tgt := 1559) hx hb dL_law_33 (by decide) (by decide) rfl (by decide) ?_
      exact law_c46 l C0 X hj hA hFX hFM hP hS ls hl
    · refine lv_tableIn (off := 1549) (tgt := 1582) hx hb dL_law_33 (by decide) (by decide) rfl (by decide) ?_
      exact law_c47 l C0 X hj hA hFX hFM hP hS ls hl
    · refine lv_tableIn (off := 1562) (tgt := 1595) hx hb dL_law_33 (by decide) (by decide) rfl (by decide) ?_
      exact law_c48 l C0 X hj hA hFX hFM hP hS ls hl
    · refine lv_tableIn (off := 1575) (tgt := 1608) hx hb dL_law_33 (by decide) (by decide) rfl (by decide) ?_
      exact law_c49 l C0 X hj hA hFX hFM hP hS ls hl
    · refine lv_tableIn (off := 1588) (tgt := 1621) hx hb dL_law_33 (by decide) (by decide) rfl (by decide) ?_
      exact law_c50 l C0 X hj hA hFX hFM hP hS ls hl
    · refine lv_tableIn (off := 1621) (tgt := 1654) hx hb dL_law_33 (by decide) (by decide) rfl (by decide) ?_
      exact law_c51 l C0 X hj hA hFX hFM hP hS ls hl
    · refine lv_tableIn (off := 1644) (tgt := 1677) hx hb dL_law_33 (by decide) (by decide) rfl (by decide) ?_
      exact law_c52 l C0 X hj hA hFX hFM hP hS ls hl
    · refine lv_tableIn (off := 1657) (tgt := 1690) hx hb dL_law_33 (by decide) (by decide) rfl (by decide) ?_
      exact law_c53 l C0 X hj hA hFX hFM hP hS ls hl
    · refine lv_tableIn (off := 1670) (tgt := 1703) hx hb dL_law_33 (by decide) (by decide) rfl (by decide) ?_
      exact law_c54 l C0 X hj hA hFX hFM hP hS ls hl
    · refine lv_tableIn (off := 1703) (tgt := 1736) hx hb dL_law_33 (by decide) (by decide) rfl (by decide) ?_
      exact law_c55 l C0 X hj hA hFX hFM hP hS ls hl
    · refine lv_tableIn (off := 1756) (tgt := 1789) hx hb dL_law_33 (by decide) (by decide) rfl (by decide) ?_
      exact law_c56 l C0 X hj hA hFX hFM hP hS ls hl
    · refine lv_tableIn (off := 1789) (tgt := 1822) hx hb dL_law_33 (by decide) (by decide) rfl (by decide) ?_
      exact law_c57 l C0 X hj hA hFX hFM hP hS ls hl
    · refine lv_tableIn (off := 1812) (tgt := 1845) hx hb dL_law_33 (by decide) (by decide) rfl (by decide) ?_
      exact law_c58 l C0 X hj hA hFX hFM hP hS ls hl
    · refine lv_tableIn (off := 1835) (tgt := 1868) hx hb dL_law_33 (by decide) (by decide) rfl (by decide) ?_
      exact law_c59 l C0 X hj hA hFX hFM hP hS ls hl
    · refine lv_tableIn (off := 1858) (tgt := 1891) hx hb dL_law_33 (by decide) (by decide) rfl (by decide) ?_
      exact law_c60 l C0 X hj hA hFX hFM hP hS ls hl
    · refine lv_tableIn (off := 1901) (tgt := 1934) hx hb dL_law_33 (by decide) (by decide) rfl (by decide) ?_
      exact law_c61 l C0 X hj hA hFX hFM hP hS ls hl
    · refine lv_tableIn (off := 1974) (tgt := 2007) hx hb dL_law_33 (by decide) (by decide) rfl (by decide) ?_
      exact law_c62 l C0 X hj hA hFX hFM hP hS ls hl
set_option maxHeartbeats 8000000 in
set_option maxRecDepth 100000 in
theorem whole_start {p : Program} {e : Env} {s : State} {m : MethodId} {below : List Frame} {meth : Method} {c : Code} (l : Launch) (hflags : l.flags = flags0) {b L : Nat} {xs : Nat → Int32} (hL : L ≤ 6) (C0 : lw_At p s m meth c b L xs) : W p l e room_1 s m #[Value.ref b] below meth c s.heap [] 0 0 (lw_Z below #[Value.ref b] s) (entryFrame m ([Value.ref b] : List Value).toArray 4) := by
  obtain ⟨hx, hb, hr, hml, hown, hts, hX, hbl, hlocks, hgv⟩ := id C0
  have hb : c.code = cL_law := hb
  have hA0 : ∀ q : Nat, s.heap.size ≤ q → AL s q := fun _ h => h
  have hbA : ¬ AL s b := Nat.not_le.mpr hbl
  obtain ⟨D, cs, hK⟩ := known_of hts
  have hax : Ax s := ax_of hts
  have X : CxL p s m b meth c D cs := ⟨hx, hb, hr, hml, hts, hown, hK, hlocks⟩
  have hS : va_S (AL s) s.heap s.heap [] := va_S.rf
  have hP : va_P D vwCl ([] : va_W) s.heap := fun k q h => by simp at h
  have hD : va_D (AL s) ([] : va_W) := ⟨fun i j p q h => by simp at h, fun k q h => by simp at h⟩
  have hl := lv_entry ([.ref b]) (n := 4) (Nat.le_of_ble_eq_true rfl)
  rw [lg_entry_eq]
  generalize (lg_sl ([.ref b]) ++ List.replicate (4 - (lg_sl ([.ref b])).length) Slot.unset).toArray = ls at hl ⊢
  have hl : lv_has ls 4 [(0, .ref b)] := hl
  refine r_new (ci := 11) (fs := [.null, .null, .null, .null, .null, .null, .null, .null, .null, .null, .null, .null, .null, .null]) X iT_11 tyX11 tyX11_ok (List.mem_of_getElem? (i := 119) (by decide +kernel)) (List.mem_of_getElem? (i := 120) (by decide +kernel)) (List.mem_of_getElem? (i := 98) (by decide +kernel)) hP hD hS hA0 rfl (fun j hj => by rcases (show j = 0 ∨ j = 1 ∨ j = 2 ∨ j = 3 ∨ j = 4 ∨ j = 5 ∨ j = 6 ∨ j = 7 ∨ j = 8 ∨ j = 9 ∨ j = 10 ∨ j = 11 ∨ j = 12 ∨ j = 13 by omega) with rfl | rfl | rfl | rfl | rfl | rfl | rfl | rfl | rfl | rfl | rfl | rfl | rfl | rfl <;> rfl) (Nat.le_of_ble_eq_true rfl) (Nat.le_of_ble_eq_true rfl) dL_law_0 (fun q0 H hP hD hS => ?_)
  refine lv_dup hx hb dL_law_3 rfl ?_
  refine r_initI X hax hP hD hS hA0 (n_X11 l D cs q0 H.size) (cwI 0 X.2.2.2.2.1 gT_X11_init rfl rfl rfl (hts _ (List.mem_of_getElem? (i := 98) (by decide +kernel))) (hts _ (List.mem_of_getElem? (i := 121) (by decide +kernel))) (hts _ (List.mem_of_getElem? (i := 122) (by decide +kernel))) rfl (by decide +kernel) ⟨Nat.le_of_ble_eq_true rfl, Nat.le_of_ble_eq_true rfl⟩) hl.1 (Nat.le_of_ble_eq_true rfl) dL_law_4 ⟨Nat.le_of_ble_eq_true rfl, Nat.le_of_ble_eq_true rfl⟩ (fun aX gX H locs hq0 hFX hP hD hS => ?_)
  refine W.widen (k := 197) (n := 3251) (Nat.le_of_ble_eq_true rfl) (Nat.le_of_ble_eq_true rfl) ?_
  have hP : va_P D vwCl (wL aX gX 197) H := hP
  have hD : va_D (AL s) (wL aX gX 197) := hD
  refine lv_astore_n (lv' := [(1, .ref q0), (0, .ref b)]) hx hb dL_law_7 rfl hl (by decide) rfl (fun ls hl => ?_)
  refine r_new (ci := 12) (fs := [.int 0, .null, .null, .null, .null, .int 0, .null, .int 0, .int 0, .int 0, .int 0, .int 0, .int 0, .int 0, .null, .null, .null, .int 0, .int 0, .null, .null, .null, .int 0, .int 0, .int 0, .int 0, .int 0, .null, .null, .null, .long 0, .long 0, .null, .null, .int 0, .int 0, .null, .null, .null, .null]) X iT_12 tyX12 tyX12_ok (List.mem_of_getElem? (i := 1256) (by decide +kernel)) (List.mem_of_getElem? (i := 1257) (by decide +kernel)) (List.mem_of_getElem? (i := 110) (by decide +kernel)) hP hD hS hA0 rfl (fun j hj => by rcases (show j = 0 ∨ j = 1 ∨ j = 2 ∨ j = 3 ∨ j = 4 ∨ j = 5 ∨ j = 6 ∨ j = 7 ∨ j = 8 ∨ j = 9 ∨ j = 10 ∨ j = 11 ∨ j = 12 ∨ j = 13 ∨ j = 14 ∨ j = 15 ∨ j = 16 ∨ j = 17 ∨ j = 18 ∨ j = 19 ∨ j = 20 ∨ j = 21 ∨ j = 22 ∨ j = 23 ∨ j = 24 ∨ j = 25 ∨ j = 26 ∨ j = 27 ∨ j = 28 ∨ j = 29 ∨ j = 30 ∨ j = 31 ∨ j = 32 ∨ j = 33 ∨ j = 34 ∨ j = 35 ∨ j = 36 ∨ j = 37 ∨ j = 38 ∨ j = 39 by omega) with rfl | rfl | rfl | rfl | rfl | rfl | rfl | rfl | rfl | rfl | rfl | rfl | rfl | rfl | rfl | rfl | rfl | rfl | rfl | rfl | rfl | rfl | rfl | rfl | rfl | rfl | rfl | rfl | rfl | rfl | rfl | rfl | rfl | rfl | rfl | rfl | rfl | rfl | rfl | rfl <;> rfl) (Nat.le_of_ble_eq_true rfl) (Nat.le_of_ble_eq_true rfl) dL_law_8 (fun q1 H hP hD hS => ?_)
  refine lv_dup hx hb dL_law_11 rfl ?_
  refine r_initI X hax hP hD hS hA0 (n_X12 l D cs q1 H.size) (cwI 0 X.2.2.2.2.1 gT_X12_init rfl rfl rfl (hts _ (List.mem_of_getElem? (i := 110) (by decide +kernel))) (hts _ (List.mem_of_getElem? (i := 1258) (by decide +kernel))) (hts _ (List.mem_of_getElem? (i := 1259) (by decide +kernel))) rfl (by decide +kernel) ⟨Nat.le_of_ble_eq_true rfl, Nat.le_of_ble_eq_true rfl⟩) hl.1 (Nat.le_of_ble_eq_true rfl) dL_law_12 ⟨Nat.le_of_ble_eq_true rfl, Nat.le_of_ble_eq_true rfl⟩ (fun aM gM H locs hq1 hFM hPn hDn hSn => ?_)
  refine W.widen (k := 218) (n := 6259) (Nat.le_of_ble_eq_true rfl) (Nat.le_of_ble_eq_true rfl) ?_
  subst hq0
  subst hq1
  rw [wL_app] at hPn hDn
  have hP : va_P D vwCl (wL (ct aX 197 aM) (ct gX 197 gM) nW) H := hPn
  have hD : va_D (AL s) (wL (ct aX 197 aM) (ct gX 197 gM) nW) := hDn
  have hS : va_S (AL s) s.heap H locs := hSn
  clear hPn hDn hSn
  have hFX : FrX cs (ct aX 197 aM) (ct gX 197 gM) := hFX
  have hFM : FrM cs (ct aX 197 aM) (ct gX 197 gM) := hFM
  refine lv_astore_n (lv' := [(2, .ref (ct aX 197 aM 197)), (1, .ref (ct aX 197 aM 0)), (0, .ref b)]) hx hb dL_law_15 rfl hl (by decide) rfl (fun ls hl => ?_)
  refine lv_iconst (v := 0) hx hb dL_law_16 (by decide) ?_
  refine lv_istore_n (lv' := [(3, .int 0), (2, .ref (ct aX 197 aM 197)), (1, .ref (ct aX 197 aM 0)), (0, .ref b)]) hx hb dL_law_17 rfl hl (by decide) rfl (fun ls hl => ?_)
  generalize ct aX 197 aM = ad at hP hD hFX hFM hl
  generalize ct gX 197 gM = g at hP hD hFX hFM
  refine lv_iload_n hx hb dL_law_18 rfl (lv_at hl 0 rfl) ?_
  refine lv_aload_n hx hb dL_law_19 rfl (lv_at hl 3 rfl) ?_
  refine va_slen hx hb hX hbl hbA hS dL_law_20 ?_
  refine lv_bipush (v := 6) hx hb dL_law_21 (by decide) ?_
  refine lv_isub hx hb dL_law_23 ?_
  rcases (by omega : L = 6 ∨ L = 0 ∨ L = 1 ∨ L = 2 ∨ L = 3 ∨ L = 4 ∨ L = 5) with rfl | hs5
  · refine lv_icmp_gt (tgt := 2076) hx hb dL_law_24 (by decide) (fun h => absurd h (by decide)) (fun _ => ?_)
    exact law_switch l C0 X (wJ_of hD) (wA_of hD) hFX hFM hP hS ls hl
  · have hgt : Int32.ofNat L - 6 < 0 := by rcases hs5 with rfl | rfl | rfl | rfl | rfl | rfl <;> decide
    refine lv_icmp_gt (tgt := 2076) hx hb dL_law_24 (by decide) (fun _ => ?_) (fun h => absurd hgt h)
    refine lv_iconst (v := 1) hx hb dL_law_2076 (by decide) ?_
    refine va_forget (fun q hq => hS.2.2 q hq) ?_
    refine W.widen (k := 600000) (n := 7302250) (Nat.le_of_ble_eq_true rfl) (Nat.le_of_ble_eq_true rfl) ?_
    exact lw_ret hx hb X.2.2.1 hlocks dL_law_2077
