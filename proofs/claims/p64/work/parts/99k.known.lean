section LAWI
variable {p : Program} {l : Launch} {e : Env} {R : Room} {s : State} {m : MethodId} {args : Array Value} {below : List Frame} {meth : Method} {c : Code} {H H0 : Heap} {locs : List Loc} {cells slots : Nat} {Q : State → Prop}
variable {cc : ByteArray} {pc nL n : Nat} {ls : Array Slot} {rest : List Value} {D : va_G} {cs : Nat → ClassId} {A : Nat → Prop} {rt : Option FieldType} {Ts : List Cond} {own : String}
variable {y : MethodName} {wy wy' : List Cond} {rm : Room} {bytes : ByteArray} {maxL index mc ms : Nat}
theorem r_initI (X : Cx p s m args meth c cc nL rt Ts own D cs) (hax : Ax s) {T1 : va_W} {q k : Nat} {d1 : va_E} {post : (Nat → Nat) → (Nat → va_E) → Prop} (hP : va_P D vwCl (T1 ++ [(q, d1)]) H) (hD : va_D A (T1 ++ [(q, d1)])) (hS : va_S A H0 H locs) (hA : ∀ q, H0.size ≤ q → A q) (hM : cN l y wy rm D cs q H.size d1 k post mc ms) (cw : CallB R s args own index y bytes maxL none wy rm mc ms 0 ∧ y.name = "<init>" ∧ (Cond.instanceMethod y).before args s = true) (hsz : ls.size = nL) (hcat : (rest.map fun v => v.category).sum ≤ 8) (hdg : decode cc pc = .ok (.invokespecial index, 3)) (hf : cells + mc ≤ R.cells ∧ slots + ms ≤ R.slots)
    (kk : ∀ (a1 : Nat → Nat) (g1 : Nat → va_E) (H1 : Heap) (locs1 : List Loc), a1 0 = q → post a1 g1 → va_P D vwCl (T1 ++ wL a1 g1 k) H1 → va_D A (T1 ++ wL a1 g1 k) → va_S A H0 H1 locs1 → W p l e R s m args below meth c H1 locs1 (cells + mc) (slots + ms) Q (F0 m (pc + 3) ls rest)) : W p l e R s m args below meth c H locs cells slots Q (F0 m pc ls (.ref q :: rest)) := by
  have hl : (T1 ++ [(q, d1)])[T1.length]? = some (q, d1) := by simp
  have hPc : va_P D vwCl [(q, d1)] H := fun i x hx => by
    have h0 : i < 1 := (List.getElem?_eq_some_iff.mp hx).1
    rw [show i = 0 by omega] at hx
    cases hx
    exact hP _ _ hl
  have hFc : ∀ x, va_A [(q, d1)] H.size x → A x := fun x h => by
    rcases h with ⟨i, e1, h⟩ | h
    · have h0 : i < 1 := (List.getElem?_eq_some_iff.mp h).1
      rw [show i = 0 by omega] at h
      cases h
      exact hD.2 _ _ hl
    · exact hA x (Nat.le_trans hS.1 h)
  refine va_callv (va_runI (nL := nL) (b := q) (As := []) (rest := rest) ⟨X.1, X.2.1, X.2.2.2.1, X.2.2.2.2.2.1, X.2.2.2.2.1⟩ hM cw ⟨pN_blind, fun U hU hW => ⟨rfl, by rw [hU], by rw [hU]; exact hPc, va_K.moved hW.alike X.2.2.2.2.2.2.1, hax.warm hW⟩⟩ rfl rfl hsz rfl (lv_room hcat) hdg hf) hS (fun x _ h => hFc x h) hFc (fun u t H1 locs1 ht _ hw hB _ hk1 hS1 => ?_)
  obtain ⟨hB1, hB2⟩ := hB
  have hB1 : va_P D vwCl (wL u.1 u.2 k) H1 := by rw [← ht]; exact hB1
  obtain ⟨hP2, hD2⟩ := join_last hP hD hk1 hFc hB1 hB2
  exact kk u.1 u.2 H1 locs1 hw.1 hw.2 hP2 hD2 hS1
end LAWI
set_option maxRecDepth 20000 in
theorem gT_X11_init : GoodIn lw_tbl vX11_init := goodIn_r _ [123, 124, 125, 126, 127, 128, 99, 131, 132, 158, 133, 138, 130, 485, 159, 160, 100, 163, 164, 192, 233, 193, 236, 240, 246, 251, 254, 259, 263, 267, 165, 166, 101, 169, 170, 175, 176, 171, 177, 179, 168, 271, 162, 486, 487, 488, 489, 311, 490, 313, 102, 316, 317, 337, 318, 315, 338, 339, 103, 342, 343, 347, 349, 351, 341, 491, 492, 364, 365, 104, 368, 369, 370, 367, 493, 379, 380, 105, 383, 384, 385, 390, 382, 494, 398, 399, 106, 402, 403, 405, 406, 404, 407, 401, 495, 418, 419, 107, 422, 423, 424, 425, 427, 421, 496, 439, 440, 108, 443, 444, 445, 448, 449, 450, 442, 497, 466, 467, 109, 470, 471, 472, 477, 469, 498, 143, 145, 147, 149, 151, 153, 155, 499, 501, 503, 505, 507, 509, 511, 513, 515, 517, 519, 521, 523, 525, 273, 275, 277, 279, 281, 283, 285, 287, 289, 291, 293, 295, 297, 299, 301, 303, 305, 307, 181, 183, 185, 187, 189, 328, 330, 332, 334, 355, 357, 359, 361, 374, 376, 391, 393, 395, 409, 411, 413, 415, 430, 432, 434, 436, 453, 455, 457, 459, 461, 463, 478, 480, 482] (by decide +kernel) (by decide +kernel)
set_option maxRecDepth 20000 in
theorem gT_X12_init : GoodIn lw_tbl vX12_init := goodIn_r _ [1260, 1261, 125, 126, 192, 1262, 1263, 193, 1264, 158, 1265, 1267, 1274, 1275, 1276, 1277, 1280, 1281, 1282, 337, 1288, 1289, 1290, 1293, 1294, 1297, 1298, 1299, 1300, 1301, 1303, 1305, 1307, 1309, 1311, 1313, 1315, 1317, 1319, 1321, 1323, 1325, 1327, 1329, 1331, 1333, 1335, 1337, 1339, 1341, 1343, 1345, 1347, 1349, 1351, 1353, 1355, 1357, 1359, 1361, 1363, 1365, 1367, 1369, 1371, 1373, 1375, 1377, 1379] (by decide +kernel) (by decide +kernel)
theorem ax_of {s : State} {args : Array Value} (hts : ∀ w ∈ lw_tbl, w.before args s = true) : Ax s := by
  refine ⟨fun q hq => ?_, hts (.arrayOver (.array .int)) (List.mem_of_getElem? (i := 172) (by decide +kernel)), hts (.arrayOver (.object "IcicleClock$Slot")) (List.mem_of_getElem? (i := 312) (by decide +kernel)), hts (.arrayOver (.object "IcicleClock$Street")) (List.mem_of_getElem? (i := 310) (by decide +kernel))⟩
  simp only [nstW, List.mem_cons, List.not_mem_nil, or_false] at hq
  rcases hq with rfl | rfl | rfl | rfl | rfl | rfl | rfl | rfl | rfl | rfl | rfl
  · exact va_Nw.of rfl (hts _ (List.mem_of_getElem? (i := 129) (by decide +kernel)))
  · exact va_Nw.of rfl (hts _ (List.mem_of_getElem? (i := 161) (by decide +kernel)))
  · exact va_Nw.of rfl (hts _ (List.mem_of_getElem? (i := 167) (by decide +kernel)))
  · exact va_Nw.of rfl (hts _ (List.mem_of_getElem? (i := 314) (by decide +kernel)))
  · exact va_Nw.of rfl (hts _ (List.mem_of_getElem? (i := 340) (by decide +kernel)))
  · exact va_Nw.of rfl (hts _ (List.mem_of_getElem? (i := 366) (by decide +kernel)))
  · exact va_Nw.of rfl (hts _ (List.mem_of_getElem? (i := 381) (by decide +kernel)))
  · exact va_Nw.of rfl (hts _ (List.mem_of_getElem? (i := 400) (by decide +kernel)))
  · exact va_Nw.of rfl (hts _ (List.mem_of_getElem? (i := 420) (by decide +kernel)))
  · exact va_Nw.of rfl (hts _ (List.mem_of_getElem? (i := 441) (by decide +kernel)))
  · exact va_Nw.of rfl (hts _ (List.mem_of_getElem? (i := 468) (by decide +kernel)))
theorem arr_of {s : State} {args : Array Value} {ty : FieldType} (hra : ∀ k, s.vm.findClass ("[" ++ ty.toString) = some k → va_RA s k ty) (h : (Cond.arrayClass ty).before args s = true) : ∃ k, ArrOfT s k ty ∧ va_RA s k ty := by
  obtain ⟨c, k, comp, h1, h2, h3⟩ := Cond.arrayClass_spec h
  exact ⟨c, fun n z => ⟨(fun q hq => by cases hq), k, h2, comp, h3⟩, hra c h1⟩
theorem arr_obj {s : State} {args : Array Value} {C : String} (h : (Cond.arrayOver (.object C)).before args s = true) : ∃ k, ArrOfT s k (.object C) ∧ va_RA s k (.object C) := by
  obtain ⟨comp, c, k, h1, h2, h3, h4, h5⟩ := Cond.arrayOver_spec h
  exact ⟨c, fun n z => ⟨(fun q hq => by cases hq), k, h3, comp, h4⟩, k, comp, h3, h4, h1, h5⟩
theorem arr_rows {s : State} {args : Array Value} (h : (Cond.arrayOver (.array .int)).before args s = true) : ∃ k, ArrOfT s k (.array .int) ∧ va_RA s k (.array .int) := by
  obtain ⟨comp, c, k, h1, h2, h3, h4, h5⟩ := Jvm.Stand.arrayOver_specB h
  exact ⟨c, fun n z => ⟨(fun q hq => by cases hq), k, h3, comp, h4⟩, h5⟩
set_option maxHeartbeats 4000000 in
theorem known_of {s : State} {args : Array Value} (hts : ∀ w ∈ lw_tbl, w.before args s = true) : ∃ (D : va_G) (cs : Nat → ClassId), va_K D vwCl (tyL cs) s := by
  obtain ⟨c0, i0, hk0⟩ := u_known (C := RX0) (T := TX0) (N := 5) (n := 5) hts iT_0 (hts (.instantiable RX0 5) (List.mem_of_getElem? (i := 166) (by decide +kernel)))
  obtain ⟨c1, i1, hk1⟩ := u_known (C := RX1) (T := TX1) (N := 4) (n := 4) hts iT_1 (hts (.instantiable RX1 4) (List.mem_of_getElem? (i := 419) (by decide +kernel)))
  obtain ⟨c2, i2, hk2⟩ := u_known (C := RX2) (T := TX2) (N := 3) (n := 3) hts iT_2 (hts (.instantiable RX2 3) (List.mem_of_getElem? (i := 467) (by decide +kernel)))
  obtain ⟨c3, i3, hk3⟩ := u_known (C := RX3) (T := TX3) (N := 2) (n := 2) hts iT_3 (hts (.instantiable RX3 2) (List.mem_of_getElem? (i := 365) (by decide +kernel)))
  obtain ⟨c4, i4, hk4⟩ := u_known (C := RX4) (T := TX4) (N := 3) (n := 3) hts iT_4 (hts (.instantiable RX4 3) (List.mem_of_getElem? (i := 380) (by decide +kernel)))
  obtain ⟨c5, i5, hk5⟩ := u_known (C := RX5) (T := TX5) (N := 4) (n := 4) hts iT_5 (hts (.instantiable RX5 4) (List.mem_of_getElem? (i := 313) (by decide +kernel)))
  obtain ⟨c6, i6, hk6⟩ := u_known (C := RX6) (T := TX6) (N := 18) (n := 18) hts iT_6 (hts (.instantiable RX6 18) (List.mem_of_getElem? (i := 160) (by decide +kernel)))
  obtain ⟨c7, i7, hk7⟩ := u_known (C := RX7) (T := TX7) (N := 7) (n := 7) hts iT_7 (hts (.instantiable RX7 7) (List.mem_of_getElem? (i := 128) (by decide +kernel)))
  obtain ⟨c8, i8, hk8⟩ := u_known (C := RX8) (T := TX8) (N := 6) (n := 6) hts iT_8 (hts (.instantiable RX8 6) (List.mem_of_getElem? (i := 440) (by decide +kernel)))
  obtain ⟨c9, i9, hk9⟩ := u_known (C := RX9) (T := TX9) (N := 4) (n := 4) hts iT_9 (hts (.instantiable RX9 4) (List.mem_of_getElem? (i := 399) (by decide +kernel)))
  obtain ⟨c10, i10, hk10⟩ := u_known (C := RX10) (T := TX10) (N := 4) (n := 4) hts iT_10 (hts (.instantiable RX10 4) (List.mem_of_getElem? (i := 339) (by decide +kernel)))
  obtain ⟨c11, i11, hk11⟩ := u_known (C := RX11) (T := TX11) (N := 14) (n := 14) hts iT_11 (hts (.instantiable RX11 14) (List.mem_of_getElem? (i := 120) (by decide +kernel)))
  obtain ⟨c12, i12, hk12⟩ := u_known (C := RX12) (T := TX12) (N := 40) (n := 40) hts iT_12 (hts (.instantiable RX12 40) (List.mem_of_getElem? (i := 1257) (by decide +kernel)))
  obtain ⟨a0, ha0⟩ := arr_of (ty := .byte) (fun _ h => h) (hts (.arrayClass .byte) (List.mem_of_getElem? (i := 158) (by decide +kernel)))
  obtain ⟨a1, ha1⟩ := arr_of (ty := .int) (fun _ h => h) (hts (.arrayClass .int) (List.mem_of_getElem? (i := 192) (by decide +kernel)))
  obtain ⟨a2, ha2⟩ := arr_of (ty := .long) (fun _ h => h) (hts (.arrayClass .long) (List.mem_of_getElem? (i := 337) (by decide +kernel)))
  obtain ⟨a3, ha3⟩ := arr_of (ty := .boolean) (fun _ h => h) (hts (.arrayClass .boolean) (List.mem_of_getElem? (i := 193) (by decide +kernel)))
  obtain ⟨a4, ha4⟩ := arr_obj (hts (.arrayOver (.object "IcicleClock$Slot")) (List.mem_of_getElem? (i := 312) (by decide +kernel)))
  obtain ⟨a5, ha5⟩ := arr_obj (hts (.arrayOver (.object "IcicleClock$Street")) (List.mem_of_getElem? (i := 310) (by decide +kernel)))
  obtain ⟨a6, ha6⟩ := arr_rows (hts (.arrayOver (.array .int)) (List.mem_of_getElem? (i := 172) (by decide +kernel)))
  refine ⟨(fun k => [c0, c1, c2, c3, c4, c5, c6, c7, c8, c9, c10, c11, c12].getD k c0, fun k => [i0, i1, i2, i3, i4, i5, i6, i7, i8, i9, i10, i11, i12].getD k i0), fun k => [a0, a1, a2, a3, a4, a5, a6].getD k a0, ?_, ?_⟩
  · intro k q hq
    match k, hq with
    | 0, hq => cases hq; exact hk0
    | 1, hq => cases hq; exact hk1
    | 2, hq => cases hq; exact hk2
    | 3, hq => cases hq; exact hk3
    | 4, hq => cases hq; exact hk4
    | 5, hq => cases hq; exact hk5
    | 6, hq => cases hq; exact hk6
    | 7, hq => cases hq; exact hk7
    | 8, hq => cases hq; exact hk8
    | 9, hq => cases hq; exact hk9
    | 10, hq => cases hq; exact hk10
    | 11, hq => cases hq; exact hk11
    | 12, hq => cases hq; exact hk12
    | k + 13, hq => simp [vwCl] at hq
  · intro k q hq
    match k, hq with
    | 0, hq => cases hq; exact ha0
    | 1, hq => cases hq; exact ha1
    | 2, hq => cases hq; exact ha2
    | 3, hq => cases hq; exact ha3
    | 4, hq => cases hq; exact ha4
    | 5, hq => cases hq; exact ha5
    | 6, hq => cases hq; exact ha6
    | k + 7, hq => simp [tyL] at hq
