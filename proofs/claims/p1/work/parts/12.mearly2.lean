theorem dX12_asksSeen_0 : decode cX12_asksSeen 0 = .ok (.iload_n 1, 1) := by decide +kernel
theorem dX12_asksSeen_1 : decode cX12_asksSeen 1 = .ok (.invokestatic 307, 3) := by decide +kernel
theorem dX12_asksSeen_4 : decode cX12_asksSeen 4 = .ok (.ifCond .eq 14, 3) := by decide +kernel
theorem dX12_asksSeen_18 : decode cX12_asksSeen 18 = .ok (.bipush (-2), 2) := by decide +kernel
theorem dX12_asksSeen_20 : decode cX12_asksSeen 20 = .ok (.ireturn, 1) := by decide +kernel
theorem dX12_asksSeen_7 : decode cX12_asksSeen 7 = .ok (.aload_n 0, 1) := by decide +kernel
theorem dX12_asksSeen_8 : decode cX12_asksSeen 8 = .ok (.invokevirtual 261, 3) := by decide +kernel
theorem dX12_asksSeen_11 : decode cX12_asksSeen 11 = .ok (.ifCond .eq 7, 3) := by decide +kernel
def vX12_asksSeen : List Cond := .code yX12_asksSeen cX12_asksSeen 5 (some .int) :: ([.methodLink RX12 307 yX12_isSlot, .static yX12_isSlot, .initialized RX12, .code yX12_isSlot cX12_isSlot 1 (some .boolean), .constantLong RX12 431 (3), .methodLink RX12 82 yX12_in, .static yX12_in, .code yX12_in cX12_in 6 (some .boolean), .methodLink RX12 261 yX12_isStreet, .instanceMethod yX12_isStreet, .selects RX12 yX12_isStreet yX12_isStreet, .code yX12_isStreet cX12_isStreet 1 (some .boolean), .fieldLink RX12 9 "IcicleClockModel" "world" "[I"] ++ wsX120)
theorem iX12_asksSeen_12 : ∀ w ∈ wsX120, w ∈ vX12_asksSeen := fun _ h => List.mem_cons_of_mem _ (List.mem_append_right _ h)
set_option maxRecDepth 20000 in
theorem gg_X12_asksSeen_X12_isSlot : GoodIn vX12_asksSeen (wsS RX12 307 yX12_isSlot vX12_isSlot) := goodIn_r _ [1, 2, 3, 4, 5, 6, 7, 3, 8] (by decide +kernel) (by decide +kernel)
set_option maxRecDepth 20000 in
theorem gg_X12_asksSeen_X12_isStreet : GoodIn vX12_asksSeen (wsV RX12 261 RX12 yX12_isStreet vX12_isStreet) := goodIn_r _ [9, 10, 11, 3, 12, 13, 14, 15, 16, 17, 18, 19, 20, 21, 22, 23, 24, 25, 26, 27, 28, 29, 30, 31, 32, 33, 34, 35, 36, 37, 38, 39, 40, 41, 42, 43, 44, 45, 46, 47, 48, 49, 50, 51, 52, 53] (by decide +kernel) (by decide +kernel)
set_option maxHeartbeats 4000000 in
set_option maxRecDepth 100000 in
theorem m_asksSeen (l : Launch) (D : va_G) (cs : Nat → ClassId) (ad : Nat → Nat) (hj : wJ ad nW) (g : Nat → va_E) (vs : Int32) (vo : Int32) (vn : Int32) (h197 : g 197 = .inr (12, [.int 0, .ref (ad 198), .ref (ad 199), .ref (ad 200), .ref (ad 201), .int 0, .ref (ad 202), .int 0, .int 0, .int 0, .int 0, .int 0, .int 0, .int (-1), .ref (ad 203), .ref (ad 204), .ref (ad 205), .int 0, .int 0, .ref (ad 206), .ref (ad 207), .ref (ad 208), .int 0, .int 0, .int 0, .int 0, .int 0, .ref (ad 209), .ref (ad 210), .ref (ad 211), .long 0, .long 0, .ref (ad 212), .ref (ad 213), .int 0, .int 0, .ref (ad 214), .ref (ad 215), .ref (ad 216), .ref (ad 217)])) (h198 : g 198 = .inl (cs 1, 118, .inl (fun _ => 0))) : cI l yX12_asksSeen vX12_asksSeen { frames := 2, cells := 0, slots := 0, locals := 45 } D cs ad nW [.ref (ad 197), .int vs, .int vo, .int vn] g (fun r g2 => r = (-2) ∧ g2 = g) := by
  refine Met.start (cc := cX12_asksSeen) (maxL := 5) (ret := (some .int)) RX12 rfl (by decide) rfl (Nat.le_of_ble_eq_true rfl) ?_
  intro p e s m below meth c ls X hP hl
  have hx := X.1
  have hb := X.2.1
  have hS : va_S (wA ad nW) s.heap s.heap [] := va_S.rf
  have hA : ∀ i, i < nW → wA ad nW (ad i) := fun i h => ⟨i, h, rfl⟩
  have hl : lv_has ls 5 [(0, .ref (ad 197)), (1, .int vs), (2, .int vo), (3, .int vn)] := hl
  refine lv_iload_n hx hb dX12_asksSeen_0 rfl (lv_at hl 1 rfl) ?_
  refine q_callSi (As := [.int vs]) (rest := []) X (m_isSlot l D cs ad hj g vs ) (cwS 1 X.2.2.2.2.1 gg_X12_asksSeen_X12_isSlot rfl rfl rfl (by decide +kernel) ⟨Nat.le_of_ble_eq_true rfl, Nat.le_of_ble_eq_true rfl⟩) hP hA hS rfl hl.1 rfl (Nat.le_of_ble_eq_true rfl) dX12_asksSeen_1 ⟨Nat.le_of_ble_eq_true rfl, Nat.le_of_ble_eq_true rfl⟩ (fun r_3 g_2 H locs hw_1 hP hS => ?_)
  obtain ⟨hw_1b, hw_1⟩ := hw_1
  rw [hw_1b] at hP
  refine lv_if_eq (tgt := 18) hx hb dX12_asksSeen_4 (by decide) (fun hc_4 => ?_) (fun hc_4 => ?_)
  · refine lv_bipush (v := (-2)) hx hb dX12_asksSeen_18 (by decide) ?_
    exact q_iret X hP hS ⟨rfl, rfl⟩ dX12_asksSeen_20
  · refine lv_aload_n hx hb dX12_asksSeen_7 rfl (lv_at hl 0 rfl) ?_
    refine q_calli (q := (RX12, TX12, 40)) (As := []) (rest := []) X (m_isStreet l D cs ad hj g  h197 h198) (cwV 0 X.2.2.2.2.1 gg_X12_asksSeen_X12_isStreet rfl rfl rfl (by decide +kernel) ⟨Nat.le_of_ble_eq_true rfl, Nat.le_of_ble_eq_true rfl⟩) (by decide) h197 rfl hP hA hS rfl hl.1 rfl (Nat.le_of_ble_eq_true rfl) dX12_asksSeen_8 ⟨Nat.le_of_ble_eq_true rfl, Nat.le_of_ble_eq_true rfl⟩ (fun r_6 g_5 H locs hw_4 hP hS => ?_)
    obtain ⟨hw_4a, hw_4b⟩ := hw_4
    subst hw_4a
    rw [hw_4b] at hP
    refine lv_if_eq (tgt := 18) hx hb dX12_asksSeen_11 (by decide) (fun _ => ?_) (fun h => absurd h (by decide))
    refine lv_bipush (v := (-2)) hx hb dX12_asksSeen_18 (by decide) ?_
    exact q_iret X hP hS ⟨rfl, rfl⟩ dX12_asksSeen_20

theorem dX12_laySlams_0 : decode cX12_laySlams 0 = .ok (.aload_n 0, 1) := by decide +kernel
theorem dX12_laySlams_1 : decode cX12_laySlams 1 = .ok (.iload_n 1, 1) := by decide +kernel
theorem dX12_laySlams_2 : decode cX12_laySlams 2 = .ok (.iconst 1, 1) := by decide +kernel
theorem dX12_laySlams_3 : decode cX12_laySlams 3 = .ok (.aload_n 0, 1) := by decide +kernel
theorem dX12_laySlams_4 : decode cX12_laySlams 4 = .ok (.getfield 9, 3) := by decide +kernel
theorem dX12_laySlams_7 : decode cX12_laySlams 7 = .ok (.iconst 3, 1) := by decide +kernel
theorem dX12_laySlams_8 : decode cX12_laySlams 8 = .ok (.iaload, 1) := by decide +kernel
theorem dX12_laySlams_9 : decode cX12_laySlams 9 = .ok (.invokevirtual 316, 3) := by decide +kernel
theorem dX12_laySlams_12 : decode cX12_laySlams 12 = .ok (.istore_n 2, 1) := by decide +kernel
theorem dX12_laySlams_13 : decode cX12_laySlams 13 = .ok (.iload_n 2, 1) := by decide +kernel
theorem dX12_laySlams_14 : decode cX12_laySlams 14 = .ok (.ifCond .ge 5, 3) := by decide +kernel
theorem dX12_laySlams_17 : decode cX12_laySlams 17 = .ok (.iload_n 2, 1) := by decide +kernel
theorem dX12_laySlams_18 : decode cX12_laySlams 18 = .ok (.ireturn, 1) := by decide +kernel
def vX12_laySlams : List Cond := .code yX12_laySlams cX12_laySlams 6 (some .int) :: ([.fieldLink RX12 9 "IcicleClockModel" "world" "[I", .methodLink RX12 316 yX12_asksSeen, .instanceMethod yX12_asksSeen, .selects RX12 yX12_asksSeen yX12_asksSeen, .initialized RX12, .code yX12_asksSeen cX12_asksSeen 5 (some .int), .methodLink RX12 307 yX12_isSlot, .static yX12_isSlot, .code yX12_isSlot cX12_isSlot 1 (some .boolean), .constantLong RX12 431 (3), .methodLink RX12 82 yX12_in, .static yX12_in, .code yX12_in cX12_in 6 (some .boolean), .methodLink RX12 261 yX12_isStreet, .instanceMethod yX12_isStreet, .selects RX12 yX12_isStreet yX12_isStreet, .code yX12_isStreet cX12_isStreet 1 (some .boolean)] ++ wsX120)
theorem iX12_laySlams_12 : ∀ w ∈ wsX120, w ∈ vX12_laySlams := fun _ h => List.mem_cons_of_mem _ (List.mem_append_right _ h)
set_option maxRecDepth 20000 in
theorem gg_X12_laySlams_X12_asksSeen : GoodIn vX12_laySlams (wsV RX12 316 RX12 yX12_asksSeen vX12_asksSeen) := goodIn_r _ [2, 3, 4, 5, 6, 7, 8, 5, 9, 10, 11, 12, 13, 14, 15, 16, 17, 1, 18, 19, 20, 21, 22, 23, 24, 25, 26, 27, 28, 29, 30, 31, 32, 33, 34, 35, 36, 37, 38, 39, 40, 41, 42, 43, 44, 45, 46, 47, 48, 49, 50, 51, 52, 53, 54, 55, 56, 57] (by decide +kernel) (by decide +kernel)
set_option maxHeartbeats 4000000 in
set_option maxRecDepth 100000 in
theorem m_laySlams (l : Launch) (D : va_G) (cs : Nat → ClassId) (ad : Nat → Nat) (hj : wJ ad nW) (g : Nat → va_E) (vs : Int32) (h197 : g 197 = .inr (12, [.int 0, .ref (ad 198), .ref (ad 199), .ref (ad 200), .ref (ad 201), .int 0, .ref (ad 202), .int 0, .int 0, .int 0, .int 0, .int 0, .int 0, .int (-1), .ref (ad 203), .ref (ad 204), .ref (ad 205), .int 0, .int 0, .ref (ad 206), .ref (ad 207), .ref (ad 208), .int 0, .int 0, .int 0, .int 0, .int 0, .ref (ad 209), .ref (ad 210), .ref (ad 211), .long 0, .long 0, .ref (ad 212), .ref (ad 213), .int 0, .int 0, .ref (ad 214), .ref (ad 215), .ref (ad 216), .ref (ad 217)])) (h198 : g 198 = .inl (cs 1, 118, .inl (fun _ => 0))) : cI l yX12_laySlams vX12_laySlams { frames := 3, cells := 0, slots := 0, locals := 69 } D cs ad nW [.ref (ad 197), .int vs] g (fun r g2 => r = (-2) ∧ g2 = g) := by
  refine Met.start (cc := cX12_laySlams) (maxL := 6) (ret := (some .int)) RX12 rfl (by decide) rfl (Nat.le_of_ble_eq_true rfl) ?_
  intro p e s m below meth c ls X hP hl
  have hx := X.1
  have hb := X.2.1
  have hS : va_S (wA ad nW) s.heap s.heap [] := va_S.rf
  have hA : ∀ i, i < nW → wA ad nW (ad i) := fun i h => ⟨i, h, rfl⟩
  have hl : lv_has ls 6 [(0, .ref (ad 197)), (1, .int vs)] := hl
  refine lv_aload_n hx hb dX12_laySlams_0 rfl (lv_at hl 0 rfl) ?_
  refine lv_iload_n hx hb dX12_laySlams_1 rfl (lv_at hl 1 rfl) ?_
  refine lv_iconst (v := 1) hx hb dX12_laySlams_2 (by decide) ?_
  refine lv_aload_n hx hb dX12_laySlams_3 rfl (lv_at hl 0 rfl) ?_
  refine q_get X iX12_laySlams_12 hP (by decide) h197 rfl 1 (by decide) (List.mem_of_getElem? (i := 1) rfl) (v := .ref (ad 198)) rfl dX12_laySlams_4 ?_
  refine lv_iconst (v := 3) hx hb dX12_laySlams_7 (by decide) ?_
  refine q_iald X hP (by decide) h198 (by unfold vp_in; decide) dX12_laySlams_8 ?_
  refine q_calli (q := (RX12, TX12, 40)) (As := [.int vs, .int 1, .int 0]) (rest := []) X (m_asksSeen l D cs ad hj g vs 1 0 h197 h198) (cwV 3 X.2.2.2.2.1 gg_X12_laySlams_X12_asksSeen rfl rfl rfl (by decide +kernel) ⟨Nat.le_of_ble_eq_true rfl, Nat.le_of_ble_eq_true rfl⟩) (by decide) h197 rfl hP hA hS rfl hl.1 rfl (Nat.le_of_ble_eq_true rfl) dX12_laySlams_9 ⟨Nat.le_of_ble_eq_true rfl, Nat.le_of_ble_eq_true rfl⟩ (fun r_3 g_2 H locs hw_1 hP hS => ?_)
  obtain ⟨hw_1a, hw_1b⟩ := hw_1
  subst hw_1a
  rw [hw_1b] at hP
  refine lv_istore_n (lv' := [(2, .int (-2)), (0, .ref (ad 197)), (1, .int vs)]) hx hb dX12_laySlams_12 rfl hl (by decide) rfl (fun ls hl => ?_)
  refine lv_iload_n hx hb dX12_laySlams_13 rfl (lv_at hl 0 rfl) ?_
  refine lv_if_ge (tgt := 19) hx hb dX12_laySlams_14 (by decide) (fun h => absurd h (by decide)) (fun _ => ?_)
  refine lv_iload_n hx hb dX12_laySlams_17 rfl (lv_at hl 0 rfl) ?_
  exact q_iret X hP hS ⟨rfl, rfl⟩ dX12_laySlams_18

theorem dX12_layWeathers_0 : decode cX12_layWeathers 0 = .ok (.aload_n 0, 1) := by decide +kernel
theorem dX12_layWeathers_1 : decode cX12_layWeathers 1 = .ok (.iload_n 1, 1) := by decide +kernel
theorem dX12_layWeathers_2 : decode cX12_layWeathers 2 = .ok (.iload_n 2, 1) := by decide +kernel
theorem dX12_layWeathers_3 : decode cX12_layWeathers 3 = .ok (.i2l, 1) := by decide +kernel
theorem dX12_layWeathers_4 : decode cX12_layWeathers 4 = .ok (.lconst 1, 1) := by decide +kernel
theorem dX12_layWeathers_5 : decode cX12_layWeathers 5 = .ok (.ldc2_w 329, 3) := by decide +kernel
theorem dX12_layWeathers_8 : decode cX12_layWeathers 8 = .ok (.invokestatic 82, 3) := by decide +kernel
theorem dX12_layWeathers_11 : decode cX12_layWeathers 11 = .ok (.ifCond .eq 11, 3) := by decide +kernel
theorem dX12_layWeathers_22 : decode cX12_layWeathers 22 = .ok (.iconst 0, 1) := by decide +kernel
theorem dX12_layWeathers_23 : decode cX12_layWeathers 23 = .ok (.iload_n 2, 1) := by decide +kernel
theorem dX12_layWeathers_24 : decode cX12_layWeathers 24 = .ok (.invokevirtual 316, 3) := by decide +kernel
theorem dX12_layWeathers_27 : decode cX12_layWeathers 27 = .ok (.istore 4, 2) := by decide +kernel
theorem dX12_layWeathers_29 : decode cX12_layWeathers 29 = .ok (.iload 4, 2) := by decide +kernel
theorem dX12_layWeathers_31 : decode cX12_layWeathers 31 = .ok (.ifCond .ge 6, 3) := by decide +kernel
theorem dX12_layWeathers_34 : decode cX12_layWeathers 34 = .ok (.iload 4, 2) := by decide +kernel
theorem dX12_layWeathers_36 : decode cX12_layWeathers 36 = .ok (.ireturn, 1) := by decide +kernel
theorem dX12_layWeathers_14 : decode cX12_layWeathers 14 = .ok (.iload_n 3, 1) := by decide +kernel
theorem dX12_layWeathers_15 : decode cX12_layWeathers 15 = .ok (.ifCond .eq 7, 3) := by decide +kernel
theorem dX12_layWeathers_18 : decode cX12_layWeathers 18 = .ok (.iconst 1, 1) := by decide +kernel
theorem dX12_layWeathers_19 : decode cX12_layWeathers 19 = .ok (.goto 4, 3) := by decide +kernel
def vX12_layWeathers : List Cond := .code yX12_layWeathers cX12_layWeathers 9 (some .int) :: ([.constantLong RX12 329 (5), .methodLink RX12 82 yX12_in, .static yX12_in, .initialized RX12, .code yX12_in cX12_in 6 (some .boolean), .methodLink RX12 316 yX12_asksSeen, .instanceMethod yX12_asksSeen, .selects RX12 yX12_asksSeen yX12_asksSeen, .code yX12_asksSeen cX12_asksSeen 5 (some .int), .methodLink RX12 307 yX12_isSlot, .static yX12_isSlot, .code yX12_isSlot cX12_isSlot 1 (some .boolean), .constantLong RX12 431 (3), .methodLink RX12 261 yX12_isStreet, .instanceMethod yX12_isStreet, .selects RX12 yX12_isStreet yX12_isStreet, .code yX12_isStreet cX12_isStreet 1 (some .boolean), .fieldLink RX12 9 "IcicleClockModel" "world" "[I"] ++ wsX120)
theorem iX12_layWeathers_12 : ∀ w ∈ wsX120, w ∈ vX12_layWeathers := fun _ h => List.mem_cons_of_mem _ (List.mem_append_right _ h)
set_option maxRecDepth 20000 in
theorem gg_X12_layWeathers_X12_in : GoodIn vX12_layWeathers (wsS RX12 82 yX12_in vX12_in) := goodIn_r _ [2, 3, 4, 5] (by decide +kernel) (by decide +kernel)
set_option maxRecDepth 20000 in
theorem gg_X12_layWeathers_X12_asksSeen : GoodIn vX12_layWeathers (wsV RX12 316 RX12 yX12_asksSeen vX12_asksSeen) := goodIn_r _ [6, 7, 8, 4, 9, 10, 11, 4, 12, 13, 2, 3, 5, 14, 15, 16, 17, 18, 19, 20, 21, 22, 23, 24, 25, 26, 27, 28, 29, 30, 31, 32, 33, 34, 35, 36, 37, 38, 39, 40, 41, 42, 43, 44, 45, 46, 47, 48, 49, 50, 51, 52, 53, 54, 55, 56, 57, 58] (by decide +kernel) (by decide +kernel)
set_option maxHeartbeats 4000000 in
set_option maxRecDepth 100000 in
theorem m_layWeathers (l : Launch) (D : va_G) (cs : Nat → ClassId) (ad : Nat → Nat) (hj : wJ ad nW) (g : Nat → va_E) (vs : Int32) (vn : Int32) (vo : Int32) (h197 : g 197 = .inr (12, [.int 0, .ref (ad 198), .ref (ad 199), .ref (ad 200), .ref (ad 201), .int 0, .ref (ad 202), .int 0, .int 0, .int 0, .int 0, .int 0, .int 0, .int (-1), .ref (ad 203), .ref (ad 204), .ref (ad 205), .int 0, .int 0, .ref (ad 206), .ref (ad 207), .ref (ad 208), .int 0, .int 0, .int 0, .int 0, .int 0, .ref (ad 209), .ref (ad 210), .ref (ad 211), .long 0, .long 0, .ref (ad 212), .ref (ad 213), .int 0, .int 0, .ref (ad 214), .ref (ad 215), .ref (ad 216), .ref (ad 217)])) (h198 : g 198 = .inl (cs 1, 118, .inl (fun _ => 0))) : cI l yX12_layWeathers vX12_layWeathers { frames := 3, cells := 0, slots := 0, locals := 69 } D cs ad nW [.ref (ad 197), .int vs, .int vn, .int vo] g (fun r g2 => r = (-2) ∧ g2 = g) := by
  refine Met.start (cc := cX12_layWeathers) (maxL := 9) (ret := (some .int)) RX12 rfl (by decide) rfl (Nat.le_of_ble_eq_true rfl) ?_
  intro p e s m below meth c ls X hP hl
  have hx := X.1
  have hb := X.2.1
  have hS : va_S (wA ad nW) s.heap s.heap [] := va_S.rf
  have hA : ∀ i, i < nW → wA ad nW (ad i) := fun i h => ⟨i, h, rfl⟩
  have hl : lv_has ls 9 [(0, .ref (ad 197)), (1, .int vs), (2, .int vn), (3, .int vo)] := hl
  refine lv_aload_n hx hb dX12_layWeathers_0 rfl (lv_at hl 0 rfl) ?_
  refine lv_iload_n hx hb dX12_layWeathers_1 rfl (lv_at hl 1 rfl) ?_
  refine lv_iload_n hx hb dX12_layWeathers_2 rfl (lv_at hl 2 rfl) ?_
  refine lv_i2l (v := vn.toInt64) hx hb dX12_layWeathers_3 rfl ?_
  refine lv_lconst (v := 1) hx hb dX12_layWeathers_4 (by decide) ?_
  refine lv_ldc2 (v := 5) hx hb X.2.2.2.2.2.1 (X.2.2.2.2.1 _ (List.mem_of_getElem? (i := 1) rfl)) dX12_layWeathers_5 ?_
  refine q_callSi (As := [.long (vn.toInt64), .long 1, .long 5]) (rest := [.int vs, .ref (ad 197)]) X (m_in l D cs ad hj g (vn.toInt64) 1 5 ) (cwS 3 X.2.2.2.2.1 gg_X12_layWeathers_X12_in rfl rfl rfl (by decide +kernel) ⟨Nat.le_of_ble_eq_true rfl, Nat.le_of_ble_eq_true rfl⟩) hP hA hS rfl hl.1 rfl (Nat.le_of_ble_eq_true rfl) dX12_layWeathers_8 ⟨Nat.le_of_ble_eq_true rfl, Nat.le_of_ble_eq_true rfl⟩ (fun r_3 g_2 H locs hw_1 hP hS => ?_)
  obtain ⟨hw_1b, hw_1⟩ := hw_1
  rw [hw_1b] at hP
  refine lv_if_eq (tgt := 22) hx hb dX12_layWeathers_11 (by decide) (fun hc_11 => ?_) (fun hc_11 => ?_)
  · refine lv_iconst (v := 0) hx hb dX12_layWeathers_22 (by decide) ?_
    refine lv_iload_n hx hb dX12_layWeathers_23 rfl (lv_at hl 2 rfl) ?_
    refine q_calli (q := (RX12, TX12, 40)) (As := [.int vs, .int 0, .int vn]) (rest := []) X (m_asksSeen l D cs ad hj g vs 0 vn h197 h198) (cwV 3 X.2.2.2.2.1 gg_X12_layWeathers_X12_asksSeen rfl rfl rfl (by decide +kernel) ⟨Nat.le_of_ble_eq_true rfl, Nat.le_of_ble_eq_true rfl⟩) (by decide) h197 rfl hP hA hS rfl hl.1 rfl (Nat.le_of_ble_eq_true rfl) dX12_layWeathers_24 ⟨Nat.le_of_ble_eq_true rfl, Nat.le_of_ble_eq_true rfl⟩ (fun r_6 g_5 H locs hw_4 hP hS => ?_)
    obtain ⟨hw_4a, hw_4b⟩ := hw_4
    subst hw_4a
    rw [hw_4b] at hP
    refine lv_istore (lv' := [(4, .int (-2)), (0, .ref (ad 197)), (1, .int vs), (2, .int vn), (3, .int vo)]) hx hb dX12_layWeathers_27 hl (by decide) rfl (fun ls hl => ?_)
    refine lv_iload hx hb dX12_layWeathers_29 (lv_at hl 0 rfl) ?_
    refine lv_if_ge (tgt := 37) hx hb dX12_layWeathers_31 (by decide) (fun h => absurd h (by decide)) (fun _ => ?_)
    refine lv_iload hx hb dX12_layWeathers_34 (lv_at hl 0 rfl) ?_
    exact q_iret X hP hS ⟨rfl, rfl⟩ dX12_layWeathers_36
  · refine lv_iload_n hx hb dX12_layWeathers_14 rfl (lv_at hl 3 rfl) ?_
    refine lv_if_eq (tgt := 22) hx hb dX12_layWeathers_15 (by decide) (fun hc_15 => ?_) (fun hc_15 => ?_)
    · refine lv_iconst (v := 0) hx hb dX12_layWeathers_22 (by decide) ?_
      refine lv_iload_n hx hb dX12_layWeathers_23 rfl (lv_at hl 2 rfl) ?_
      refine q_calli (q := (RX12, TX12, 40)) (As := [.int vs, .int 0, .int vn]) (rest := []) X (m_asksSeen l D cs ad hj g vs 0 vn h197 h198) (cwV 3 X.2.2.2.2.1 gg_X12_layWeathers_X12_asksSeen rfl rfl rfl (by decide +kernel) ⟨Nat.le_of_ble_eq_true rfl, Nat.le_of_ble_eq_true rfl⟩) (by decide) h197 rfl hP hA hS rfl hl.1 rfl (Nat.le_of_ble_eq_true rfl) dX12_layWeathers_24 ⟨Nat.le_of_ble_eq_true rfl, Nat.le_of_ble_eq_true rfl⟩ (fun r_9 g_8 H locs hw_7 hP hS => ?_)
      obtain ⟨hw_7a, hw_7b⟩ := hw_7
      subst hw_7a
      rw [hw_7b] at hP
      refine lv_istore (lv' := [(4, .int (-2)), (0, .ref (ad 197)), (1, .int vs), (2, .int vn), (3, .int vo)]) hx hb dX12_layWeathers_27 hl (by decide) rfl (fun ls hl => ?_)
      refine lv_iload hx hb dX12_layWeathers_29 (lv_at hl 0 rfl) ?_
      refine lv_if_ge (tgt := 37) hx hb dX12_layWeathers_31 (by decide) (fun h => absurd h (by decide)) (fun _ => ?_)
      refine lv_iload hx hb dX12_layWeathers_34 (lv_at hl 0 rfl) ?_
      exact q_iret X hP hS ⟨rfl, rfl⟩ dX12_layWeathers_36
    · refine lv_iconst (v := 1) hx hb dX12_layWeathers_18 (by decide) ?_
      refine lv_goto (tgt := 23) hx hb dX12_layWeathers_19 (by decide) ?_
      refine lv_iload_n hx hb dX12_layWeathers_23 rfl (lv_at hl 2 rfl) ?_
      refine q_calli (q := (RX12, TX12, 40)) (As := [.int vs, .int 1, .int vn]) (rest := []) X (m_asksSeen l D cs ad hj g vs 1 vn h197 h198) (cwV 3 X.2.2.2.2.1 gg_X12_layWeathers_X12_asksSeen rfl rfl rfl (by decide +kernel) ⟨Nat.le_of_ble_eq_true rfl, Nat.le_of_ble_eq_true rfl⟩) (by decide) h197 rfl hP hA hS rfl hl.1 rfl (Nat.le_of_ble_eq_true rfl) dX12_layWeathers_24 ⟨Nat.le_of_ble_eq_true rfl, Nat.le_of_ble_eq_true rfl⟩ (fun r_12 g_11 H locs hw_10 hP hS => ?_)
      obtain ⟨hw_10a, hw_10b⟩ := hw_10
      subst hw_10a
      rw [hw_10b] at hP
      refine lv_istore (lv' := [(4, .int (-2)), (0, .ref (ad 197)), (1, .int vs), (2, .int vn), (3, .int vo)]) hx hb dX12_layWeathers_27 hl (by decide) rfl (fun ls hl => ?_)
      refine lv_iload hx hb dX12_layWeathers_29 (lv_at hl 0 rfl) ?_
      refine lv_if_ge (tgt := 37) hx hb dX12_layWeathers_31 (by decide) (fun h => absurd h (by decide)) (fun _ => ?_)
      refine lv_iload hx hb dX12_layWeathers_34 (lv_at hl 0 rfl) ?_
      exact q_iret X hP hS ⟨rfl, rfl⟩ dX12_layWeathers_36

theorem dX12_layWalks_0 : decode cX12_layWalks 0 = .ok (.aload_n 0, 1) := by decide +kernel
theorem dX12_layWalks_1 : decode cX12_layWalks 1 = .ok (.getfield 9, 3) := by decide +kernel
theorem dX12_layWalks_4 : decode cX12_layWalks 4 = .ok (.iconst 4, 1) := by decide +kernel
theorem dX12_layWalks_5 : decode cX12_layWalks 5 = .ok (.iaload, 1) := by decide +kernel
theorem dX12_layWalks_6 : decode cX12_layWalks 6 = .ok (.ifCond .eq 12, 3) := by decide +kernel
theorem dX12_layWalks_18 : decode cX12_layWalks 18 = .ok (.iconst 0, 1) := by decide +kernel
theorem dX12_layWalks_19 : decode cX12_layWalks 19 = .ok (.ireturn, 1) := by decide +kernel
def vX12_layWalks : List Cond := .code yX12_layWalks cX12_layWalks 4 (some .boolean) :: ([.fieldLink RX12 9 "IcicleClockModel" "world" "[I"] ++ wsX120)
theorem iX12_layWalks_12 : ∀ w ∈ wsX120, w ∈ vX12_layWalks := fun _ h => List.mem_cons_of_mem _ (List.mem_append_right _ h)
set_option maxHeartbeats 4000000 in
set_option maxRecDepth 100000 in
theorem m_layWalks (l : Launch) (D : va_G) (cs : Nat → ClassId) (ad : Nat → Nat) (hj : wJ ad nW) (g : Nat → va_E) (h197 : g 197 = .inr (12, [.int 0, .ref (ad 198), .ref (ad 199), .ref (ad 200), .ref (ad 201), .int 0, .ref (ad 202), .int 0, .int 0, .int 0, .int 0, .int 0, .int 0, .int (-1), .ref (ad 203), .ref (ad 204), .ref (ad 205), .int 0, .int 0, .ref (ad 206), .ref (ad 207), .ref (ad 208), .int 0, .int 0, .int 0, .int 0, .int 0, .ref (ad 209), .ref (ad 210), .ref (ad 211), .long 0, .long 0, .ref (ad 212), .ref (ad 213), .int 0, .int 0, .ref (ad 214), .ref (ad 215), .ref (ad 216), .ref (ad 217)])) (h198 : g 198 = .inl (cs 1, 118, .inl (fun _ => 0))) : cI l yX12_layWalks vX12_layWalks { frames := 0, cells := 0, slots := 0, locals := 0 } D cs ad nW [.ref (ad 197)] g (fun r g2 => r = 0 ∧ g2 = g) := by
  refine Met.start (cc := cX12_layWalks) (maxL := 4) (ret := (some .boolean)) RX12 rfl (by decide) rfl (Nat.le_of_ble_eq_true rfl) ?_
  intro p e s m below meth c ls X hP hl
  have hx := X.1
  have hb := X.2.1
  have hS : va_S (wA ad nW) s.heap s.heap [] := va_S.rf
  have hA : ∀ i, i < nW → wA ad nW (ad i) := fun i h => ⟨i, h, rfl⟩
  have hl : lv_has ls 4 [(0, .ref (ad 197))] := hl
  refine lv_aload_n hx hb dX12_layWalks_0 rfl (lv_at hl 0 rfl) ?_
  refine q_get X iX12_layWalks_12 hP (by decide) h197 rfl 1 (by decide) (List.mem_of_getElem? (i := 1) rfl) (v := .ref (ad 198)) rfl dX12_layWalks_1 ?_
  refine lv_iconst (v := 4) hx hb dX12_layWalks_4 (by decide) ?_
  refine q_iald X hP (by decide) h198 (by unfold vp_in; decide) dX12_layWalks_5 ?_
  refine lv_if_eq (tgt := 18) hx hb dX12_layWalks_6 (by decide) (fun _ => ?_) (fun h => absurd h (by decide))
  refine lv_iconst (v := 0) hx hb dX12_layWalks_18 (by decide) ?_
  exact q_zret X hP hS rfl ⟨rfl, rfl⟩ dX12_layWalks_19

theorem dX12_slams_0 : decode cX12_slams 0 = .ok (.aload_n 0, 1) := by decide +kernel
theorem dX12_slams_1 : decode cX12_slams 1 = .ok (.iload_n 1, 1) := by decide +kernel
theorem dX12_slams_2 : decode cX12_slams 2 = .ok (.invokevirtual 326, 3) := by decide +kernel
theorem dX12_slams_5 : decode cX12_slams 5 = .ok (.istore_n 2, 1) := by decide +kernel
theorem dX12_slams_6 : decode cX12_slams 6 = .ok (.iload_n 2, 1) := by decide +kernel
theorem dX12_slams_7 : decode cX12_slams 7 = .ok (.ifCond .ge 7, 3) := by decide +kernel
theorem dX12_slams_10 : decode cX12_slams 10 = .ok (.iload_n 2, 1) := by decide +kernel
theorem dX12_slams_11 : decode cX12_slams 11 = .ok (.goto 7, 3) := by decide +kernel
theorem dX12_slams_18 : decode cX12_slams 18 = .ok (.ireturn, 1) := by decide +kernel
def vX12_slams : List Cond := .code yX12_slams cX12_slams 3 (some .int) :: ([.methodLink RX12 326 yX12_laySlams, .instanceMethod yX12_laySlams, .selects RX12 yX12_laySlams yX12_laySlams, .initialized RX12, .code yX12_laySlams cX12_laySlams 6 (some .int), .fieldLink RX12 9 "IcicleClockModel" "world" "[I", .methodLink RX12 316 yX12_asksSeen, .instanceMethod yX12_asksSeen, .selects RX12 yX12_asksSeen yX12_asksSeen, .code yX12_asksSeen cX12_asksSeen 5 (some .int), .methodLink RX12 307 yX12_isSlot, .static yX12_isSlot, .code yX12_isSlot cX12_isSlot 1 (some .boolean), .constantLong RX12 431 (3), .methodLink RX12 82 yX12_in, .static yX12_in, .code yX12_in cX12_in 6 (some .boolean), .methodLink RX12 261 yX12_isStreet, .instanceMethod yX12_isStreet, .selects RX12 yX12_isStreet yX12_isStreet, .code yX12_isStreet cX12_isStreet 1 (some .boolean)] ++ wsX120)
theorem iX12_slams_12 : ∀ w ∈ wsX120, w ∈ vX12_slams := fun _ h => List.mem_cons_of_mem _ (List.mem_append_right _ h)
set_option maxRecDepth 20000 in
theorem gg_X12_slams_X12_laySlams : GoodIn vX12_slams (wsV RX12 326 RX12 yX12_laySlams vX12_laySlams) := goodIn_r _ [1, 2, 3, 4, 5, 6, 7, 8, 9, 4, 10, 11, 12, 13, 14, 15, 16, 17, 18, 19, 20, 21, 22, 23, 24, 25, 26, 27, 28, 29, 30, 31, 32, 33, 34, 35, 36, 37, 38, 39, 40, 41, 42, 43, 44, 45, 46, 47, 48, 49, 50, 51, 52, 53, 54, 55, 56, 57, 58, 59, 60, 61] (by decide +kernel) (by decide +kernel)
set_option maxHeartbeats 4000000 in
set_option maxRecDepth 100000 in
theorem m_slams (l : Launch) (D : va_G) (cs : Nat → ClassId) (ad : Nat → Nat) (hj : wJ ad nW) (g : Nat → va_E) (vs : Int32) (h197 : g 197 = .inr (12, [.int 0, .ref (ad 198), .ref (ad 199), .ref (ad 200), .ref (ad 201), .int 0, .ref (ad 202), .int 0, .int 0, .int 0, .int 0, .int 0, .int 0, .int (-1), .ref (ad 203), .ref (ad 204), .ref (ad 205), .int 0, .int 0, .ref (ad 206), .ref (ad 207), .ref (ad 208), .int 0, .int 0, .int 0, .int 0, .int 0, .ref (ad 209), .ref (ad 210), .ref (ad 211), .long 0, .long 0, .ref (ad 212), .ref (ad 213), .int 0, .int 0, .ref (ad 214), .ref (ad 215), .ref (ad 216), .ref (ad 217)])) (h198 : g 198 = .inl (cs 1, 118, .inl (fun _ => 0))) : cI l yX12_slams vX12_slams { frames := 4, cells := 0, slots := 0, locals := 94 } D cs ad nW [.ref (ad 197), .int vs] g (fun r g2 => r = (-2) ∧ g2 = g) := by
  refine Met.start (cc := cX12_slams) (maxL := 3) (ret := (some .int)) RX12 rfl (by decide) rfl (Nat.le_of_ble_eq_true rfl) ?_
  intro p e s m below meth c ls X hP hl
  have hx := X.1
  have hb := X.2.1
  have hS : va_S (wA ad nW) s.heap s.heap [] := va_S.rf
  have hA : ∀ i, i < nW → wA ad nW (ad i) := fun i h => ⟨i, h, rfl⟩
  have hl : lv_has ls 3 [(0, .ref (ad 197)), (1, .int vs)] := hl
  refine lv_aload_n hx hb dX12_slams_0 rfl (lv_at hl 0 rfl) ?_
  refine lv_iload_n hx hb dX12_slams_1 rfl (lv_at hl 1 rfl) ?_
  refine q_calli (q := (RX12, TX12, 40)) (As := [.int vs]) (rest := []) X (m_laySlams l D cs ad hj g vs h197 h198) (cwV 1 X.2.2.2.2.1 gg_X12_slams_X12_laySlams rfl rfl rfl (by decide +kernel) ⟨Nat.le_of_ble_eq_true rfl, Nat.le_of_ble_eq_true rfl⟩) (by decide) h197 rfl hP hA hS rfl hl.1 rfl (Nat.le_of_ble_eq_true rfl) dX12_slams_2 ⟨Nat.le_of_ble_eq_true rfl, Nat.le_of_ble_eq_true rfl⟩ (fun r_3 g_2 H locs hw_1 hP hS => ?_)
  obtain ⟨hw_1a, hw_1b⟩ := hw_1
  subst hw_1a
  rw [hw_1b] at hP
  refine lv_istore_n (lv' := [(2, .int (-2)), (0, .ref (ad 197)), (1, .int vs)]) hx hb dX12_slams_5 rfl hl (by decide) rfl (fun ls hl => ?_)
  refine lv_iload_n hx hb dX12_slams_6 rfl (lv_at hl 0 rfl) ?_
  refine lv_if_ge (tgt := 14) hx hb dX12_slams_7 (by decide) (fun h => absurd h (by decide)) (fun _ => ?_)
  refine lv_iload_n hx hb dX12_slams_10 rfl (lv_at hl 0 rfl) ?_
  refine lv_goto (tgt := 18) hx hb dX12_slams_11 (by decide) ?_
  exact q_iret X hP hS ⟨rfl, rfl⟩ dX12_slams_18

theorem dX12_slam_0 : decode cX12_slam 0 = .ok (.aload_n 0, 1) := by decide +kernel
theorem dX12_slam_1 : decode cX12_slam 1 = .ok (.iload_n 1, 1) := by decide +kernel
theorem dX12_slam_2 : decode cX12_slam 2 = .ok (.invokevirtual 326, 3) := by decide +kernel
theorem dX12_slam_5 : decode cX12_slam 5 = .ok (.istore_n 2, 1) := by decide +kernel
theorem dX12_slam_6 : decode cX12_slam 6 = .ok (.iload_n 2, 1) := by decide +kernel
theorem dX12_slam_7 : decode cX12_slam 7 = .ok (.ifCond .ge 5, 3) := by decide +kernel
theorem dX12_slam_10 : decode cX12_slam 10 = .ok (.iload_n 2, 1) := by decide +kernel
theorem dX12_slam_11 : decode cX12_slam 11 = .ok (.ireturn, 1) := by decide +kernel
def vX12_slam : List Cond := .code yX12_slam cX12_slam 3 (some .int) :: ([.methodLink RX12 326 yX12_laySlams, .instanceMethod yX12_laySlams, .selects RX12 yX12_laySlams yX12_laySlams, .initialized RX12, .code yX12_laySlams cX12_laySlams 6 (some .int), .fieldLink RX12 9 "IcicleClockModel" "world" "[I", .methodLink RX12 316 yX12_asksSeen, .instanceMethod yX12_asksSeen, .selects RX12 yX12_asksSeen yX12_asksSeen, .code yX12_asksSeen cX12_asksSeen 5 (some .int), .methodLink RX12 307 yX12_isSlot, .static yX12_isSlot, .code yX12_isSlot cX12_isSlot 1 (some .boolean), .constantLong RX12 431 (3), .methodLink RX12 82 yX12_in, .static yX12_in, .code yX12_in cX12_in 6 (some .boolean), .methodLink RX12 261 yX12_isStreet, .instanceMethod yX12_isStreet, .selects RX12 yX12_isStreet yX12_isStreet, .code yX12_isStreet cX12_isStreet 1 (some .boolean)] ++ wsX120)
theorem iX12_slam_12 : ∀ w ∈ wsX120, w ∈ vX12_slam := fun _ h => List.mem_cons_of_mem _ (List.mem_append_right _ h)
set_option maxRecDepth 20000 in
theorem gg_X12_slam_X12_laySlams : GoodIn vX12_slam (wsV RX12 326 RX12 yX12_laySlams vX12_laySlams) := goodIn_r _ [1, 2, 3, 4, 5, 6, 7, 8, 9, 4, 10, 11, 12, 13, 14, 15, 16, 17, 18, 19, 20, 21, 22, 23, 24, 25, 26, 27, 28, 29, 30, 31, 32, 33, 34, 35, 36, 37, 38, 39, 40, 41, 42, 43, 44, 45, 46, 47, 48, 49, 50, 51, 52, 53, 54, 55, 56, 57, 58, 59, 60, 61] (by decide +kernel) (by decide +kernel)
set_option maxHeartbeats 4000000 in
set_option maxRecDepth 100000 in
theorem m_slam (l : Launch) (D : va_G) (cs : Nat → ClassId) (ad : Nat → Nat) (hj : wJ ad nW) (g : Nat → va_E) (vs : Int32) (h197 : g 197 = .inr (12, [.int 0, .ref (ad 198), .ref (ad 199), .ref (ad 200), .ref (ad 201), .int 0, .ref (ad 202), .int 0, .int 0, .int 0, .int 0, .int 0, .int 0, .int (-1), .ref (ad 203), .ref (ad 204), .ref (ad 205), .int 0, .int 0, .ref (ad 206), .ref (ad 207), .ref (ad 208), .int 0, .int 0, .int 0, .int 0, .int 0, .ref (ad 209), .ref (ad 210), .ref (ad 211), .long 0, .long 0, .ref (ad 212), .ref (ad 213), .int 0, .int 0, .ref (ad 214), .ref (ad 215), .ref (ad 216), .ref (ad 217)])) (h198 : g 198 = .inl (cs 1, 118, .inl (fun _ => 0))) : cI l yX12_slam vX12_slam { frames := 4, cells := 0, slots := 0, locals := 94 } D cs ad nW [.ref (ad 197), .int vs] g (fun r g2 => r = (-2) ∧ g2 = g) := by
  refine Met.start (cc := cX12_slam) (maxL := 3) (ret := (some .int)) RX12 rfl (by decide) rfl (Nat.le_of_ble_eq_true rfl) ?_
  intro p e s m below meth c ls X hP hl
  have hx := X.1
  have hb := X.2.1
  have hS : va_S (wA ad nW) s.heap s.heap [] := va_S.rf
  have hA : ∀ i, i < nW → wA ad nW (ad i) := fun i h => ⟨i, h, rfl⟩
  have hl : lv_has ls 3 [(0, .ref (ad 197)), (1, .int vs)] := hl
  refine lv_aload_n hx hb dX12_slam_0 rfl (lv_at hl 0 rfl) ?_
  refine lv_iload_n hx hb dX12_slam_1 rfl (lv_at hl 1 rfl) ?_
  refine q_calli (q := (RX12, TX12, 40)) (As := [.int vs]) (rest := []) X (m_laySlams l D cs ad hj g vs h197 h198) (cwV 1 X.2.2.2.2.1 gg_X12_slam_X12_laySlams rfl rfl rfl (by decide +kernel) ⟨Nat.le_of_ble_eq_true rfl, Nat.le_of_ble_eq_true rfl⟩) (by decide) h197 rfl hP hA hS rfl hl.1 rfl (Nat.le_of_ble_eq_true rfl) dX12_slam_2 ⟨Nat.le_of_ble_eq_true rfl, Nat.le_of_ble_eq_true rfl⟩ (fun r_3 g_2 H locs hw_1 hP hS => ?_)
  obtain ⟨hw_1a, hw_1b⟩ := hw_1
  subst hw_1a
  rw [hw_1b] at hP
  refine lv_istore_n (lv' := [(2, .int (-2)), (0, .ref (ad 197)), (1, .int vs)]) hx hb dX12_slam_5 rfl hl (by decide) rfl (fun ls hl => ?_)
  refine lv_iload_n hx hb dX12_slam_6 rfl (lv_at hl 0 rfl) ?_
  refine lv_if_ge (tgt := 12) hx hb dX12_slam_7 (by decide) (fun h => absurd h (by decide)) (fun _ => ?_)
  refine lv_iload_n hx hb dX12_slam_10 rfl (lv_at hl 0 rfl) ?_
  exact q_iret X hP hS ⟨rfl, rfl⟩ dX12_slam_11

theorem dX12_calm_0 : decode cX12_calm 0 = .ok (.aload_n 0, 1) := by decide +kernel
theorem dX12_calm_1 : decode cX12_calm 1 = .ok (.iload_n 1, 1) := by decide +kernel
theorem dX12_calm_2 : decode cX12_calm 2 = .ok (.iconst 1, 1) := by decide +kernel
theorem dX12_calm_3 : decode cX12_calm 3 = .ok (.aload_n 0, 1) := by decide +kernel
theorem dX12_calm_4 : decode cX12_calm 4 = .ok (.getfield 9, 3) := by decide +kernel
theorem dX12_calm_7 : decode cX12_calm 7 = .ok (.iconst 3, 1) := by decide +kernel
theorem dX12_calm_8 : decode cX12_calm 8 = .ok (.iaload, 1) := by decide +kernel
theorem dX12_calm_9 : decode cX12_calm 9 = .ok (.invokevirtual 316, 3) := by decide +kernel
theorem dX12_calm_12 : decode cX12_calm 12 = .ok (.istore_n 2, 1) := by decide +kernel
theorem dX12_calm_13 : decode cX12_calm 13 = .ok (.iload_n 2, 1) := by decide +kernel
theorem dX12_calm_14 : decode cX12_calm 14 = .ok (.ifCond .ge 5, 3) := by decide +kernel
theorem dX12_calm_17 : decode cX12_calm 17 = .ok (.iload_n 2, 1) := by decide +kernel
theorem dX12_calm_18 : decode cX12_calm 18 = .ok (.ireturn, 1) := by decide +kernel
def vX12_calm : List Cond := .code yX12_calm cX12_calm 3 (some .int) :: ([.fieldLink RX12 9 "IcicleClockModel" "world" "[I", .methodLink RX12 316 yX12_asksSeen, .instanceMethod yX12_asksSeen, .selects RX12 yX12_asksSeen yX12_asksSeen, .initialized RX12, .code yX12_asksSeen cX12_asksSeen 5 (some .int), .methodLink RX12 307 yX12_isSlot, .static yX12_isSlot, .code yX12_isSlot cX12_isSlot 1 (some .boolean), .constantLong RX12 431 (3), .methodLink RX12 82 yX12_in, .static yX12_in, .code yX12_in cX12_in 6 (some .boolean), .methodLink RX12 261 yX12_isStreet, .instanceMethod yX12_isStreet, .selects RX12 yX12_isStreet yX12_isStreet, .code yX12_isStreet cX12_isStreet 1 (some .boolean)] ++ wsX120)
theorem iX12_calm_12 : ∀ w ∈ wsX120, w ∈ vX12_calm := fun _ h => List.mem_cons_of_mem _ (List.mem_append_right _ h)
set_option maxRecDepth 20000 in
theorem gg_X12_calm_X12_asksSeen : GoodIn vX12_calm (wsV RX12 316 RX12 yX12_asksSeen vX12_asksSeen) := goodIn_r _ [2, 3, 4, 5, 6, 7, 8, 5, 9, 10, 11, 12, 13, 14, 15, 16, 17, 1, 18, 19, 20, 21, 22, 23, 24, 25, 26, 27, 28, 29, 30, 31, 32, 33, 34, 35, 36, 37, 38, 39, 40, 41, 42, 43, 44, 45, 46, 47, 48, 49, 50, 51, 52, 53, 54, 55, 56, 57] (by decide +kernel) (by decide +kernel)
set_option maxHeartbeats 4000000 in
set_option maxRecDepth 100000 in
theorem m_calm (l : Launch) (D : va_G) (cs : Nat → ClassId) (ad : Nat → Nat) (hj : wJ ad nW) (g : Nat → va_E) (vs : Int32) (h197 : g 197 = .inr (12, [.int 0, .ref (ad 198), .ref (ad 199), .ref (ad 200), .ref (ad 201), .int 0, .ref (ad 202), .int 0, .int 0, .int 0, .int 0, .int 0, .int 0, .int (-1), .ref (ad 203), .ref (ad 204), .ref (ad 205), .int 0, .int 0, .ref (ad 206), .ref (ad 207), .ref (ad 208), .int 0, .int 0, .int 0, .int 0, .int 0, .ref (ad 209), .ref (ad 210), .ref (ad 211), .long 0, .long 0, .ref (ad 212), .ref (ad 213), .int 0, .int 0, .ref (ad 214), .ref (ad 215), .ref (ad 216), .ref (ad 217)])) (h198 : g 198 = .inl (cs 1, 118, .inl (fun _ => 0))) : cI l yX12_calm vX12_calm { frames := 3, cells := 0, slots := 0, locals := 69 } D cs ad nW [.ref (ad 197), .int vs] g (fun r g2 => r = (-2) ∧ g2 = g) := by
  refine Met.start (cc := cX12_calm) (maxL := 3) (ret := (some .int)) RX12 rfl (by decide) rfl (Nat.le_of_ble_eq_true rfl) ?_
  intro p e s m below meth c ls X hP hl
  have hx := X.1
  have hb := X.2.1
  have hS : va_S (wA ad nW) s.heap s.heap [] := va_S.rf
  have hA : ∀ i, i < nW → wA ad nW (ad i) := fun i h => ⟨i, h, rfl⟩
  have hl : lv_has ls 3 [(0, .ref (ad 197)), (1, .int vs)] := hl
  refine lv_aload_n hx hb dX12_calm_0 rfl (lv_at hl 0 rfl) ?_
  refine lv_iload_n hx hb dX12_calm_1 rfl (lv_at hl 1 rfl) ?_
  refine lv_iconst (v := 1) hx hb dX12_calm_2 (by decide) ?_
  refine lv_aload_n hx hb dX12_calm_3 rfl (lv_at hl 0 rfl) ?_
  refine q_get X iX12_calm_12 hP (by decide) h197 rfl 1 (by decide) (List.mem_of_getElem? (i := 1) rfl) (v := .ref (ad 198)) rfl dX12_calm_4 ?_
  refine lv_iconst (v := 3) hx hb dX12_calm_7 (by decide) ?_
  refine q_iald X hP (by decide) h198 (by unfold vp_in; decide) dX12_calm_8 ?_
  refine q_calli (q := (RX12, TX12, 40)) (As := [.int vs, .int 1, .int 0]) (rest := []) X (m_asksSeen l D cs ad hj g vs 1 0 h197 h198) (cwV 3 X.2.2.2.2.1 gg_X12_calm_X12_asksSeen rfl rfl rfl (by decide +kernel) ⟨Nat.le_of_ble_eq_true rfl, Nat.le_of_ble_eq_true rfl⟩) (by decide) h197 rfl hP hA hS rfl hl.1 rfl (Nat.le_of_ble_eq_true rfl) dX12_calm_9 ⟨Nat.le_of_ble_eq_true rfl, Nat.le_of_ble_eq_true rfl⟩ (fun r_3 g_2 H locs hw_1 hP hS => ?_)
  obtain ⟨hw_1a, hw_1b⟩ := hw_1
  subst hw_1a
  rw [hw_1b] at hP
  refine lv_istore_n (lv' := [(2, .int (-2)), (0, .ref (ad 197)), (1, .int vs)]) hx hb dX12_calm_12 rfl hl (by decide) rfl (fun ls hl => ?_)
  refine lv_iload_n hx hb dX12_calm_13 rfl (lv_at hl 0 rfl) ?_
  refine lv_if_ge (tgt := 19) hx hb dX12_calm_14 (by decide) (fun h => absurd h (by decide)) (fun _ => ?_)
  refine lv_iload_n hx hb dX12_calm_17 rfl (lv_at hl 0 rfl) ?_
  exact q_iret X hP hS ⟨rfl, rfl⟩ dX12_calm_18

theorem dX12_ask_0 : decode cX12_ask 0 = .ok (.aload_n 0, 1) := by decide +kernel
theorem dX12_ask_1 : decode cX12_ask 1 = .ok (.iload_n 1, 1) := by decide +kernel
theorem dX12_ask_2 : decode cX12_ask 2 = .ok (.invokevirtual 326, 3) := by decide +kernel
theorem dX12_ask_5 : decode cX12_ask 5 = .ok (.istore_n 2, 1) := by decide +kernel
theorem dX12_ask_6 : decode cX12_ask 6 = .ok (.iload_n 2, 1) := by decide +kernel
theorem dX12_ask_7 : decode cX12_ask 7 = .ok (.ifCond .ge 5, 3) := by decide +kernel
theorem dX12_ask_10 : decode cX12_ask 10 = .ok (.iload_n 2, 1) := by decide +kernel
theorem dX12_ask_11 : decode cX12_ask 11 = .ok (.ireturn, 1) := by decide +kernel
def vX12_ask : List Cond := .code yX12_ask cX12_ask 10 (some .int) :: ([.methodLink RX12 326 yX12_laySlams, .instanceMethod yX12_laySlams, .selects RX12 yX12_laySlams yX12_laySlams, .initialized RX12, .code yX12_laySlams cX12_laySlams 6 (some .int), .fieldLink RX12 9 "IcicleClockModel" "world" "[I", .methodLink RX12 316 yX12_asksSeen, .instanceMethod yX12_asksSeen, .selects RX12 yX12_asksSeen yX12_asksSeen, .code yX12_asksSeen cX12_asksSeen 5 (some .int), .methodLink RX12 307 yX12_isSlot, .static yX12_isSlot, .code yX12_isSlot cX12_isSlot 1 (some .boolean), .constantLong RX12 431 (3), .methodLink RX12 82 yX12_in, .static yX12_in, .code yX12_in cX12_in 6 (some .boolean), .methodLink RX12 261 yX12_isStreet, .instanceMethod yX12_isStreet, .selects RX12 yX12_isStreet yX12_isStreet, .code yX12_isStreet cX12_isStreet 1 (some .boolean)] ++ wsX120)
theorem iX12_ask_12 : ∀ w ∈ wsX120, w ∈ vX12_ask := fun _ h => List.mem_cons_of_mem _ (List.mem_append_right _ h)
set_option maxRecDepth 20000 in
theorem gg_X12_ask_X12_laySlams : GoodIn vX12_ask (wsV RX12 326 RX12 yX12_laySlams vX12_laySlams) := goodIn_r _ [1, 2, 3, 4, 5, 6, 7, 8, 9, 4, 10, 11, 12, 13, 14, 15, 16, 17, 18, 19, 20, 21, 22, 23, 24, 25, 26, 27, 28, 29, 30, 31, 32, 33, 34, 35, 36, 37, 38, 39, 40, 41, 42, 43, 44, 45, 46, 47, 48, 49, 50, 51, 52, 53, 54, 55, 56, 57, 58, 59, 60, 61] (by decide +kernel) (by decide +kernel)
set_option maxHeartbeats 4000000 in
set_option maxRecDepth 100000 in
theorem m_ask (l : Launch) (D : va_G) (cs : Nat → ClassId) (ad : Nat → Nat) (hj : wJ ad nW) (g : Nat → va_E) (vs : Int32) (h197 : g 197 = .inr (12, [.int 0, .ref (ad 198), .ref (ad 199), .ref (ad 200), .ref (ad 201), .int 0, .ref (ad 202), .int 0, .int 0, .int 0, .int 0, .int 0, .int 0, .int (-1), .ref (ad 203), .ref (ad 204), .ref (ad 205), .int 0, .int 0, .ref (ad 206), .ref (ad 207), .ref (ad 208), .int 0, .int 0, .int 0, .int 0, .int 0, .ref (ad 209), .ref (ad 210), .ref (ad 211), .long 0, .long 0, .ref (ad 212), .ref (ad 213), .int 0, .int 0, .ref (ad 214), .ref (ad 215), .ref (ad 216), .ref (ad 217)])) (h198 : g 198 = .inl (cs 1, 118, .inl (fun _ => 0))) : cI l yX12_ask vX12_ask { frames := 4, cells := 0, slots := 0, locals := 94 } D cs ad nW [.ref (ad 197), .int vs] g (fun r g2 => r = (-2) ∧ g2 = g) := by
  refine Met.start (cc := cX12_ask) (maxL := 10) (ret := (some .int)) RX12 rfl (by decide) rfl (Nat.le_of_ble_eq_true rfl) ?_
  intro p e s m below meth c ls X hP hl
  have hx := X.1
  have hb := X.2.1
  have hS : va_S (wA ad nW) s.heap s.heap [] := va_S.rf
  have hA : ∀ i, i < nW → wA ad nW (ad i) := fun i h => ⟨i, h, rfl⟩
  have hl : lv_has ls 10 [(0, .ref (ad 197)), (1, .int vs)] := hl
  refine lv_aload_n hx hb dX12_ask_0 rfl (lv_at hl 0 rfl) ?_
  refine lv_iload_n hx hb dX12_ask_1 rfl (lv_at hl 1 rfl) ?_
  refine q_calli (q := (RX12, TX12, 40)) (As := [.int vs]) (rest := []) X (m_laySlams l D cs ad hj g vs h197 h198) (cwV 1 X.2.2.2.2.1 gg_X12_ask_X12_laySlams rfl rfl rfl (by decide +kernel) ⟨Nat.le_of_ble_eq_true rfl, Nat.le_of_ble_eq_true rfl⟩) (by decide) h197 rfl hP hA hS rfl hl.1 rfl (Nat.le_of_ble_eq_true rfl) dX12_ask_2 ⟨Nat.le_of_ble_eq_true rfl, Nat.le_of_ble_eq_true rfl⟩ (fun r_3 g_2 H locs hw_1 hP hS => ?_)
  obtain ⟨hw_1a, hw_1b⟩ := hw_1
  subst hw_1a
  rw [hw_1b] at hP
  refine lv_istore_n (lv' := [(2, .int (-2)), (0, .ref (ad 197)), (1, .int vs)]) hx hb dX12_ask_5 rfl hl (by decide) rfl (fun ls hl => ?_)
  refine lv_iload_n hx hb dX12_ask_6 rfl (lv_at hl 0 rfl) ?_
  refine lv_if_ge (tgt := 12) hx hb dX12_ask_7 (by decide) (fun h => absurd h (by decide)) (fun _ => ?_)
  refine lv_iload_n hx hb dX12_ask_10 rfl (lv_at hl 0 rfl) ?_
  exact q_iret X hP hS ⟨rfl, rfl⟩ dX12_ask_11

theorem dX12_weathers_0 : decode cX12_weathers 0 = .ok (.aload_n 0, 1) := by decide +kernel
theorem dX12_weathers_1 : decode cX12_weathers 1 = .ok (.iload_n 1, 1) := by decide +kernel
theorem dX12_weathers_2 : decode cX12_weathers 2 = .ok (.iload_n 2, 1) := by decide +kernel
theorem dX12_weathers_3 : decode cX12_weathers 3 = .ok (.iconst 1, 1) := by decide +kernel
theorem dX12_weathers_4 : decode cX12_weathers 4 = .ok (.invokevirtual 346, 3) := by decide +kernel
theorem dX12_weathers_7 : decode cX12_weathers 7 = .ok (.istore_n 3, 1) := by decide +kernel
theorem dX12_weathers_8 : decode cX12_weathers 8 = .ok (.iload_n 3, 1) := by decide +kernel
theorem dX12_weathers_9 : decode cX12_weathers 9 = .ok (.ifCond .ge 7, 3) := by decide +kernel
theorem dX12_weathers_12 : decode cX12_weathers 12 = .ok (.iload_n 3, 1) := by decide +kernel
theorem dX12_weathers_13 : decode cX12_weathers 13 = .ok (.goto 7, 3) := by decide +kernel
theorem dX12_weathers_20 : decode cX12_weathers 20 = .ok (.ireturn, 1) := by decide +kernel
def vX12_weathers : List Cond := .code yX12_weathers cX12_weathers 4 (some .int) :: ([.methodLink RX12 346 yX12_layWeathers, .instanceMethod yX12_layWeathers, .selects RX12 yX12_layWeathers yX12_layWeathers, .initialized RX12, .code yX12_layWeathers cX12_layWeathers 9 (some .int), .constantLong RX12 329 (5), .methodLink RX12 82 yX12_in, .static yX12_in, .code yX12_in cX12_in 6 (some .boolean), .methodLink RX12 316 yX12_asksSeen, .instanceMethod yX12_asksSeen, .selects RX12 yX12_asksSeen yX12_asksSeen, .code yX12_asksSeen cX12_asksSeen 5 (some .int), .methodLink RX12 307 yX12_isSlot, .static yX12_isSlot, .code yX12_isSlot cX12_isSlot 1 (some .boolean), .constantLong RX12 431 (3), .methodLink RX12 261 yX12_isStreet, .instanceMethod yX12_isStreet, .selects RX12 yX12_isStreet yX12_isStreet, .code yX12_isStreet cX12_isStreet 1 (some .boolean), .fieldLink RX12 9 "IcicleClockModel" "world" "[I"] ++ wsX120)
theorem iX12_weathers_12 : ∀ w ∈ wsX120, w ∈ vX12_weathers := fun _ h => List.mem_cons_of_mem _ (List.mem_append_right _ h)
set_option maxRecDepth 20000 in
theorem gg_X12_weathers_X12_layWeathers : GoodIn vX12_weathers (wsV RX12 346 RX12 yX12_layWeathers vX12_layWeathers) := goodIn_r _ [1, 2, 3, 4, 5, 6, 7, 8, 4, 9, 10, 11, 12, 13, 14, 15, 16, 17, 18, 19, 20, 21, 22, 23, 24, 25, 26, 27, 28, 29, 30, 31, 32, 33, 34, 35, 36, 37, 38, 39, 40, 41, 42, 43, 44, 45, 46, 47, 48, 49, 50, 51, 52, 53, 54, 55, 56, 57, 58, 59, 60, 61, 62] (by decide +kernel) (by decide +kernel)
set_option maxHeartbeats 4000000 in
set_option maxRecDepth 100000 in
theorem m_weathers (l : Launch) (D : va_G) (cs : Nat → ClassId) (ad : Nat → Nat) (hj : wJ ad nW) (g : Nat → va_E) (vs : Int32) (vn : Int32) (h197 : g 197 = .inr (12, [.int 0, .ref (ad 198), .ref (ad 199), .ref (ad 200), .ref (ad 201), .int 0, .ref (ad 202), .int 0, .int 0, .int 0, .int 0, .int 0, .int 0, .int (-1), .ref (ad 203), .ref (ad 204), .ref (ad 205), .int 0, .int 0, .ref (ad 206), .ref (ad 207), .ref (ad 208), .int 0, .int 0, .int 0, .int 0, .int 0, .ref (ad 209), .ref (ad 210), .ref (ad 211), .long 0, .long 0, .ref (ad 212), .ref (ad 213), .int 0, .int 0, .ref (ad 214), .ref (ad 215), .ref (ad 216), .ref (ad 217)])) (h198 : g 198 = .inl (cs 1, 118, .inl (fun _ => 0))) : cI l yX12_weathers vX12_weathers { frames := 4, cells := 0, slots := 0, locals := 97 } D cs ad nW [.ref (ad 197), .int vs, .int vn] g (fun r g2 => r = (-2) ∧ g2 = g) := by
  refine Met.start (cc := cX12_weathers) (maxL := 4) (ret := (some .int)) RX12 rfl (by decide) rfl (Nat.le_of_ble_eq_true rfl) ?_
  intro p e s m below meth c ls X hP hl
  have hx := X.1
  have hb := X.2.1
  have hS : va_S (wA ad nW) s.heap s.heap [] := va_S.rf
  have hA : ∀ i, i < nW → wA ad nW (ad i) := fun i h => ⟨i, h, rfl⟩
  have hl : lv_has ls 4 [(0, .ref (ad 197)), (1, .int vs), (2, .int vn)] := hl
  refine lv_aload_n hx hb dX12_weathers_0 rfl (lv_at hl 0 rfl) ?_
  refine lv_iload_n hx hb dX12_weathers_1 rfl (lv_at hl 1 rfl) ?_
  refine lv_iload_n hx hb dX12_weathers_2 rfl (lv_at hl 2 rfl) ?_
  refine lv_iconst (v := 1) hx hb dX12_weathers_3 (by decide) ?_
  refine q_calli (q := (RX12, TX12, 40)) (As := [.int vs, .int vn, .int 1]) (rest := []) X (m_layWeathers l D cs ad hj g vs vn 1 h197 h198) (cwV 3 X.2.2.2.2.1 gg_X12_weathers_X12_layWeathers rfl rfl rfl (by decide +kernel) ⟨Nat.le_of_ble_eq_true rfl, Nat.le_of_ble_eq_true rfl⟩) (by decide) h197 rfl hP hA hS rfl hl.1 rfl (Nat.le_of_ble_eq_true rfl) dX12_weathers_4 ⟨Nat.le_of_ble_eq_true rfl, Nat.le_of_ble_eq_true rfl⟩ (fun r_3 g_2 H locs hw_1 hP hS => ?_)
  obtain ⟨hw_1a, hw_1b⟩ := hw_1
  subst hw_1a
  rw [hw_1b] at hP
  refine lv_istore_n (lv' := [(3, .int (-2)), (0, .ref (ad 197)), (1, .int vs), (2, .int vn)]) hx hb dX12_weathers_7 rfl hl (by decide) rfl (fun ls hl => ?_)
  refine lv_iload_n hx hb dX12_weathers_8 rfl (lv_at hl 0 rfl) ?_
  refine lv_if_ge (tgt := 16) hx hb dX12_weathers_9 (by decide) (fun h => absurd h (by decide)) (fun _ => ?_)
  refine lv_iload_n hx hb dX12_weathers_12 rfl (lv_at hl 0 rfl) ?_
  refine lv_goto (tgt := 20) hx hb dX12_weathers_13 (by decide) ?_
  exact q_iret X hP hS ⟨rfl, rfl⟩ dX12_weathers_20

theorem dX12_weather_0 : decode cX12_weather 0 = .ok (.aload_n 0, 1) := by decide +kernel
theorem dX12_weather_1 : decode cX12_weather 1 = .ok (.iload_n 1, 1) := by decide +kernel
theorem dX12_weather_2 : decode cX12_weather 2 = .ok (.iload_n 2, 1) := by decide +kernel
theorem dX12_weather_3 : decode cX12_weather 3 = .ok (.iload_n 3, 1) := by decide +kernel
theorem dX12_weather_4 : decode cX12_weather 4 = .ok (.i2l, 1) := by decide +kernel
theorem dX12_weather_5 : decode cX12_weather 5 = .ok (.lconst 0, 1) := by decide +kernel
theorem dX12_weather_6 : decode cX12_weather 6 = .ok (.iload_n 2, 1) := by decide +kernel
theorem dX12_weather_7 : decode cX12_weather 7 = .ok (.iconst 1, 1) := by decide +kernel
theorem dX12_weather_8 : decode cX12_weather 8 = .ok (.isub, 1) := by decide +kernel
theorem dX12_weather_9 : decode cX12_weather 9 = .ok (.i2l, 1) := by decide +kernel
theorem dX12_weather_10 : decode cX12_weather 10 = .ok (.invokestatic 82, 3) := by decide +kernel
theorem dX12_weather_13 : decode cX12_weather 13 = .ok (.invokevirtual 346, 3) := by decide +kernel
theorem dX12_weather_16 : decode cX12_weather 16 = .ok (.istore 4, 2) := by decide +kernel
theorem dX12_weather_18 : decode cX12_weather 18 = .ok (.iload 4, 2) := by decide +kernel
theorem dX12_weather_20 : decode cX12_weather 20 = .ok (.ifCond .ge 6, 3) := by decide +kernel
theorem dX12_weather_23 : decode cX12_weather 23 = .ok (.iload 4, 2) := by decide +kernel
theorem dX12_weather_25 : decode cX12_weather 25 = .ok (.ireturn, 1) := by decide +kernel
def vX12_weather : List Cond := .code yX12_weather cX12_weather 5 (some .int) :: ([.methodLink RX12 82 yX12_in, .static yX12_in, .initialized RX12, .code yX12_in cX12_in 6 (some .boolean), .methodLink RX12 346 yX12_layWeathers, .instanceMethod yX12_layWeathers, .selects RX12 yX12_layWeathers yX12_layWeathers, .code yX12_layWeathers cX12_layWeathers 9 (some .int), .constantLong RX12 329 (5), .methodLink RX12 316 yX12_asksSeen, .instanceMethod yX12_asksSeen, .selects RX12 yX12_asksSeen yX12_asksSeen, .code yX12_asksSeen cX12_asksSeen 5 (some .int), .methodLink RX12 307 yX12_isSlot, .static yX12_isSlot, .code yX12_isSlot cX12_isSlot 1 (some .boolean), .constantLong RX12 431 (3), .methodLink RX12 261 yX12_isStreet, .instanceMethod yX12_isStreet, .selects RX12 yX12_isStreet yX12_isStreet, .code yX12_isStreet cX12_isStreet 1 (some .boolean), .fieldLink RX12 9 "IcicleClockModel" "world" "[I"] ++ wsX120)
theorem iX12_weather_12 : ∀ w ∈ wsX120, w ∈ vX12_weather := fun _ h => List.mem_cons_of_mem _ (List.mem_append_right _ h)
set_option maxRecDepth 20000 in
theorem gg_X12_weather_X12_in : GoodIn vX12_weather (wsS RX12 82 yX12_in vX12_in) := goodIn_r _ [1, 2, 3, 4] (by decide +kernel) (by decide +kernel)
set_option maxRecDepth 20000 in
theorem gg_X12_weather_X12_layWeathers : GoodIn vX12_weather (wsV RX12 346 RX12 yX12_layWeathers vX12_layWeathers) := goodIn_r _ [5, 6, 7, 3, 8, 9, 1, 2, 3, 4, 10, 11, 12, 13, 14, 15, 16, 17, 18, 19, 20, 21, 22, 23, 24, 25, 26, 27, 28, 29, 30, 31, 32, 33, 34, 35, 36, 37, 38, 39, 40, 41, 42, 43, 44, 45, 46, 47, 48, 49, 50, 51, 52, 53, 54, 55, 56, 57, 58, 59, 60, 61, 62] (by decide +kernel) (by decide +kernel)
set_option maxHeartbeats 4000000 in
set_option maxRecDepth 100000 in
theorem m_weather (l : Launch) (D : va_G) (cs : Nat → ClassId) (ad : Nat → Nat) (hj : wJ ad nW) (g : Nat → va_E) (vs : Int32) (vn : Int32) (vd : Int32) (h197 : g 197 = .inr (12, [.int 0, .ref (ad 198), .ref (ad 199), .ref (ad 200), .ref (ad 201), .int 0, .ref (ad 202), .int 0, .int 0, .int 0, .int 0, .int 0, .int 0, .int (-1), .ref (ad 203), .ref (ad 204), .ref (ad 205), .int 0, .int 0, .ref (ad 206), .ref (ad 207), .ref (ad 208), .int 0, .int 0, .int 0, .int 0, .int 0, .ref (ad 209), .ref (ad 210), .ref (ad 211), .long 0, .long 0, .ref (ad 212), .ref (ad 213), .int 0, .int 0, .ref (ad 214), .ref (ad 215), .ref (ad 216), .ref (ad 217)])) (h198 : g 198 = .inl (cs 1, 118, .inl (fun _ => 0))) : cI l yX12_weather vX12_weather { frames := 4, cells := 0, slots := 0, locals := 97 } D cs ad nW [.ref (ad 197), .int vs, .int vn, .int vd] g (fun r g2 => r = (-2) ∧ g2 = g) := by
  refine Met.start (cc := cX12_weather) (maxL := 5) (ret := (some .int)) RX12 rfl (by decide) rfl (Nat.le_of_ble_eq_true rfl) ?_
  intro p e s m below meth c ls X hP hl
  have hx := X.1
  have hb := X.2.1
  have hS : va_S (wA ad nW) s.heap s.heap [] := va_S.rf
  have hA : ∀ i, i < nW → wA ad nW (ad i) := fun i h => ⟨i, h, rfl⟩
  have hl : lv_has ls 5 [(0, .ref (ad 197)), (1, .int vs), (2, .int vn), (3, .int vd)] := hl
  refine lv_aload_n hx hb dX12_weather_0 rfl (lv_at hl 0 rfl) ?_
  refine lv_iload_n hx hb dX12_weather_1 rfl (lv_at hl 1 rfl) ?_
  refine lv_iload_n hx hb dX12_weather_2 rfl (lv_at hl 2 rfl) ?_
  refine lv_iload_n hx hb dX12_weather_3 rfl (lv_at hl 3 rfl) ?_
  refine lv_i2l (v := vd.toInt64) hx hb dX12_weather_4 rfl ?_
  refine lv_lconst (v := 0) hx hb dX12_weather_5 (by decide) ?_
  refine lv_iload_n hx hb dX12_weather_6 rfl (lv_at hl 2 rfl) ?_
  refine lv_iconst (v := 1) hx hb dX12_weather_7 (by decide) ?_
  refine lv_isub hx hb dX12_weather_8 ?_
  refine lv_topi (fun z_1 ez_1 => ?_)
  refine lv_i2l (v := z_1.toInt64) hx hb dX12_weather_9 rfl ?_
  refine q_callSi (As := [.long (vd.toInt64), .long 0, .long (z_1.toInt64)]) (rest := [.int vn, .int vs, .ref (ad 197)]) X (m_in l D cs ad hj g (vd.toInt64) 0 (z_1.toInt64) ) (cwS 3 X.2.2.2.2.1 gg_X12_weather_X12_in rfl rfl rfl (by decide +kernel) ⟨Nat.le_of_ble_eq_true rfl, Nat.le_of_ble_eq_true rfl⟩) hP hA hS rfl hl.1 rfl (Nat.le_of_ble_eq_true rfl) dX12_weather_10 ⟨Nat.le_of_ble_eq_true rfl, Nat.le_of_ble_eq_true rfl⟩ (fun r_4 g_3 H locs hw_2 hP hS => ?_)
  obtain ⟨hw_2b, hw_2⟩ := hw_2
  rw [hw_2b] at hP
  refine q_calli (q := (RX12, TX12, 40)) (As := [.int vs, .int vn, .int r_4]) (rest := []) X (m_layWeathers l D cs ad hj g vs vn r_4 h197 h198) (cwV 3 X.2.2.2.2.1 gg_X12_weather_X12_layWeathers rfl rfl rfl (by decide +kernel) ⟨Nat.le_of_ble_eq_true rfl, Nat.le_of_ble_eq_true rfl⟩) (by decide) h197 rfl hP hA hS rfl hl.1 rfl (Nat.le_of_ble_eq_true rfl) dX12_weather_13 ⟨Nat.le_of_ble_eq_true rfl, Nat.le_of_ble_eq_true rfl⟩ (fun r_7 g_6 H locs hw_5 hP hS => ?_)
  obtain ⟨hw_5a, hw_5b⟩ := hw_5
  subst hw_5a
  rw [hw_5b] at hP
  refine lv_istore (lv' := [(4, .int (-2)), (0, .ref (ad 197)), (1, .int vs), (2, .int vn), (3, .int vd)]) hx hb dX12_weather_16 hl (by decide) rfl (fun ls hl => ?_)
  refine lv_iload hx hb dX12_weather_18 (lv_at hl 0 rfl) ?_
  refine lv_if_ge (tgt := 26) hx hb dX12_weather_20 (by decide) (fun h => absurd h (by decide)) (fun _ => ?_)
  refine lv_iload hx hb dX12_weather_23 (lv_at hl 0 rfl) ?_
  exact q_iret X hP hS ⟨rfl, rfl⟩ dX12_weather_25

theorem dX12_warmth_0 : decode cX12_warmth 0 = .ok (.aload_n 0, 1) := by decide +kernel
theorem dX12_warmth_1 : decode cX12_warmth 1 = .ok (.iload_n 1, 1) := by decide +kernel
theorem dX12_warmth_2 : decode cX12_warmth 2 = .ok (.iload_n 2, 1) := by decide +kernel
theorem dX12_warmth_3 : decode cX12_warmth 3 = .ok (.iload_n 3, 1) := by decide +kernel
theorem dX12_warmth_4 : decode cX12_warmth 4 = .ok (.i2l, 1) := by decide +kernel
theorem dX12_warmth_5 : decode cX12_warmth 5 = .ok (.lconst 0, 1) := by decide +kernel
theorem dX12_warmth_6 : decode cX12_warmth 6 = .ok (.lconst 1, 1) := by decide +kernel
theorem dX12_warmth_7 : decode cX12_warmth 7 = .ok (.invokestatic 82, 3) := by decide +kernel
theorem dX12_warmth_10 : decode cX12_warmth 10 = .ok (.invokevirtual 346, 3) := by decide +kernel
theorem dX12_warmth_13 : decode cX12_warmth 13 = .ok (.istore 4, 2) := by decide +kernel
theorem dX12_warmth_15 : decode cX12_warmth 15 = .ok (.iload 4, 2) := by decide +kernel
theorem dX12_warmth_17 : decode cX12_warmth 17 = .ok (.ifCond .ge 6, 3) := by decide +kernel
theorem dX12_warmth_20 : decode cX12_warmth 20 = .ok (.iload 4, 2) := by decide +kernel
theorem dX12_warmth_22 : decode cX12_warmth 22 = .ok (.ireturn, 1) := by decide +kernel
def vX12_warmth : List Cond := .code yX12_warmth cX12_warmth 5 (some .int) :: ([.methodLink RX12 82 yX12_in, .static yX12_in, .initialized RX12, .code yX12_in cX12_in 6 (some .boolean), .methodLink RX12 346 yX12_layWeathers, .instanceMethod yX12_layWeathers, .selects RX12 yX12_layWeathers yX12_layWeathers, .code yX12_layWeathers cX12_layWeathers 9 (some .int), .constantLong RX12 329 (5), .methodLink RX12 316 yX12_asksSeen, .instanceMethod yX12_asksSeen, .selects RX12 yX12_asksSeen yX12_asksSeen, .code yX12_asksSeen cX12_asksSeen 5 (some .int), .methodLink RX12 307 yX12_isSlot, .static yX12_isSlot, .code yX12_isSlot cX12_isSlot 1 (some .boolean), .constantLong RX12 431 (3), .methodLink RX12 261 yX12_isStreet, .instanceMethod yX12_isStreet, .selects RX12 yX12_isStreet yX12_isStreet, .code yX12_isStreet cX12_isStreet 1 (some .boolean), .fieldLink RX12 9 "IcicleClockModel" "world" "[I"] ++ wsX120)
theorem iX12_warmth_12 : ∀ w ∈ wsX120, w ∈ vX12_warmth := fun _ h => List.mem_cons_of_mem _ (List.mem_append_right _ h)
set_option maxRecDepth 20000 in
theorem gg_X12_warmth_X12_in : GoodIn vX12_warmth (wsS RX12 82 yX12_in vX12_in) := goodIn_r _ [1, 2, 3, 4] (by decide +kernel) (by decide +kernel)
set_option maxRecDepth 20000 in
theorem gg_X12_warmth_X12_layWeathers : GoodIn vX12_warmth (wsV RX12 346 RX12 yX12_layWeathers vX12_layWeathers) := goodIn_r _ [5, 6, 7, 3, 8, 9, 1, 2, 3, 4, 10, 11, 12, 13, 14, 15, 16, 17, 18, 19, 20, 21, 22, 23, 24, 25, 26, 27, 28, 29, 30, 31, 32, 33, 34, 35, 36, 37, 38, 39, 40, 41, 42, 43, 44, 45, 46, 47, 48, 49, 50, 51, 52, 53, 54, 55, 56, 57, 58, 59, 60, 61, 62] (by decide +kernel) (by decide +kernel)
set_option maxHeartbeats 4000000 in
set_option maxRecDepth 100000 in
theorem m_warmth (l : Launch) (D : va_G) (cs : Nat → ClassId) (ad : Nat → Nat) (hj : wJ ad nW) (g : Nat → va_E) (vs : Int32) (vn : Int32) (vw : Int32) (h197 : g 197 = .inr (12, [.int 0, .ref (ad 198), .ref (ad 199), .ref (ad 200), .ref (ad 201), .int 0, .ref (ad 202), .int 0, .int 0, .int 0, .int 0, .int 0, .int 0, .int (-1), .ref (ad 203), .ref (ad 204), .ref (ad 205), .int 0, .int 0, .ref (ad 206), .ref (ad 207), .ref (ad 208), .int 0, .int 0, .int 0, .int 0, .int 0, .ref (ad 209), .ref (ad 210), .ref (ad 211), .long 0, .long 0, .ref (ad 212), .ref (ad 213), .int 0, .int 0, .ref (ad 214), .ref (ad 215), .ref (ad 216), .ref (ad 217)])) (h198 : g 198 = .inl (cs 1, 118, .inl (fun _ => 0))) : cI l yX12_warmth vX12_warmth { frames := 4, cells := 0, slots := 0, locals := 97 } D cs ad nW [.ref (ad 197), .int vs, .int vn, .int vw] g (fun r g2 => r = (-2) ∧ g2 = g) := by
  refine Met.start (cc := cX12_warmth) (maxL := 5) (ret := (some .int)) RX12 rfl (by decide) rfl (Nat.le_of_ble_eq_true rfl) ?_
  intro p e s m below meth c ls X hP hl
  have hx := X.1
  have hb := X.2.1
  have hS : va_S (wA ad nW) s.heap s.heap [] := va_S.rf
  have hA : ∀ i, i < nW → wA ad nW (ad i) := fun i h => ⟨i, h, rfl⟩
  have hl : lv_has ls 5 [(0, .ref (ad 197)), (1, .int vs), (2, .int vn), (3, .int vw)] := hl
  refine lv_aload_n hx hb dX12_warmth_0 rfl (lv_at hl 0 rfl) ?_
  refine lv_iload_n hx hb dX12_warmth_1 rfl (lv_at hl 1 rfl) ?_
  refine lv_iload_n hx hb dX12_warmth_2 rfl (lv_at hl 2 rfl) ?_
  refine lv_iload_n hx hb dX12_warmth_3 rfl (lv_at hl 3 rfl) ?_
  refine lv_i2l (v := vw.toInt64) hx hb dX12_warmth_4 rfl ?_
  refine lv_lconst (v := 0) hx hb dX12_warmth_5 (by decide) ?_
  refine lv_lconst (v := 1) hx hb dX12_warmth_6 (by decide) ?_
  refine q_callSi (As := [.long (vw.toInt64), .long 0, .long 1]) (rest := [.int vn, .int vs, .ref (ad 197)]) X (m_in l D cs ad hj g (vw.toInt64) 0 1 ) (cwS 3 X.2.2.2.2.1 gg_X12_warmth_X12_in rfl rfl rfl (by decide +kernel) ⟨Nat.le_of_ble_eq_true rfl, Nat.le_of_ble_eq_true rfl⟩) hP hA hS rfl hl.1 rfl (Nat.le_of_ble_eq_true rfl) dX12_warmth_7 ⟨Nat.le_of_ble_eq_true rfl, Nat.le_of_ble_eq_true rfl⟩ (fun r_3 g_2 H locs hw_1 hP hS => ?_)
  obtain ⟨hw_1b, hw_1⟩ := hw_1
  rw [hw_1b] at hP
  refine q_calli (q := (RX12, TX12, 40)) (As := [.int vs, .int vn, .int r_3]) (rest := []) X (m_layWeathers l D cs ad hj g vs vn r_3 h197 h198) (cwV 3 X.2.2.2.2.1 gg_X12_warmth_X12_layWeathers rfl rfl rfl (by decide +kernel) ⟨Nat.le_of_ble_eq_true rfl, Nat.le_of_ble_eq_true rfl⟩) (by decide) h197 rfl hP hA hS rfl hl.1 rfl (Nat.le_of_ble_eq_true rfl) dX12_warmth_10 ⟨Nat.le_of_ble_eq_true rfl, Nat.le_of_ble_eq_true rfl⟩ (fun r_6 g_5 H locs hw_4 hP hS => ?_)
  obtain ⟨hw_4a, hw_4b⟩ := hw_4
  subst hw_4a
  rw [hw_4b] at hP
  refine lv_istore (lv' := [(4, .int (-2)), (0, .ref (ad 197)), (1, .int vs), (2, .int vn), (3, .int vw)]) hx hb dX12_warmth_13 hl (by decide) rfl (fun ls hl => ?_)
  refine lv_iload hx hb dX12_warmth_15 (lv_at hl 0 rfl) ?_
  refine lv_if_ge (tgt := 23) hx hb dX12_warmth_17 (by decide) (fun h => absurd h (by decide)) (fun _ => ?_)
  refine lv_iload hx hb dX12_warmth_20 (lv_at hl 0 rfl) ?_
  exact q_iret X hP hS ⟨rfl, rfl⟩ dX12_warmth_22

theorem dX12_chance_0 : decode cX12_chance 0 = .ok (.aload_n 0, 1) := by decide +kernel
theorem dX12_chance_1 : decode cX12_chance 1 = .ok (.iload_n 1, 1) := by decide +kernel
theorem dX12_chance_2 : decode cX12_chance 2 = .ok (.i2l, 1) := by decide +kernel
theorem dX12_chance_3 : decode cX12_chance 3 = .ok (.invokevirtual 221, 3) := by decide +kernel
theorem dX12_chance_6 : decode cX12_chance 6 = .ok (.ifCond .eq 21, 3) := by decide +kernel
theorem dX12_chance_27 : decode cX12_chance 27 = .ok (.ldc2_w 363, 3) := by decide +kernel
theorem dX12_chance_30 : decode cX12_chance 30 = .ok (.lreturn, 1) := by decide +kernel
def vX12_chance : List Cond := .code yX12_chance cX12_chance 4 (some .long) :: ([.methodLink RX12 221 yX12_isIcicle, .instanceMethod yX12_isIcicle, .selects RX12 yX12_isIcicle yX12_isIcicle, .initialized RX12, .code yX12_isIcicle cX12_isIcicle 3 (some .boolean), .fieldLink RX12 9 "IcicleClockModel" "world" "[I", .methodLink RX12 82 yX12_in, .static yX12_in, .code yX12_in cX12_in 6 (some .boolean), .constantLong RX12 363 (-2)] ++ wsX120)
theorem iX12_chance_12 : ∀ w ∈ wsX120, w ∈ vX12_chance := fun _ h => List.mem_cons_of_mem _ (List.mem_append_right _ h)
set_option maxRecDepth 20000 in
theorem gg_X12_chance_X12_isIcicle : GoodIn vX12_chance (wsV RX12 221 RX12 yX12_isIcicle vX12_isIcicle) := goodIn_r _ [1, 2, 3, 4, 5, 6, 7, 8, 4, 9, 11, 12, 13, 14, 15, 16, 17, 18, 19, 20, 21, 22, 23, 24, 25, 26, 27, 28, 29, 30, 31, 32, 33, 34, 35, 36, 37, 38, 39, 40, 41, 42, 43, 44, 45, 46, 47, 48, 49, 50] (by decide +kernel) (by decide +kernel)
set_option maxHeartbeats 4000000 in
set_option maxRecDepth 100000 in
theorem m_chance (l : Launch) (D : va_G) (cs : Nat → ClassId) (ad : Nat → Nat) (hj : wJ ad nW) (g : Nat → va_E) (vi : Int32) (vd : Int32) (vw : Int32) (h197 : g 197 = .inr (12, [.int 0, .ref (ad 198), .ref (ad 199), .ref (ad 200), .ref (ad 201), .int 0, .ref (ad 202), .int 0, .int 0, .int 0, .int 0, .int 0, .int 0, .int (-1), .ref (ad 203), .ref (ad 204), .ref (ad 205), .int 0, .int 0, .ref (ad 206), .ref (ad 207), .ref (ad 208), .int 0, .int 0, .int 0, .int 0, .int 0, .ref (ad 209), .ref (ad 210), .ref (ad 211), .long 0, .long 0, .ref (ad 212), .ref (ad 213), .int 0, .int 0, .ref (ad 214), .ref (ad 215), .ref (ad 216), .ref (ad 217)])) (h198 : g 198 = .inl (cs 1, 118, .inl (fun _ => 0))) : cJ l yX12_chance vX12_chance { frames := 2, cells := 0, slots := 0, locals := 47 } D cs ad nW [.ref (ad 197), .int vi, .int vd, .int vw] g (fun r g2 => r = (-2) ∧ g2 = g) := by
  refine Met.start (cc := cX12_chance) (maxL := 4) (ret := (some .long)) RX12 rfl (by decide) rfl (Nat.le_of_ble_eq_true rfl) ?_
  intro p e s m below meth c ls X hP hl
  have hx := X.1
  have hb := X.2.1
  have hS : va_S (wA ad nW) s.heap s.heap [] := va_S.rf
  have hA : ∀ i, i < nW → wA ad nW (ad i) := fun i h => ⟨i, h, rfl⟩
  have hl : lv_has ls 4 [(0, .ref (ad 197)), (1, .int vi), (2, .int vd), (3, .int vw)] := hl
  refine lv_aload_n hx hb dX12_chance_0 rfl (lv_at hl 0 rfl) ?_
  refine lv_iload_n hx hb dX12_chance_1 rfl (lv_at hl 1 rfl) ?_
  refine lv_i2l (v := vi.toInt64) hx hb dX12_chance_2 rfl ?_
  refine q_calli (q := (RX12, TX12, 40)) (As := [.long (vi.toInt64)]) (rest := []) X (m_isIcicle l D cs ad hj g (vi.toInt64) h197 h198) (cwV 1 X.2.2.2.2.1 gg_X12_chance_X12_isIcicle rfl rfl rfl (by decide +kernel) ⟨Nat.le_of_ble_eq_true rfl, Nat.le_of_ble_eq_true rfl⟩) (by decide) h197 rfl hP hA hS rfl hl.1 rfl (Nat.le_of_ble_eq_true rfl) dX12_chance_3 ⟨Nat.le_of_ble_eq_true rfl, Nat.le_of_ble_eq_true rfl⟩ (fun r_3 g_2 H locs hw_1 hP hS => ?_)
  obtain ⟨hw_1a, hw_1b⟩ := hw_1
  subst hw_1a
  rw [hw_1b] at hP
  refine lv_if_eq (tgt := 27) hx hb dX12_chance_6 (by decide) (fun _ => ?_) (fun h => absurd h (by decide))
  refine lv_ldc2 (v := (-2)) hx hb X.2.2.2.2.2.1 (X.2.2.2.2.1 _ (List.mem_of_getElem? (i := 10) rfl)) dX12_chance_27 ?_
  exact q_lret X hP hS ⟨rfl, rfl⟩ dX12_chance_30

theorem dX12_likely_0 : decode cX12_likely 0 = .ok (.aload_n 0, 1) := by decide +kernel
theorem dX12_likely_1 : decode cX12_likely 1 = .ok (.iload_n 1, 1) := by decide +kernel
theorem dX12_likely_2 : decode cX12_likely 2 = .ok (.i2l, 1) := by decide +kernel
theorem dX12_likely_3 : decode cX12_likely 3 = .ok (.invokevirtual 221, 3) := by decide +kernel
theorem dX12_likely_6 : decode cX12_likely 6 = .ok (.ifCond .ne 6, 3) := by decide +kernel
theorem dX12_likely_9 : decode cX12_likely 9 = .ok (.bipush (-2), 2) := by decide +kernel
theorem dX12_likely_11 : decode cX12_likely 11 = .ok (.ireturn, 1) := by decide +kernel
def vX12_likely : List Cond := .code yX12_likely cX12_likely 6 (some .int) :: ([.methodLink RX12 221 yX12_isIcicle, .instanceMethod yX12_isIcicle, .selects RX12 yX12_isIcicle yX12_isIcicle, .initialized RX12, .code yX12_isIcicle cX12_isIcicle 3 (some .boolean), .fieldLink RX12 9 "IcicleClockModel" "world" "[I", .methodLink RX12 82 yX12_in, .static yX12_in, .code yX12_in cX12_in 6 (some .boolean)] ++ wsX120)
theorem iX12_likely_12 : ∀ w ∈ wsX120, w ∈ vX12_likely := fun _ h => List.mem_cons_of_mem _ (List.mem_append_right _ h)
set_option maxRecDepth 20000 in
theorem gg_X12_likely_X12_isIcicle : GoodIn vX12_likely (wsV RX12 221 RX12 yX12_isIcicle vX12_isIcicle) := goodIn_r _ [1, 2, 3, 4, 5, 6, 7, 8, 4, 9, 10, 11, 12, 13, 14, 15, 16, 17, 18, 19, 20, 21, 22, 23, 24, 25, 26, 27, 28, 29, 30, 31, 32, 33, 34, 35, 36, 37, 38, 39, 40, 41, 42, 43, 44, 45, 46, 47, 48, 49] (by decide +kernel) (by decide +kernel)
set_option maxHeartbeats 4000000 in
set_option maxRecDepth 100000 in
theorem m_likely (l : Launch) (D : va_G) (cs : Nat → ClassId) (ad : Nat → Nat) (hj : wJ ad nW) (g : Nat → va_E) (vi : Int32) (h197 : g 197 = .inr (12, [.int 0, .ref (ad 198), .ref (ad 199), .ref (ad 200), .ref (ad 201), .int 0, .ref (ad 202), .int 0, .int 0, .int 0, .int 0, .int 0, .int 0, .int (-1), .ref (ad 203), .ref (ad 204), .ref (ad 205), .int 0, .int 0, .ref (ad 206), .ref (ad 207), .ref (ad 208), .int 0, .int 0, .int 0, .int 0, .int 0, .ref (ad 209), .ref (ad 210), .ref (ad 211), .long 0, .long 0, .ref (ad 212), .ref (ad 213), .int 0, .int 0, .ref (ad 214), .ref (ad 215), .ref (ad 216), .ref (ad 217)])) (h198 : g 198 = .inl (cs 1, 118, .inl (fun _ => 0))) : cI l yX12_likely vX12_likely { frames := 2, cells := 0, slots := 0, locals := 47 } D cs ad nW [.ref (ad 197), .int vi] g (fun r g2 => r = (-2) ∧ g2 = g) := by
  refine Met.start (cc := cX12_likely) (maxL := 6) (ret := (some .int)) RX12 rfl (by decide) rfl (Nat.le_of_ble_eq_true rfl) ?_
  intro p e s m below meth c ls X hP hl
  have hx := X.1
  have hb := X.2.1
  have hS : va_S (wA ad nW) s.heap s.heap [] := va_S.rf
  have hA : ∀ i, i < nW → wA ad nW (ad i) := fun i h => ⟨i, h, rfl⟩
  have hl : lv_has ls 6 [(0, .ref (ad 197)), (1, .int vi)] := hl
  refine lv_aload_n hx hb dX12_likely_0 rfl (lv_at hl 0 rfl) ?_
  refine lv_iload_n hx hb dX12_likely_1 rfl (lv_at hl 1 rfl) ?_
  refine lv_i2l (v := vi.toInt64) hx hb dX12_likely_2 rfl ?_
  refine q_calli (q := (RX12, TX12, 40)) (As := [.long (vi.toInt64)]) (rest := []) X (m_isIcicle l D cs ad hj g (vi.toInt64) h197 h198) (cwV 1 X.2.2.2.2.1 gg_X12_likely_X12_isIcicle rfl rfl rfl (by decide +kernel) ⟨Nat.le_of_ble_eq_true rfl, Nat.le_of_ble_eq_true rfl⟩) (by decide) h197 rfl hP hA hS rfl hl.1 rfl (Nat.le_of_ble_eq_true rfl) dX12_likely_3 ⟨Nat.le_of_ble_eq_true rfl, Nat.le_of_ble_eq_true rfl⟩ (fun r_3 g_2 H locs hw_1 hP hS => ?_)
  obtain ⟨hw_1a, hw_1b⟩ := hw_1
  subst hw_1a
  rw [hw_1b] at hP
  refine lv_if_ne (tgt := 12) hx hb dX12_likely_6 (by decide) (fun h => absurd h (by decide)) (fun _ => ?_)
  refine lv_bipush (v := (-2)) hx hb dX12_likely_9 (by decide) ?_
  exact q_iret X hP hS ⟨rfl, rfl⟩ dX12_likely_11

theorem dX12_surest_0 : decode cX12_surest 0 = .ok (.aload_n 0, 1) := by decide +kernel
theorem dX12_surest_1 : decode cX12_surest 1 = .ok (.iload_n 1, 1) := by decide +kernel
theorem dX12_surest_2 : decode cX12_surest 2 = .ok (.i2l, 1) := by decide +kernel
theorem dX12_surest_3 : decode cX12_surest 3 = .ok (.invokevirtual 221, 3) := by decide +kernel
theorem dX12_surest_6 : decode cX12_surest 6 = .ok (.ifCond .eq 11, 3) := by decide +kernel
theorem dX12_surest_17 : decode cX12_surest 17 = .ok (.bipush (-2), 2) := by decide +kernel
theorem dX12_surest_19 : decode cX12_surest 19 = .ok (.ireturn, 1) := by decide +kernel
def vX12_surest : List Cond := .code yX12_surest cX12_surest 7 (some .int) :: ([.methodLink RX12 221 yX12_isIcicle, .instanceMethod yX12_isIcicle, .selects RX12 yX12_isIcicle yX12_isIcicle, .initialized RX12, .code yX12_isIcicle cX12_isIcicle 3 (some .boolean), .fieldLink RX12 9 "IcicleClockModel" "world" "[I", .methodLink RX12 82 yX12_in, .static yX12_in, .code yX12_in cX12_in 6 (some .boolean)] ++ wsX120)
theorem iX12_surest_12 : ∀ w ∈ wsX120, w ∈ vX12_surest := fun _ h => List.mem_cons_of_mem _ (List.mem_append_right _ h)
set_option maxRecDepth 20000 in
theorem gg_X12_surest_X12_isIcicle : GoodIn vX12_surest (wsV RX12 221 RX12 yX12_isIcicle vX12_isIcicle) := goodIn_r _ [1, 2, 3, 4, 5, 6, 7, 8, 4, 9, 10, 11, 12, 13, 14, 15, 16, 17, 18, 19, 20, 21, 22, 23, 24, 25, 26, 27, 28, 29, 30, 31, 32, 33, 34, 35, 36, 37, 38, 39, 40, 41, 42, 43, 44, 45, 46, 47, 48, 49] (by decide +kernel) (by decide +kernel)
set_option maxHeartbeats 4000000 in
set_option maxRecDepth 100000 in
theorem m_surest (l : Launch) (D : va_G) (cs : Nat → ClassId) (ad : Nat → Nat) (hj : wJ ad nW) (g : Nat → va_E) (vi : Int32) (vd : Int32) (h197 : g 197 = .inr (12, [.int 0, .ref (ad 198), .ref (ad 199), .ref (ad 200), .ref (ad 201), .int 0, .ref (ad 202), .int 0, .int 0, .int 0, .int 0, .int 0, .int 0, .int (-1), .ref (ad 203), .ref (ad 204), .ref (ad 205), .int 0, .int 0, .ref (ad 206), .ref (ad 207), .ref (ad 208), .int 0, .int 0, .int 0, .int 0, .int 0, .ref (ad 209), .ref (ad 210), .ref (ad 211), .long 0, .long 0, .ref (ad 212), .ref (ad 213), .int 0, .int 0, .ref (ad 214), .ref (ad 215), .ref (ad 216), .ref (ad 217)])) (h198 : g 198 = .inl (cs 1, 118, .inl (fun _ => 0))) : cI l yX12_surest vX12_surest { frames := 2, cells := 0, slots := 0, locals := 47 } D cs ad nW [.ref (ad 197), .int vi, .int vd] g (fun r g2 => r = (-2) ∧ g2 = g) := by
  refine Met.start (cc := cX12_surest) (maxL := 7) (ret := (some .int)) RX12 rfl (by decide) rfl (Nat.le_of_ble_eq_true rfl) ?_
  intro p e s m below meth c ls X hP hl
  have hx := X.1
  have hb := X.2.1
  have hS : va_S (wA ad nW) s.heap s.heap [] := va_S.rf
  have hA : ∀ i, i < nW → wA ad nW (ad i) := fun i h => ⟨i, h, rfl⟩
  have hl : lv_has ls 7 [(0, .ref (ad 197)), (1, .int vi), (2, .int vd)] := hl
  refine lv_aload_n hx hb dX12_surest_0 rfl (lv_at hl 0 rfl) ?_
  refine lv_iload_n hx hb dX12_surest_1 rfl (lv_at hl 1 rfl) ?_
  refine lv_i2l (v := vi.toInt64) hx hb dX12_surest_2 rfl ?_
  refine q_calli (q := (RX12, TX12, 40)) (As := [.long (vi.toInt64)]) (rest := []) X (m_isIcicle l D cs ad hj g (vi.toInt64) h197 h198) (cwV 1 X.2.2.2.2.1 gg_X12_surest_X12_isIcicle rfl rfl rfl (by decide +kernel) ⟨Nat.le_of_ble_eq_true rfl, Nat.le_of_ble_eq_true rfl⟩) (by decide) h197 rfl hP hA hS rfl hl.1 rfl (Nat.le_of_ble_eq_true rfl) dX12_surest_3 ⟨Nat.le_of_ble_eq_true rfl, Nat.le_of_ble_eq_true rfl⟩ (fun r_3 g_2 H locs hw_1 hP hS => ?_)
  obtain ⟨hw_1a, hw_1b⟩ := hw_1
  subst hw_1a
  rw [hw_1b] at hP
  refine lv_if_eq (tgt := 17) hx hb dX12_surest_6 (by decide) (fun _ => ?_) (fun h => absurd h (by decide))
  refine lv_bipush (v := (-2)) hx hb dX12_surest_17 (by decide) ?_
  exact q_iret X hP hS ⟨rfl, rfl⟩ dX12_surest_19

theorem dX12_walk_0 : decode cX12_walk 0 = .ok (.aload_n 0, 1) := by decide +kernel
theorem dX12_walk_1 : decode cX12_walk 1 = .ok (.invokevirtual 382, 3) := by decide +kernel
theorem dX12_walk_4 : decode cX12_walk 4 = .ok (.ifCond .eq 12, 3) := by decide +kernel
theorem dX12_walk_16 : decode cX12_walk 16 = .ok (.bipush (-2), 2) := by decide +kernel
theorem dX12_walk_18 : decode cX12_walk 18 = .ok (.ireturn, 1) := by decide +kernel
def vX12_walk : List Cond := .code yX12_walk cX12_walk 1 (some .int) :: ([.methodLink RX12 382 yX12_layWalks, .instanceMethod yX12_layWalks, .selects RX12 yX12_layWalks yX12_layWalks, .initialized RX12, .code yX12_layWalks cX12_layWalks 4 (some .boolean), .fieldLink RX12 9 "IcicleClockModel" "world" "[I"] ++ wsX120)
theorem iX12_walk_12 : ∀ w ∈ wsX120, w ∈ vX12_walk := fun _ h => List.mem_cons_of_mem _ (List.mem_append_right _ h)
set_option maxRecDepth 20000 in
theorem gg_X12_walk_X12_layWalks : GoodIn vX12_walk (wsV RX12 382 RX12 yX12_layWalks vX12_layWalks) := goodIn_r _ [1, 2, 3, 4, 5, 6, 7, 8, 9, 10, 11, 12, 13, 14, 15, 16, 17, 18, 19, 20, 21, 22, 23, 24, 25, 26, 27, 28, 29, 30, 31, 32, 33, 34, 35, 36, 37, 38, 39, 40, 41, 42, 43, 44, 45, 46] (by decide +kernel) (by decide +kernel)
set_option maxHeartbeats 4000000 in
set_option maxRecDepth 100000 in
theorem m_walk (l : Launch) (D : va_G) (cs : Nat → ClassId) (ad : Nat → Nat) (hj : wJ ad nW) (g : Nat → va_E) (h197 : g 197 = .inr (12, [.int 0, .ref (ad 198), .ref (ad 199), .ref (ad 200), .ref (ad 201), .int 0, .ref (ad 202), .int 0, .int 0, .int 0, .int 0, .int 0, .int 0, .int (-1), .ref (ad 203), .ref (ad 204), .ref (ad 205), .int 0, .int 0, .ref (ad 206), .ref (ad 207), .ref (ad 208), .int 0, .int 0, .int 0, .int 0, .int 0, .ref (ad 209), .ref (ad 210), .ref (ad 211), .long 0, .long 0, .ref (ad 212), .ref (ad 213), .int 0, .int 0, .ref (ad 214), .ref (ad 215), .ref (ad 216), .ref (ad 217)])) (h198 : g 198 = .inl (cs 1, 118, .inl (fun _ => 0))) : cI l yX12_walk vX12_walk { frames := 1, cells := 0, slots := 0, locals := 23 } D cs ad nW [.ref (ad 197)] g (fun r g2 => r = (-2) ∧ g2 = g) := by
  refine Met.start (cc := cX12_walk) (maxL := 1) (ret := (some .int)) RX12 rfl (by decide) rfl (Nat.le_of_ble_eq_true rfl) ?_
  intro p e s m below meth c ls X hP hl
  have hx := X.1
  have hb := X.2.1
  have hS : va_S (wA ad nW) s.heap s.heap [] := va_S.rf
  have hA : ∀ i, i < nW → wA ad nW (ad i) := fun i h => ⟨i, h, rfl⟩
  have hl : lv_has ls 1 [(0, .ref (ad 197))] := hl
  refine lv_aload_n hx hb dX12_walk_0 rfl (lv_at hl 0 rfl) ?_
  refine q_calli (q := (RX12, TX12, 40)) (As := []) (rest := []) X (m_layWalks l D cs ad hj g  h197 h198) (cwV 0 X.2.2.2.2.1 gg_X12_walk_X12_layWalks rfl rfl rfl (by decide +kernel) ⟨Nat.le_of_ble_eq_true rfl, Nat.le_of_ble_eq_true rfl⟩) (by decide) h197 rfl hP hA hS rfl hl.1 rfl (Nat.le_of_ble_eq_true rfl) dX12_walk_1 ⟨Nat.le_of_ble_eq_true rfl, Nat.le_of_ble_eq_true rfl⟩ (fun r_3 g_2 H locs hw_1 hP hS => ?_)
  obtain ⟨hw_1a, hw_1b⟩ := hw_1
  subst hw_1a
  rw [hw_1b] at hP
  refine lv_if_eq (tgt := 16) hx hb dX12_walk_4 (by decide) (fun _ => ?_) (fun h => absurd h (by decide))
  refine lv_bipush (v := (-2)) hx hb dX12_walk_16 (by decide) ?_
  exact q_iret X hP hS ⟨rfl, rfl⟩ dX12_walk_18

theorem dX12_walks_0 : decode cX12_walks 0 = .ok (.aload_n 0, 1) := by decide +kernel
theorem dX12_walks_1 : decode cX12_walks 1 = .ok (.iload_n 1, 1) := by decide +kernel
theorem dX12_walks_2 : decode cX12_walks 2 = .ok (.invokevirtual 205, 3) := by decide +kernel
theorem dX12_walks_5 : decode cX12_walks 5 = .ok (.ifCond .eq 10, 3) := by decide +kernel
theorem dX12_walks_15 : decode cX12_walks 15 = .ok (.bipush (-2), 2) := by decide +kernel
theorem dX12_walks_17 : decode cX12_walks 17 = .ok (.ireturn, 1) := by decide +kernel
def vX12_walks : List Cond := .code yX12_walks cX12_walks 6 (some .int) :: ([.methodLink RX12 205 yX12_isDay, .instanceMethod yX12_isDay, .selects RX12 yX12_isDay yX12_isDay, .initialized RX12, .code yX12_isDay cX12_isDay 2 (some .boolean), .fieldLink RX12 9 "IcicleClockModel" "world" "[I", .methodLink RX12 82 yX12_in, .static yX12_in, .code yX12_in cX12_in 6 (some .boolean)] ++ wsX120)
theorem iX12_walks_12 : ∀ w ∈ wsX120, w ∈ vX12_walks := fun _ h => List.mem_cons_of_mem _ (List.mem_append_right _ h)
set_option maxRecDepth 20000 in
theorem gg_X12_walks_X12_isDay : GoodIn vX12_walks (wsV RX12 205 RX12 yX12_isDay vX12_isDay) := goodIn_r _ [1, 2, 3, 4, 5, 6, 7, 8, 4, 9, 10, 11, 12, 13, 14, 15, 16, 17, 18, 19, 20, 21, 22, 23, 24, 25, 26, 27, 28, 29, 30, 31, 32, 33, 34, 35, 36, 37, 38, 39, 40, 41, 42, 43, 44, 45, 46, 47, 48, 49] (by decide +kernel) (by decide +kernel)
set_option maxHeartbeats 4000000 in
set_option maxRecDepth 100000 in
theorem m_walks (l : Launch) (D : va_G) (cs : Nat → ClassId) (ad : Nat → Nat) (hj : wJ ad nW) (g : Nat → va_E) (vd : Int32) (h197 : g 197 = .inr (12, [.int 0, .ref (ad 198), .ref (ad 199), .ref (ad 200), .ref (ad 201), .int 0, .ref (ad 202), .int 0, .int 0, .int 0, .int 0, .int 0, .int 0, .int (-1), .ref (ad 203), .ref (ad 204), .ref (ad 205), .int 0, .int 0, .ref (ad 206), .ref (ad 207), .ref (ad 208), .int 0, .int 0, .int 0, .int 0, .int 0, .ref (ad 209), .ref (ad 210), .ref (ad 211), .long 0, .long 0, .ref (ad 212), .ref (ad 213), .int 0, .int 0, .ref (ad 214), .ref (ad 215), .ref (ad 216), .ref (ad 217)])) (h198 : g 198 = .inl (cs 1, 118, .inl (fun _ => 0))) : cI l yX12_walks vX12_walks { frames := 2, cells := 0, slots := 0, locals := 46 } D cs ad nW [.ref (ad 197), .int vd] g (fun r g2 => r = (-2) ∧ g2 = g) := by
  refine Met.start (cc := cX12_walks) (maxL := 6) (ret := (some .int)) RX12 rfl (by decide) rfl (Nat.le_of_ble_eq_true rfl) ?_
  intro p e s m below meth c ls X hP hl
  have hx := X.1
  have hb := X.2.1
  have hS : va_S (wA ad nW) s.heap s.heap [] := va_S.rf
  have hA : ∀ i, i < nW → wA ad nW (ad i) := fun i h => ⟨i, h, rfl⟩
  have hl : lv_has ls 6 [(0, .ref (ad 197)), (1, .int vd)] := hl
  refine lv_aload_n hx hb dX12_walks_0 rfl (lv_at hl 0 rfl) ?_
  refine lv_iload_n hx hb dX12_walks_1 rfl (lv_at hl 1 rfl) ?_
  refine q_calli (q := (RX12, TX12, 40)) (As := [.int vd]) (rest := []) X (m_isDay l D cs ad hj g vd h197 h198) (cwV 1 X.2.2.2.2.1 gg_X12_walks_X12_isDay rfl rfl rfl (by decide +kernel) ⟨Nat.le_of_ble_eq_true rfl, Nat.le_of_ble_eq_true rfl⟩) (by decide) h197 rfl hP hA hS rfl hl.1 rfl (Nat.le_of_ble_eq_true rfl) dX12_walks_2 ⟨Nat.le_of_ble_eq_true rfl, Nat.le_of_ble_eq_true rfl⟩ (fun r_3 g_2 H locs hw_1 hP hS => ?_)
  obtain ⟨hw_1a, hw_1b⟩ := hw_1
  subst hw_1a
  rw [hw_1b] at hP
  refine lv_if_eq (tgt := 15) hx hb dX12_walks_5 (by decide) (fun _ => ?_) (fun h => absurd h (by decide))
  refine lv_bipush (v := (-2)) hx hb dX12_walks_15 (by decide) ?_
  exact q_iret X hP hS ⟨rfl, rfl⟩ dX12_walks_17

theorem dX12_ways_0 : decode cX12_ways 0 = .ok (.aload_n 0, 1) := by decide +kernel
theorem dX12_ways_1 : decode cX12_ways 1 = .ok (.invokevirtual 382, 3) := by decide +kernel
theorem dX12_ways_4 : decode cX12_ways 4 = .ok (.ifCond .eq 12, 3) := by decide +kernel
theorem dX12_ways_16 : decode cX12_ways 16 = .ok (.bipush (-2), 2) := by decide +kernel
theorem dX12_ways_18 : decode cX12_ways 18 = .ok (.ireturn, 1) := by decide +kernel
def vX12_ways : List Cond := .code yX12_ways cX12_ways 1 (some .int) :: ([.methodLink RX12 382 yX12_layWalks, .instanceMethod yX12_layWalks, .selects RX12 yX12_layWalks yX12_layWalks, .initialized RX12, .code yX12_layWalks cX12_layWalks 4 (some .boolean), .fieldLink RX12 9 "IcicleClockModel" "world" "[I"] ++ wsX120)
theorem iX12_ways_12 : ∀ w ∈ wsX120, w ∈ vX12_ways := fun _ h => List.mem_cons_of_mem _ (List.mem_append_right _ h)
set_option maxRecDepth 20000 in
theorem gg_X12_ways_X12_layWalks : GoodIn vX12_ways (wsV RX12 382 RX12 yX12_layWalks vX12_layWalks) := goodIn_r _ [1, 2, 3, 4, 5, 6, 7, 8, 9, 10, 11, 12, 13, 14, 15, 16, 17, 18, 19, 20, 21, 22, 23, 24, 25, 26, 27, 28, 29, 30, 31, 32, 33, 34, 35, 36, 37, 38, 39, 40, 41, 42, 43, 44, 45, 46] (by decide +kernel) (by decide +kernel)
set_option maxHeartbeats 4000000 in
set_option maxRecDepth 100000 in
theorem m_ways (l : Launch) (D : va_G) (cs : Nat → ClassId) (ad : Nat → Nat) (hj : wJ ad nW) (g : Nat → va_E) (h197 : g 197 = .inr (12, [.int 0, .ref (ad 198), .ref (ad 199), .ref (ad 200), .ref (ad 201), .int 0, .ref (ad 202), .int 0, .int 0, .int 0, .int 0, .int 0, .int 0, .int (-1), .ref (ad 203), .ref (ad 204), .ref (ad 205), .int 0, .int 0, .ref (ad 206), .ref (ad 207), .ref (ad 208), .int 0, .int 0, .int 0, .int 0, .int 0, .ref (ad 209), .ref (ad 210), .ref (ad 211), .long 0, .long 0, .ref (ad 212), .ref (ad 213), .int 0, .int 0, .ref (ad 214), .ref (ad 215), .ref (ad 216), .ref (ad 217)])) (h198 : g 198 = .inl (cs 1, 118, .inl (fun _ => 0))) : cI l yX12_ways vX12_ways { frames := 1, cells := 0, slots := 0, locals := 23 } D cs ad nW [.ref (ad 197)] g (fun r g2 => r = (-2) ∧ g2 = g) := by
  refine Met.start (cc := cX12_ways) (maxL := 1) (ret := (some .int)) RX12 rfl (by decide) rfl (Nat.le_of_ble_eq_true rfl) ?_
  intro p e s m below meth c ls X hP hl
  have hx := X.1
  have hb := X.2.1
  have hS : va_S (wA ad nW) s.heap s.heap [] := va_S.rf
  have hA : ∀ i, i < nW → wA ad nW (ad i) := fun i h => ⟨i, h, rfl⟩
  have hl : lv_has ls 1 [(0, .ref (ad 197))] := hl
  refine lv_aload_n hx hb dX12_ways_0 rfl (lv_at hl 0 rfl) ?_
  refine q_calli (q := (RX12, TX12, 40)) (As := []) (rest := []) X (m_layWalks l D cs ad hj g  h197 h198) (cwV 0 X.2.2.2.2.1 gg_X12_ways_X12_layWalks rfl rfl rfl (by decide +kernel) ⟨Nat.le_of_ble_eq_true rfl, Nat.le_of_ble_eq_true rfl⟩) (by decide) h197 rfl hP hA hS rfl hl.1 rfl (Nat.le_of_ble_eq_true rfl) dX12_ways_1 ⟨Nat.le_of_ble_eq_true rfl, Nat.le_of_ble_eq_true rfl⟩ (fun r_3 g_2 H locs hw_1 hP hS => ?_)
  obtain ⟨hw_1a, hw_1b⟩ := hw_1
  subst hw_1a
  rw [hw_1b] at hP
  refine lv_if_eq (tgt := 16) hx hb dX12_ways_4 (by decide) (fun _ => ?_) (fun h => absurd h (by decide))
  refine lv_bipush (v := (-2)) hx hb dX12_ways_16 (by decide) ?_
  exact q_iret X hP hS ⟨rfl, rfl⟩ dX12_ways_18

theorem dX12_rests_0 : decode cX12_rests 0 = .ok (.aload_n 0, 1) := by decide +kernel
theorem dX12_rests_1 : decode cX12_rests 1 = .ok (.invokevirtual 261, 3) := by decide +kernel
theorem dX12_rests_4 : decode cX12_rests 4 = .ok (.ifCond .eq 10, 3) := by decide +kernel
theorem dX12_rests_14 : decode cX12_rests 14 = .ok (.bipush (-2), 2) := by decide +kernel
theorem dX12_rests_16 : decode cX12_rests 16 = .ok (.ireturn, 1) := by decide +kernel
def vX12_rests : List Cond := .code yX12_rests cX12_rests 1 (some .int) :: ([.methodLink RX12 261 yX12_isStreet, .instanceMethod yX12_isStreet, .selects RX12 yX12_isStreet yX12_isStreet, .initialized RX12, .code yX12_isStreet cX12_isStreet 1 (some .boolean), .fieldLink RX12 9 "IcicleClockModel" "world" "[I"] ++ wsX120)
theorem iX12_rests_12 : ∀ w ∈ wsX120, w ∈ vX12_rests := fun _ h => List.mem_cons_of_mem _ (List.mem_append_right _ h)
set_option maxRecDepth 20000 in
theorem gg_X12_rests_X12_isStreet : GoodIn vX12_rests (wsV RX12 261 RX12 yX12_isStreet vX12_isStreet) := goodIn_r _ [1, 2, 3, 4, 5, 6, 7, 8, 9, 10, 11, 12, 13, 14, 15, 16, 17, 18, 19, 20, 21, 22, 23, 24, 25, 26, 27, 28, 29, 30, 31, 32, 33, 34, 35, 36, 37, 38, 39, 40, 41, 42, 43, 44, 45, 46] (by decide +kernel) (by decide +kernel)
set_option maxHeartbeats 4000000 in
set_option maxRecDepth 100000 in
theorem m_rests (l : Launch) (D : va_G) (cs : Nat → ClassId) (ad : Nat → Nat) (hj : wJ ad nW) (g : Nat → va_E) (h197 : g 197 = .inr (12, [.int 0, .ref (ad 198), .ref (ad 199), .ref (ad 200), .ref (ad 201), .int 0, .ref (ad 202), .int 0, .int 0, .int 0, .int 0, .int 0, .int 0, .int (-1), .ref (ad 203), .ref (ad 204), .ref (ad 205), .int 0, .int 0, .ref (ad 206), .ref (ad 207), .ref (ad 208), .int 0, .int 0, .int 0, .int 0, .int 0, .ref (ad 209), .ref (ad 210), .ref (ad 211), .long 0, .long 0, .ref (ad 212), .ref (ad 213), .int 0, .int 0, .ref (ad 214), .ref (ad 215), .ref (ad 216), .ref (ad 217)])) (h198 : g 198 = .inl (cs 1, 118, .inl (fun _ => 0))) : cI l yX12_rests vX12_rests { frames := 1, cells := 0, slots := 0, locals := 20 } D cs ad nW [.ref (ad 197)] g (fun r g2 => r = (-2) ∧ g2 = g) := by
  refine Met.start (cc := cX12_rests) (maxL := 1) (ret := (some .int)) RX12 rfl (by decide) rfl (Nat.le_of_ble_eq_true rfl) ?_
  intro p e s m below meth c ls X hP hl
  have hx := X.1
  have hb := X.2.1
  have hS : va_S (wA ad nW) s.heap s.heap [] := va_S.rf
  have hA : ∀ i, i < nW → wA ad nW (ad i) := fun i h => ⟨i, h, rfl⟩
  have hl : lv_has ls 1 [(0, .ref (ad 197))] := hl
  refine lv_aload_n hx hb dX12_rests_0 rfl (lv_at hl 0 rfl) ?_
  refine q_calli (q := (RX12, TX12, 40)) (As := []) (rest := []) X (m_isStreet l D cs ad hj g  h197 h198) (cwV 0 X.2.2.2.2.1 gg_X12_rests_X12_isStreet rfl rfl rfl (by decide +kernel) ⟨Nat.le_of_ble_eq_true rfl, Nat.le_of_ble_eq_true rfl⟩) (by decide) h197 rfl hP hA hS rfl hl.1 rfl (Nat.le_of_ble_eq_true rfl) dX12_rests_1 ⟨Nat.le_of_ble_eq_true rfl, Nat.le_of_ble_eq_true rfl⟩ (fun r_3 g_2 H locs hw_1 hP hS => ?_)
  obtain ⟨hw_1a, hw_1b⟩ := hw_1
  subst hw_1a
  rw [hw_1b] at hP
  refine lv_if_eq (tgt := 14) hx hb dX12_rests_4 (by decide) (fun _ => ?_) (fun h => absurd h (by decide))
  refine lv_bipush (v := (-2)) hx hb dX12_rests_14 (by decide) ?_
  exact q_iret X hP hS ⟨rfl, rfl⟩ dX12_rests_16

theorem dX12_rest_0 : decode cX12_rest 0 = .ok (.aload_n 0, 1) := by decide +kernel
theorem dX12_rest_1 : decode cX12_rest 1 = .ok (.invokevirtual 261, 3) := by decide +kernel
theorem dX12_rest_4 : decode cX12_rest 4 = .ok (.ifCond .ne 6, 3) := by decide +kernel
theorem dX12_rest_7 : decode cX12_rest 7 = .ok (.bipush (-2), 2) := by decide +kernel
theorem dX12_rest_9 : decode cX12_rest 9 = .ok (.ireturn, 1) := by decide +kernel
def vX12_rest : List Cond := .code yX12_rest cX12_rest 1 (some .int) :: ([.methodLink RX12 261 yX12_isStreet, .instanceMethod yX12_isStreet, .selects RX12 yX12_isStreet yX12_isStreet, .initialized RX12, .code yX12_isStreet cX12_isStreet 1 (some .boolean), .fieldLink RX12 9 "IcicleClockModel" "world" "[I"] ++ wsX120)
theorem iX12_rest_12 : ∀ w ∈ wsX120, w ∈ vX12_rest := fun _ h => List.mem_cons_of_mem _ (List.mem_append_right _ h)
set_option maxRecDepth 20000 in
theorem gg_X12_rest_X12_isStreet : GoodIn vX12_rest (wsV RX12 261 RX12 yX12_isStreet vX12_isStreet) := goodIn_r _ [1, 2, 3, 4, 5, 6, 7, 8, 9, 10, 11, 12, 13, 14, 15, 16, 17, 18, 19, 20, 21, 22, 23, 24, 25, 26, 27, 28, 29, 30, 31, 32, 33, 34, 35, 36, 37, 38, 39, 40, 41, 42, 43, 44, 45, 46] (by decide +kernel) (by decide +kernel)
set_option maxHeartbeats 4000000 in
set_option maxRecDepth 100000 in
theorem m_rest (l : Launch) (D : va_G) (cs : Nat → ClassId) (ad : Nat → Nat) (hj : wJ ad nW) (g : Nat → va_E) (h197 : g 197 = .inr (12, [.int 0, .ref (ad 198), .ref (ad 199), .ref (ad 200), .ref (ad 201), .int 0, .ref (ad 202), .int 0, .int 0, .int 0, .int 0, .int 0, .int 0, .int (-1), .ref (ad 203), .ref (ad 204), .ref (ad 205), .int 0, .int 0, .ref (ad 206), .ref (ad 207), .ref (ad 208), .int 0, .int 0, .int 0, .int 0, .int 0, .ref (ad 209), .ref (ad 210), .ref (ad 211), .long 0, .long 0, .ref (ad 212), .ref (ad 213), .int 0, .int 0, .ref (ad 214), .ref (ad 215), .ref (ad 216), .ref (ad 217)])) (h198 : g 198 = .inl (cs 1, 118, .inl (fun _ => 0))) : cI l yX12_rest vX12_rest { frames := 1, cells := 0, slots := 0, locals := 20 } D cs ad nW [.ref (ad 197)] g (fun r g2 => r = (-2) ∧ g2 = g) := by
  refine Met.start (cc := cX12_rest) (maxL := 1) (ret := (some .int)) RX12 rfl (by decide) rfl (Nat.le_of_ble_eq_true rfl) ?_
  intro p e s m below meth c ls X hP hl
  have hx := X.1
  have hb := X.2.1
  have hS : va_S (wA ad nW) s.heap s.heap [] := va_S.rf
  have hA : ∀ i, i < nW → wA ad nW (ad i) := fun i h => ⟨i, h, rfl⟩
  have hl : lv_has ls 1 [(0, .ref (ad 197))] := hl
  refine lv_aload_n hx hb dX12_rest_0 rfl (lv_at hl 0 rfl) ?_
  refine q_calli (q := (RX12, TX12, 40)) (As := []) (rest := []) X (m_isStreet l D cs ad hj g  h197 h198) (cwV 0 X.2.2.2.2.1 gg_X12_rest_X12_isStreet rfl rfl rfl (by decide +kernel) ⟨Nat.le_of_ble_eq_true rfl, Nat.le_of_ble_eq_true rfl⟩) (by decide) h197 rfl hP hA hS rfl hl.1 rfl (Nat.le_of_ble_eq_true rfl) dX12_rest_1 ⟨Nat.le_of_ble_eq_true rfl, Nat.le_of_ble_eq_true rfl⟩ (fun r_3 g_2 H locs hw_1 hP hS => ?_)
  obtain ⟨hw_1a, hw_1b⟩ := hw_1
  subst hw_1a
  rw [hw_1b] at hP
  refine lv_if_ne (tgt := 10) hx hb dX12_rest_4 (by decide) (fun h => absurd h (by decide)) (fun _ => ?_)
  refine lv_bipush (v := (-2)) hx hb dX12_rest_7 (by decide) ?_
  exact q_iret X hP hS ⟨rfl, rfl⟩ dX12_rest_9

theorem dX12_door_0 : decode cX12_door 0 = .ok (.aload_n 0, 1) := by decide +kernel
theorem dX12_door_1 : decode cX12_door 1 = .ok (.iload_n 1, 1) := by decide +kernel
theorem dX12_door_2 : decode cX12_door 2 = .ok (.invokevirtual 212, 3) := by decide +kernel
theorem dX12_door_5 : decode cX12_door 5 = .ok (.ifCond .eq 11, 3) := by decide +kernel
theorem dX12_door_16 : decode cX12_door 16 = .ok (.bipush (-2), 2) := by decide +kernel
theorem dX12_door_18 : decode cX12_door 18 = .ok (.ireturn, 1) := by decide +kernel
def vX12_door : List Cond := .code yX12_door cX12_door 3 (some .int) :: ([.methodLink RX12 212 yX12_isEave, .instanceMethod yX12_isEave, .selects RX12 yX12_isEave yX12_isEave, .initialized RX12, .code yX12_isEave cX12_isEave 2 (some .boolean), .fieldLink RX12 9 "IcicleClockModel" "world" "[I", .methodLink RX12 82 yX12_in, .static yX12_in, .code yX12_in cX12_in 6 (some .boolean)] ++ wsX120)
theorem iX12_door_12 : ∀ w ∈ wsX120, w ∈ vX12_door := fun _ h => List.mem_cons_of_mem _ (List.mem_append_right _ h)
set_option maxRecDepth 20000 in
theorem gg_X12_door_X12_isEave : GoodIn vX12_door (wsV RX12 212 RX12 yX12_isEave vX12_isEave) := goodIn_r _ [1, 2, 3, 4, 5, 6, 7, 8, 4, 9, 10, 11, 12, 13, 14, 15, 16, 17, 18, 19, 20, 21, 22, 23, 24, 25, 26, 27, 28, 29, 30, 31, 32, 33, 34, 35, 36, 37, 38, 39, 40, 41, 42, 43, 44, 45, 46, 47, 48, 49] (by decide +kernel) (by decide +kernel)
set_option maxHeartbeats 4000000 in
set_option maxRecDepth 100000 in
theorem m_door (l : Launch) (D : va_G) (cs : Nat → ClassId) (ad : Nat → Nat) (hj : wJ ad nW) (g : Nat → va_E) (va : Int32) (vd : Int32) (h197 : g 197 = .inr (12, [.int 0, .ref (ad 198), .ref (ad 199), .ref (ad 200), .ref (ad 201), .int 0, .ref (ad 202), .int 0, .int 0, .int 0, .int 0, .int 0, .int 0, .int (-1), .ref (ad 203), .ref (ad 204), .ref (ad 205), .int 0, .int 0, .ref (ad 206), .ref (ad 207), .ref (ad 208), .int 0, .int 0, .int 0, .int 0, .int 0, .ref (ad 209), .ref (ad 210), .ref (ad 211), .long 0, .long 0, .ref (ad 212), .ref (ad 213), .int 0, .int 0, .ref (ad 214), .ref (ad 215), .ref (ad 216), .ref (ad 217)])) (h198 : g 198 = .inl (cs 1, 118, .inl (fun _ => 0))) : cI l yX12_door vX12_door { frames := 2, cells := 0, slots := 0, locals := 46 } D cs ad nW [.ref (ad 197), .int va, .int vd] g (fun r g2 => r = (-2) ∧ g2 = g) := by
  refine Met.start (cc := cX12_door) (maxL := 3) (ret := (some .int)) RX12 rfl (by decide) rfl (Nat.le_of_ble_eq_true rfl) ?_
  intro p e s m below meth c ls X hP hl
  have hx := X.1
  have hb := X.2.1
  have hS : va_S (wA ad nW) s.heap s.heap [] := va_S.rf
  have hA : ∀ i, i < nW → wA ad nW (ad i) := fun i h => ⟨i, h, rfl⟩
  have hl : lv_has ls 3 [(0, .ref (ad 197)), (1, .int va), (2, .int vd)] := hl
  refine lv_aload_n hx hb dX12_door_0 rfl (lv_at hl 0 rfl) ?_
  refine lv_iload_n hx hb dX12_door_1 rfl (lv_at hl 1 rfl) ?_
  refine q_calli (q := (RX12, TX12, 40)) (As := [.int va]) (rest := []) X (m_isEave l D cs ad hj g va h197 h198) (cwV 1 X.2.2.2.2.1 gg_X12_door_X12_isEave rfl rfl rfl (by decide +kernel) ⟨Nat.le_of_ble_eq_true rfl, Nat.le_of_ble_eq_true rfl⟩) (by decide) h197 rfl hP hA hS rfl hl.1 rfl (Nat.le_of_ble_eq_true rfl) dX12_door_2 ⟨Nat.le_of_ble_eq_true rfl, Nat.le_of_ble_eq_true rfl⟩ (fun r_3 g_2 H locs hw_1 hP hS => ?_)
  obtain ⟨hw_1a, hw_1b⟩ := hw_1
  subst hw_1a
  rw [hw_1b] at hP
  refine lv_if_eq (tgt := 16) hx hb dX12_door_5 (by decide) (fun _ => ?_) (fun h => absurd h (by decide))
  refine lv_bipush (v := (-2)) hx hb dX12_door_16 (by decide) ?_
  exact q_iret X hP hS ⟨rfl, rfl⟩ dX12_door_18

theorem dX12_ring_0 : decode cX12_ring 0 = .ok (.aload_n 0, 1) := by decide +kernel
theorem dX12_ring_1 : decode cX12_ring 1 = .ok (.iload_n 1, 1) := by decide +kernel
theorem dX12_ring_2 : decode cX12_ring 2 = .ok (.invokevirtual 205, 3) := by decide +kernel
theorem dX12_ring_5 : decode cX12_ring 5 = .ok (.ifCond .ne 6, 3) := by decide +kernel
theorem dX12_ring_8 : decode cX12_ring 8 = .ok (.bipush (-2), 2) := by decide +kernel
theorem dX12_ring_10 : decode cX12_ring 10 = .ok (.ireturn, 1) := by decide +kernel
def vX12_ring : List Cond := .code yX12_ring cX12_ring 2 (some .int) :: ([.methodLink RX12 205 yX12_isDay, .instanceMethod yX12_isDay, .selects RX12 yX12_isDay yX12_isDay, .initialized RX12, .code yX12_isDay cX12_isDay 2 (some .boolean), .fieldLink RX12 9 "IcicleClockModel" "world" "[I", .methodLink RX12 82 yX12_in, .static yX12_in, .code yX12_in cX12_in 6 (some .boolean)] ++ wsX120)
theorem iX12_ring_12 : ∀ w ∈ wsX120, w ∈ vX12_ring := fun _ h => List.mem_cons_of_mem _ (List.mem_append_right _ h)
set_option maxRecDepth 20000 in
theorem gg_X12_ring_X12_isDay : GoodIn vX12_ring (wsV RX12 205 RX12 yX12_isDay vX12_isDay) := goodIn_r _ [1, 2, 3, 4, 5, 6, 7, 8, 4, 9, 10, 11, 12, 13, 14, 15, 16, 17, 18, 19, 20, 21, 22, 23, 24, 25, 26, 27, 28, 29, 30, 31, 32, 33, 34, 35, 36, 37, 38, 39, 40, 41, 42, 43, 44, 45, 46, 47, 48, 49] (by decide +kernel) (by decide +kernel)
set_option maxHeartbeats 4000000 in
set_option maxRecDepth 100000 in
theorem m_ring (l : Launch) (D : va_G) (cs : Nat → ClassId) (ad : Nat → Nat) (hj : wJ ad nW) (g : Nat → va_E) (vd : Int32) (h197 : g 197 = .inr (12, [.int 0, .ref (ad 198), .ref (ad 199), .ref (ad 200), .ref (ad 201), .int 0, .ref (ad 202), .int 0, .int 0, .int 0, .int 0, .int 0, .int 0, .int (-1), .ref (ad 203), .ref (ad 204), .ref (ad 205), .int 0, .int 0, .ref (ad 206), .ref (ad 207), .ref (ad 208), .int 0, .int 0, .int 0, .int 0, .int 0, .ref (ad 209), .ref (ad 210), .ref (ad 211), .long 0, .long 0, .ref (ad 212), .ref (ad 213), .int 0, .int 0, .ref (ad 214), .ref (ad 215), .ref (ad 216), .ref (ad 217)])) (h198 : g 198 = .inl (cs 1, 118, .inl (fun _ => 0))) : cI l yX12_ring vX12_ring { frames := 2, cells := 0, slots := 0, locals := 46 } D cs ad nW [.ref (ad 197), .int vd] g (fun r g2 => r = (-2) ∧ g2 = g) := by
  refine Met.start (cc := cX12_ring) (maxL := 2) (ret := (some .int)) RX12 rfl (by decide) rfl (Nat.le_of_ble_eq_true rfl) ?_
  intro p e s m below meth c ls X hP hl
  have hx := X.1
  have hb := X.2.1
  have hS : va_S (wA ad nW) s.heap s.heap [] := va_S.rf
  have hA : ∀ i, i < nW → wA ad nW (ad i) := fun i h => ⟨i, h, rfl⟩
  have hl : lv_has ls 2 [(0, .ref (ad 197)), (1, .int vd)] := hl
  refine lv_aload_n hx hb dX12_ring_0 rfl (lv_at hl 0 rfl) ?_
  refine lv_iload_n hx hb dX12_ring_1 rfl (lv_at hl 1 rfl) ?_
  refine q_calli (q := (RX12, TX12, 40)) (As := [.int vd]) (rest := []) X (m_isDay l D cs ad hj g vd h197 h198) (cwV 1 X.2.2.2.2.1 gg_X12_ring_X12_isDay rfl rfl rfl (by decide +kernel) ⟨Nat.le_of_ble_eq_true rfl, Nat.le_of_ble_eq_true rfl⟩) (by decide) h197 rfl hP hA hS rfl hl.1 rfl (Nat.le_of_ble_eq_true rfl) dX12_ring_2 ⟨Nat.le_of_ble_eq_true rfl, Nat.le_of_ble_eq_true rfl⟩ (fun r_3 g_2 H locs hw_1 hP hS => ?_)
  obtain ⟨hw_1a, hw_1b⟩ := hw_1
  subst hw_1a
  rw [hw_1b] at hP
  refine lv_if_ne (tgt := 11) hx hb dX12_ring_5 (by decide) (fun h => absurd h (by decide)) (fun _ => ?_)
  refine lv_bipush (v := (-2)) hx hb dX12_ring_8 (by decide) ?_
  exact q_iret X hP hS ⟨rfl, rfl⟩ dX12_ring_10

theorem dX12_undo_0 : decode cX12_undo 0 = .ok (.aload_n 0, 1) := by decide +kernel
theorem dX12_undo_1 : decode cX12_undo 1 = .ok (.invokevirtual 261, 3) := by decide +kernel
theorem dX12_undo_4 : decode cX12_undo 4 = .ok (.ifCond .ne 6, 3) := by decide +kernel
theorem dX12_undo_7 : decode cX12_undo 7 = .ok (.bipush (-2), 2) := by decide +kernel
theorem dX12_undo_9 : decode cX12_undo 9 = .ok (.ireturn, 1) := by decide +kernel
def vX12_undo : List Cond := .code yX12_undo cX12_undo 1 (some .int) :: ([.methodLink RX12 261 yX12_isStreet, .instanceMethod yX12_isStreet, .selects RX12 yX12_isStreet yX12_isStreet, .initialized RX12, .code yX12_isStreet cX12_isStreet 1 (some .boolean), .fieldLink RX12 9 "IcicleClockModel" "world" "[I"] ++ wsX120)
theorem iX12_undo_12 : ∀ w ∈ wsX120, w ∈ vX12_undo := fun _ h => List.mem_cons_of_mem _ (List.mem_append_right _ h)
set_option maxRecDepth 20000 in
theorem gg_X12_undo_X12_isStreet : GoodIn vX12_undo (wsV RX12 261 RX12 yX12_isStreet vX12_isStreet) := goodIn_r _ [1, 2, 3, 4, 5, 6, 7, 8, 9, 10, 11, 12, 13, 14, 15, 16, 17, 18, 19, 20, 21, 22, 23, 24, 25, 26, 27, 28, 29, 30, 31, 32, 33, 34, 35, 36, 37, 38, 39, 40, 41, 42, 43, 44, 45, 46] (by decide +kernel) (by decide +kernel)
set_option maxHeartbeats 4000000 in
set_option maxRecDepth 100000 in
theorem m_undo (l : Launch) (D : va_G) (cs : Nat → ClassId) (ad : Nat → Nat) (hj : wJ ad nW) (g : Nat → va_E) (h197 : g 197 = .inr (12, [.int 0, .ref (ad 198), .ref (ad 199), .ref (ad 200), .ref (ad 201), .int 0, .ref (ad 202), .int 0, .int 0, .int 0, .int 0, .int 0, .int 0, .int (-1), .ref (ad 203), .ref (ad 204), .ref (ad 205), .int 0, .int 0, .ref (ad 206), .ref (ad 207), .ref (ad 208), .int 0, .int 0, .int 0, .int 0, .int 0, .ref (ad 209), .ref (ad 210), .ref (ad 211), .long 0, .long 0, .ref (ad 212), .ref (ad 213), .int 0, .int 0, .ref (ad 214), .ref (ad 215), .ref (ad 216), .ref (ad 217)])) (h198 : g 198 = .inl (cs 1, 118, .inl (fun _ => 0))) : cI l yX12_undo vX12_undo { frames := 1, cells := 0, slots := 0, locals := 20 } D cs ad nW [.ref (ad 197)] g (fun r g2 => r = (-2) ∧ g2 = g) := by
  refine Met.start (cc := cX12_undo) (maxL := 1) (ret := (some .int)) RX12 rfl (by decide) rfl (Nat.le_of_ble_eq_true rfl) ?_
  intro p e s m below meth c ls X hP hl
  have hx := X.1
  have hb := X.2.1
  have hS : va_S (wA ad nW) s.heap s.heap [] := va_S.rf
  have hA : ∀ i, i < nW → wA ad nW (ad i) := fun i h => ⟨i, h, rfl⟩
  have hl : lv_has ls 1 [(0, .ref (ad 197))] := hl
  refine lv_aload_n hx hb dX12_undo_0 rfl (lv_at hl 0 rfl) ?_
  refine q_calli (q := (RX12, TX12, 40)) (As := []) (rest := []) X (m_isStreet l D cs ad hj g  h197 h198) (cwV 0 X.2.2.2.2.1 gg_X12_undo_X12_isStreet rfl rfl rfl (by decide +kernel) ⟨Nat.le_of_ble_eq_true rfl, Nat.le_of_ble_eq_true rfl⟩) (by decide) h197 rfl hP hA hS rfl hl.1 rfl (Nat.le_of_ble_eq_true rfl) dX12_undo_1 ⟨Nat.le_of_ble_eq_true rfl, Nat.le_of_ble_eq_true rfl⟩ (fun r_3 g_2 H locs hw_1 hP hS => ?_)
  obtain ⟨hw_1a, hw_1b⟩ := hw_1
  subst hw_1a
  rw [hw_1b] at hP
  refine lv_if_ne (tgt := 10) hx hb dX12_undo_4 (by decide) (fun h => absurd h (by decide)) (fun _ => ?_)
  refine lv_bipush (v := (-2)) hx hb dX12_undo_7 (by decide) ?_
  exact q_iret X hP hS ⟨rfl, rfl⟩ dX12_undo_9

theorem dX12_anew_0 : decode cX12_anew 0 = .ok (.aload_n 0, 1) := by decide +kernel
theorem dX12_anew_1 : decode cX12_anew 1 = .ok (.invokevirtual 261, 3) := by decide +kernel
theorem dX12_anew_4 : decode cX12_anew 4 = .ok (.ifCond .ne 6, 3) := by decide +kernel
theorem dX12_anew_7 : decode cX12_anew 7 = .ok (.bipush (-2), 2) := by decide +kernel
theorem dX12_anew_9 : decode cX12_anew 9 = .ok (.ireturn, 1) := by decide +kernel
def vX12_anew : List Cond := .code yX12_anew cX12_anew 2 (some .int) :: ([.methodLink RX12 261 yX12_isStreet, .instanceMethod yX12_isStreet, .selects RX12 yX12_isStreet yX12_isStreet, .initialized RX12, .code yX12_isStreet cX12_isStreet 1 (some .boolean), .fieldLink RX12 9 "IcicleClockModel" "world" "[I"] ++ wsX120)
theorem iX12_anew_12 : ∀ w ∈ wsX120, w ∈ vX12_anew := fun _ h => List.mem_cons_of_mem _ (List.mem_append_right _ h)
set_option maxRecDepth 20000 in
theorem gg_X12_anew_X12_isStreet : GoodIn vX12_anew (wsV RX12 261 RX12 yX12_isStreet vX12_isStreet) := goodIn_r _ [1, 2, 3, 4, 5, 6, 7, 8, 9, 10, 11, 12, 13, 14, 15, 16, 17, 18, 19, 20, 21, 22, 23, 24, 25, 26, 27, 28, 29, 30, 31, 32, 33, 34, 35, 36, 37, 38, 39, 40, 41, 42, 43, 44, 45, 46] (by decide +kernel) (by decide +kernel)
set_option maxHeartbeats 4000000 in
set_option maxRecDepth 100000 in
theorem m_anew (l : Launch) (D : va_G) (cs : Nat → ClassId) (ad : Nat → Nat) (hj : wJ ad nW) (g : Nat → va_E) (h197 : g 197 = .inr (12, [.int 0, .ref (ad 198), .ref (ad 199), .ref (ad 200), .ref (ad 201), .int 0, .ref (ad 202), .int 0, .int 0, .int 0, .int 0, .int 0, .int 0, .int (-1), .ref (ad 203), .ref (ad 204), .ref (ad 205), .int 0, .int 0, .ref (ad 206), .ref (ad 207), .ref (ad 208), .int 0, .int 0, .int 0, .int 0, .int 0, .ref (ad 209), .ref (ad 210), .ref (ad 211), .long 0, .long 0, .ref (ad 212), .ref (ad 213), .int 0, .int 0, .ref (ad 214), .ref (ad 215), .ref (ad 216), .ref (ad 217)])) (h198 : g 198 = .inl (cs 1, 118, .inl (fun _ => 0))) : cI l yX12_anew vX12_anew { frames := 1, cells := 0, slots := 0, locals := 20 } D cs ad nW [.ref (ad 197)] g (fun r g2 => r = (-2) ∧ g2 = g) := by
  refine Met.start (cc := cX12_anew) (maxL := 2) (ret := (some .int)) RX12 rfl (by decide) rfl (Nat.le_of_ble_eq_true rfl) ?_
  intro p e s m below meth c ls X hP hl
  have hx := X.1
  have hb := X.2.1
  have hS : va_S (wA ad nW) s.heap s.heap [] := va_S.rf
  have hA : ∀ i, i < nW → wA ad nW (ad i) := fun i h => ⟨i, h, rfl⟩
  have hl : lv_has ls 2 [(0, .ref (ad 197))] := hl
  refine lv_aload_n hx hb dX12_anew_0 rfl (lv_at hl 0 rfl) ?_
  refine q_calli (q := (RX12, TX12, 40)) (As := []) (rest := []) X (m_isStreet l D cs ad hj g  h197 h198) (cwV 0 X.2.2.2.2.1 gg_X12_anew_X12_isStreet rfl rfl rfl (by decide +kernel) ⟨Nat.le_of_ble_eq_true rfl, Nat.le_of_ble_eq_true rfl⟩) (by decide) h197 rfl hP hA hS rfl hl.1 rfl (Nat.le_of_ble_eq_true rfl) dX12_anew_1 ⟨Nat.le_of_ble_eq_true rfl, Nat.le_of_ble_eq_true rfl⟩ (fun r_3 g_2 H locs hw_1 hP hS => ?_)
  obtain ⟨hw_1a, hw_1b⟩ := hw_1
  subst hw_1a
  rw [hw_1b] at hP
  refine lv_if_ne (tgt := 10) hx hb dX12_anew_4 (by decide) (fun h => absurd h (by decide)) (fun _ => ?_)
  refine lv_bipush (v := (-2)) hx hb dX12_anew_7 (by decide) ?_
  exact q_iret X hP hS ⟨rfl, rfl⟩ dX12_anew_9

theorem dX12_drawn_0 : decode cX12_drawn 0 = .ok (.aload_n 0, 1) := by decide +kernel
theorem dX12_drawn_1 : decode cX12_drawn 1 = .ok (.invokevirtual 261, 3) := by decide +kernel
theorem dX12_drawn_4 : decode cX12_drawn 4 = .ok (.ifCond .eq 22, 3) := by decide +kernel
theorem dX12_drawn_26 : decode cX12_drawn 26 = .ok (.bipush (-2), 2) := by decide +kernel
theorem dX12_drawn_28 : decode cX12_drawn 28 = .ok (.ireturn, 1) := by decide +kernel
def vX12_drawn : List Cond := .code yX12_drawn cX12_drawn 5 (some .int) :: ([.methodLink RX12 261 yX12_isStreet, .instanceMethod yX12_isStreet, .selects RX12 yX12_isStreet yX12_isStreet, .initialized RX12, .code yX12_isStreet cX12_isStreet 1 (some .boolean), .fieldLink RX12 9 "IcicleClockModel" "world" "[I"] ++ wsX120)
theorem iX12_drawn_12 : ∀ w ∈ wsX120, w ∈ vX12_drawn := fun _ h => List.mem_cons_of_mem _ (List.mem_append_right _ h)
set_option maxRecDepth 20000 in
theorem gg_X12_drawn_X12_isStreet : GoodIn vX12_drawn (wsV RX12 261 RX12 yX12_isStreet vX12_isStreet) := goodIn_r _ [1, 2, 3, 4, 5, 6, 7, 8, 9, 10, 11, 12, 13, 14, 15, 16, 17, 18, 19, 20, 21, 22, 23, 24, 25, 26, 27, 28, 29, 30, 31, 32, 33, 34, 35, 36, 37, 38, 39, 40, 41, 42, 43, 44, 45, 46] (by decide +kernel) (by decide +kernel)
set_option maxHeartbeats 4000000 in
set_option maxRecDepth 100000 in
theorem m_drawn (l : Launch) (D : va_G) (cs : Nat → ClassId) (ad : Nat → Nat) (hj : wJ ad nW) (g : Nat → va_E) (vs : Int32) (vw : Int32) (h197 : g 197 = .inr (12, [.int 0, .ref (ad 198), .ref (ad 199), .ref (ad 200), .ref (ad 201), .int 0, .ref (ad 202), .int 0, .int 0, .int 0, .int 0, .int 0, .int 0, .int (-1), .ref (ad 203), .ref (ad 204), .ref (ad 205), .int 0, .int 0, .ref (ad 206), .ref (ad 207), .ref (ad 208), .int 0, .int 0, .int 0, .int 0, .int 0, .ref (ad 209), .ref (ad 210), .ref (ad 211), .long 0, .long 0, .ref (ad 212), .ref (ad 213), .int 0, .int 0, .ref (ad 214), .ref (ad 215), .ref (ad 216), .ref (ad 217)])) (h198 : g 198 = .inl (cs 1, 118, .inl (fun _ => 0))) : cI l yX12_drawn vX12_drawn { frames := 1, cells := 0, slots := 0, locals := 20 } D cs ad nW [.ref (ad 197), .int vs, .int vw] g (fun r g2 => r = (-2) ∧ g2 = g) := by
  refine Met.start (cc := cX12_drawn) (maxL := 5) (ret := (some .int)) RX12 rfl (by decide) rfl (Nat.le_of_ble_eq_true rfl) ?_
  intro p e s m below meth c ls X hP hl
  have hx := X.1
  have hb := X.2.1
  have hS : va_S (wA ad nW) s.heap s.heap [] := va_S.rf
  have hA : ∀ i, i < nW → wA ad nW (ad i) := fun i h => ⟨i, h, rfl⟩
  have hl : lv_has ls 5 [(0, .ref (ad 197)), (1, .int vs), (2, .int vw)] := hl
  refine lv_aload_n hx hb dX12_drawn_0 rfl (lv_at hl 0 rfl) ?_
  refine q_calli (q := (RX12, TX12, 40)) (As := []) (rest := []) X (m_isStreet l D cs ad hj g  h197 h198) (cwV 0 X.2.2.2.2.1 gg_X12_drawn_X12_isStreet rfl rfl rfl (by decide +kernel) ⟨Nat.le_of_ble_eq_true rfl, Nat.le_of_ble_eq_true rfl⟩) (by decide) h197 rfl hP hA hS rfl hl.1 rfl (Nat.le_of_ble_eq_true rfl) dX12_drawn_1 ⟨Nat.le_of_ble_eq_true rfl, Nat.le_of_ble_eq_true rfl⟩ (fun r_3 g_2 H locs hw_1 hP hS => ?_)
  obtain ⟨hw_1a, hw_1b⟩ := hw_1
  subst hw_1a
  rw [hw_1b] at hP
  refine lv_if_eq (tgt := 26) hx hb dX12_drawn_4 (by decide) (fun _ => ?_) (fun h => absurd h (by decide))
  refine lv_bipush (v := (-2)) hx hb dX12_drawn_26 (by decide) ?_
  exact q_iret X hP hS ⟨rfl, rfl⟩ dX12_drawn_28

theorem dX12_luck_0 : decode cX12_luck 0 = .ok (.iload_n 1, 1) := by decide +kernel
theorem dX12_luck_1 : decode cX12_luck 1 = .ok (.invokestatic 418, 3) := by decide +kernel
theorem dX12_luck_4 : decode cX12_luck 4 = .ok (.ifCond .eq 33, 3) := by decide +kernel
theorem dX12_luck_37 : decode cX12_luck 37 = .ok (.bipush (-2), 2) := by decide +kernel
theorem dX12_luck_39 : decode cX12_luck 39 = .ok (.ireturn, 1) := by decide +kernel
theorem dX12_luck_7 : decode cX12_luck 7 = .ok (.iload_n 2, 1) := by decide +kernel
theorem dX12_luck_8 : decode cX12_luck 8 = .ok (.i2l, 1) := by decide +kernel
theorem dX12_luck_9 : decode cX12_luck 9 = .ok (.lconst 1, 1) := by decide +kernel
theorem dX12_luck_10 : decode cX12_luck 10 = .ok (.ldc2_w 425, 3) := by decide +kernel
theorem dX12_luck_13 : decode cX12_luck 13 = .ok (.invokestatic 82, 3) := by decide +kernel
theorem dX12_luck_16 : decode cX12_luck 16 = .ok (.ifCond .eq 21, 3) := by decide +kernel
theorem dX12_luck_19 : decode cX12_luck 19 = .ok (.aload_n 0, 1) := by decide +kernel
theorem dX12_luck_20 : decode cX12_luck 20 = .ok (.iload_n 3, 1) := by decide +kernel
theorem dX12_luck_21 : decode cX12_luck 21 = .ok (.i2l, 1) := by decide +kernel
theorem dX12_luck_22 : decode cX12_luck 22 = .ok (.invokevirtual 221, 3) := by decide +kernel
theorem dX12_luck_25 : decode cX12_luck 25 = .ok (.ifCond .eq 12, 3) := by decide +kernel
def vX12_luck : List Cond := .code yX12_luck cX12_luck 7 (some .int) :: ([.methodLink RX12 418 yX12_isSeed, .static yX12_isSeed, .initialized RX12, .code yX12_isSeed cX12_isSeed 1 (some .boolean), .constantLong RX12 416 (2000000000), .methodLink RX12 82 yX12_in, .static yX12_in, .code yX12_in cX12_in 6 (some .boolean), .constantLong RX12 425 (20), .methodLink RX12 221 yX12_isIcicle, .instanceMethod yX12_isIcicle, .selects RX12 yX12_isIcicle yX12_isIcicle, .code yX12_isIcicle cX12_isIcicle 3 (some .boolean), .fieldLink RX12 9 "IcicleClockModel" "world" "[I"] ++ wsX120)
theorem iX12_luck_12 : ∀ w ∈ wsX120, w ∈ vX12_luck := fun _ h => List.mem_cons_of_mem _ (List.mem_append_right _ h)
set_option maxRecDepth 20000 in
theorem gg_X12_luck_X12_isSeed : GoodIn vX12_luck (wsS RX12 418 yX12_isSeed vX12_isSeed) := goodIn_r _ [1, 2, 3, 4, 5, 6, 7, 3, 8] (by decide +kernel) (by decide +kernel)
set_option maxRecDepth 20000 in
theorem gg_X12_luck_X12_in : GoodIn vX12_luck (wsS RX12 82 yX12_in vX12_in) := goodIn_r _ [6, 7, 3, 8] (by decide +kernel) (by decide +kernel)
set_option maxRecDepth 20000 in
theorem gg_X12_luck_X12_isIcicle : GoodIn vX12_luck (wsV RX12 221 RX12 yX12_isIcicle vX12_isIcicle) := goodIn_r _ [10, 11, 12, 3, 13, 14, 6, 7, 3, 8, 15, 16, 17, 18, 19, 20, 21, 22, 23, 24, 25, 26, 27, 28, 29, 30, 31, 32, 33, 34, 35, 36, 37, 38, 39, 40, 41, 42, 43, 44, 45, 46, 47, 48, 49, 50, 51, 52, 53, 54] (by decide +kernel) (by decide +kernel)
set_option maxHeartbeats 4000000 in
set_option maxRecDepth 100000 in
theorem m_luck (l : Launch) (D : va_G) (cs : Nat → ClassId) (ad : Nat → Nat) (hj : wJ ad nW) (g : Nat → va_E) (vs : Int32) (vn : Int32) (vi : Int32) (vd : Int32) (h197 : g 197 = .inr (12, [.int 0, .ref (ad 198), .ref (ad 199), .ref (ad 200), .ref (ad 201), .int 0, .ref (ad 202), .int 0, .int 0, .int 0, .int 0, .int 0, .int 0, .int (-1), .ref (ad 203), .ref (ad 204), .ref (ad 205), .int 0, .int 0, .ref (ad 206), .ref (ad 207), .ref (ad 208), .int 0, .int 0, .int 0, .int 0, .int 0, .ref (ad 209), .ref (ad 210), .ref (ad 211), .long 0, .long 0, .ref (ad 212), .ref (ad 213), .int 0, .int 0, .ref (ad 214), .ref (ad 215), .ref (ad 216), .ref (ad 217)])) (h198 : g 198 = .inl (cs 1, 118, .inl (fun _ => 0))) : cI l yX12_luck vX12_luck { frames := 2, cells := 0, slots := 0, locals := 47 } D cs ad nW [.ref (ad 197), .int vs, .int vn, .int vi, .int vd] g (fun r g2 => r = (-2) ∧ g2 = g) := by
  refine Met.start (cc := cX12_luck) (maxL := 7) (ret := (some .int)) RX12 rfl (by decide) rfl (Nat.le_of_ble_eq_true rfl) ?_
  intro p e s m below meth c ls X hP hl
  have hx := X.1
  have hb := X.2.1
  have hS : va_S (wA ad nW) s.heap s.heap [] := va_S.rf
  have hA : ∀ i, i < nW → wA ad nW (ad i) := fun i h => ⟨i, h, rfl⟩
  have hl : lv_has ls 7 [(0, .ref (ad 197)), (1, .int vs), (2, .int vn), (3, .int vi), (4, .int vd)] := hl
  refine lv_iload_n hx hb dX12_luck_0 rfl (lv_at hl 1 rfl) ?_
  refine q_callSi (As := [.int vs]) (rest := []) X (m_isSeed l D cs ad hj g vs ) (cwS 1 X.2.2.2.2.1 gg_X12_luck_X12_isSeed rfl rfl rfl (by decide +kernel) ⟨Nat.le_of_ble_eq_true rfl, Nat.le_of_ble_eq_true rfl⟩) hP hA hS rfl hl.1 rfl (Nat.le_of_ble_eq_true rfl) dX12_luck_1 ⟨Nat.le_of_ble_eq_true rfl, Nat.le_of_ble_eq_true rfl⟩ (fun r_3 g_2 H locs hw_1 hP hS => ?_)
  obtain ⟨hw_1b, hw_1⟩ := hw_1
  rw [hw_1b] at hP
  refine lv_if_eq (tgt := 37) hx hb dX12_luck_4 (by decide) (fun hc_4 => ?_) (fun hc_4 => ?_)
  · refine lv_bipush (v := (-2)) hx hb dX12_luck_37 (by decide) ?_
    exact q_iret X hP hS ⟨rfl, rfl⟩ dX12_luck_39
  · refine lv_iload_n hx hb dX12_luck_7 rfl (lv_at hl 2 rfl) ?_
    refine lv_i2l (v := vn.toInt64) hx hb dX12_luck_8 rfl ?_
    refine lv_lconst (v := 1) hx hb dX12_luck_9 (by decide) ?_
    refine lv_ldc2 (v := 20) hx hb X.2.2.2.2.2.1 (X.2.2.2.2.1 _ (List.mem_of_getElem? (i := 9) rfl)) dX12_luck_10 ?_
    refine q_callSi (As := [.long (vn.toInt64), .long 1, .long 20]) (rest := []) X (m_in l D cs ad hj g (vn.toInt64) 1 20 ) (cwS 3 X.2.2.2.2.1 gg_X12_luck_X12_in rfl rfl rfl (by decide +kernel) ⟨Nat.le_of_ble_eq_true rfl, Nat.le_of_ble_eq_true rfl⟩) hP hA hS rfl hl.1 rfl (Nat.le_of_ble_eq_true rfl) dX12_luck_13 ⟨Nat.le_of_ble_eq_true rfl, Nat.le_of_ble_eq_true rfl⟩ (fun r_6 g_5 H locs hw_4 hP hS => ?_)
    obtain ⟨hw_4b, hw_4⟩ := hw_4
    rw [hw_4b] at hP
    refine lv_if_eq (tgt := 37) hx hb dX12_luck_16 (by decide) (fun hc_16 => ?_) (fun hc_16 => ?_)
    · refine lv_bipush (v := (-2)) hx hb dX12_luck_37 (by decide) ?_
      exact q_iret X hP hS ⟨rfl, rfl⟩ dX12_luck_39
    · refine lv_aload_n hx hb dX12_luck_19 rfl (lv_at hl 0 rfl) ?_
      refine lv_iload_n hx hb dX12_luck_20 rfl (lv_at hl 3 rfl) ?_
      refine lv_i2l (v := vi.toInt64) hx hb dX12_luck_21 rfl ?_
      refine q_calli (q := (RX12, TX12, 40)) (As := [.long (vi.toInt64)]) (rest := []) X (m_isIcicle l D cs ad hj g (vi.toInt64) h197 h198) (cwV 1 X.2.2.2.2.1 gg_X12_luck_X12_isIcicle rfl rfl rfl (by decide +kernel) ⟨Nat.le_of_ble_eq_true rfl, Nat.le_of_ble_eq_true rfl⟩) (by decide) h197 rfl hP hA hS rfl hl.1 rfl (Nat.le_of_ble_eq_true rfl) dX12_luck_22 ⟨Nat.le_of_ble_eq_true rfl, Nat.le_of_ble_eq_true rfl⟩ (fun r_9 g_8 H locs hw_7 hP hS => ?_)
      obtain ⟨hw_7a, hw_7b⟩ := hw_7
      subst hw_7a
      rw [hw_7b] at hP
      refine lv_if_eq (tgt := 37) hx hb dX12_luck_25 (by decide) (fun _ => ?_) (fun h => absurd h (by decide))
      refine lv_bipush (v := (-2)) hx hb dX12_luck_37 (by decide) ?_
      exact q_iret X hP hS ⟨rfl, rfl⟩ dX12_luck_39

theorem dX12_hung_0 : decode cX12_hung 0 = .ok (.aload_n 0, 1) := by decide +kernel
theorem dX12_hung_1 : decode cX12_hung 1 = .ok (.iload_n 1, 1) := by decide +kernel
theorem dX12_hung_2 : decode cX12_hung 2 = .ok (.i2l, 1) := by decide +kernel
theorem dX12_hung_3 : decode cX12_hung 3 = .ok (.invokevirtual 221, 3) := by decide +kernel
theorem dX12_hung_6 : decode cX12_hung 6 = .ok (.ifCond .eq 15, 3) := by decide +kernel
theorem dX12_hung_21 : decode cX12_hung 21 = .ok (.bipush (-2), 2) := by decide +kernel
theorem dX12_hung_23 : decode cX12_hung 23 = .ok (.ireturn, 1) := by decide +kernel
def vX12_hung : List Cond := .code yX12_hung cX12_hung 4 (some .int) :: ([.methodLink RX12 221 yX12_isIcicle, .instanceMethod yX12_isIcicle, .selects RX12 yX12_isIcicle yX12_isIcicle, .initialized RX12, .code yX12_isIcicle cX12_isIcicle 3 (some .boolean), .fieldLink RX12 9 "IcicleClockModel" "world" "[I", .methodLink RX12 82 yX12_in, .static yX12_in, .code yX12_in cX12_in 6 (some .boolean)] ++ wsX120)
theorem iX12_hung_12 : ∀ w ∈ wsX120, w ∈ vX12_hung := fun _ h => List.mem_cons_of_mem _ (List.mem_append_right _ h)
set_option maxRecDepth 20000 in
theorem gg_X12_hung_X12_isIcicle : GoodIn vX12_hung (wsV RX12 221 RX12 yX12_isIcicle vX12_isIcicle) := goodIn_r _ [1, 2, 3, 4, 5, 6, 7, 8, 4, 9, 10, 11, 12, 13, 14, 15, 16, 17, 18, 19, 20, 21, 22, 23, 24, 25, 26, 27, 28, 29, 30, 31, 32, 33, 34, 35, 36, 37, 38, 39, 40, 41, 42, 43, 44, 45, 46, 47, 48, 49] (by decide +kernel) (by decide +kernel)
set_option maxHeartbeats 4000000 in
set_option maxRecDepth 100000 in
theorem m_hung (l : Launch) (D : va_G) (cs : Nat → ClassId) (ad : Nat → Nat) (hj : wJ ad nW) (g : Nat → va_E) (vi : Int32) (vn : Int32) (h197 : g 197 = .inr (12, [.int 0, .ref (ad 198), .ref (ad 199), .ref (ad 200), .ref (ad 201), .int 0, .ref (ad 202), .int 0, .int 0, .int 0, .int 0, .int 0, .int 0, .int (-1), .ref (ad 203), .ref (ad 204), .ref (ad 205), .int 0, .int 0, .ref (ad 206), .ref (ad 207), .ref (ad 208), .int 0, .int 0, .int 0, .int 0, .int 0, .ref (ad 209), .ref (ad 210), .ref (ad 211), .long 0, .long 0, .ref (ad 212), .ref (ad 213), .int 0, .int 0, .ref (ad 214), .ref (ad 215), .ref (ad 216), .ref (ad 217)])) (h198 : g 198 = .inl (cs 1, 118, .inl (fun _ => 0))) : cI l yX12_hung vX12_hung { frames := 2, cells := 0, slots := 0, locals := 47 } D cs ad nW [.ref (ad 197), .int vi, .int vn] g (fun r g2 => r = (-2) ∧ g2 = g) := by
  refine Met.start (cc := cX12_hung) (maxL := 4) (ret := (some .int)) RX12 rfl (by decide) rfl (Nat.le_of_ble_eq_true rfl) ?_
  intro p e s m below meth c ls X hP hl
  have hx := X.1
  have hb := X.2.1
  have hS : va_S (wA ad nW) s.heap s.heap [] := va_S.rf
  have hA : ∀ i, i < nW → wA ad nW (ad i) := fun i h => ⟨i, h, rfl⟩
  have hl : lv_has ls 4 [(0, .ref (ad 197)), (1, .int vi), (2, .int vn)] := hl
  refine lv_aload_n hx hb dX12_hung_0 rfl (lv_at hl 0 rfl) ?_
  refine lv_iload_n hx hb dX12_hung_1 rfl (lv_at hl 1 rfl) ?_
  refine lv_i2l (v := vi.toInt64) hx hb dX12_hung_2 rfl ?_
  refine q_calli (q := (RX12, TX12, 40)) (As := [.long (vi.toInt64)]) (rest := []) X (m_isIcicle l D cs ad hj g (vi.toInt64) h197 h198) (cwV 1 X.2.2.2.2.1 gg_X12_hung_X12_isIcicle rfl rfl rfl (by decide +kernel) ⟨Nat.le_of_ble_eq_true rfl, Nat.le_of_ble_eq_true rfl⟩) (by decide) h197 rfl hP hA hS rfl hl.1 rfl (Nat.le_of_ble_eq_true rfl) dX12_hung_3 ⟨Nat.le_of_ble_eq_true rfl, Nat.le_of_ble_eq_true rfl⟩ (fun r_3 g_2 H locs hw_1 hP hS => ?_)
  obtain ⟨hw_1a, hw_1b⟩ := hw_1
  subst hw_1a
  rw [hw_1b] at hP
  refine lv_if_eq (tgt := 21) hx hb dX12_hung_6 (by decide) (fun _ => ?_) (fun h => absurd h (by decide))
  refine lv_bipush (v := (-2)) hx hb dX12_hung_21 (by decide) ?_
  exact q_iret X hP hS ⟨rfl, rfl⟩ dX12_hung_23
