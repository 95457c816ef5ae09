theorem in_0n {n r : Int32} (h : (r = 1 ∧ 0 ≤ n.toInt64 ∧ n.toInt64 ≤ 0) ∨ (r = 0 ∧ ¬ (0 ≤ n.toInt64 ∧ n.toInt64 ≤ 0))) (hr : r = 0) : ¬ n = 0 := fun e => by
  subst e
  rcases h with h | h
  · exact absurd (h.1.symm.trans hr) (by decide)
  · exact h.2 (by decide)
theorem in_0y {n r : Int32} (h : (r = 1 ∧ 0 ≤ n.toInt64 ∧ n.toInt64 ≤ 0) ∨ (r = 0 ∧ ¬ (0 ≤ n.toInt64 ∧ n.toInt64 ≤ 0))) (hr : ¬ r = 0) : n = 0 := by
  rcases h with h | h
  · exact Int32.le_antisymm ((w_le n 0).mp h.2.2) ((w_le 0 n).mp h.2.1)
  · exact absurd h.1 hr
theorem in_3y {k r : Int32} (h : (r = 1 ∧ 0 ≤ k.toInt64 ∧ k.toInt64 ≤ 2) ∨ (r = 0 ∧ ¬ (0 ≤ k.toInt64 ∧ k.toInt64 ≤ 2))) (hr : ¬ r = 0) : ¬ k < 0 ∧ k < 3 := by
  rcases in_3 h with h | h
  · exact h.2
  · exact absurd h.1 hr
theorem in_3n {k r : Int32} (h : (r = 1 ∧ 0 ≤ k.toInt64 ∧ k.toInt64 ≤ 2) ∨ (r = 0 ∧ ¬ (0 ≤ k.toInt64 ∧ k.toInt64 ≤ 2))) (hr : r = 0) : ¬ (¬ k < 0 ∧ k < 3) := by
  rcases in_3 h with h | h
  · exact absurd (h.1.symm.trans hr) (by decide)
  · exact h.2
theorem in_3b {k r : Int32} (h : (r = 1 ∧ 0 ≤ k.toInt64 ∧ k.toInt64 ≤ 2) ∨ (r = 0 ∧ ¬ (0 ≤ k.toInt64 ∧ k.toInt64 ≤ 2))) (hr : r = 0) : -2 = aBack k := by
  unfold aBack
  by_cases h1 : k < 0
  · rw [if_pos h1]
  · rw [if_neg h1, if_neg (fun h2 => in_3n h hr ⟨h1, h2⟩)]
theorem in_3i {k r : Int32} (h : (r = 1 ∧ 0 ≤ k.toInt64 ∧ k.toInt64 ≤ 2) ∨ (r = 0 ∧ ¬ (0 ≤ k.toInt64 ∧ k.toInt64 ≤ 2))) (hr : r = 0) : -2 = aImg k := by
  unfold aImg
  by_cases h1 : k < 0
  · rw [if_pos h1]
  · rw [if_neg h1, if_neg (fun h2 => in_3n h hr ⟨h1, h2⟩)]
theorem dX12_end_0 : decode cX12_end 0 = .ok (.iload_n 1, 1) := by decide +kernel
theorem dX12_end_1 : decode cX12_end 1 = .ok (.i2l, 1) := by decide +kernel
theorem dX12_end_2 : decode cX12_end 2 = .ok (.lconst 0, 1) := by decide +kernel
theorem dX12_end_3 : decode cX12_end 3 = .ok (.aload_n 0, 1) := by decide +kernel
theorem dX12_end_4 : decode cX12_end 4 = .ok (.getfield 86, 3) := by decide +kernel
theorem dX12_end_7 : decode cX12_end 7 = .ok (.i2l, 1) := by decide +kernel
theorem dX12_end_8 : decode cX12_end 8 = .ok (.invokestatic 82, 3) := by decide +kernel
theorem dX12_end_11 : decode cX12_end 11 = .ok (.ifCond .ne 5, 3) := by decide +kernel
theorem dX12_end_16 : decode cX12_end 16 = .ok (.aload_n 0, 1) := by decide +kernel
theorem dX12_end_17 : decode cX12_end 17 = .ok (.iload_n 1, 1) := by decide +kernel
theorem dX12_end_18 : decode cX12_end 18 = .ok (.putfield 86, 3) := by decide +kernel
theorem dX12_end_21 : decode cX12_end 21 = .ok (.iload_n 1, 1) := by decide +kernel
theorem dX12_end_22 : decode cX12_end 22 = .ok (.ireturn, 1) := by decide +kernel
theorem dX12_end_14 : decode cX12_end 14 = .ok (.iconst (-1), 1) := by decide +kernel
theorem dX12_end_15 : decode cX12_end 15 = .ok (.ireturn, 1) := by decide +kernel
def vX12_end : List Cond := .code yX12_end cX12_end 2 (some .int) :: ([.fieldLink RX12 86 "IcicleClockModel" "taped" "I", .methodLink RX12 82 yX12_in, .static yX12_in, .initialized RX12, .code yX12_in cX12_in 6 (some .boolean)] ++ wsX120)
theorem iX12_end_12 : ∀ w ∈ wsX120, w ∈ vX12_end := fun _ h => List.mem_cons_of_mem _ (List.mem_append_right _ h)
set_option maxRecDepth 20000 in
theorem gg_X12_end_X12_in : GoodIn vX12_end (wsS RX12 82 yX12_in vX12_in) := goodIn_r _ [2, 3, 4, 5] (by decide +kernel) (by decide +kernel)
set_option maxHeartbeats 4000000 in
set_option maxRecDepth 100000 in
theorem m_end (l : Launch) (D : va_G) (cs : Nat → ClassId) (ad : Nat → Nat) (hj : wJ ad nW) (g : Nat → va_E) (vn : Int32) (h197 : g 197 = .inr (12, [.int 0, .ref (ad 198), .ref (ad 199), .ref (ad 200), .ref (ad 201), .int 0, .ref (ad 202), .int 0, .int 0, .int 0, .int 0, .int 0, .int 0, .int (-1), .ref (ad 203), .ref (ad 204), .ref (ad 205), .int 0, .int 0, .ref (ad 206), .ref (ad 207), .ref (ad 208), .int 0, .int 0, .int 0, .int 0, .int 0, .ref (ad 209), .ref (ad 210), .ref (ad 211), .long 0, .long 0, .ref (ad 212), .ref (ad 213), .int 0, .int 0, .ref (ad 214), .ref (ad 215), .ref (ad 216), .ref (ad 217)])) : cI l yX12_end vX12_end { frames := 1, cells := 0, slots := 0, locals := 25 } D cs ad nW [.ref (ad 197), .int vn] g (fun r g2 => r = aEnd vn) := by
  refine Met.start (cc := cX12_end) (maxL := 2) (ret := (some .int)) RX12 rfl (by decide) rfl (Nat.le_of_ble_eq_true rfl) ?_
  intro p e s m below meth c ls X hP hl
  have hx := X.1
  have hb := X.2.1
  have hS : va_S (wA ad nW) s.heap s.heap [] := va_S.rf
  have hA : ∀ i, i < nW → wA ad nW (ad i) := fun i h => ⟨i, h, rfl⟩
  have hl : lv_has ls 2 [(0, .ref (ad 197)), (1, .int vn)] := hl
  refine lv_iload_n hx hb dX12_end_0 rfl (lv_at hl 1 rfl) ?_
  refine lv_i2l (v := vn.toInt64) hx hb dX12_end_1 rfl ?_
  refine lv_lconst (v := 0) hx hb dX12_end_2 (by decide) ?_
  refine lv_aload_n hx hb dX12_end_3 rfl (lv_at hl 0 rfl) ?_
  refine q_get X iX12_end_12 hP (by decide) h197 rfl 5 (by decide) (List.mem_of_getElem? (i := 1) rfl) (v := .int 0) rfl dX12_end_4 ?_
  refine lv_i2l (v := 0) hx hb dX12_end_7 (by decide) ?_
  refine q_callSi (As := [.long (vn.toInt64), .long 0, .long 0]) (rest := []) X (m_in l D cs ad hj g (vn.toInt64) 0 0 ) (cwS 3 X.2.2.2.2.1 gg_X12_end_X12_in rfl rfl rfl (by decide +kernel) ⟨Nat.le_of_ble_eq_true rfl, Nat.le_of_ble_eq_true rfl⟩) hP hA hS rfl hl.1 rfl (Nat.le_of_ble_eq_true rfl) dX12_end_8 ⟨Nat.le_of_ble_eq_true rfl, Nat.le_of_ble_eq_true rfl⟩ (fun r_3 g_2 H locs hw_1 hP hS => ?_)
  obtain ⟨hw_1b, hw_1⟩ := hw_1
  rw [hw_1b] at hP
  refine lv_if_ne (tgt := 16) hx hb dX12_end_11 (by decide) (fun hc_11 => ?_) (fun hc_11 => ?_)
  · refine lv_aload_n hx hb dX12_end_16 rfl (lv_at hl 0 rfl) ?_
    refine lv_iload_n hx hb dX12_end_17 rfl (lv_at hl 1 rfl) ?_
    refine q_put X iX12_end_12 tyX12 tyX12_ok nmX12 hP hj hA hS (by decide) h197 rfl 5 (by decide) (List.mem_of_getElem? (i := 1) rfl) rfl (ty := .int) (v := .int vn) (by decide +kernel) rfl rfl (Nat.le_of_ble_eq_true rfl) dX12_end_18 (fun H locs hP hS => ?_)
    generalize eg_4 : va_up g 197 _ = g_4 at hP
    have h_5 : g_4 197 = .inr (12, [.int 0, .ref (ad 198), .ref (ad 199), .ref (ad 200), .ref (ad 201), .int vn, .ref (ad 202), .int 0, .int 0, .int 0, .int 0, .int 0, .int 0, .int (-1), .ref (ad 203), .ref (ad 204), .ref (ad 205), .int 0, .int 0, .ref (ad 206), .ref (ad 207), .ref (ad 208), .int 0, .int 0, .int 0, .int 0, .int 0, .ref (ad 209), .ref (ad 210), .ref (ad 211), .long 0, .long 0, .ref (ad 212), .ref (ad 213), .int 0, .int 0, .ref (ad 214), .ref (ad 215), .ref (ad 216), .ref (ad 217)]) := by rw [← eg_4]; exact va_up_self _ _ _
    refine lv_iload_n hx hb dX12_end_21 rfl (lv_at hl 1 rfl) ?_
    exact q_iret X hP hS (by rw [in_0y hw_1 hc_11]; exact (if_pos rfl).symm) dX12_end_22
  · refine lv_iconst (v := (-1)) hx hb dX12_end_14 (by decide) ?_
    exact q_iret X hP hS (aEnd_ne (in_0n hw_1 hc_11)) dX12_end_15

theorem dX12_fault_0 : decode cX12_fault 0 = .ok (.iload_n 1, 1) := by decide +kernel
theorem dX12_fault_1 : decode cX12_fault 1 = .ok (.ifCond .ne 10, 3) := by decide +kernel
theorem dX12_fault_11 : decode cX12_fault 11 = .ok (.iload_n 1, 1) := by decide +kernel
theorem dX12_fault_12 : decode cX12_fault 12 = .ok (.iconst 1, 1) := by decide +kernel
theorem dX12_fault_13 : decode cX12_fault 13 = .ok (.if_icmp .ne 10, 3) := by decide +kernel
theorem dX12_fault_23 : decode cX12_fault 23 = .ok (.iconst (-1), 1) := by decide +kernel
theorem dX12_fault_24 : decode cX12_fault 24 = .ok (.ireturn, 1) := by decide +kernel
theorem dX12_fault_16 : decode cX12_fault 16 = .ok (.aload_n 0, 1) := by decide +kernel
theorem dX12_fault_17 : decode cX12_fault 17 = .ok (.getfield 27, 3) := by decide +kernel
theorem dX12_fault_20 : decode cX12_fault 20 = .ok (.goto 4, 3) := by decide +kernel
theorem dX12_fault_4 : decode cX12_fault 4 = .ok (.aload_n 0, 1) := by decide +kernel
theorem dX12_fault_5 : decode cX12_fault 5 = .ok (.getfield 123, 3) := by decide +kernel
theorem dX12_fault_8 : decode cX12_fault 8 = .ok (.goto 16, 3) := by decide +kernel
def vX12_fault : List Cond := .code yX12_fault cX12_fault 2 (some .int) :: ([.fieldLink RX12 27 "IcicleClockModel" "faultPlace" "I", .fieldLink RX12 123 "IcicleClockModel" "faultKind" "I"] ++ wsX120)
theorem iX12_fault_12 : ∀ w ∈ wsX120, w ∈ vX12_fault := fun _ h => List.mem_cons_of_mem _ (List.mem_append_right _ h)
set_option maxHeartbeats 4000000 in
set_option maxRecDepth 100000 in
theorem m_fault (l : Launch) (D : va_G) (cs : Nat → ClassId) (ad : Nat → Nat) (hj : wJ ad nW) (g : Nat → va_E) (vw : Int32) (h197 : g 197 = .inr (12, [.int 0, .ref (ad 198), .ref (ad 199), .ref (ad 200), .ref (ad 201), .int 0, .ref (ad 202), .int 0, .int 0, .int 0, .int 0, .int 0, .int 0, .int (-1), .ref (ad 203), .ref (ad 204), .ref (ad 205), .int 0, .int 0, .ref (ad 206), .ref (ad 207), .ref (ad 208), .int 0, .int 0, .int 0, .int 0, .int 0, .ref (ad 209), .ref (ad 210), .ref (ad 211), .long 0, .long 0, .ref (ad 212), .ref (ad 213), .int 0, .int 0, .ref (ad 214), .ref (ad 215), .ref (ad 216), .ref (ad 217)])) : cI l yX12_fault vX12_fault { frames := 0, cells := 0, slots := 0, locals := 0 } D cs ad nW [.ref (ad 197), .int vw] g (fun r g2 => r = aEnd vw) := by
  refine Met.start (cc := cX12_fault) (maxL := 2) (ret := (some .int)) RX12 rfl (by decide) rfl (Nat.le_of_ble_eq_true rfl) ?_
  intro p e s m below meth c ls X hP hl
  have hx := X.1
  have hb := X.2.1
  have hS : va_S (wA ad nW) s.heap s.heap [] := va_S.rf
  have hA : ∀ i, i < nW → wA ad nW (ad i) := fun i h => ⟨i, h, rfl⟩
  have hl : lv_has ls 2 [(0, .ref (ad 197)), (1, .int vw)] := hl
  refine lv_iload_n hx hb dX12_fault_0 rfl (lv_at hl 1 rfl) ?_
  refine lv_if_ne (tgt := 11) hx hb dX12_fault_1 (by decide) (fun hc_1 => ?_) (fun hc_1 => ?_)
  · refine lv_iload_n hx hb dX12_fault_11 rfl (lv_at hl 1 rfl) ?_
    refine lv_iconst (v := 1) hx hb dX12_fault_12 (by decide) ?_
    refine lv_icmp_ne (tgt := 23) hx hb dX12_fault_13 (by decide) (fun hc_13 => ?_) (fun hc_13 => ?_)
    · refine lv_iconst (v := (-1)) hx hb dX12_fault_23 (by decide) ?_
      exact q_iret X hP hS (by first | exact aEnd_ne hc_1 | (rw [show vw = 0 from hc_1]; exact (if_pos rfl).symm)) dX12_fault_24
    · refine lv_aload_n hx hb dX12_fault_16 rfl (lv_at hl 0 rfl) ?_
      refine q_get X iX12_fault_12 hP (by decide) h197 rfl 13 (by decide) (List.mem_of_getElem? (i := 1) rfl) (v := .int (-1)) rfl dX12_fault_17 ?_
      refine lv_goto (tgt := 24) hx hb dX12_fault_20 (by decide) ?_
      exact q_iret X hP hS (by first | exact aEnd_ne hc_1 | (rw [show vw = 0 from hc_1]; exact (if_pos rfl).symm)) dX12_fault_24
  · refine lv_aload_n hx hb dX12_fault_4 rfl (lv_at hl 0 rfl) ?_
    refine q_get X iX12_fault_12 hP (by decide) h197 rfl 12 (by decide) (List.mem_of_getElem? (i := 2) rfl) (v := .int 0) rfl dX12_fault_5 ?_
    refine lv_goto (tgt := 24) hx hb dX12_fault_8 (by decide) ?_
    exact q_iret X hP hS (by first | exact aEnd_ne hc_1 | (rw [show vw = 0 from hc_1]; exact (if_pos rfl).symm)) dX12_fault_24

theorem dX12_back_0 : decode cX12_back 0 = .ok (.iload_n 1, 1) := by decide +kernel
theorem dX12_back_1 : decode cX12_back 1 = .ok (.i2l, 1) := by decide +kernel
theorem dX12_back_2 : decode cX12_back 2 = .ok (.lconst 0, 1) := by decide +kernel
theorem dX12_back_3 : decode cX12_back 3 = .ok (.ldc2_w 80, 3) := by decide +kernel
theorem dX12_back_6 : decode cX12_back 6 = .ok (.invokestatic 82, 3) := by decide +kernel
theorem dX12_back_9 : decode cX12_back 9 = .ok (.ifCond .ne 6, 3) := by decide +kernel
theorem dX12_back_15 : decode cX12_back 15 = .ok (.aload_n 0, 1) := by decide +kernel
theorem dX12_back_16 : decode cX12_back 16 = .ok (.getfield 16, 3) := by decide +kernel
theorem dX12_back_19 : decode cX12_back 19 = .ok (.iload_n 1, 1) := by decide +kernel
theorem dX12_back_20 : decode cX12_back 20 = .ok (.baload, 1) := by decide +kernel
theorem dX12_back_21 : decode cX12_back 21 = .ok (.ifCond .ne 6, 3) := by decide +kernel
theorem dX12_back_24 : decode cX12_back 24 = .ok (.bipush (-6), 2) := by decide +kernel
theorem dX12_back_26 : decode cX12_back 26 = .ok (.ireturn, 1) := by decide +kernel
theorem dX12_back_12 : decode cX12_back 12 = .ok (.bipush (-2), 2) := by decide +kernel
theorem dX12_back_14 : decode cX12_back 14 = .ok (.ireturn, 1) := by decide +kernel
def vX12_back : List Cond := .code yX12_back cX12_back 3 (some .int) :: ([.constantLong RX12 80 (2), .methodLink RX12 82 yX12_in, .static yX12_in, .initialized RX12, .code yX12_in cX12_in 6 (some .boolean), .fieldLink RX12 16 "IcicleClockModel" "hasImage" "[Z"] ++ wsX120)
theorem iX12_back_12 : ∀ w ∈ wsX120, w ∈ vX12_back := fun _ h => List.mem_cons_of_mem _ (List.mem_append_right _ h)
set_option maxRecDepth 20000 in
theorem gg_X12_back_X12_in : GoodIn vX12_back (wsS RX12 82 yX12_in vX12_in) := goodIn_r _ [2, 3, 4, 5] (by decide +kernel) (by decide +kernel)
set_option maxHeartbeats 4000000 in
set_option maxRecDepth 100000 in
theorem m_back (l : Launch) (D : va_G) (cs : Nat → ClassId) (ad : Nat → Nat) (hj : wJ ad nW) (g : Nat → va_E) (vk : Int32) (h197 : g 197 = .inr (12, [.int 0, .ref (ad 198), .ref (ad 199), .ref (ad 200), .ref (ad 201), .int 0, .ref (ad 202), .int 0, .int 0, .int 0, .int 0, .int 0, .int 0, .int (-1), .ref (ad 203), .ref (ad 204), .ref (ad 205), .int 0, .int 0, .ref (ad 206), .ref (ad 207), .ref (ad 208), .int 0, .int 0, .int 0, .int 0, .int 0, .ref (ad 209), .ref (ad 210), .ref (ad 211), .long 0, .long 0, .ref (ad 212), .ref (ad 213), .int 0, .int 0, .ref (ad 214), .ref (ad 215), .ref (ad 216), .ref (ad 217)])) (h200 : g 200 = .inl (cs 3, 3, .inl (fun _ => 0))) : cI l yX12_back vX12_back { frames := 1, cells := 0, slots := 0, locals := 25 } D cs ad nW [.ref (ad 197), .int vk] g (fun r g2 => r = aBack vk) := by
  refine Met.start (cc := cX12_back) (maxL := 3) (ret := (some .int)) RX12 rfl (by decide) rfl (Nat.le_of_ble_eq_true rfl) ?_
  intro p e s m below meth c ls X hP hl
  have hx := X.1
  have hb := X.2.1
  have hS : va_S (wA ad nW) s.heap s.heap [] := va_S.rf
  have hA : ∀ i, i < nW → wA ad nW (ad i) := fun i h => ⟨i, h, rfl⟩
  have hl : lv_has ls 3 [(0, .ref (ad 197)), (1, .int vk)] := hl
  refine lv_iload_n hx hb dX12_back_0 rfl (lv_at hl 1 rfl) ?_
  refine lv_i2l (v := vk.toInt64) hx hb dX12_back_1 rfl ?_
  refine lv_lconst (v := 0) hx hb dX12_back_2 (by decide) ?_
  refine lv_ldc2 (v := 2) hx hb X.2.2.2.2.2.1 (X.2.2.2.2.1 _ (List.mem_of_getElem? (i := 1) rfl)) dX12_back_3 ?_
  refine q_callSi (As := [.long (vk.toInt64), .long 0, .long 2]) (rest := []) X (m_in l D cs ad hj g (vk.toInt64) 0 2 ) (cwS 3 X.2.2.2.2.1 gg_X12_back_X12_in rfl rfl rfl (by decide +kernel) ⟨Nat.le_of_ble_eq_true rfl, Nat.le_of_ble_eq_true rfl⟩) hP hA hS rfl hl.1 rfl (Nat.le_of_ble_eq_true rfl) dX12_back_6 ⟨Nat.le_of_ble_eq_true rfl, Nat.le_of_ble_eq_true rfl⟩ (fun r_3 g_2 H locs hw_1 hP hS => ?_)
  obtain ⟨hw_1b, hw_1⟩ := hw_1
  rw [hw_1b] at hP
  refine lv_if_ne (tgt := 15) hx hb dX12_back_9 (by decide) (fun hc_9 => ?_) (fun hc_9 => ?_)
  · rcases in3 (in_3y hw_1 hc_9).1 (in_3y hw_1 hc_9).2 with rfl | rfl | rfl
    · refine lv_aload_n hx hb dX12_back_15 rfl (lv_at hl 0 rfl) ?_
      refine q_get X iX12_back_12 hP (by decide) h197 rfl 3 (by decide) (List.mem_of_getElem? (i := 6) rfl) (v := .ref (ad 200)) rfl dX12_back_16 ?_
      refine lv_iload_n hx hb dX12_back_19 rfl (lv_at hl 1 rfl) ?_
      refine q_zald X hP (by decide) h200 (by unfold vp_in; decide) dX12_back_20 ?_
      refine lv_if_ne (tgt := 27) hx hb dX12_back_21 (by decide) (fun h => absurd h (by decide)) (fun _ => ?_)
      refine lv_bipush (v := (-6)) hx hb dX12_back_24 (by decide) ?_
      exact q_iret X hP hS (by unfold aBack; rfl) dX12_back_26
    · refine lv_aload_n hx hb dX12_back_15 rfl (lv_at hl 0 rfl) ?_
      refine q_get X iX12_back_12 hP (by decide) h197 rfl 3 (by decide) (List.mem_of_getElem? (i := 6) rfl) (v := .ref (ad 200)) rfl dX12_back_16 ?_
      refine lv_iload_n hx hb dX12_back_19 rfl (lv_at hl 1 rfl) ?_
      refine q_zald X hP (by decide) h200 (by unfold vp_in; decide) dX12_back_20 ?_
      refine lv_if_ne (tgt := 27) hx hb dX12_back_21 (by decide) (fun h => absurd h (by decide)) (fun _ => ?_)
      refine lv_bipush (v := (-6)) hx hb dX12_back_24 (by decide) ?_
      exact q_iret X hP hS (by unfold aBack; rfl) dX12_back_26
    · refine lv_aload_n hx hb dX12_back_15 rfl (lv_at hl 0 rfl) ?_
      refine q_get X iX12_back_12 hP (by decide) h197 rfl 3 (by decide) (List.mem_of_getElem? (i := 6) rfl) (v := .ref (ad 200)) rfl dX12_back_16 ?_
      refine lv_iload_n hx hb dX12_back_19 rfl (lv_at hl 1 rfl) ?_
      refine q_zald X hP (by decide) h200 (by unfold vp_in; decide) dX12_back_20 ?_
      refine lv_if_ne (tgt := 27) hx hb dX12_back_21 (by decide) (fun h => absurd h (by decide)) (fun _ => ?_)
      refine lv_bipush (v := (-6)) hx hb dX12_back_24 (by decide) ?_
      exact q_iret X hP hS (by unfold aBack; rfl) dX12_back_26
  · refine lv_bipush (v := (-2)) hx hb dX12_back_12 (by decide) ?_
    exact q_iret X hP hS (in_3b hw_1 hc_9) dX12_back_14

theorem dX12_write_0 : decode cX12_write 0 = .ok (.iload_n 1, 1) := by decide +kernel
theorem dX12_write_1 : decode cX12_write 1 = .ok (.invokestatic 307, 3) := by decide +kernel
theorem dX12_write_4 : decode cX12_write 4 = .ok (.ifCond .ne 6, 3) := by decide +kernel
theorem dX12_write_10 : decode cX12_write 10 = .ok (.aload_n 0, 1) := by decide +kernel
theorem dX12_write_11 : decode cX12_write 11 = .ok (.getfield 65, 3) := by decide +kernel
theorem dX12_write_14 : decode cX12_write 14 = .ok (.iload_n 1, 1) := by decide +kernel
theorem dX12_write_15 : decode cX12_write 15 = .ok (.iaload, 1) := by decide +kernel
theorem dX12_write_16 : decode cX12_write 16 = .ok (.iconst (-1), 1) := by decide +kernel
theorem dX12_write_17 : decode cX12_write 17 = .ok (.if_icmp .ne 6, 3) := by decide +kernel
theorem dX12_write_20 : decode cX12_write 20 = .ok (.bipush (-6), 2) := by decide +kernel
theorem dX12_write_22 : decode cX12_write 22 = .ok (.ireturn, 1) := by decide +kernel
theorem dX12_write_7 : decode cX12_write 7 = .ok (.bipush (-2), 2) := by decide +kernel
theorem dX12_write_9 : decode cX12_write 9 = .ok (.ireturn, 1) := by decide +kernel
def vX12_write : List Cond := .code yX12_write cX12_write 5 (some .int) :: ([.methodLink RX12 307 yX12_isSlot, .static yX12_isSlot, .initialized RX12, .code yX12_isSlot cX12_isSlot 1 (some .boolean), .constantLong RX12 431 (3), .methodLink RX12 82 yX12_in, .static yX12_in, .code yX12_in cX12_in 6 (some .boolean), .fieldLink RX12 65 "IcicleClockModel" "many" "[I"] ++ wsX120)
theorem iX12_write_12 : ∀ w ∈ wsX120, w ∈ vX12_write := fun _ h => List.mem_cons_of_mem _ (List.mem_append_right _ h)
set_option maxRecDepth 20000 in
theorem gg_X12_write_X12_isSlot : GoodIn vX12_write (wsS RX12 307 yX12_isSlot vX12_isSlot) := goodIn_r _ [1, 2, 3, 4, 5, 6, 7, 3, 8] (by decide +kernel) (by decide +kernel)
set_option maxHeartbeats 4000000 in
set_option maxRecDepth 100000 in
theorem m_write (l : Launch) (D : va_G) (cs : Nat → ClassId) (ad : Nat → Nat) (hj : wJ ad nW) (g : Nat → va_E) (vs : Int32) (vi : Int32) (vv : Int64) (h197 : g 197 = .inr (12, [.int 0, .ref (ad 198), .ref (ad 199), .ref (ad 200), .ref (ad 201), .int 0, .ref (ad 202), .int 0, .int 0, .int 0, .int 0, .int 0, .int 0, .int (-1), .ref (ad 203), .ref (ad 204), .ref (ad 205), .int 0, .int 0, .ref (ad 206), .ref (ad 207), .ref (ad 208), .int 0, .int 0, .int 0, .int 0, .int 0, .ref (ad 209), .ref (ad 210), .ref (ad 211), .long 0, .long 0, .ref (ad 212), .ref (ad 213), .int 0, .int 0, .ref (ad 214), .ref (ad 215), .ref (ad 216), .ref (ad 217)])) (h214 : g 214 = .inl (cs 1, 4, .inl mF)) : cI l yX12_write vX12_write { frames := 2, cells := 0, slots := 0, locals := 45 } D cs ad nW [.ref (ad 197), .int vs, .int vi, .long vv] g (fun r g2 => r = aWr vs) := by
  refine Met.start (cc := cX12_write) (maxL := 5) (ret := (some .int)) RX12 rfl (by decide) rfl (Nat.le_of_ble_eq_true rfl) ?_
  intro p e s m below meth c ls X hP hl
  have hx := X.1
  have hb := X.2.1
  have hS : va_S (wA ad nW) s.heap s.heap [] := va_S.rf
  have hA : ∀ i, i < nW → wA ad nW (ad i) := fun i h => ⟨i, h, rfl⟩
  have hl : lv_has ls 5 [(0, .ref (ad 197)), (1, .int vs), (2, .int vi), (3, .long vv)] := hl
  refine lv_iload_n hx hb dX12_write_0 rfl (lv_at hl 1 rfl) ?_
  refine q_callSi (As := [.int vs]) (rest := []) X (m_isSlot l D cs ad hj g vs ) (cwS 1 X.2.2.2.2.1 gg_X12_write_X12_isSlot rfl rfl rfl (by decide +kernel) ⟨Nat.le_of_ble_eq_true rfl, Nat.le_of_ble_eq_true rfl⟩) hP hA hS rfl hl.1 rfl (Nat.le_of_ble_eq_true rfl) dX12_write_1 ⟨Nat.le_of_ble_eq_true rfl, Nat.le_of_ble_eq_true rfl⟩ (fun r_3 g_2 H locs hw_1 hP hS => ?_)
  obtain ⟨hw_1b, hw_1⟩ := hw_1
  rw [hw_1b] at hP
  refine lv_if_ne (tgt := 10) hx hb dX12_write_4 (by decide) (fun hc_4 => ?_) (fun hc_4 => ?_)
  · rcases inS_4 (hw_1.elim (fun q => q.2) (fun q => absurd q.1 hc_4)) with rfl | rfl | rfl | rfl
    · refine lv_aload_n hx hb dX12_write_10 rfl (lv_at hl 0 rfl) ?_
      refine q_get X iX12_write_12 hP (by decide) h197 rfl 36 (by decide) (List.mem_of_getElem? (i := 9) rfl) (v := .ref (ad 214)) rfl dX12_write_11 ?_
      refine lv_iload_n hx hb dX12_write_14 rfl (lv_at hl 1 rfl) ?_
      refine q_iald X hP (by decide) h214 (by unfold vp_in; decide) dX12_write_15 ?_
      refine lv_iconst (v := (-1)) hx hb dX12_write_16 (by decide) ?_
      refine lv_icmp_ne (tgt := 23) hx hb dX12_write_17 (by decide) (fun h => absurd h (by decide)) (fun _ => ?_)
      refine lv_bipush (v := (-6)) hx hb dX12_write_20 (by decide) ?_
      exact q_iret X hP hS (by unfold aWr; rfl) dX12_write_22
    · refine lv_aload_n hx hb dX12_write_10 rfl (lv_at hl 0 rfl) ?_
      refine q_get X iX12_write_12 hP (by decide) h197 rfl 36 (by decide) (List.mem_of_getElem? (i := 9) rfl) (v := .ref (ad 214)) rfl dX12_write_11 ?_
      refine lv_iload_n hx hb dX12_write_14 rfl (lv_at hl 1 rfl) ?_
      refine q_iald X hP (by decide) h214 (by unfold vp_in; decide) dX12_write_15 ?_
      refine lv_iconst (v := (-1)) hx hb dX12_write_16 (by decide) ?_
      refine lv_icmp_ne (tgt := 23) hx hb dX12_write_17 (by decide) (fun h => absurd h (by decide)) (fun _ => ?_)
      refine lv_bipush (v := (-6)) hx hb dX12_write_20 (by decide) ?_
      exact q_iret X hP hS (by unfold aWr; rfl) dX12_write_22
    · refine lv_aload_n hx hb dX12_write_10 rfl (lv_at hl 0 rfl) ?_
      refine q_get X iX12_write_12 hP (by decide) h197 rfl 36 (by decide) (List.mem_of_getElem? (i := 9) rfl) (v := .ref (ad 214)) rfl dX12_write_11 ?_
      refine lv_iload_n hx hb dX12_write_14 rfl (lv_at hl 1 rfl) ?_
      refine q_iald X hP (by decide) h214 (by unfold vp_in; decide) dX12_write_15 ?_
      refine lv_iconst (v := (-1)) hx hb dX12_write_16 (by decide) ?_
      refine lv_icmp_ne (tgt := 23) hx hb dX12_write_17 (by decide) (fun h => absurd h (by decide)) (fun _ => ?_)
      refine lv_bipush (v := (-6)) hx hb dX12_write_20 (by decide) ?_
      exact q_iret X hP hS (by unfold aWr; rfl) dX12_write_22
    · refine lv_aload_n hx hb dX12_write_10 rfl (lv_at hl 0 rfl) ?_
      refine q_get X iX12_write_12 hP (by decide) h197 rfl 36 (by decide) (List.mem_of_getElem? (i := 9) rfl) (v := .ref (ad 214)) rfl dX12_write_11 ?_
      refine lv_iload_n hx hb dX12_write_14 rfl (lv_at hl 1 rfl) ?_
      refine q_iald X hP (by decide) h214 (by unfold vp_in; decide) dX12_write_15 ?_
      refine lv_iconst (v := (-1)) hx hb dX12_write_16 (by decide) ?_
      refine lv_icmp_ne (tgt := 23) hx hb dX12_write_17 (by decide) (fun h => absurd h (by decide)) (fun _ => ?_)
      refine lv_bipush (v := (-6)) hx hb dX12_write_20 (by decide) ?_
      exact q_iret X hP hS (by unfold aWr; rfl) dX12_write_22
  · refine lv_bipush (v := (-2)) hx hb dX12_write_7 (by decide) ?_
    exact q_iret X hP hS (aWr_out (hw_1.elim (fun q => absurd (q.1.symm.trans hc_4) (by decide)) (fun q => q.2))).symm dX12_write_9

theorem dX12_paste_0 : decode cX12_paste 0 = .ok (.iload_n 1, 1) := by decide +kernel
theorem dX12_paste_1 : decode cX12_paste 1 = .ok (.invokestatic 307, 3) := by decide +kernel
theorem dX12_paste_4 : decode cX12_paste 4 = .ok (.ifCond .eq 10, 3) := by decide +kernel
theorem dX12_paste_14 : decode cX12_paste 14 = .ok (.bipush (-2), 2) := by decide +kernel
theorem dX12_paste_16 : decode cX12_paste 16 = .ok (.ireturn, 1) := by decide +kernel
theorem dX12_paste_7 : decode cX12_paste 7 = .ok (.iload_n 3, 1) := by decide +kernel
theorem dX12_paste_8 : decode cX12_paste 8 = .ok (.invokestatic 307, 3) := by decide +kernel
theorem dX12_paste_11 : decode cX12_paste 11 = .ok (.ifCond .ne 6, 3) := by decide +kernel
theorem dX12_paste_17 : decode cX12_paste 17 = .ok (.aload_n 0, 1) := by decide +kernel
theorem dX12_paste_18 : decode cX12_paste 18 = .ok (.getfield 65, 3) := by decide +kernel
theorem dX12_paste_21 : decode cX12_paste 21 = .ok (.iload_n 1, 1) := by decide +kernel
theorem dX12_paste_22 : decode cX12_paste 22 = .ok (.iaload, 1) := by decide +kernel
theorem dX12_paste_23 : decode cX12_paste 23 = .ok (.iconst (-1), 1) := by decide +kernel
theorem dX12_paste_24 : decode cX12_paste 24 = .ok (.if_icmp .eq 13, 3) := by decide +kernel
theorem dX12_paste_37 : decode cX12_paste 37 = .ok (.bipush (-6), 2) := by decide +kernel
theorem dX12_paste_39 : decode cX12_paste 39 = .ok (.ireturn, 1) := by decide +kernel
def vX12_paste : List Cond := .code yX12_paste cX12_paste 7 (some .int) :: ([.methodLink RX12 307 yX12_isSlot, .static yX12_isSlot, .initialized RX12, .code yX12_isSlot cX12_isSlot 1 (some .boolean), .constantLong RX12 431 (3), .methodLink RX12 82 yX12_in, .static yX12_in, .code yX12_in cX12_in 6 (some .boolean), .fieldLink RX12 65 "IcicleClockModel" "many" "[I"] ++ wsX120)
theorem iX12_paste_12 : ∀ w ∈ wsX120, w ∈ vX12_paste := fun _ h => List.mem_cons_of_mem _ (List.mem_append_right _ h)
set_option maxRecDepth 20000 in
theorem gg_X12_paste_X12_isSlot : GoodIn vX12_paste (wsS RX12 307 yX12_isSlot vX12_isSlot) := goodIn_r _ [1, 2, 3, 4, 5, 6, 7, 3, 8] (by decide +kernel) (by decide +kernel)
set_option maxHeartbeats 4000000 in
set_option maxRecDepth 100000 in
theorem m_paste (l : Launch) (D : va_G) (cs : Nat → ClassId) (ad : Nat → Nat) (hj : wJ ad nW) (g : Nat → va_E) (vs : Int32) (vi : Int32) (vt : Int32) (vk : Int32) (vn : Int32) (h197 : g 197 = .inr (12, [.int 0, .ref (ad 198), .ref (ad 199), .ref (ad 200), .ref (ad 201), .int 0, .ref (ad 202), .int 0, .int 0, .int 0, .int 0, .int 0, .int 0, .int (-1), .ref (ad 203), .ref (ad 204), .ref (ad 205), .int 0, .int 0, .ref (ad 206), .ref (ad 207), .ref (ad 208), .int 0, .int 0, .int 0, .int 0, .int 0, .ref (ad 209), .ref (ad 210), .ref (ad 211), .long 0, .long 0, .ref (ad 212), .ref (ad 213), .int 0, .int 0, .ref (ad 214), .ref (ad 215), .ref (ad 216), .ref (ad 217)])) (h214 : g 214 = .inl (cs 1, 4, .inl mF)) : cI l yX12_paste vX12_paste { frames := 2, cells := 0, slots := 0, locals := 45 } D cs ad nW [.ref (ad 197), .int vs, .int vi, .int vt, .int vk, .int vn] g (fun r g2 => r = aPst vs vt) := by
  refine Met.start (cc := cX12_paste) (maxL := 7) (ret := (some .int)) RX12 rfl (by decide) rfl (Nat.le_of_ble_eq_true rfl) ?_
  intro p e s m below meth c ls X hP hl
  have hx := X.1
  have hb := X.2.1
  have hS : va_S (wA ad nW) s.heap s.heap [] := va_S.rf
  have hA : ∀ i, i < nW → wA ad nW (ad i) := fun i h => ⟨i, h, rfl⟩
  have hl : lv_has ls 7 [(0, .ref (ad 197)), (1, .int vs), (2, .int vi), (3, .int vt), (4, .int vk), (5, .int vn)] := hl
  refine lv_iload_n hx hb dX12_paste_0 rfl (lv_at hl 1 rfl) ?_
  refine q_callSi (As := [.int vs]) (rest := []) X (m_isSlot l D cs ad hj g vs ) (cwS 1 X.2.2.2.2.1 gg_X12_paste_X12_isSlot rfl rfl rfl (by decide +kernel) ⟨Nat.le_of_ble_eq_true rfl, Nat.le_of_ble_eq_true rfl⟩) hP hA hS rfl hl.1 rfl (Nat.le_of_ble_eq_true rfl) dX12_paste_1 ⟨Nat.le_of_ble_eq_true rfl, Nat.le_of_ble_eq_true rfl⟩ (fun r_3 g_2 H locs hw_1 hP hS => ?_)
  obtain ⟨hw_1b, hw_1⟩ := hw_1
  rw [hw_1b] at hP
  refine lv_if_eq (tgt := 14) hx hb dX12_paste_4 (by decide) (fun hc_4 => ?_) (fun hc_4 => ?_)
  · refine lv_bipush (v := (-2)) hx hb dX12_paste_14 (by decide) ?_
    exact q_iret X hP hS (by first | exact (aPst_out (hw_1.elim (fun q => absurd (q.1.symm.trans hc_4) (by decide)) (fun q => q.2))).symm | exact ((aPst_in (hw_1.elim (fun q => q.2) (fun q => absurd q.1 hc_4))).trans (aWr_out (hw_4.elim (fun q => absurd (q.1.symm.trans hc_11) (by decide)) (fun q => q.2)))).symm) dX12_paste_16
  · refine lv_iload_n hx hb dX12_paste_7 rfl (lv_at hl 3 rfl) ?_
    refine q_callSi (As := [.int vt]) (rest := []) X (m_isSlot l D cs ad hj g vt ) (cwS 1 X.2.2.2.2.1 gg_X12_paste_X12_isSlot rfl rfl rfl (by decide +kernel) ⟨Nat.le_of_ble_eq_true rfl, Nat.le_of_ble_eq_true rfl⟩) hP hA hS rfl hl.1 rfl (Nat.le_of_ble_eq_true rfl) dX12_paste_8 ⟨Nat.le_of_ble_eq_true rfl, Nat.le_of_ble_eq_true rfl⟩ (fun r_6 g_5 H locs hw_4 hP hS => ?_)
    obtain ⟨hw_4b, hw_4⟩ := hw_4
    rw [hw_4b] at hP
    refine lv_if_ne (tgt := 17) hx hb dX12_paste_11 (by decide) (fun hc_11 => ?_) (fun hc_11 => ?_)
    · rcases inS_4 (hw_1.elim (fun q => q.2) (fun q => absurd q.1 hc_4)) with rfl | rfl | rfl | rfl
      · refine lv_aload_n hx hb dX12_paste_17 rfl (lv_at hl 0 rfl) ?_
        refine q_get X iX12_paste_12 hP (by decide) h197 rfl 36 (by decide) (List.mem_of_getElem? (i := 9) rfl) (v := .ref (ad 214)) rfl dX12_paste_18 ?_
        refine lv_iload_n hx hb dX12_paste_21 rfl (lv_at hl 1 rfl) ?_
        refine q_iald X hP (by decide) h214 (by unfold vp_in; decide) dX12_paste_22 ?_
        refine lv_iconst (v := (-1)) hx hb dX12_paste_23 (by decide) ?_
        refine lv_icmp_eq (tgt := 37) hx hb dX12_paste_24 (by decide) (fun _ => ?_) (fun h => absurd h (by decide))
        refine lv_bipush (v := (-6)) hx hb dX12_paste_37 (by decide) ?_
        exact q_iret X hP hS (by first | (unfold aPst aWr; rfl) | exact ((aPst_in ⟨by decide, by decide⟩).trans (aWr_in (hw_4.elim (fun q => q.2) (fun q => absurd q.1 hc_11)))).symm) dX12_paste_39
      · refine lv_aload_n hx hb dX12_paste_17 rfl (lv_at hl 0 rfl) ?_
        refine q_get X iX12_paste_12 hP (by decide) h197 rfl 36 (by decide) (List.mem_of_getElem? (i := 9) rfl) (v := .ref (ad 214)) rfl dX12_paste_18 ?_
        refine lv_iload_n hx hb dX12_paste_21 rfl (lv_at hl 1 rfl) ?_
        refine q_iald X hP (by decide) h214 (by unfold vp_in; decide) dX12_paste_22 ?_
        refine lv_iconst (v := (-1)) hx hb dX12_paste_23 (by decide) ?_
        refine lv_icmp_eq (tgt := 37) hx hb dX12_paste_24 (by decide) (fun _ => ?_) (fun h => absurd h (by decide))
        refine lv_bipush (v := (-6)) hx hb dX12_paste_37 (by decide) ?_
        exact q_iret X hP hS (by first | (unfold aPst aWr; rfl) | exact ((aPst_in ⟨by decide, by decide⟩).trans (aWr_in (hw_4.elim (fun q => q.2) (fun q => absurd q.1 hc_11)))).symm) dX12_paste_39
      · refine lv_aload_n hx hb dX12_paste_17 rfl (lv_at hl 0 rfl) ?_
        refine q_get X iX12_paste_12 hP (by decide) h197 rfl 36 (by decide) (List.mem_of_getElem? (i := 9) rfl) (v := .ref (ad 214)) rfl dX12_paste_18 ?_
        refine lv_iload_n hx hb dX12_paste_21 rfl (lv_at hl 1 rfl) ?_
        refine q_iald X hP (by decide) h214 (by unfold vp_in; decide) dX12_paste_22 ?_
        refine lv_iconst (v := (-1)) hx hb dX12_paste_23 (by decide) ?_
        refine lv_icmp_eq (tgt := 37) hx hb dX12_paste_24 (by decide) (fun _ => ?_) (fun h => absurd h (by decide))
        refine lv_bipush (v := (-6)) hx hb dX12_paste_37 (by decide) ?_
        exact q_iret X hP hS (by first | (unfold aPst aWr; rfl) | exact ((aPst_in ⟨by decide, by decide⟩).trans (aWr_in (hw_4.elim (fun q => q.2) (fun q => absurd q.1 hc_11)))).symm) dX12_paste_39
      · refine lv_aload_n hx hb dX12_paste_17 rfl (lv_at hl 0 rfl) ?_
        refine q_get X iX12_paste_12 hP (by decide) h197 rfl 36 (by decide) (List.mem_of_getElem? (i := 9) rfl) (v := .ref (ad 214)) rfl dX12_paste_18 ?_
        refine lv_iload_n hx hb dX12_paste_21 rfl (lv_at hl 1 rfl) ?_
        refine q_iald X hP (by decide) h214 (by unfold vp_in; decide) dX12_paste_22 ?_
        refine lv_iconst (v := (-1)) hx hb dX12_paste_23 (by decide) ?_
        refine lv_icmp_eq (tgt := 37) hx hb dX12_paste_24 (by decide) (fun _ => ?_) (fun h => absurd h (by decide))
        refine lv_bipush (v := (-6)) hx hb dX12_paste_37 (by decide) ?_
        exact q_iret X hP hS (by first | (unfold aPst aWr; rfl) | exact ((aPst_in ⟨by decide, by decide⟩).trans (aWr_in (hw_4.elim (fun q => q.2) (fun q => absurd q.1 hc_11)))).symm) dX12_paste_39
    · refine lv_bipush (v := (-2)) hx hb dX12_paste_14 (by decide) ?_
      exact q_iret X hP hS (by first | exact (aPst_out (hw_1.elim (fun q => absurd (q.1.symm.trans hc_4) (by decide)) (fun q => q.2))).symm | exact ((aPst_in (hw_1.elim (fun q => q.2) (fun q => absurd q.1 hc_4))).trans (aWr_out (hw_4.elim (fun q => absurd (q.1.symm.trans hc_11) (by decide)) (fun q => q.2)))).symm) dX12_paste_16
