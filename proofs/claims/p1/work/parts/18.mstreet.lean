theorem dX12_see_0 : decode cX12_see 0 = .ok (.iload_n 1, 1) := by decide +kernel
theorem dX12_see_1 : decode cX12_see 1 = .ok (.aload_n 0, 1) := by decide +kernel
theorem dX12_see_2 : decode cX12_see 2 = .ok (.getfield 89, 3) := by decide +kernel
theorem dX12_see_5 : decode cX12_see 5 = .ok (.if_icmp .ge 16, 3) := by decide +kernel
theorem dX12_see_21 : decode cX12_see 21 = .ok (.iconst (-1), 1) := by decide +kernel
theorem dX12_see_22 : decode cX12_see 22 = .ok (.ireturn, 1) := by decide +kernel
def vX12_see : List Cond := .code yX12_see cX12_see 2 (some .int) :: ([.fieldLink RX12 89 "IcicleClockModel" "size" "I"] ++ wsX120)
theorem iX12_see_12 : ∀ w ∈ wsX120, w ∈ vX12_see := fun _ h => List.mem_cons_of_mem _ (List.mem_append_right _ h)
set_option maxHeartbeats 4000000 in
set_option maxRecDepth 100000 in
theorem m_see (l : Launch) (D : va_G) (cs : Nat → ClassId) (ad : Nat → Nat) (hj : wJ ad nW) (g : Nat → va_E) (h197 : g 197 = .inr (12, [.int 0, .ref (ad 198), .ref (ad 199), .ref (ad 200), .ref (ad 201), .int 0, .ref (ad 202), .int 0, .int 0, .int 0, .int 0, .int 0, .int 0, .int (-1), .ref (ad 203), .ref (ad 204), .ref (ad 205), .int 0, .int 0, .ref (ad 206), .ref (ad 207), .ref (ad 208), .int 0, .int 0, .int 0, .int 0, .int 0, .ref (ad 209), .ref (ad 210), .ref (ad 211), .long 0, .long 0, .ref (ad 212), .ref (ad 213), .int 0, .int 0, .ref (ad 214), .ref (ad 215), .ref (ad 216), .ref (ad 217)])) : cI l yX12_see vX12_see { frames := 0, cells := 0, slots := 0, locals := 0 } D cs ad nW [.ref (ad 197), .int 0] g (fun r g2 => r = (-1) ∧ g2 = g) := by
  refine Met.start (cc := cX12_see) (maxL := 2) (ret := (some .int)) RX12 rfl (by decide) rfl (Nat.le_of_ble_eq_true rfl) ?_
  intro p e s m below meth c ls X hP hl
  have hx := X.1
  have hb := X.2.1
  have hS : va_S (wA ad nW) s.heap s.heap [] := va_S.rf
  have hA : ∀ i, i < nW → wA ad nW (ad i) := fun i h => ⟨i, h, rfl⟩
  have hl : lv_has ls 2 [(0, .ref (ad 197)), (1, .int 0)] := hl
  refine lv_iload_n hx hb dX12_see_0 rfl (lv_at hl 1 rfl) ?_
  refine lv_aload_n hx hb dX12_see_1 rfl (lv_at hl 0 rfl) ?_
  refine q_get X iX12_see_12 hP (by decide) h197 rfl 7 (by decide) (List.mem_of_getElem? (i := 1) rfl) (v := .int 0) rfl dX12_see_2 ?_
  refine lv_icmp_ge (tgt := 21) hx hb dX12_see_5 (by decide) (fun _ => ?_) (fun h => absurd h (by decide))
  refine lv_iconst (v := (-1)) hx hb dX12_see_21 (by decide) ?_
  exact q_iret X hP hS ⟨rfl, rfl⟩ dX12_see_22

theorem dX12_good_0 : decode cX12_good 0 = .ok (.aload_n 0, 1) := by decide +kernel
theorem dX12_good_1 : decode cX12_good 1 = .ok (.getfield 123, 3) := by decide +kernel
theorem dX12_good_4 : decode cX12_good 4 = .ok (.ifCond .ne 7, 3) := by decide +kernel
theorem dX12_good_7 : decode cX12_good 7 = .ok (.iconst 1, 1) := by decide +kernel
theorem dX12_good_8 : decode cX12_good 8 = .ok (.goto 4, 3) := by decide +kernel
theorem dX12_good_12 : decode cX12_good 12 = .ok (.ireturn, 1) := by decide +kernel
def vX12_good : List Cond := .code yX12_good cX12_good 1 (some .boolean) :: ([.fieldLink RX12 123 "IcicleClockModel" "faultKind" "I"] ++ wsX120)
theorem iX12_good_12 : ∀ w ∈ wsX120, w ∈ vX12_good := fun _ h => List.mem_cons_of_mem _ (List.mem_append_right _ h)
set_option maxHeartbeats 4000000 in
set_option maxRecDepth 100000 in
theorem m_good (l : Launch) (D : va_G) (cs : Nat → ClassId) (ad : Nat → Nat) (hj : wJ ad nW) (g : Nat → va_E) (h197 : g 197 = .inr (12, [.int 0, .ref (ad 198), .ref (ad 199), .ref (ad 200), .ref (ad 201), .int 0, .ref (ad 202), .int 0, .int 0, .int 0, .int 0, .int 0, .int 0, .int (-1), .ref (ad 203), .ref (ad 204), .ref (ad 205), .int 0, .int 0, .ref (ad 206), .ref (ad 207), .ref (ad 208), .int 0, .int 0, .int 0, .int 0, .int 0, .ref (ad 209), .ref (ad 210), .ref (ad 211), .long 0, .long 0, .ref (ad 212), .ref (ad 213), .int 0, .int 0, .ref (ad 214), .ref (ad 215), .ref (ad 216), .ref (ad 217)])) : cI l yX12_good vX12_good { frames := 0, cells := 0, slots := 0, locals := 0 } D cs ad nW [.ref (ad 197)] g (fun r g2 => r = 1 ∧ g2 = g) := by
  refine Met.start (cc := cX12_good) (maxL := 1) (ret := (some .boolean)) RX12 rfl (by decide) rfl (Nat.le_of_ble_eq_true rfl) ?_
  intro p e s m below meth c ls X hP hl
  have hx := X.1
  have hb := X.2.1
  have hS : va_S (wA ad nW) s.heap s.heap [] := va_S.rf
  have hA : ∀ i, i < nW → wA ad nW (ad i) := fun i h => ⟨i, h, rfl⟩
  have hl : lv_has ls 1 [(0, .ref (ad 197))] := hl
  refine lv_aload_n hx hb dX12_good_0 rfl (lv_at hl 0 rfl) ?_
  refine q_get X iX12_good_12 hP (by decide) h197 rfl 12 (by decide) (List.mem_of_getElem? (i := 1) rfl) (v := .int 0) rfl dX12_good_1 ?_
  refine lv_if_ne (tgt := 11) hx hb dX12_good_4 (by decide) (fun h => absurd h (by decide)) (fun _ => ?_)
  refine lv_iconst (v := 1) hx hb dX12_good_7 (by decide) ?_
  refine lv_goto (tgt := 12) hx hb dX12_good_8 (by decide) ?_
  exact q_zret X hP hS rfl ⟨rfl, rfl⟩ dX12_good_12

theorem dX12_advance_0 : decode cX12_advance 0 = .ok (.aload_n 0, 1) := by decide +kernel
theorem dX12_advance_1 : decode cX12_advance 1 = .ok (.aload_n 0, 1) := by decide +kernel
theorem dX12_advance_2 : decode cX12_advance 2 = .ok (.getfield 92, 3) := by decide +kernel
theorem dX12_advance_5 : decode cX12_advance 5 = .ok (.invokevirtual 95, 3) := by decide +kernel
theorem dX12_advance_8 : decode cX12_advance 8 = .ok (.bipush 32, 2) := by decide +kernel
theorem dX12_advance_10 : decode cX12_advance 10 = .ok (.if_icmp .eq 16, 3) := by decide +kernel
theorem dX12_advance_13 : decode cX12_advance 13 = .ok (.aload_n 0, 1) := by decide +kernel
theorem dX12_advance_14 : decode cX12_advance 14 = .ok (.aload_n 0, 1) := by decide +kernel
theorem dX12_advance_15 : decode cX12_advance 15 = .ok (.getfield 92, 3) := by decide +kernel
theorem dX12_advance_18 : decode cX12_advance 18 = .ok (.invokevirtual 95, 3) := by decide +kernel
theorem dX12_advance_21 : decode cX12_advance 21 = .ok (.bipush 10, 2) := by decide +kernel
theorem dX12_advance_23 : decode cX12_advance 23 = .ok (.if_icmp .ne 16, 3) := by decide +kernel
theorem dX12_advance_39 : decode cX12_advance 39 = .ok (.aload_n 0, 1) := by decide +kernel
theorem dX12_advance_40 : decode cX12_advance 40 = .ok (.aload_n 0, 1) := by decide +kernel
theorem dX12_advance_41 : decode cX12_advance 41 = .ok (.getfield 92, 3) := by decide +kernel
theorem dX12_advance_44 : decode cX12_advance 44 = .ok (.putfield 99, 3) := by decide +kernel
theorem dX12_advance_47 : decode cX12_advance 47 = .ok (.aload_n 0, 1) := by decide +kernel
theorem dX12_advance_48 : decode cX12_advance 48 = .ok (.aload_n 0, 1) := by decide +kernel
theorem dX12_advance_49 : decode cX12_advance 49 = .ok (.getfield 92, 3) := by decide +kernel
theorem dX12_advance_52 : decode cX12_advance 52 = .ok (.invokevirtual 95, 3) := by decide +kernel
theorem dX12_advance_55 : decode cX12_advance 55 = .ok (.istore_n 1, 1) := by decide +kernel
theorem dX12_advance_56 : decode cX12_advance 56 = .ok (.iload_n 1, 1) := by decide +kernel
theorem dX12_advance_57 : decode cX12_advance 57 = .ok (.iconst (-1), 1) := by decide +kernel
theorem dX12_advance_58 : decode cX12_advance 58 = .ok (.if_icmp .ne 11, 3) := by decide +kernel
theorem dX12_advance_61 : decode cX12_advance 61 = .ok (.aload_n 0, 1) := by decide +kernel
theorem dX12_advance_62 : decode cX12_advance 62 = .ok (.iconst 0, 1) := by decide +kernel
theorem dX12_advance_63 : decode cX12_advance 63 = .ok (.putfield 102, 3) := by decide +kernel
theorem dX12_advance_66 : decode cX12_advance 66 = .ok (.goto 173, 3) := by decide +kernel
theorem dX12_advance_239 : decode cX12_advance 239 = .ok (.return_, 1) := by decide +kernel
def vX12_advance : List Cond := .code yX12_advance cX12_advance 2 none :: ([.fieldLink RX12 92 "IcicleClockModel" "at" "I", .methodLink RX12 95 yX12_see, .instanceMethod yX12_see, .selects RX12 yX12_see yX12_see, .initialized RX12, .code yX12_see cX12_see 2 (some .int), .fieldLink RX12 89 "IcicleClockModel" "size" "I", .fieldLink RX12 99 "IcicleClockModel" "from" "I", .fieldLink RX12 102 "IcicleClockModel" "token" "I"] ++ wsX120)
theorem iX12_advance_12 : ∀ w ∈ wsX120, w ∈ vX12_advance := fun _ h => List.mem_cons_of_mem _ (List.mem_append_right _ h)
set_option maxRecDepth 20000 in
theorem gg_X12_advance_X12_see : GoodIn vX12_advance (wsV RX12 95 RX12 yX12_see vX12_see) := goodIn_r _ [2, 3, 4, 5, 6, 7, 10, 11, 12, 13, 14, 15, 16, 17, 18, 19, 20, 21, 22, 23, 24, 25, 26, 27, 28, 29, 30, 31, 32, 33, 34, 35, 36, 37, 38, 39, 40, 41, 42, 43, 44, 45, 46, 47, 48, 49] (by decide +kernel) (by decide +kernel)
set_option maxHeartbeats 4000000 in
set_option maxRecDepth 100000 in
theorem m_advance (l : Launch) (D : va_G) (cs : Nat → ClassId) (ad : Nat → Nat) (hj : wJ ad nW) (g : Nat → va_E) (h197 : g 197 = .inr (12, [.int 0, .ref (ad 198), .ref (ad 199), .ref (ad 200), .ref (ad 201), .int 0, .ref (ad 202), .int 0, .int 0, .int 0, .int 0, .int 0, .int 0, .int (-1), .ref (ad 203), .ref (ad 204), .ref (ad 205), .int 0, .int 0, .ref (ad 206), .ref (ad 207), .ref (ad 208), .int 0, .int 0, .int 0, .int 0, .int 0, .ref (ad 209), .ref (ad 210), .ref (ad 211), .long 0, .long 0, .ref (ad 212), .ref (ad 213), .int 0, .int 0, .ref (ad 214), .ref (ad 215), .ref (ad 216), .ref (ad 217)])) : cV l yX12_advance vX12_advance { frames := 1, cells := 0, slots := 0, locals := 21 } D cs ad nW [.ref (ad 197)] g (fun g2 => g2 197 = .inr (12, [.int 0, .ref (ad 198), .ref (ad 199), .ref (ad 200), .ref (ad 201), .int 0, .ref (ad 202), .int 0, .int 0, .int 0, .int 0, .int 0, .int 0, .int (-1), .ref (ad 203), .ref (ad 204), .ref (ad 205), .int 0, .int 0, .ref (ad 206), .ref (ad 207), .ref (ad 208), .int 0, .int 0, .int 0, .int 0, .int 0, .ref (ad 209), .ref (ad 210), .ref (ad 211), .long 0, .long 0, .ref (ad 212), .ref (ad 213), .int 0, .int 0, .ref (ad 214), .ref (ad 215), .ref (ad 216), .ref (ad 217)]) ∧ ∀ j, j ≠ 197 → g2 j = g j) := by
  refine Met.start (cc := cX12_advance) (maxL := 2) (ret := none) RX12 rfl (by decide) rfl (Nat.le_of_ble_eq_true rfl) ?_
  intro p e s m below meth c ls X hP hl
  have hx := X.1
  have hb := X.2.1
  have hS : va_S (wA ad nW) s.heap s.heap [] := va_S.rf
  have hA : ∀ i, i < nW → wA ad nW (ad i) := fun i h => ⟨i, h, rfl⟩
  have hfr : ∀ j, j ≠ 197 → g j = g j := fun _ _ => rfl
  have hl : lv_has ls 2 [(0, .ref (ad 197))] := hl
  refine lv_aload_n hx hb dX12_advance_0 rfl (lv_at hl 0 rfl) ?_
  refine lv_aload_n hx hb dX12_advance_1 rfl (lv_at hl 0 rfl) ?_
  refine q_get X iX12_advance_12 hP (by decide) h197 rfl 8 (by decide) (List.mem_of_getElem? (i := 1) rfl) (v := .int 0) rfl dX12_advance_2 ?_
  refine q_calli (q := (RX12, TX12, 40)) (As := [.int 0]) (rest := []) X (m_see l D cs ad hj g  h197) (cwV 1 X.2.2.2.2.1 gg_X12_advance_X12_see rfl rfl rfl (by decide +kernel) ⟨Nat.le_of_ble_eq_true rfl, Nat.le_of_ble_eq_true rfl⟩) (by decide) h197 rfl hP hA hS rfl hl.1 rfl (Nat.le_of_ble_eq_true rfl) dX12_advance_5 ⟨Nat.le_of_ble_eq_true rfl, Nat.le_of_ble_eq_true rfl⟩ (fun r_3 g_2 H locs hw_1 hP hS => ?_)
  obtain ⟨hw_1a, hw_1b⟩ := hw_1
  subst hw_1a
  rw [hw_1b] at hP
  refine lv_bipush (v := 32) hx hb dX12_advance_8 (by decide) ?_
  refine lv_icmp_eq (tgt := 26) hx hb dX12_advance_10 (by decide) (fun h => absurd h (by decide)) (fun _ => ?_)
  refine lv_aload_n hx hb dX12_advance_13 rfl (lv_at hl 0 rfl) ?_
  refine lv_aload_n hx hb dX12_advance_14 rfl (lv_at hl 0 rfl) ?_
  refine q_get X iX12_advance_12 hP (by decide) h197 rfl 8 (by decide) (List.mem_of_getElem? (i := 1) rfl) (v := .int 0) rfl dX12_advance_15 ?_
  refine q_calli (q := (RX12, TX12, 40)) (As := [.int 0]) (rest := []) X (m_see l D cs ad hj g  h197) (cwV 1 X.2.2.2.2.1 gg_X12_advance_X12_see rfl rfl rfl (by decide +kernel) ⟨Nat.le_of_ble_eq_true rfl, Nat.le_of_ble_eq_true rfl⟩) (by decide) h197 rfl hP hA hS rfl hl.1 rfl (Nat.le_of_ble_eq_true rfl) dX12_advance_18 ⟨Nat.le_of_ble_eq_true rfl, Nat.le_of_ble_eq_true rfl⟩ (fun r_6 g_5 H locs hw_4 hP hS => ?_)
  obtain ⟨hw_4a, hw_4b⟩ := hw_4
  subst hw_4a
  rw [hw_4b] at hP
  refine lv_bipush (v := 10) hx hb dX12_advance_21 (by decide) ?_
  refine lv_icmp_ne (tgt := 39) hx hb dX12_advance_23 (by decide) (fun _ => ?_) (fun h => absurd h (by decide))
  refine lv_aload_n hx hb dX12_advance_39 rfl (lv_at hl 0 rfl) ?_
  refine lv_aload_n hx hb dX12_advance_40 rfl (lv_at hl 0 rfl) ?_
  refine q_get X iX12_advance_12 hP (by decide) h197 rfl 8 (by decide) (List.mem_of_getElem? (i := 1) rfl) (v := .int 0) rfl dX12_advance_41 ?_
  refine q_put X iX12_advance_12 tyX12 tyX12_ok nmX12 hP hj hA hS (by decide) h197 rfl 9 (by decide) (List.mem_of_getElem? (i := 8) rfl) rfl (ty := .int) (v := .int 0) (by decide +kernel) rfl rfl (Nat.le_of_ble_eq_true rfl) dX12_advance_44 (fun H locs hP hS => ?_)
  generalize eg_7 : va_up g 197 _ = g_7 at hP
  have hfr_8 : ∀ j, j ≠ 197 → g_7 j = g j := fun j hj => by rw [← eg_7]; exact (va_up_ne _ _ (by omega)).trans (hfr j hj)
  have h_9 : g_7 197 = .inr (12, [.int 0, .ref (ad 198), .ref (ad 199), .ref (ad 200), .ref (ad 201), .int 0, .ref (ad 202), .int 0, .int 0, .int 0, .int 0, .int 0, .int 0, .int (-1), .ref (ad 203), .ref (ad 204), .ref (ad 205), .int 0, .int 0, .ref (ad 206), .ref (ad 207), .ref (ad 208), .int 0, .int 0, .int 0, .int 0, .int 0, .ref (ad 209), .ref (ad 210), .ref (ad 211), .long 0, .long 0, .ref (ad 212), .ref (ad 213), .int 0, .int 0, .ref (ad 214), .ref (ad 215), .ref (ad 216), .ref (ad 217)]) := by rw [← eg_7]; exact va_up_self _ _ _
  refine lv_aload_n hx hb dX12_advance_47 rfl (lv_at hl 0 rfl) ?_
  refine lv_aload_n hx hb dX12_advance_48 rfl (lv_at hl 0 rfl) ?_
  refine q_get X iX12_advance_12 hP (by decide) h_9 rfl 8 (by decide) (List.mem_of_getElem? (i := 1) rfl) (v := .int 0) rfl dX12_advance_49 ?_
  refine q_calli (q := (RX12, TX12, 40)) (As := [.int 0]) (rest := []) X (m_see l D cs ad hj g_7  h_9) (cwV 1 X.2.2.2.2.1 gg_X12_advance_X12_see rfl rfl rfl (by decide +kernel) ⟨Nat.le_of_ble_eq_true rfl, Nat.le_of_ble_eq_true rfl⟩) (by decide) h_9 rfl hP hA hS rfl hl.1 rfl (Nat.le_of_ble_eq_true rfl) dX12_advance_52 ⟨Nat.le_of_ble_eq_true rfl, Nat.le_of_ble_eq_true rfl⟩ (fun r_12 g_11 H locs hw_10 hP hS => ?_)
  obtain ⟨hw_10a, hw_10b⟩ := hw_10
  subst hw_10a
  rw [hw_10b] at hP
  refine lv_istore_n (lv' := [(1, .int (-1)), (0, .ref (ad 197))]) hx hb dX12_advance_55 rfl hl (by decide) rfl (fun ls hl => ?_)
  refine lv_iload_n hx hb dX12_advance_56 rfl (lv_at hl 0 rfl) ?_
  refine lv_iconst (v := (-1)) hx hb dX12_advance_57 (by decide) ?_
  refine lv_icmp_ne (tgt := 69) hx hb dX12_advance_58 (by decide) (fun h => absurd h (by decide)) (fun _ => ?_)
  refine lv_aload_n hx hb dX12_advance_61 rfl (lv_at hl 1 rfl) ?_
  refine lv_iconst (v := 0) hx hb dX12_advance_62 (by decide) ?_
  refine q_put X iX12_advance_12 tyX12 tyX12_ok nmX12 hP hj hA hS (by decide) h_9 rfl 10 (by decide) (List.mem_of_getElem? (i := 9) rfl) rfl (ty := .int) (v := .int 0) (by decide +kernel) rfl rfl (Nat.le_of_ble_eq_true rfl) dX12_advance_63 (fun H locs hP hS => ?_)
  generalize eg_13 : va_up g_7 197 _ = g_13 at hP
  have hfr_14 : ∀ j, j ≠ 197 → g_13 j = g j := fun j hj => by rw [← eg_13]; exact (va_up_ne _ _ (by omega)).trans (hfr_8 j hj)
  have h_15 : g_13 197 = .inr (12, [.int 0, .ref (ad 198), .ref (ad 199), .ref (ad 200), .ref (ad 201), .int 0, .ref (ad 202), .int 0, .int 0, .int 0, .int 0, .int 0, .int 0, .int (-1), .ref (ad 203), .ref (ad 204), .ref (ad 205), .int 0, .int 0, .ref (ad 206), .ref (ad 207), .ref (ad 208), .int 0, .int 0, .int 0, .int 0, .int 0, .ref (ad 209), .ref (ad 210), .ref (ad 211), .long 0, .long 0, .ref (ad 212), .ref (ad 213), .int 0, .int 0, .ref (ad 214), .ref (ad 215), .ref (ad 216), .ref (ad 217)]) := by rw [← eg_13]; exact va_up_self _ _ _
  refine lv_goto (tgt := 239) hx hb dX12_advance_66 (by decide) ?_
  exact q_vret X hP hS ⟨h_15, hfr_14⟩ dX12_advance_239

theorem dX12_street_0 : decode cX12_street 0 = .ok (.aload_n 0, 1) := by decide +kernel
theorem dX12_street_1 : decode cX12_street 1 = .ok (.aload_n 0, 1) := by decide +kernel
theorem dX12_street_2 : decode cX12_street 2 = .ok (.getfield 86, 3) := by decide +kernel
theorem dX12_street_5 : decode cX12_street 5 = .ok (.putfield 89, 3) := by decide +kernel
theorem dX12_street_8 : decode cX12_street 8 = .ok (.aload_n 0, 1) := by decide +kernel
theorem dX12_street_9 : decode cX12_street 9 = .ok (.iconst 0, 1) := by decide +kernel
theorem dX12_street_10 : decode cX12_street 10 = .ok (.putfield 86, 3) := by decide +kernel
theorem dX12_street_13 : decode cX12_street 13 = .ok (.aload_n 0, 1) := by decide +kernel
theorem dX12_street_14 : decode cX12_street 14 = .ok (.iconst 0, 1) := by decide +kernel
theorem dX12_street_15 : decode cX12_street 15 = .ok (.putfield 92, 3) := by decide +kernel
theorem dX12_street_18 : decode cX12_street 18 = .ok (.aload_n 0, 1) := by decide +kernel
theorem dX12_street_19 : decode cX12_street 19 = .ok (.iconst 0, 1) := by decide +kernel
theorem dX12_street_20 : decode cX12_street 20 = .ok (.putfield 123, 3) := by decide +kernel
theorem dX12_street_23 : decode cX12_street 23 = .ok (.aload_n 0, 1) := by decide +kernel
theorem dX12_street_24 : decode cX12_street 24 = .ok (.iconst (-1), 1) := by decide +kernel
theorem dX12_street_25 : decode cX12_street 25 = .ok (.putfield 27, 3) := by decide +kernel
theorem dX12_street_28 : decode cX12_street 28 = .ok (.iconst 0, 1) := by decide +kernel
theorem dX12_street_29 : decode cX12_street 29 = .ok (.istore_n 1, 1) := by decide +kernel
theorem dX12_street_30 : decode cX12_street 30 = .ok (.iload_n 1, 1) := by decide +kernel
theorem dX12_street_31 : decode cX12_street 31 = .ok (.bipush 118, 2) := by decide +kernel
theorem dX12_street_33 : decode cX12_street 33 = .ok (.if_icmp .ge 16, 3) := by decide +kernel
theorem dX12_street_49 : decode cX12_street 49 = .ok (.aload_n 0, 1) := by decide +kernel
theorem dX12_street_50 : decode cX12_street 50 = .ok (.invokevirtual 144, 3) := by decide +kernel
theorem dX12_street_53 : decode cX12_street 53 = .ok (.aload_n 0, 1) := by decide +kernel
theorem dX12_street_54 : decode cX12_street 54 = .ok (.invokevirtual 126, 3) := by decide +kernel
theorem dX12_street_57 : decode cX12_street 57 = .ok (.ifCond .eq 17, 3) := by decide +kernel
theorem dX12_street_60 : decode cX12_street 60 = .ok (.aload_n 0, 1) := by decide +kernel
theorem dX12_street_61 : decode cX12_street 61 = .ok (.getfield 102, 3) := by decide +kernel
theorem dX12_street_64 : decode cX12_street 64 = .ok (.ifCond .eq 10, 3) := by decide +kernel
theorem dX12_street_74 : decode cX12_street 74 = .ok (.aload_n 0, 1) := by decide +kernel
theorem dX12_street_75 : decode cX12_street 75 = .ok (.invokevirtual 126, 3) := by decide +kernel
theorem dX12_street_78 : decode cX12_street 78 = .ok (.ifCond .ne 6, 3) := by decide +kernel
theorem dX12_street_84 : decode cX12_street 84 = .ok (.iconst 0, 1) := by decide +kernel
theorem dX12_street_85 : decode cX12_street 85 = .ok (.istore_n 1, 1) := by decide +kernel
theorem dX12_street_86 : decode cX12_street 86 = .ok (.iload_n 1, 1) := by decide +kernel
theorem dX12_street_87 : decode cX12_street 87 = .ok (.bipush 118, 2) := by decide +kernel
theorem dX12_street_89 : decode cX12_street 89 = .ok (.if_icmp .ge 21, 3) := by decide +kernel
theorem dX12_street_110 : decode cX12_street 110 = .ok (.aload_n 0, 1) := by decide +kernel
theorem dX12_street_111 : decode cX12_street 111 = .ok (.getfield 9, 3) := by decide +kernel
theorem dX12_street_114 : decode cX12_street 114 = .ok (.bipush 8, 2) := by decide +kernel
theorem dX12_street_116 : decode cX12_street 116 = .ok (.iaload, 1) := by decide +kernel
theorem dX12_street_117 : decode cX12_street 117 = .ok (.ireturn, 1) := by decide +kernel
theorem dX12_street_92 : decode cX12_street 92 = .ok (.aload_n 0, 1) := by decide +kernel
theorem dX12_street_93 : decode cX12_street 93 = .ok (.getfield 9, 3) := by decide +kernel
theorem dX12_street_96 : decode cX12_street 96 = .ok (.iload_n 1, 1) := by decide +kernel
theorem dX12_street_97 : decode cX12_street 97 = .ok (.aload_n 0, 1) := by decide +kernel
theorem dX12_street_98 : decode cX12_street 98 = .ok (.getfield 31, 3) := by decide +kernel
theorem dX12_street_101 : decode cX12_street 101 = .ok (.iload_n 1, 1) := by decide +kernel
theorem dX12_street_102 : decode cX12_street 102 = .ok (.iaload, 1) := by decide +kernel
theorem dX12_street_103 : decode cX12_street 103 = .ok (.iastore, 1) := by decide +kernel
theorem dX12_street_104 : decode cX12_street 104 = .ok (.iinc 1 1, 3) := by decide +kernel
theorem dX12_street_107 : decode cX12_street 107 = .ok (.goto (-21), 3) := by decide +kernel
theorem dX12_street_36 : decode cX12_street 36 = .ok (.aload_n 0, 1) := by decide +kernel
theorem dX12_street_37 : decode cX12_street 37 = .ok (.getfield 31, 3) := by decide +kernel
theorem dX12_street_40 : decode cX12_street 40 = .ok (.iload_n 1, 1) := by decide +kernel
theorem dX12_street_41 : decode cX12_street 41 = .ok (.iconst 0, 1) := by decide +kernel
theorem dX12_street_42 : decode cX12_street 42 = .ok (.iastore, 1) := by decide +kernel
theorem dX12_street_43 : decode cX12_street 43 = .ok (.iinc 1 1, 3) := by decide +kernel
theorem dX12_street_46 : decode cX12_street 46 = .ok (.goto (-16), 3) := by decide +kernel
def vX12_street : List Cond := .code yX12_street cX12_street 2 (some .int) :: ([.fieldLink RX12 86 "IcicleClockModel" "taped" "I", .fieldLink RX12 89 "IcicleClockModel" "size" "I", .fieldLink RX12 92 "IcicleClockModel" "at" "I", .fieldLink RX12 123 "IcicleClockModel" "faultKind" "I", .fieldLink RX12 27 "IcicleClockModel" "faultPlace" "I", .methodLink RX12 144 yX12_advance, .instanceMethod yX12_advance, .selects RX12 yX12_advance yX12_advance, .initialized RX12, .code yX12_advance cX12_advance 2 none, .methodLink RX12 95 yX12_see, .instanceMethod yX12_see, .selects RX12 yX12_see yX12_see, .code yX12_see cX12_see 2 (some .int), .fieldLink RX12 99 "IcicleClockModel" "from" "I", .fieldLink RX12 102 "IcicleClockModel" "token" "I", .methodLink RX12 126 yX12_good, .instanceMethod yX12_good, .selects RX12 yX12_good yX12_good, .code yX12_good cX12_good 1 (some .boolean), .fieldLink RX12 9 "IcicleClockModel" "world" "[I", .fieldLink RX12 31 "IcicleClockModel" "fresh" "[I"] ++ wsX120)
theorem iX12_street_12 : ∀ w ∈ wsX120, w ∈ vX12_street := fun _ h => List.mem_cons_of_mem _ (List.mem_append_right _ h)
set_option maxRecDepth 20000 in
theorem gg_X12_street_X12_advance : GoodIn vX12_street (wsV RX12 144 RX12 yX12_advance vX12_advance) := goodIn_r _ [6, 7, 8, 9, 10, 3, 11, 12, 13, 9, 14, 2, 15, 16, 23, 24, 25, 26, 27, 28, 29, 30, 31, 32, 33, 34, 35, 36, 37, 38, 39, 40, 41, 42, 43, 44, 45, 46, 47, 48, 49, 50, 51, 52, 53, 54, 55, 56, 57, 58, 59, 60, 61, 62] (by decide +kernel) (by decide +kernel)
set_option maxRecDepth 20000 in
theorem gg_X12_street_X12_good : GoodIn vX12_street (wsV RX12 126 RX12 yX12_good vX12_good) := goodIn_r _ [17, 18, 19, 9, 20, 4, 23, 24, 25, 26, 27, 28, 29, 30, 31, 32, 33, 34, 35, 36, 37, 38, 39, 40, 41, 42, 43, 44, 45, 46, 47, 48, 49, 50, 51, 52, 53, 54, 55, 56, 57, 58, 59, 60, 61, 62] (by decide +kernel) (by decide +kernel)
set_option maxHeartbeats 4000000 in
set_option maxRecDepth 100000 in
theorem m_street (l : Launch) (D : va_G) (cs : Nat → ClassId) (ad : Nat → Nat) (hj : wJ ad nW) (g : Nat → va_E) (h197 : g 197 = .inr (12, [.int 0, .ref (ad 198), .ref (ad 199), .ref (ad 200), .ref (ad 201), .int 0, .ref (ad 202), .int 0, .int 0, .int 0, .int 0, .int 0, .int 0, .int (-1), .ref (ad 203), .ref (ad 204), .ref (ad 205), .int 0, .int 0, .ref (ad 206), .ref (ad 207), .ref (ad 208), .int 0, .int 0, .int 0, .int 0, .int 0, .ref (ad 209), .ref (ad 210), .ref (ad 211), .long 0, .long 0, .ref (ad 212), .ref (ad 213), .int 0, .int 0, .ref (ad 214), .ref (ad 215), .ref (ad 216), .ref (ad 217)])) (h198 : g 198 = .inl (cs 1, 118, .inl (fun _ => 0))) (h203 : g 203 = .inl (cs 1, 118, .inl (fun _ => 0))) : cI l yX12_street vX12_street { frames := 2, cells := 0, slots := 0, locals := 42 } D cs ad nW [.ref (ad 197)] g (fun r g2 => r = 0) := by
  refine Met.start (cc := cX12_street) (maxL := 2) (ret := (some .int)) RX12 rfl (by decide) rfl (Nat.le_of_ble_eq_true rfl) ?_
  intro p e s m below meth c ls X hP hl
  have hx := X.1
  have hb := X.2.1
  have hS : va_S (wA ad nW) s.heap s.heap [] := va_S.rf
  have hA : ∀ i, i < nW → wA ad nW (ad i) := fun i h => ⟨i, h, rfl⟩
  have hl : lv_has ls 2 [(0, .ref (ad 197))] := hl
  refine lv_aload_n hx hb dX12_street_0 rfl (lv_at hl 0 rfl) ?_
  refine lv_aload_n hx hb dX12_street_1 rfl (lv_at hl 0 rfl) ?_
  refine q_get X iX12_street_12 hP (by decide) h197 rfl 5 (by decide) (List.mem_of_getElem? (i := 1) rfl) (v := .int 0) rfl dX12_street_2 ?_
  refine q_put X iX12_street_12 tyX12 tyX12_ok nmX12 hP hj hA hS (by decide) h197 rfl 7 (by decide) (List.mem_of_getElem? (i := 2) rfl) rfl (ty := .int) (v := .int 0) (by decide +kernel) rfl rfl (Nat.le_of_ble_eq_true rfl) dX12_street_5 (fun H locs hP hS => ?_)
  generalize eg_1 : va_up g 197 _ = g_1 at hP
  have h_2 : g_1 197 = .inr (12, [.int 0, .ref (ad 198), .ref (ad 199), .ref (ad 200), .ref (ad 201), .int 0, .ref (ad 202), .int 0, .int 0, .int 0, .int 0, .int 0, .int 0, .int (-1), .ref (ad 203), .ref (ad 204), .ref (ad 205), .int 0, .int 0, .ref (ad 206), .ref (ad 207), .ref (ad 208), .int 0, .int 0, .int 0, .int 0, .int 0, .ref (ad 209), .ref (ad 210), .ref (ad 211), .long 0, .long 0, .ref (ad 212), .ref (ad 213), .int 0, .int 0, .ref (ad 214), .ref (ad 215), .ref (ad 216), .ref (ad 217)]) := by rw [← eg_1]; exact va_up_self _ _ _
  have h_3 : g_1 198 = .inl (cs 1, 118, .inl (fun _ => 0)) := by rw [← eg_1, va_up_ne _ _ (by decide)]; exact h198
  have h_4 : g_1 203 = .inl (cs 1, 118, .inl (fun _ => 0)) := by rw [← eg_1, va_up_ne _ _ (by decide)]; exact h203
  refine lv_aload_n hx hb dX12_street_8 rfl (lv_at hl 0 rfl) ?_
  refine lv_iconst (v := 0) hx hb dX12_street_9 (by decide) ?_
  refine q_put X iX12_street_12 tyX12 tyX12_ok nmX12 hP hj hA hS (by decide) h_2 rfl 5 (by decide) (List.mem_of_getElem? (i := 1) rfl) rfl (ty := .int) (v := .int 0) (by decide +kernel) rfl rfl (Nat.le_of_ble_eq_true rfl) dX12_street_10 (fun H locs hP hS => ?_)
  generalize eg_5 : va_up g_1 197 _ = g_5 at hP
  have h_6 : g_5 197 = .inr (12, [.int 0, .ref (ad 198), .ref (ad 199), .ref (ad 200), .ref (ad 201), .int 0, .ref (ad 202), .int 0, .int 0, .int 0, .int 0, .int 0, .int 0, .int (-1), .ref (ad 203), .ref (ad 204), .ref (ad 205), .int 0, .int 0, .ref (ad 206), .ref (ad 207), .ref (ad 208), .int 0, .int 0, .int 0, .int 0, .int 0, .ref (ad 209), .ref (ad 210), .ref (ad 211), .long 0, .long 0, .ref (ad 212), .ref (ad 213), .int 0, .int 0, .ref (ad 214), .ref (ad 215), .ref (ad 216), .ref (ad 217)]) := by rw [← eg_5]; exact va_up_self _ _ _
  have h_7 : g_5 198 = .inl (cs 1, 118, .inl (fun _ => 0)) := by rw [← eg_5, va_up_ne _ _ (by decide)]; exact h_3
  have h_8 : g_5 203 = .inl (cs 1, 118, .inl (fun _ => 0)) := by rw [← eg_5, va_up_ne _ _ (by decide)]; exact h_4
  refine lv_aload_n hx hb dX12_street_13 rfl (lv_at hl 0 rfl) ?_
  refine lv_iconst (v := 0) hx hb dX12_street_14 (by decide) ?_
  refine q_put X iX12_street_12 tyX12 tyX12_ok nmX12 hP hj hA hS (by decide) h_6 rfl 8 (by decide) (List.mem_of_getElem? (i := 3) rfl) rfl (ty := .int) (v := .int 0) (by decide +kernel) rfl rfl (Nat.le_of_ble_eq_true rfl) dX12_street_15 (fun H locs hP hS => ?_)
  generalize eg_9 : va_up g_5 197 _ = g_9 at hP
  have h_10 : g_9 197 = .inr (12, [.int 0, .ref (ad 198), .ref (ad 199), .ref (ad 200), .ref (ad 201), .int 0, .ref (ad 202), .int 0, .int 0, .int 0, .int 0, .int 0, .int 0, .int (-1), .ref (ad 203), .ref (ad 204), .ref (ad 205), .int 0, .int 0, .ref (ad 206), .ref (ad 207), .ref (ad 208), .int 0, .int 0, .int 0, .int 0, .int 0, .ref (ad 209), .ref (ad 210), .ref (ad 211), .long 0, .long 0, .ref (ad 212), .ref (ad 213), .int 0, .int 0, .ref (ad 214), .ref (ad 215), .ref (ad 216), .ref (ad 217)]) := by rw [← eg_9]; exact va_up_self _ _ _
  have h_11 : g_9 198 = .inl (cs 1, 118, .inl (fun _ => 0)) := by rw [← eg_9, va_up_ne _ _ (by decide)]; exact h_7
  have h_12 : g_9 203 = .inl (cs 1, 118, .inl (fun _ => 0)) := by rw [← eg_9, va_up_ne _ _ (by decide)]; exact h_8
  refine lv_aload_n hx hb dX12_street_18 rfl (lv_at hl 0 rfl) ?_
  refine lv_iconst (v := 0) hx hb dX12_street_19 (by decide) ?_
  refine q_put X iX12_street_12 tyX12 tyX12_ok nmX12 hP hj hA hS (by decide) h_10 rfl 12 (by decide) (List.mem_of_getElem? (i := 4) rfl) rfl (ty := .int) (v := .int 0) (by decide +kernel) rfl rfl (Nat.le_of_ble_eq_true rfl) dX12_street_20 (fun H locs hP hS => ?_)
  generalize eg_13 : va_up g_9 197 _ = g_13 at hP
  have h_14 : g_13 197 = .inr (12, [.int 0, .ref (ad 198), .ref (ad 199), .ref (ad 200), .ref (ad 201), .int 0, .ref (ad 202), .int 0, .int 0, .int 0, .int 0, .int 0, .int 0, .int (-1), .ref (ad 203), .ref (ad 204), .ref (ad 205), .int 0, .int 0, .ref (ad 206), .ref (ad 207), .ref (ad 208), .int 0, .int 0, .int 0, .int 0, .int 0, .ref (ad 209), .ref (ad 210), .ref (ad 211), .long 0, .long 0, .ref (ad 212), .ref (ad 213), .int 0, .int 0, .ref (ad 214), .ref (ad 215), .ref (ad 216), .ref (ad 217)]) := by rw [← eg_13]; exact va_up_self _ _ _
  have h_15 : g_13 198 = .inl (cs 1, 118, .inl (fun _ => 0)) := by rw [← eg_13, va_up_ne _ _ (by decide)]; exact h_11
  have h_16 : g_13 203 = .inl (cs 1, 118, .inl (fun _ => 0)) := by rw [← eg_13, va_up_ne _ _ (by decide)]; exact h_12
  refine lv_aload_n hx hb dX12_street_23 rfl (lv_at hl 0 rfl) ?_
  refine lv_iconst (v := (-1)) hx hb dX12_street_24 (by decide) ?_
  refine q_put X iX12_street_12 tyX12 tyX12_ok nmX12 hP hj hA hS (by decide) h_14 rfl 13 (by decide) (List.mem_of_getElem? (i := 5) rfl) rfl (ty := .int) (v := .int (-1)) (by decide +kernel) rfl rfl (Nat.le_of_ble_eq_true rfl) dX12_street_25 (fun H locs hP hS => ?_)
  generalize eg_17 : va_up g_13 197 _ = g_17 at hP
  have h_18 : g_17 197 = .inr (12, [.int 0, .ref (ad 198), .ref (ad 199), .ref (ad 200), .ref (ad 201), .int 0, .ref (ad 202), .int 0, .int 0, .int 0, .int 0, .int 0, .int 0, .int (-1), .ref (ad 203), .ref (ad 204), .ref (ad 205), .int 0, .int 0, .ref (ad 206), .ref (ad 207), .ref (ad 208), .int 0, .int 0, .int 0, .int 0, .int 0, .ref (ad 209), .ref (ad 210), .ref (ad 211), .long 0, .long 0, .ref (ad 212), .ref (ad 213), .int 0, .int 0, .ref (ad 214), .ref (ad 215), .ref (ad 216), .ref (ad 217)]) := by rw [← eg_17]; exact va_up_self _ _ _
  have h_19 : g_17 198 = .inl (cs 1, 118, .inl (fun _ => 0)) := by rw [← eg_17, va_up_ne _ _ (by decide)]; exact h_15
  have h_20 : g_17 203 = .inl (cs 1, 118, .inl (fun _ => 0)) := by rw [← eg_17, va_up_ne _ _ (by decide)]; exact h_16
  refine lv_iconst (v := 0) hx hb dX12_street_28 (by decide) ?_
  refine lv_istore_n (lv' := [(1, .int 0), (0, .ref (ad 197))]) hx hb dX12_street_29 rfl hl (by decide) rfl (fun ls hl => ?_)
  have HL30 : ∀ (d30 k30 : Nat) (f30_203 : Nat → Int32) (G30 : Nat → va_E) (H : Heap) (locs : List Loc) (ls : Array Slot), k30 + d30 = 118 → (∀ j, f30_203 j = 0) → G30 197 = .inr (12, [.int 0, .ref (ad 198), .ref (ad 199), .ref (ad 200), .ref (ad 201), .int 0, .ref (ad 202), .int 0, .int 0, .int 0, .int 0, .int 0, .int 0, .int (-1), .ref (ad 203), .ref (ad 204), .ref (ad 205), .int 0, .int 0, .ref (ad 206), .ref (ad 207), .ref (ad 208), .int 0, .int 0, .int 0, .int 0, .int 0, .ref (ad 209), .ref (ad 210), .ref (ad 211), .long 0, .long 0, .ref (ad 212), .ref (ad 213), .int 0, .int 0, .ref (ad 214), .ref (ad 215), .ref (ad 216), .ref (ad 217)]) → G30 198 = .inl (cs 1, 118, .inl (fun _ => 0)) → G30 203 = .inl (cs 1, 118, .inl f30_203) → va_P D vwCl (wL ad G30 nW) H → va_S (wA ad nW) s.heap H locs → lv_has ls 2 [(1, .int (nI k30)), (0, .ref (ad 197))] → W p l e ({ frames := 2, cells := 0, slots := 0, locals := 42 } : Room) s m ([.ref (ad 197)] : List Value).toArray below meth c H locs 0 0 (MQ below (qI D ad nW (fun r g2 => r = 0)) ([.ref (ad 197)] : List Value).toArray s 0 0 (wA ad nW)) (F0 m 30 ls []) := by
    intro d30
    induction d30 with
    | zero =>
      intro k30 f30_203 G30 H locs ls hk30 hz30_203 h30_197 h30_198 h30_203 hP hS hl
      obtain rfl : k30 = 118 := by omega
      refine lv_iload_n hx hb dX12_street_30 rfl (lv_at hl 0 rfl) ?_
      refine lv_bipush (v := 118) hx hb dX12_street_31 (by decide) ?_
      refine lv_icmp_ge (tgt := 49) hx hb dX12_street_33 (by decide) (fun _ => ?_) (fun h => absurd h (by decide))
      refine lv_aload_n hx hb dX12_street_49 rfl (lv_at hl 1 rfl) ?_
      refine q_callv (q := (RX12, TX12, 40)) (As := []) (rest := []) X (m_advance l D cs ad hj G30  h30_197) (cwV 0 X.2.2.2.2.1 gg_X12_street_X12_advance rfl rfl rfl (by decide +kernel) ⟨Nat.le_of_ble_eq_true rfl, Nat.le_of_ble_eq_true rfl⟩) (by decide) h30_197 rfl hP hA hS rfl hl.1 rfl (Nat.le_of_ble_eq_true rfl) dX12_street_50 ⟨Nat.le_of_ble_eq_true rfl, Nat.le_of_ble_eq_true rfl⟩ (fun g_22 H locs hw_21 hP hS => ?_)
      obtain ⟨h_24, hf_25⟩ := hw_21
      have h_26 : g_22 198 = .inl (cs 1, 118, .inl (fun _ => 0)) := (hf_25 198 (by decide)).trans h30_198
      have h_27 : g_22 203 = .inl (cs 1, 118, .inl f30_203) := (hf_25 203 (by decide)).trans h30_203
      refine lv_aload_n hx hb dX12_street_53 rfl (lv_at hl 1 rfl) ?_
      refine q_calli (q := (RX12, TX12, 40)) (As := []) (rest := []) X (m_good l D cs ad hj g_22  h_24) (cwV 0 X.2.2.2.2.1 gg_X12_street_X12_good rfl rfl rfl (by decide +kernel) ⟨Nat.le_of_ble_eq_true rfl, Nat.le_of_ble_eq_true rfl⟩) (by decide) h_24 rfl hP hA hS rfl hl.1 rfl (Nat.le_of_ble_eq_true rfl) dX12_street_54 ⟨Nat.le_of_ble_eq_true rfl, Nat.le_of_ble_eq_true rfl⟩ (fun r_30 g_29 H locs hw_28 hP hS => ?_)
      obtain ⟨hw_28a, hw_28b⟩ := hw_28
      subst hw_28a
      rw [hw_28b] at hP
      refine lv_if_eq (tgt := 74) hx hb dX12_street_57 (by decide) (fun h => absurd h (by decide)) (fun _ => ?_)
      refine lv_aload_n hx hb dX12_street_60 rfl (lv_at hl 1 rfl) ?_
      refine q_get X iX12_street_12 hP (by decide) h_24 rfl 10 (by decide) (List.mem_of_getElem? (i := 16) rfl) (v := .int 0) rfl dX12_street_61 ?_
      refine lv_if_eq (tgt := 74) hx hb dX12_street_64 (by decide) (fun _ => ?_) (fun h => absurd h (by decide))
      refine lv_aload_n hx hb dX12_street_74 rfl (lv_at hl 1 rfl) ?_
      refine q_calli (q := (RX12, TX12, 40)) (As := []) (rest := []) X (m_good l D cs ad hj g_22  h_24) (cwV 0 X.2.2.2.2.1 gg_X12_street_X12_good rfl rfl rfl (by decide +kernel) ⟨Nat.le_of_ble_eq_true rfl, Nat.le_of_ble_eq_true rfl⟩) (by decide) h_24 rfl hP hA hS rfl hl.1 rfl (Nat.le_of_ble_eq_true rfl) dX12_street_75 ⟨Nat.le_of_ble_eq_true rfl, Nat.le_of_ble_eq_true rfl⟩ (fun r_33 g_32 H locs hw_31 hP hS => ?_)
      obtain ⟨hw_31a, hw_31b⟩ := hw_31
      subst hw_31a
      rw [hw_31b] at hP
      refine lv_if_ne (tgt := 84) hx hb dX12_street_78 (by decide) (fun _ => ?_) (fun h => absurd h (by decide))
      refine lv_iconst (v := 0) hx hb dX12_street_84 (by decide) ?_
      refine lv_istore_n (lv' := [(1, .int 0), (0, .ref (ad 197))]) hx hb dX12_street_85 rfl hl (by decide) rfl (fun ls hl => ?_)
      have HL86 : ∀ (d86 k86 : Nat) (f86_198 : Nat → Int32) (G86 : Nat → va_E) (H : Heap) (locs : List Loc) (ls : Array Slot), k86 + d86 = 118 → (∀ j, f86_198 j = 0) → G86 197 = .inr (12, [.int 0, .ref (ad 198), .ref (ad 199), .ref (ad 200), .ref (ad 201), .int 0, .ref (ad 202), .int 0, .int 0, .int 0, .int 0, .int 0, .int 0, .int (-1), .ref (ad 203), .ref (ad 204), .ref (ad 205), .int 0, .int 0, .ref (ad 206), .ref (ad 207), .ref (ad 208), .int 0, .int 0, .int 0, .int 0, .int 0, .ref (ad 209), .ref (ad 210), .ref (ad 211), .long 0, .long 0, .ref (ad 212), .ref (ad 213), .int 0, .int 0, .ref (ad 214), .ref (ad 215), .ref (ad 216), .ref (ad 217)]) → G86 198 = .inl (cs 1, 118, .inl f86_198) → G86 203 = .inl (cs 1, 118, .inl f30_203) → va_P D vwCl (wL ad G86 nW) H → va_S (wA ad nW) s.heap H locs → lv_has ls 2 [(1, .int (nI k86)), (0, .ref (ad 197))] → W p l e ({ frames := 2, cells := 0, slots := 0, locals := 42 } : Room) s m ([.ref (ad 197)] : List Value).toArray below meth c H locs 0 0 (MQ below (qI D ad nW (fun r g2 => r = 0)) ([.ref (ad 197)] : List Value).toArray s 0 0 (wA ad nW)) (F0 m 86 ls []) := by
        intro d86
        induction d86 with
        | zero =>
          intro k86 f86_198 G86 H locs ls hk86 hz86_198 h86_197 h86_198 h86_203 hP hS hl
          obtain rfl : k86 = 118 := by omega
          refine lv_iload_n hx hb dX12_street_86 rfl (lv_at hl 0 rfl) ?_
          refine lv_bipush (v := 118) hx hb dX12_street_87 (by decide) ?_
          refine lv_icmp_ge (tgt := 110) hx hb dX12_street_89 (by decide) (fun _ => ?_) (fun h => absurd h (by decide))
          refine lv_aload_n hx hb dX12_street_110 rfl (lv_at hl 1 rfl) ?_
          refine q_get X iX12_street_12 hP (by decide) h86_197 rfl 1 (by decide) (List.mem_of_getElem? (i := 21) rfl) (v := .ref (ad 198)) rfl dX12_street_111 ?_
          refine lv_bipush (v := 8) hx hb dX12_street_114 (by decide) ?_
          refine q_ialdv X hP (by decide) h86_198 (by unfold vp_in; decide) (v := 0) (hz86_198 _) dX12_street_116 ?_
          exact q_iret X hP hS rfl dX12_street_117
        | succ d86 ih86 =>
          intro k86 f86_198 G86 H locs ls hk86 hz86_198 h86_197 h86_198 h86_203 hP hS hl
          refine lv_iload_n hx hb dX12_street_86 rfl (lv_at hl 0 rfl) ?_
          refine lv_bipush (v := 118) hx hb dX12_street_87 (by decide) ?_
          refine lv_icmp_ge (tgt := 110) hx hb dX12_street_89 (by decide) (fun hc_89 => absurd hc_89 (nI_ge (a := k86) (b := 118) (by omega) (by decide))) (fun hc_89 => ?_)
          refine lv_aload_n hx hb dX12_street_92 rfl (lv_at hl 1 rfl) ?_
          refine q_get X iX12_street_12 hP (by decide) h86_197 rfl 1 (by decide) (List.mem_of_getElem? (i := 21) rfl) (v := .ref (ad 198)) rfl dX12_street_93 ?_
          refine lv_iload_n hx hb dX12_street_96 rfl (lv_at hl 0 rfl) ?_
          refine lv_aload_n hx hb dX12_street_97 rfl (lv_at hl 1 rfl) ?_
          refine q_get X iX12_street_12 hP (by decide) h86_197 rfl 14 (by decide) (List.mem_of_getElem? (i := 22) rfl) (v := .ref (ad 203)) rfl dX12_street_98 ?_
          refine lv_iload_n hx hb dX12_street_101 rfl (lv_at hl 0 rfl) ?_
          refine q_ialdv X hP (by decide) h86_203 (vp_in_nI (by omega) (by decide)) (v := 0) (hz30_203 _) dX12_street_102 ?_
          refine q_iast X hP hj hA hS (by decide) h86_198 (vp_in_nI (by omega) (by decide)) dX12_street_103 (fun H locs hP hS => ?_)
          generalize eg_34 : va_up G86 198 _ = g_34 at hP
          have h_36 : g_34 197 = .inr (12, [.int 0, .ref (ad 198), .ref (ad 199), .ref (ad 200), .ref (ad 201), .int 0, .ref (ad 202), .int 0, .int 0, .int 0, .int 0, .int 0, .int 0, .int (-1), .ref (ad 203), .ref (ad 204), .ref (ad 205), .int 0, .int 0, .ref (ad 206), .ref (ad 207), .ref (ad 208), .int 0, .int 0, .int 0, .int 0, .int 0, .ref (ad 209), .ref (ad 210), .ref (ad 211), .long 0, .long 0, .ref (ad 212), .ref (ad 213), .int 0, .int 0, .ref (ad 214), .ref (ad 215), .ref (ad 216), .ref (ad 217)]) := by rw [← eg_34, va_up_ne _ _ (by decide)]; exact h86_197
          obtain ⟨f_35, hz_38, h_37⟩ : ∃ f : Nat → Int32, (∀ j, f j = 0) ∧ g_34 198 = .inl (cs 1, 118, .inl f) := ⟨_, fun j => z_upd hz86_198 _ j, by rw [← eg_34]; exact va_up_self _ _ _⟩
          have h_39 : g_34 203 = .inl (cs 1, 118, .inl f30_203) := by rw [← eg_34, va_up_ne _ _ (by decide)]; exact h86_203
          refine lv_iinc (v := (nI (k86 + 1))) (lv' := [(1, .int (nI (k86 + 1))), (0, .ref (ad 197))]) hx hb dX12_street_104 hl (k := 0) rfl (nI_add k86 1) (by decide) rfl (fun ls hl => ?_)
          refine lv_goto (tgt := 86) hx hb dX12_street_107 (by decide) ?_
          exact ih86 (k86 + 1) _ g_34 _ _ ls (by omega) hz_38 h_36 h_37 h_39 hP hS (lv_sub hl [0, 1] rfl)
      exact HL86 118 0 _ g_22 _ _ ls (by omega) (fun _ => rfl) h_24 h_26 h_27 hP hS (lv_sub hl [0, 1] rfl)
    | succ d30 ih30 =>
      intro k30 f30_203 G30 H locs ls hk30 hz30_203 h30_197 h30_198 h30_203 hP hS hl
      refine lv_iload_n hx hb dX12_street_30 rfl (lv_at hl 0 rfl) ?_
      refine lv_bipush (v := 118) hx hb dX12_street_31 (by decide) ?_
      refine lv_icmp_ge (tgt := 49) hx hb dX12_street_33 (by decide) (fun hc_33 => absurd hc_33 (nI_ge (a := k30) (b := 118) (by omega) (by decide))) (fun hc_33 => ?_)
      refine lv_aload_n hx hb dX12_street_36 rfl (lv_at hl 1 rfl) ?_
      refine q_get X iX12_street_12 hP (by decide) h30_197 rfl 14 (by decide) (List.mem_of_getElem? (i := 22) rfl) (v := .ref (ad 203)) rfl dX12_street_37 ?_
      refine lv_iload_n hx hb dX12_street_40 rfl (lv_at hl 0 rfl) ?_
      refine lv_iconst (v := 0) hx hb dX12_street_41 (by decide) ?_
      refine q_iast X hP hj hA hS (by decide) h30_203 (vp_in_nI (by omega) (by decide)) dX12_street_42 (fun H locs hP hS => ?_)
      generalize eg_40 : va_up G30 203 _ = g_40 at hP
      have h_42 : g_40 197 = .inr (12, [.int 0, .ref (ad 198), .ref (ad 199), .ref (ad 200), .ref (ad 201), .int 0, .ref (ad 202), .int 0, .int 0, .int 0, .int 0, .int 0, .int 0, .int (-1), .ref (ad 203), .ref (ad 204), .ref (ad 205), .int 0, .int 0, .ref (ad 206), .ref (ad 207), .ref (ad 208), .int 0, .int 0, .int 0, .int 0, .int 0, .ref (ad 209), .ref (ad 210), .ref (ad 211), .long 0, .long 0, .ref (ad 212), .ref (ad 213), .int 0, .int 0, .ref (ad 214), .ref (ad 215), .ref (ad 216), .ref (ad 217)]) := by rw [← eg_40, va_up_ne _ _ (by decide)]; exact h30_197
      have h_43 : g_40 198 = .inl (cs 1, 118, .inl (fun _ => 0)) := by rw [← eg_40, va_up_ne _ _ (by decide)]; exact h30_198
      obtain ⟨f_41, hz_45, h_44⟩ : ∃ f : Nat → Int32, (∀ j, f j = 0) ∧ g_40 203 = .inl (cs 1, 118, .inl f) := ⟨_, fun j => z_upd hz30_203 _ j, by rw [← eg_40]; exact va_up_self _ _ _⟩
      refine lv_iinc (v := (nI (k30 + 1))) (lv' := [(1, .int (nI (k30 + 1))), (0, .ref (ad 197))]) hx hb dX12_street_43 hl (k := 0) rfl (nI_add k30 1) (by decide) rfl (fun ls hl => ?_)
      refine lv_goto (tgt := 30) hx hb dX12_street_46 (by decide) ?_
      exact ih30 (k30 + 1) _ g_40 _ _ ls (by omega) hz_45 h_42 h_43 h_44 hP hS (lv_sub hl [0, 1] rfl)
  exact HL30 118 0 _ g_17 _ _ ls (by omega) (fun _ => rfl) h_18 h_19 h_20 hP hS (lv_sub hl [0, 1] rfl)
