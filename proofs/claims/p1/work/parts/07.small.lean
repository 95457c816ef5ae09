theorem dX11_end_0 : decode cX11_end 0 = .ok (.iload_n 1, 1) := by decide +kernel
theorem dX11_end_1 : decode cX11_end 1 = .ok (.ifCond .lt 14, 3) := by decide +kernel
theorem dX11_end_15 : decode cX11_end 15 = .ok (.iconst (-1), 1) := by decide +kernel
theorem dX11_end_16 : decode cX11_end 16 = .ok (.ireturn, 1) := by decide +kernel
theorem dX11_end_4 : decode cX11_end 4 = .ok (.iload_n 1, 1) := by decide +kernel
theorem dX11_end_5 : decode cX11_end 5 = .ok (.aload_n 0, 1) := by decide +kernel
theorem dX11_end_6 : decode cX11_end 6 = .ok (.getfield 12, 3) := by decide +kernel
theorem dX11_end_9 : decode cX11_end 9 = .ok (.getfield 93, 3) := by decide +kernel
theorem dX11_end_12 : decode cX11_end 12 = .ok (.if_icmp .le 5, 3) := by decide +kernel
theorem dX11_end_17 : decode cX11_end 17 = .ok (.aload_n 0, 1) := by decide +kernel
theorem dX11_end_18 : decode cX11_end 18 = .ok (.getfield 12, 3) := by decide +kernel
theorem dX11_end_21 : decode cX11_end 21 = .ok (.iload_n 1, 1) := by decide +kernel
theorem dX11_end_22 : decode cX11_end 22 = .ok (.putfield 93, 3) := by decide +kernel
theorem dX11_end_25 : decode cX11_end 25 = .ok (.iload_n 1, 1) := by decide +kernel
theorem dX11_end_26 : decode cX11_end 26 = .ok (.ireturn, 1) := by decide +kernel
def vX11_end : List Cond := .code yX11_end cX11_end 2 (some .int) :: ([.fieldLink RX11 12 "IcicleClock" "tape" "LIcicleClock$Tape;", .fieldLink RX11 93 "IcicleClock$Tape" "filled" "I"] ++ wsX110 ++ wsX70)
theorem iX11_end_11 : ∀ w ∈ wsX110, w ∈ vX11_end := fun _ h => List.mem_cons_of_mem _ (List.mem_append_left _ (List.mem_append_right _ h))
theorem iX11_end_7 : ∀ w ∈ wsX70, w ∈ vX11_end := fun _ h => List.mem_cons_of_mem _ (List.mem_append_right _ h)
set_option maxHeartbeats 4000000 in
set_option maxRecDepth 100000 in
theorem k_end (l : Launch) (D : va_G) (cs : Nat → ClassId) (ad : Nat → Nat) (hj : wJ ad nW) (g : Nat → va_E) (vn : Int32) (h0 : g 0 = .inr (11, [.ref (ad 1), .ref (ad 3), .ref (ad 23), .ref (ad 43), .ref (ad 104), .ref (ad 105), .ref (ad 114), .ref (ad 116), .ref (ad 118), .ref (ad 120), .ref (ad 130), .ref (ad 140), .ref (ad 144), .ref (ad 190)])) (h1 : g 1 = .inr (7, [.ref (ad 2), .int 0, .int 0, .int (-1), .int 0, .int 0, .int 0])) : cI l yX11_end vX11_end { frames := 0, cells := 0, slots := 0, locals := 0 } D cs ad nW [.ref (ad 0), .int vn] g (fun r g2 => r = aEnd vn ∧ ∀ j, 197 ≤ j → g2 j = g j) := by
  refine Met.start (cc := cX11_end) (maxL := 2) (ret := (some .int)) RX11 rfl (by decide) rfl (Nat.le_of_ble_eq_true rfl) ?_
  intro p e s m below meth c ls X hP hl
  have hx := X.1
  have hb := X.2.1
  have hS : va_S (wA ad nW) s.heap s.heap [] := va_S.rf
  have hA : ∀ i, i < nW → wA ad nW (ad i) := fun i h => ⟨i, h, rfl⟩
  have hfr : ∀ j, 197 ≤ j → g j = g j := fun _ _ => rfl
  have hl : lv_has ls 2 [(0, .ref (ad 0)), (1, .int vn)] := hl
  refine lv_iload_n hx hb dX11_end_0 rfl (lv_at hl 1 rfl) ?_
  refine lv_if_lt (tgt := 15) hx hb dX11_end_1 (by decide) (fun hc_1 => ?_) (fun hc_1 => ?_)
  · refine lv_iconst (v := (-1)) hx hb dX11_end_15 (by decide) ?_
    exact q_iret X hP hS ⟨(by first | exact aEnd_ne (fun h => absurd hc_1 (by rw [h]; decide)) | exact aEnd_ne (fun h => absurd (Int32.le_of_eq h) hc_12)), hfr⟩ dX11_end_16
  · refine lv_iload_n hx hb dX11_end_4 rfl (lv_at hl 1 rfl) ?_
    refine lv_aload_n hx hb dX11_end_5 rfl (lv_at hl 0 rfl) ?_
    refine q_get X iX11_end_11 hP (by decide) h0 rfl 0 (by decide) (List.mem_of_getElem? (i := 1) rfl) (v := .ref (ad 1)) rfl dX11_end_6 ?_
    refine q_get X iX11_end_7 hP (by decide) h1 rfl 1 (by decide) (List.mem_of_getElem? (i := 2) rfl) (v := .int 0) rfl dX11_end_9 ?_
    refine lv_icmp_le (tgt := 17) hx hb dX11_end_12 (by decide) (fun hc_12 => ?_) (fun hc_12 => ?_)
    · refine lv_aload_n hx hb dX11_end_17 rfl (lv_at hl 0 rfl) ?_
      refine q_get X iX11_end_11 hP (by decide) h0 rfl 0 (by decide) (List.mem_of_getElem? (i := 1) rfl) (v := .ref (ad 1)) rfl dX11_end_18 ?_
      refine lv_iload_n hx hb dX11_end_21 rfl (lv_at hl 1 rfl) ?_
      refine q_put X iX11_end_7 tyX7 tyX7_ok nmX7 hP hj hA hS (by decide) h1 rfl 1 (by decide) (List.mem_of_getElem? (i := 2) rfl) rfl (ty := .int) (v := .int vn) (by decide +kernel) rfl rfl (Nat.le_of_ble_eq_true rfl) dX11_end_22 (fun H locs hP hS => ?_)
      generalize eg_1 : va_up g 1 _ = g_1 at hP
      have hfr_2 : ∀ j, 197 ≤ j → g_1 j = g j := fun j hj => by rw [← eg_1]; exact (va_up_ne _ _ (by omega)).trans (hfr j hj)
      have h_3 : g_1 0 = .inr (11, [.ref (ad 1), .ref (ad 3), .ref (ad 23), .ref (ad 43), .ref (ad 104), .ref (ad 105), .ref (ad 114), .ref (ad 116), .ref (ad 118), .ref (ad 120), .ref (ad 130), .ref (ad 140), .ref (ad 144), .ref (ad 190)]) := by rw [← eg_1, va_up_ne _ _ (by decide)]; exact h0
      have h_4 : g_1 1 = .inr (7, [.ref (ad 2), .int vn, .int 0, .int (-1), .int 0, .int 0, .int 0]) := by rw [← eg_1]; exact va_up_self _ _ _
      refine lv_iload_n hx hb dX11_end_25 rfl (lv_at hl 1 rfl) ?_
      exact q_iret X hP hS ⟨(by rw [i_eq hc_1 hc_12]; exact (if_pos rfl).symm), hfr_2⟩ dX11_end_26
    · refine lv_iconst (v := (-1)) hx hb dX11_end_15 (by decide) ?_
      exact q_iret X hP hS ⟨(by first | exact aEnd_ne (fun h => absurd hc_1 (by rw [h]; decide)) | exact aEnd_ne (fun h => absurd (Int32.le_of_eq h) hc_12)), hfr⟩ dX11_end_16

theorem dX11_fault_0 : decode cX11_fault 0 = .ok (.iload_n 1, 1) := by decide +kernel
theorem dX11_fault_1 : decode cX11_fault 1 = .ok (.ifCond .ne 11, 3) := by decide +kernel
theorem dX11_fault_12 : decode cX11_fault 12 = .ok (.iload_n 1, 1) := by decide +kernel
theorem dX11_fault_13 : decode cX11_fault 13 = .ok (.iconst 1, 1) := by decide +kernel
theorem dX11_fault_14 : decode cX11_fault 14 = .ok (.if_icmp .ne 13, 3) := by decide +kernel
theorem dX11_fault_27 : decode cX11_fault 27 = .ok (.iconst (-1), 1) := by decide +kernel
theorem dX11_fault_28 : decode cX11_fault 28 = .ok (.ireturn, 1) := by decide +kernel
theorem dX11_fault_17 : decode cX11_fault 17 = .ok (.aload_n 0, 1) := by decide +kernel
theorem dX11_fault_18 : decode cX11_fault 18 = .ok (.getfield 12, 3) := by decide +kernel
theorem dX11_fault_21 : decode cX11_fault 21 = .ok (.getfield 118, 3) := by decide +kernel
theorem dX11_fault_24 : decode cX11_fault 24 = .ok (.goto 4, 3) := by decide +kernel
theorem dX11_fault_4 : decode cX11_fault 4 = .ok (.aload_n 0, 1) := by decide +kernel
theorem dX11_fault_5 : decode cX11_fault 5 = .ok (.getfield 12, 3) := by decide +kernel
theorem dX11_fault_8 : decode cX11_fault 8 = .ok (.getfield 115, 3) := by decide +kernel
theorem dX11_fault_11 : decode cX11_fault 11 = .ok (.ireturn, 1) := by decide +kernel
def vX11_fault : List Cond := .code yX11_fault cX11_fault 2 (some .int) :: ([.fieldLink RX11 12 "IcicleClock" "tape" "LIcicleClock$Tape;", .fieldLink RX11 118 "IcicleClock$Tape" "faultPlace" "I", .fieldLink RX11 115 "IcicleClock$Tape" "fault" "I"] ++ wsX110 ++ wsX70)
theorem iX11_fault_11 : ∀ w ∈ wsX110, w ∈ vX11_fault := fun _ h => List.mem_cons_of_mem _ (List.mem_append_left _ (List.mem_append_right _ h))
theorem iX11_fault_7 : ∀ w ∈ wsX70, w ∈ vX11_fault := fun _ h => List.mem_cons_of_mem _ (List.mem_append_right _ h)
set_option maxHeartbeats 4000000 in
set_option maxRecDepth 100000 in
theorem k_fault (l : Launch) (D : va_G) (cs : Nat → ClassId) (ad : Nat → Nat) (hj : wJ ad nW) (g : Nat → va_E) (vw : Int32) (h0 : g 0 = .inr (11, [.ref (ad 1), .ref (ad 3), .ref (ad 23), .ref (ad 43), .ref (ad 104), .ref (ad 105), .ref (ad 114), .ref (ad 116), .ref (ad 118), .ref (ad 120), .ref (ad 130), .ref (ad 140), .ref (ad 144), .ref (ad 190)])) (h1 : g 1 = .inr (7, [.ref (ad 2), .int 0, .int 0, .int (-1), .int 0, .int 0, .int 0])) : cI l yX11_fault vX11_fault { frames := 0, cells := 0, slots := 0, locals := 0 } D cs ad nW [.ref (ad 0), .int vw] g (fun r g2 => r = aEnd vw ∧ ∀ j, 197 ≤ j → g2 j = g j) := by
  refine Met.start (cc := cX11_fault) (maxL := 2) (ret := (some .int)) RX11 rfl (by decide) rfl (Nat.le_of_ble_eq_true rfl) ?_
  intro p e s m below meth c ls X hP hl
  have hx := X.1
  have hb := X.2.1
  have hS : va_S (wA ad nW) s.heap s.heap [] := va_S.rf
  have hA : ∀ i, i < nW → wA ad nW (ad i) := fun i h => ⟨i, h, rfl⟩
  have hfr : ∀ j, 197 ≤ j → g j = g j := fun _ _ => rfl
  have hl : lv_has ls 2 [(0, .ref (ad 0)), (1, .int vw)] := hl
  refine lv_iload_n hx hb dX11_fault_0 rfl (lv_at hl 1 rfl) ?_
  refine lv_if_ne (tgt := 12) hx hb dX11_fault_1 (by decide) (fun hc_1 => ?_) (fun hc_1 => ?_)
  · refine lv_iload_n hx hb dX11_fault_12 rfl (lv_at hl 1 rfl) ?_
    refine lv_iconst (v := 1) hx hb dX11_fault_13 (by decide) ?_
    refine lv_icmp_ne (tgt := 27) hx hb dX11_fault_14 (by decide) (fun hc_14 => ?_) (fun hc_14 => ?_)
    · refine lv_iconst (v := (-1)) hx hb dX11_fault_27 (by decide) ?_
      exact q_iret X hP hS ⟨(aEnd_ne hc_1), hfr⟩ dX11_fault_28
    · refine lv_aload_n hx hb dX11_fault_17 rfl (lv_at hl 0 rfl) ?_
      refine q_get X iX11_fault_11 hP (by decide) h0 rfl 0 (by decide) (List.mem_of_getElem? (i := 1) rfl) (v := .ref (ad 1)) rfl dX11_fault_18 ?_
      refine q_get X iX11_fault_7 hP (by decide) h1 rfl 3 (by decide) (List.mem_of_getElem? (i := 2) rfl) (v := .int (-1)) rfl dX11_fault_21 ?_
      refine lv_goto (tgt := 28) hx hb dX11_fault_24 (by decide) ?_
      exact q_iret X hP hS ⟨(aEnd_ne hc_1), hfr⟩ dX11_fault_28
  · refine lv_aload_n hx hb dX11_fault_4 rfl (lv_at hl 0 rfl) ?_
    refine q_get X iX11_fault_11 hP (by decide) h0 rfl 0 (by decide) (List.mem_of_getElem? (i := 1) rfl) (v := .ref (ad 1)) rfl dX11_fault_5 ?_
    refine q_get X iX11_fault_7 hP (by decide) h1 rfl 2 (by decide) (List.mem_of_getElem? (i := 3) rfl) (v := .int 0) rfl dX11_fault_8 ?_
    exact q_iret X hP hS ⟨(by rw [show vw = 0 from hc_1]; exact (if_pos rfl).symm), hfr⟩ dX11_fault_11

theorem dX11_back_0 : decode cX11_back 0 = .ok (.iload_n 1, 1) := by decide +kernel
theorem dX11_back_1 : decode cX11_back 1 = .ok (.ifCond .lt 8, 3) := by decide +kernel
theorem dX11_back_9 : decode cX11_back 9 = .ok (.bipush (-2), 2) := by decide +kernel
theorem dX11_back_11 : decode cX11_back 11 = .ok (.ireturn, 1) := by decide +kernel
theorem dX11_back_4 : decode cX11_back 4 = .ok (.iload_n 1, 1) := by decide +kernel
theorem dX11_back_5 : decode cX11_back 5 = .ok (.iconst 3, 1) := by decide +kernel
theorem dX11_back_6 : decode cX11_back 6 = .ok (.if_icmp .lt 6, 3) := by decide +kernel
theorem dX11_back_12 : decode cX11_back 12 = .ok (.aload_n 0, 1) := by decide +kernel
theorem dX11_back_13 : decode cX11_back 13 = .ok (.getfield 30, 3) := by decide +kernel
theorem dX11_back_16 : decode cX11_back 16 = .ok (.iload_n 1, 1) := by decide +kernel
theorem dX11_back_17 : decode cX11_back 17 = .ok (.baload, 1) := by decide +kernel
theorem dX11_back_18 : decode cX11_back 18 = .ok (.ifCond .ne 6, 3) := by decide +kernel
theorem dX11_back_21 : decode cX11_back 21 = .ok (.bipush (-6), 2) := by decide +kernel
theorem dX11_back_23 : decode cX11_back 23 = .ok (.ireturn, 1) := by decide +kernel
def vX11_back : List Cond := .code yX11_back cX11_back 2 (some .int) :: ([.fieldLink RX11 30 "IcicleClock" "kept" "[Z"] ++ wsX110)
theorem iX11_back_11 : ∀ w ∈ wsX110, w ∈ vX11_back := fun _ h => List.mem_cons_of_mem _ (List.mem_append_right _ h)
set_option maxHeartbeats 4000000 in
set_option maxRecDepth 100000 in
theorem k_back (l : Launch) (D : va_G) (cs : Nat → ClassId) (ad : Nat → Nat) (hj : wJ ad nW) (g : Nat → va_E) (vk : Int32) (h0 : g 0 = .inr (11, [.ref (ad 1), .ref (ad 3), .ref (ad 23), .ref (ad 43), .ref (ad 104), .ref (ad 105), .ref (ad 114), .ref (ad 116), .ref (ad 118), .ref (ad 120), .ref (ad 130), .ref (ad 140), .ref (ad 144), .ref (ad 190)])) (h104 : g 104 = .inl (cs 3, 3, .inl (fun _ => 0))) : cI l yX11_back vX11_back { frames := 0, cells := 0, slots := 0, locals := 0 } D cs ad nW [.ref (ad 0), .int vk] g (fun r g2 => r = aBack vk ∧ ∀ j, 197 ≤ j → g2 j = g j) := by
  refine Met.start (cc := cX11_back) (maxL := 2) (ret := (some .int)) RX11 rfl (by decide) rfl (Nat.le_of_ble_eq_true rfl) ?_
  intro p e s m below meth c ls X hP hl
  have hx := X.1
  have hb := X.2.1
  have hS : va_S (wA ad nW) s.heap s.heap [] := va_S.rf
  have hA : ∀ i, i < nW → wA ad nW (ad i) := fun i h => ⟨i, h, rfl⟩
  have hfr : ∀ j, 197 ≤ j → g j = g j := fun _ _ => rfl
  have hl : lv_has ls 2 [(0, .ref (ad 0)), (1, .int vk)] := hl
  refine lv_iload_n hx hb dX11_back_0 rfl (lv_at hl 1 rfl) ?_
  refine lv_if_lt (tgt := 9) hx hb dX11_back_1 (by decide) (fun hc_1 => ?_) (fun hc_1 => ?_)
  · refine lv_bipush (v := (-2)) hx hb dX11_back_9 (by decide) ?_
    exact q_iret X hP hS ⟨(by unfold aBack; first | rw [if_pos hc_1] | rw [if_neg hc_1, if_neg hc_6]), hfr⟩ dX11_back_11
  · refine lv_iload_n hx hb dX11_back_4 rfl (lv_at hl 1 rfl) ?_
    refine lv_iconst (v := 3) hx hb dX11_back_5 (by decide) ?_
    refine lv_icmp_lt (tgt := 12) hx hb dX11_back_6 (by decide) (fun hc_6 => ?_) (fun hc_6 => ?_)
    · rcases in3 hc_1 hc_6 with rfl | rfl | rfl
      · refine lv_aload_n hx hb dX11_back_12 rfl (lv_at hl 0 rfl) ?_
        refine q_get X iX11_back_11 hP (by decide) h0 rfl 4 (by decide) (List.mem_of_getElem? (i := 1) rfl) (v := .ref (ad 104)) rfl dX11_back_13 ?_
        refine lv_iload_n hx hb dX11_back_16 rfl (lv_at hl 1 rfl) ?_
        refine q_zald X hP (by decide) h104 (by unfold vp_in; decide) dX11_back_17 ?_
        refine lv_if_ne (tgt := 24) hx hb dX11_back_18 (by decide) (fun h => absurd h (by decide)) (fun _ => ?_)
        refine lv_bipush (v := (-6)) hx hb dX11_back_21 (by decide) ?_
        exact q_iret X hP hS ⟨(by unfold aBack; rfl), hfr⟩ dX11_back_23
      · refine lv_aload_n hx hb dX11_back_12 rfl (lv_at hl 0 rfl) ?_
        refine q_get X iX11_back_11 hP (by decide) h0 rfl 4 (by decide) (List.mem_of_getElem? (i := 1) rfl) (v := .ref (ad 104)) rfl dX11_back_13 ?_
        refine lv_iload_n hx hb dX11_back_16 rfl (lv_at hl 1 rfl) ?_
        refine q_zald X hP (by decide) h104 (by unfold vp_in; decide) dX11_back_17 ?_
        refine lv_if_ne (tgt := 24) hx hb dX11_back_18 (by decide) (fun h => absurd h (by decide)) (fun _ => ?_)
        refine lv_bipush (v := (-6)) hx hb dX11_back_21 (by decide) ?_
        exact q_iret X hP hS ⟨(by unfold aBack; rfl), hfr⟩ dX11_back_23
      · refine lv_aload_n hx hb dX11_back_12 rfl (lv_at hl 0 rfl) ?_
        refine q_get X iX11_back_11 hP (by decide) h0 rfl 4 (by decide) (List.mem_of_getElem? (i := 1) rfl) (v := .ref (ad 104)) rfl dX11_back_13 ?_
        refine lv_iload_n hx hb dX11_back_16 rfl (lv_at hl 1 rfl) ?_
        refine q_zald X hP (by decide) h104 (by unfold vp_in; decide) dX11_back_17 ?_
        refine lv_if_ne (tgt := 24) hx hb dX11_back_18 (by decide) (fun h => absurd h (by decide)) (fun _ => ?_)
        refine lv_bipush (v := (-6)) hx hb dX11_back_21 (by decide) ?_
        exact q_iret X hP hS ⟨(by unfold aBack; rfl), hfr⟩ dX11_back_23
    · refine lv_bipush (v := (-2)) hx hb dX11_back_9 (by decide) ?_
      exact q_iret X hP hS ⟨(by unfold aBack; first | rw [if_pos hc_1] | rw [if_neg hc_1, if_neg hc_6]), hfr⟩ dX11_back_11

theorem dX11_write_0 : decode cX11_write 0 = .ok (.iload_n 1, 1) := by decide +kernel
theorem dX11_write_1 : decode cX11_write 1 = .ok (.invokestatic 377, 3) := by decide +kernel
theorem dX11_write_4 : decode cX11_write 4 = .ok (.ifCond .ne 6, 3) := by decide +kernel
theorem dX11_write_10 : decode cX11_write 10 = .ok (.aload_n 0, 1) := by decide +kernel
theorem dX11_write_11 : decode cX11_write 11 = .ok (.getfield 36, 3) := by decide +kernel
theorem dX11_write_14 : decode cX11_write 14 = .ok (.iload_n 1, 1) := by decide +kernel
theorem dX11_write_15 : decode cX11_write 15 = .ok (.aaload, 1) := by decide +kernel
theorem dX11_write_16 : decode cX11_write 16 = .ok (.astore 5, 2) := by decide +kernel
theorem dX11_write_18 : decode cX11_write 18 = .ok (.aload 5, 2) := by decide +kernel
theorem dX11_write_20 : decode cX11_write 20 = .ok (.getfield 384, 3) := by decide +kernel
theorem dX11_write_23 : decode cX11_write 23 = .ok (.ifCond .ne 6, 3) := by decide +kernel
theorem dX11_write_26 : decode cX11_write 26 = .ok (.bipush (-6), 2) := by decide +kernel
theorem dX11_write_28 : decode cX11_write 28 = .ok (.ireturn, 1) := by decide +kernel
theorem dX11_write_7 : decode cX11_write 7 = .ok (.bipush (-2), 2) := by decide +kernel
theorem dX11_write_9 : decode cX11_write 9 = .ok (.ireturn, 1) := by decide +kernel
def vX11_write : List Cond := .code yX11_write cX11_write 6 (some .int) :: ([.methodLink RX11 377 yX11_isSlot, .static yX11_isSlot, .initialized RX11, .code yX11_isSlot cX11_isSlot 1 (some .boolean), .fieldLink RX11 36 "IcicleClock" "slots" "[LIcicleClock$Slot;", .fieldLink RX11 384 "IcicleClock$Slot" "laid" "Z"] ++ wsX110 ++ wsX50)
theorem iX11_write_11 : ∀ w ∈ wsX110, w ∈ vX11_write := fun _ h => List.mem_cons_of_mem _ (List.mem_append_left _ (List.mem_append_right _ h))
theorem iX11_write_5 : ∀ w ∈ wsX50, w ∈ vX11_write := fun _ h => List.mem_cons_of_mem _ (List.mem_append_right _ h)
set_option maxRecDepth 20000 in
theorem gg_X11_write_X11_isSlot : GoodIn vX11_write (wsS RX11 377 yX11_isSlot vX11_isSlot) := goodIn_r _ [1, 2, 3, 4] (by decide +kernel) (by decide +kernel)
set_option maxHeartbeats 4000000 in
set_option maxRecDepth 100000 in
theorem k_write (l : Launch) (D : va_G) (cs : Nat → ClassId) (ad : Nat → Nat) (hj : wJ ad nW) (g : Nat → va_E) (vs : Int32) (vi : Int32) (vv : Int64) (h0 : g 0 = .inr (11, [.ref (ad 1), .ref (ad 3), .ref (ad 23), .ref (ad 43), .ref (ad 104), .ref (ad 105), .ref (ad 114), .ref (ad 116), .ref (ad 118), .ref (ad 120), .ref (ad 130), .ref (ad 140), .ref (ad 144), .ref (ad 190)])) (h105 : g 105 = .inl (cs 4, 4, .inr (.inr (.inr (.inr (va_up (va_up (va_up (va_up (fun _ => none) 0 (some (ad 106))) 1 (some (ad 108))) 2 (some (ad 110))) 3 (some (ad 112)))))))) (h106 : g 106 = .inr (5, [.ref (ad 107), .int 0, .int 0, .int 0])) (h108 : g 108 = .inr (5, [.ref (ad 109), .int 0, .int 0, .int 0])) (h110 : g 110 = .inr (5, [.ref (ad 111), .int 0, .int 0, .int 0])) (h112 : g 112 = .inr (5, [.ref (ad 113), .int 0, .int 0, .int 0])) : cI l yX11_write vX11_write { frames := 1, cells := 0, slots := 0, locals := 20 } D cs ad nW [.ref (ad 0), .int vs, .int vi, .long vv] g (fun r g2 => r = aWr vs ∧ ∀ j, 197 ≤ j → g2 j = g j) := by
  refine Met.start (cc := cX11_write) (maxL := 6) (ret := (some .int)) RX11 rfl (by decide) rfl (Nat.le_of_ble_eq_true rfl) ?_
  intro p e s m below meth c ls X hP hl
  have hx := X.1
  have hb := X.2.1
  have hS : va_S (wA ad nW) s.heap s.heap [] := va_S.rf
  have hA : ∀ i, i < nW → wA ad nW (ad i) := fun i h => ⟨i, h, rfl⟩
  have hfr : ∀ j, 197 ≤ j → g j = g j := fun _ _ => rfl
  have hl : lv_has ls 6 [(0, .ref (ad 0)), (1, .int vs), (2, .int vi), (3, .long vv)] := hl
  refine lv_iload_n hx hb dX11_write_0 rfl (lv_at hl 1 rfl) ?_
  refine q_callSi (As := [.int vs]) (rest := []) X (k_isSlot l D cs ad hj g vs ) (cwS 1 X.2.2.2.2.1 gg_X11_write_X11_isSlot rfl rfl rfl (by decide +kernel) ⟨Nat.le_of_ble_eq_true rfl, Nat.le_of_ble_eq_true rfl⟩) hP hA hS rfl hl.1 rfl (Nat.le_of_ble_eq_true rfl) dX11_write_1 ⟨Nat.le_of_ble_eq_true rfl, Nat.le_of_ble_eq_true rfl⟩ (fun r_3 g_2 H locs hw_1 hP hS => ?_)
  obtain ⟨hw_1b, hw_1⟩ := hw_1
  rw [hw_1b] at hP
  refine lv_if_ne (tgt := 10) hx hb dX11_write_4 (by decide) (fun hc_4 => ?_) (fun hc_4 => ?_)
  · rcases inS_4 (hw_1.elim (fun q => q.2) (fun q => absurd q.1 hc_4)) with rfl | rfl | rfl | rfl
    · refine lv_aload_n hx hb dX11_write_10 rfl (lv_at hl 0 rfl) ?_
      refine q_get X iX11_write_11 hP (by decide) h0 rfl 5 (by decide) (List.mem_of_getElem? (i := 5) rfl) (v := .ref (ad 105)) rfl dX11_write_11 ?_
      refine lv_iload_n hx hb dX11_write_14 rfl (lv_at hl 1 rfl) ?_
      refine q_aald X hP 4 rfl (by decide) h105 (by unfold vp_in; decide) (v := ad 106) rfl dX11_write_15 ?_
      refine lv_astore (lv' := [(5, .ref (ad 106)), (0, .ref (ad 0)), (1, .int 0), (2, .int vi), (3, .long vv)]) hx hb dX11_write_16 hl (by decide) rfl (fun ls hl => ?_)
      refine lv_aload hx hb dX11_write_18 (lv_at hl 0 rfl) ?_
      refine q_get X iX11_write_5 hP (by decide) h106 rfl 1 (by decide) (List.mem_of_getElem? (i := 6) rfl) (v := .int 0) rfl dX11_write_20 ?_
      refine lv_if_ne (tgt := 29) hx hb dX11_write_23 (by decide) (fun h => absurd h (by decide)) (fun _ => ?_)
      refine lv_bipush (v := (-6)) hx hb dX11_write_26 (by decide) ?_
      exact q_iret X hP hS ⟨(by first | rfl | (unfold aWr; rfl)), hfr⟩ dX11_write_28
    · refine lv_aload_n hx hb dX11_write_10 rfl (lv_at hl 0 rfl) ?_
      refine q_get X iX11_write_11 hP (by decide) h0 rfl 5 (by decide) (List.mem_of_getElem? (i := 5) rfl) (v := .ref (ad 105)) rfl dX11_write_11 ?_
      refine lv_iload_n hx hb dX11_write_14 rfl (lv_at hl 1 rfl) ?_
      refine q_aald X hP 4 rfl (by decide) h105 (by unfold vp_in; decide) (v := ad 108) rfl dX11_write_15 ?_
      refine lv_astore (lv' := [(5, .ref (ad 108)), (0, .ref (ad 0)), (1, .int 1), (2, .int vi), (3, .long vv)]) hx hb dX11_write_16 hl (by decide) rfl (fun ls hl => ?_)
      refine lv_aload hx hb dX11_write_18 (lv_at hl 0 rfl) ?_
      refine q_get X iX11_write_5 hP (by decide) h108 rfl 1 (by decide) (List.mem_of_getElem? (i := 6) rfl) (v := .int 0) rfl dX11_write_20 ?_
      refine lv_if_ne (tgt := 29) hx hb dX11_write_23 (by decide) (fun h => absurd h (by decide)) (fun _ => ?_)
      refine lv_bipush (v := (-6)) hx hb dX11_write_26 (by decide) ?_
      exact q_iret X hP hS ⟨(by first | rfl | (unfold aWr; rfl)), hfr⟩ dX11_write_28
    · refine lv_aload_n hx hb dX11_write_10 rfl (lv_at hl 0 rfl) ?_
      refine q_get X iX11_write_11 hP (by decide) h0 rfl 5 (by decide) (List.mem_of_getElem? (i := 5) rfl) (v := .ref (ad 105)) rfl dX11_write_11 ?_
      refine lv_iload_n hx hb dX11_write_14 rfl (lv_at hl 1 rfl) ?_
      refine q_aald X hP 4 rfl (by decide) h105 (by unfold vp_in; decide) (v := ad 110) rfl dX11_write_15 ?_
      refine lv_astore (lv' := [(5, .ref (ad 110)), (0, .ref (ad 0)), (1, .int 2), (2, .int vi), (3, .long vv)]) hx hb dX11_write_16 hl (by decide) rfl (fun ls hl => ?_)
      refine lv_aload hx hb dX11_write_18 (lv_at hl 0 rfl) ?_
      refine q_get X iX11_write_5 hP (by decide) h110 rfl 1 (by decide) (List.mem_of_getElem? (i := 6) rfl) (v := .int 0) rfl dX11_write_20 ?_
      refine lv_if_ne (tgt := 29) hx hb dX11_write_23 (by decide) (fun h => absurd h (by decide)) (fun _ => ?_)
      refine lv_bipush (v := (-6)) hx hb dX11_write_26 (by decide) ?_
      exact q_iret X hP hS ⟨(by first | rfl | (unfold aWr; rfl)), hfr⟩ dX11_write_28
    · refine lv_aload_n hx hb dX11_write_10 rfl (lv_at hl 0 rfl) ?_
      refine q_get X iX11_write_11 hP (by decide) h0 rfl 5 (by decide) (List.mem_of_getElem? (i := 5) rfl) (v := .ref (ad 105)) rfl dX11_write_11 ?_
      refine lv_iload_n hx hb dX11_write_14 rfl (lv_at hl 1 rfl) ?_
      refine q_aald X hP 4 rfl (by decide) h105 (by unfold vp_in; decide) (v := ad 112) rfl dX11_write_15 ?_
      refine lv_astore (lv' := [(5, .ref (ad 112)), (0, .ref (ad 0)), (1, .int 3), (2, .int vi), (3, .long vv)]) hx hb dX11_write_16 hl (by decide) rfl (fun ls hl => ?_)
      refine lv_aload hx hb dX11_write_18 (lv_at hl 0 rfl) ?_
      refine q_get X iX11_write_5 hP (by decide) h112 rfl 1 (by decide) (List.mem_of_getElem? (i := 6) rfl) (v := .int 0) rfl dX11_write_20 ?_
      refine lv_if_ne (tgt := 29) hx hb dX11_write_23 (by decide) (fun h => absurd h (by decide)) (fun _ => ?_)
      refine lv_bipush (v := (-6)) hx hb dX11_write_26 (by decide) ?_
      exact q_iret X hP hS ⟨(by first | rfl | (unfold aWr; rfl)), hfr⟩ dX11_write_28
  · refine lv_bipush (v := (-2)) hx hb dX11_write_7 (by decide) ?_
    exact q_iret X hP hS ⟨(aWr_out (hw_1.elim (fun q => absurd (q.1.symm.trans hc_4) (by decide)) (fun q => q.2))).symm, hfr⟩ dX11_write_9

theorem dX11_paste_0 : decode cX11_paste 0 = .ok (.iload_n 1, 1) := by decide +kernel
theorem dX11_paste_1 : decode cX11_paste 1 = .ok (.invokestatic 377, 3) := by decide +kernel
theorem dX11_paste_4 : decode cX11_paste 4 = .ok (.ifCond .eq 10, 3) := by decide +kernel
theorem dX11_paste_14 : decode cX11_paste 14 = .ok (.bipush (-2), 2) := by decide +kernel
theorem dX11_paste_16 : decode cX11_paste 16 = .ok (.ireturn, 1) := by decide +kernel
theorem dX11_paste_7 : decode cX11_paste 7 = .ok (.iload_n 3, 1) := by decide +kernel
theorem dX11_paste_8 : decode cX11_paste 8 = .ok (.invokestatic 377, 3) := by decide +kernel
theorem dX11_paste_11 : decode cX11_paste 11 = .ok (.ifCond .ne 6, 3) := by decide +kernel
theorem dX11_paste_17 : decode cX11_paste 17 = .ok (.aload_n 0, 1) := by decide +kernel
theorem dX11_paste_18 : decode cX11_paste 18 = .ok (.getfield 36, 3) := by decide +kernel
theorem dX11_paste_21 : decode cX11_paste 21 = .ok (.iload_n 1, 1) := by decide +kernel
theorem dX11_paste_22 : decode cX11_paste 22 = .ok (.aaload, 1) := by decide +kernel
theorem dX11_paste_23 : decode cX11_paste 23 = .ok (.astore 6, 2) := by decide +kernel
theorem dX11_paste_25 : decode cX11_paste 25 = .ok (.aload_n 0, 1) := by decide +kernel
theorem dX11_paste_26 : decode cX11_paste 26 = .ok (.getfield 36, 3) := by decide +kernel
theorem dX11_paste_29 : decode cX11_paste 29 = .ok (.iload_n 3, 1) := by decide +kernel
theorem dX11_paste_30 : decode cX11_paste 30 = .ok (.aaload, 1) := by decide +kernel
theorem dX11_paste_31 : decode cX11_paste 31 = .ok (.astore 7, 2) := by decide +kernel
theorem dX11_paste_33 : decode cX11_paste 33 = .ok (.aload 6, 2) := by decide +kernel
theorem dX11_paste_35 : decode cX11_paste 35 = .ok (.getfield 384, 3) := by decide +kernel
theorem dX11_paste_38 : decode cX11_paste 38 = .ok (.ifCond .eq 11, 3) := by decide +kernel
theorem dX11_paste_49 : decode cX11_paste 49 = .ok (.bipush (-6), 2) := by decide +kernel
theorem dX11_paste_51 : decode cX11_paste 51 = .ok (.ireturn, 1) := by decide +kernel
def vX11_paste : List Cond := .code yX11_paste cX11_paste 8 (some .int) :: ([.methodLink RX11 377 yX11_isSlot, .static yX11_isSlot, .initialized RX11, .code yX11_isSlot cX11_isSlot 1 (some .boolean), .fieldLink RX11 36 "IcicleClock" "slots" "[LIcicleClock$Slot;", .fieldLink RX11 384 "IcicleClock$Slot" "laid" "Z"] ++ wsX110 ++ wsX50)
theorem iX11_paste_11 : ∀ w ∈ wsX110, w ∈ vX11_paste := fun _ h => List.mem_cons_of_mem _ (List.mem_append_left _ (List.mem_append_right _ h))
theorem iX11_paste_5 : ∀ w ∈ wsX50, w ∈ vX11_paste := fun _ h => List.mem_cons_of_mem _ (List.mem_append_right _ h)
set_option maxRecDepth 20000 in
theorem gg_X11_paste_X11_isSlot : GoodIn vX11_paste (wsS RX11 377 yX11_isSlot vX11_isSlot) := goodIn_r _ [1, 2, 3, 4] (by decide +kernel) (by decide +kernel)
set_option maxHeartbeats 4000000 in
set_option maxRecDepth 100000 in
theorem k_paste (l : Launch) (D : va_G) (cs : Nat → ClassId) (ad : Nat → Nat) (hj : wJ ad nW) (g : Nat → va_E) (vs : Int32) (vi : Int32) (vt : Int32) (vk : Int32) (vn : Int32) (h0 : g 0 = .inr (11, [.ref (ad 1), .ref (ad 3), .ref (ad 23), .ref (ad 43), .ref (ad 104), .ref (ad 105), .ref (ad 114), .ref (ad 116), .ref (ad 118), .ref (ad 120), .ref (ad 130), .ref (ad 140), .ref (ad 144), .ref (ad 190)])) (h105 : g 105 = .inl (cs 4, 4, .inr (.inr (.inr (.inr (va_up (va_up (va_up (va_up (fun _ => none) 0 (some (ad 106))) 1 (some (ad 108))) 2 (some (ad 110))) 3 (some (ad 112)))))))) (h106 : g 106 = .inr (5, [.ref (ad 107), .int 0, .int 0, .int 0])) (h108 : g 108 = .inr (5, [.ref (ad 109), .int 0, .int 0, .int 0])) (h110 : g 110 = .inr (5, [.ref (ad 111), .int 0, .int 0, .int 0])) (h112 : g 112 = .inr (5, [.ref (ad 113), .int 0, .int 0, .int 0])) : cI l yX11_paste vX11_paste { frames := 1, cells := 0, slots := 0, locals := 20 } D cs ad nW [.ref (ad 0), .int vs, .int vi, .int vt, .int vk, .int vn] g (fun r g2 => r = aPst vs vt ∧ ∀ j, 197 ≤ j → g2 j = g j) := by
  refine Met.start (cc := cX11_paste) (maxL := 8) (ret := (some .int)) RX11 rfl (by decide) rfl (Nat.le_of_ble_eq_true rfl) ?_
  intro p e s m below meth c ls X hP hl
  have hx := X.1
  have hb := X.2.1
  have hS : va_S (wA ad nW) s.heap s.heap [] := va_S.rf
  have hA : ∀ i, i < nW → wA ad nW (ad i) := fun i h => ⟨i, h, rfl⟩
  have hfr : ∀ j, 197 ≤ j → g j = g j := fun _ _ => rfl
  have hl : lv_has ls 8 [(0, .ref (ad 0)), (1, .int vs), (2, .int vi), (3, .int vt), (4, .int vk), (5, .int vn)] := hl
  refine lv_iload_n hx hb dX11_paste_0 rfl (lv_at hl 1 rfl) ?_
  refine q_callSi (As := [.int vs]) (rest := []) X (k_isSlot l D cs ad hj g vs ) (cwS 1 X.2.2.2.2.1 gg_X11_paste_X11_isSlot rfl rfl rfl (by decide +kernel) ⟨Nat.le_of_ble_eq_true rfl, Nat.le_of_ble_eq_true rfl⟩) hP hA hS rfl hl.1 rfl (Nat.le_of_ble_eq_true rfl) dX11_paste_1 ⟨Nat.le_of_ble_eq_true rfl, Nat.le_of_ble_eq_true rfl⟩ (fun r_3 g_2 H locs hw_1 hP hS => ?_)
  obtain ⟨hw_1b, hw_1⟩ := hw_1
  rw [hw_1b] at hP
  refine lv_if_eq (tgt := 14) hx hb dX11_paste_4 (by decide) (fun hc_4 => ?_) (fun hc_4 => ?_)
  · refine lv_bipush (v := (-2)) hx hb dX11_paste_14 (by decide) ?_
    exact q_iret X hP hS ⟨(by first | exact (aPst_out (hw_1.elim (fun q => absurd (q.1.symm.trans hc_4) (by decide)) (fun q => q.2))).symm | exact ((aPst_in (hw_1.elim (fun q => q.2) (fun q => absurd q.1 hc_4))).trans (aWr_out (hw_4.elim (fun q => absurd (q.1.symm.trans hc_11) (by decide)) (fun q => q.2)))).symm), hfr⟩ dX11_paste_16
  · refine lv_iload_n hx hb dX11_paste_7 rfl (lv_at hl 3 rfl) ?_
    refine q_callSi (As := [.int vt]) (rest := []) X (k_isSlot l D cs ad hj g vt ) (cwS 1 X.2.2.2.2.1 gg_X11_paste_X11_isSlot rfl rfl rfl (by decide +kernel) ⟨Nat.le_of_ble_eq_true rfl, Nat.le_of_ble_eq_true rfl⟩) hP hA hS rfl hl.1 rfl (Nat.le_of_ble_eq_true rfl) dX11_paste_8 ⟨Nat.le_of_ble_eq_true rfl, Nat.le_of_ble_eq_true rfl⟩ (fun r_6 g_5 H locs hw_4 hP hS => ?_)
    obtain ⟨hw_4b, hw_4⟩ := hw_4
    rw [hw_4b] at hP
    refine lv_if_ne (tgt := 17) hx hb dX11_paste_11 (by decide) (fun hc_11 => ?_) (fun hc_11 => ?_)
    · rcases inS_4 (hw_1.elim (fun q => q.2) (fun q => absurd q.1 hc_4)) with rfl | rfl | rfl | rfl
      · refine lv_aload_n hx hb dX11_paste_17 rfl (lv_at hl 0 rfl) ?_
        refine q_get X iX11_paste_11 hP (by decide) h0 rfl 5 (by decide) (List.mem_of_getElem? (i := 5) rfl) (v := .ref (ad 105)) rfl dX11_paste_18 ?_
        refine lv_iload_n hx hb dX11_paste_21 rfl (lv_at hl 1 rfl) ?_
        refine q_aald X hP 4 rfl (by decide) h105 (by unfold vp_in; decide) (v := ad 106) rfl dX11_paste_22 ?_
        refine lv_astore (lv' := [(6, .ref (ad 106)), (0, .ref (ad 0)), (1, .int 0), (2, .int vi), (3, .int vt), (4, .int vk), (5, .int vn)]) hx hb dX11_paste_23 hl (by decide) rfl (fun ls hl => ?_)
        rcases inS_4 (hw_4.elim (fun q => q.2) (fun q => absurd q.1 hc_11)) with rfl | rfl | rfl | rfl
        · refine lv_aload_n hx hb dX11_paste_25 rfl (lv_at hl 1 rfl) ?_
          refine q_get X iX11_paste_11 hP (by decide) h0 rfl 5 (by decide) (List.mem_of_getElem? (i := 5) rfl) (v := .ref (ad 105)) rfl dX11_paste_26 ?_
          refine lv_iload_n hx hb dX11_paste_29 rfl (lv_at hl 4 rfl) ?_
          refine q_aald X hP 4 rfl (by decide) h105 (by unfold vp_in; decide) (v := ad 106) rfl dX11_paste_30 ?_
          refine lv_astore (lv' := [(7, .ref (ad 106)), (6, .ref (ad 106)), (0, .ref (ad 0)), (1, .int 0), (2, .int vi), (3, .int 0), (4, .int vk), (5, .int vn)]) hx hb dX11_paste_31 hl (by decide) rfl (fun ls hl => ?_)
          refine lv_aload hx hb dX11_paste_33 (lv_at hl 1 rfl) ?_
          refine q_get X iX11_paste_5 hP (by decide) h106 rfl 1 (by decide) (List.mem_of_getElem? (i := 6) rfl) (v := .int 0) rfl dX11_paste_35 ?_
          refine lv_if_eq (tgt := 49) hx hb dX11_paste_38 (by decide) (fun _ => ?_) (fun h => absurd h (by decide))
          refine lv_bipush (v := (-6)) hx hb dX11_paste_49 (by decide) ?_
          exact q_iret X hP hS ⟨(by first | rfl | (unfold aPst aWr; rfl)), hfr⟩ dX11_paste_51
        · refine lv_aload_n hx hb dX11_paste_25 rfl (lv_at hl 1 rfl) ?_
          refine q_get X iX11_paste_11 hP (by decide) h0 rfl 5 (by decide) (List.mem_of_getElem? (i := 5) rfl) (v := .ref (ad 105)) rfl dX11_paste_26 ?_
          refine lv_iload_n hx hb dX11_paste_29 rfl (lv_at hl 4 rfl) ?_
          refine q_aald X hP 4 rfl (by decide) h105 (by unfold vp_in; decide) (v := ad 108) rfl dX11_paste_30 ?_
          refine lv_astore (lv' := [(7, .ref (ad 108)), (6, .ref (ad 106)), (0, .ref (ad 0)), (1, .int 0), (2, .int vi), (3, .int 1), (4, .int vk), (5, .int vn)]) hx hb dX11_paste_31 hl (by decide) rfl (fun ls hl => ?_)
          refine lv_aload hx hb dX11_paste_33 (lv_at hl 1 rfl) ?_
          refine q_get X iX11_paste_5 hP (by decide) h106 rfl 1 (by decide) (List.mem_of_getElem? (i := 6) rfl) (v := .int 0) rfl dX11_paste_35 ?_
          refine lv_if_eq (tgt := 49) hx hb dX11_paste_38 (by decide) (fun _ => ?_) (fun h => absurd h (by decide))
          refine lv_bipush (v := (-6)) hx hb dX11_paste_49 (by decide) ?_
          exact q_iret X hP hS ⟨(by first | rfl | (unfold aPst aWr; rfl)), hfr⟩ dX11_paste_51
        · refine lv_aload_n hx hb dX11_paste_25 rfl (lv_at hl 1 rfl) ?_
          refine q_get X iX11_paste_11 hP (by decide) h0 rfl 5 (by decide) (List.mem_of_getElem? (i := 5) rfl) (v := .ref (ad 105)) rfl dX11_paste_26 ?_
          refine lv_iload_n hx hb dX11_paste_29 rfl (lv_at hl 4 rfl) ?_
          refine q_aald X hP 4 rfl (by decide) h105 (by unfold vp_in; decide) (v := ad 110) rfl dX11_paste_30 ?_
          refine lv_astore (lv' := [(7, .ref (ad 110)), (6, .ref (ad 106)), (0, .ref (ad 0)), (1, .int 0), (2, .int vi), (3, .int 2), (4, .int vk), (5, .int vn)]) hx hb dX11_paste_31 hl (by decide) rfl (fun ls hl => ?_)
          refine lv_aload hx hb dX11_paste_33 (lv_at hl 1 rfl) ?_
          refine q_get X iX11_paste_5 hP (by decide) h106 rfl 1 (by decide) (List.mem_of_getElem? (i := 6) rfl) (v := .int 0) rfl dX11_paste_35 ?_
          refine lv_if_eq (tgt := 49) hx hb dX11_paste_38 (by decide) (fun _ => ?_) (fun h => absurd h (by decide))
          refine lv_bipush (v := (-6)) hx hb dX11_paste_49 (by decide) ?_
          exact q_iret X hP hS ⟨(by first | rfl | (unfold aPst aWr; rfl)), hfr⟩ dX11_paste_51
        · refine lv_aload_n hx hb dX11_paste_25 rfl (lv_at hl 1 rfl) ?_
          refine q_get X iX11_paste_11 hP (by decide) h0 rfl 5 (by decide) (List.mem_of_getElem? (i := 5) rfl) (v := .ref (ad 105)) rfl dX11_paste_26 ?_
          refine lv_iload_n hx hb dX11_paste_29 rfl (lv_at hl 4 rfl) ?_
          refine q_aald X hP 4 rfl (by decide) h105 (by unfold vp_in; decide) (v := ad 112) rfl dX11_paste_30 ?_
          refine lv_astore (lv' := [(7, .ref (ad 112)), (6, .ref (ad 106)), (0, .ref (ad 0)), (1, .int 0), (2, .int vi), (3, .int 3), (4, .int vk), (5, .int vn)]) hx hb dX11_paste_31 hl (by decide) rfl (fun ls hl => ?_)
          refine lv_aload hx hb dX11_paste_33 (lv_at hl 1 rfl) ?_
          refine q_get X iX11_paste_5 hP (by decide) h106 rfl 1 (by decide) (List.mem_of_getElem? (i := 6) rfl) (v := .int 0) rfl dX11_paste_35 ?_
          refine lv_if_eq (tgt := 49) hx hb dX11_paste_38 (by decide) (fun _ => ?_) (fun h => absurd h (by decide))
          refine lv_bipush (v := (-6)) hx hb dX11_paste_49 (by decide) ?_
          exact q_iret X hP hS ⟨(by first | rfl | (unfold aPst aWr; rfl)), hfr⟩ dX11_paste_51
      · refine lv_aload_n hx hb dX11_paste_17 rfl (lv_at hl 0 rfl) ?_
        refine q_get X iX11_paste_11 hP (by decide) h0 rfl 5 (by decide) (List.mem_of_getElem? (i := 5) rfl) (v := .ref (ad 105)) rfl dX11_paste_18 ?_
        refine lv_iload_n hx hb dX11_paste_21 rfl (lv_at hl 1 rfl) ?_
        refine q_aald X hP 4 rfl (by decide) h105 (by unfold vp_in; decide) (v := ad 108) rfl dX11_paste_22 ?_
        refine lv_astore (lv' := [(6, .ref (ad 108)), (0, .ref (ad 0)), (1, .int 1), (2, .int vi), (3, .int vt), (4, .int vk), (5, .int vn)]) hx hb dX11_paste_23 hl (by decide) rfl (fun ls hl => ?_)
        rcases inS_4 (hw_4.elim (fun q => q.2) (fun q => absurd q.1 hc_11)) with rfl | rfl | rfl | rfl
        · refine lv_aload_n hx hb dX11_paste_25 rfl (lv_at hl 1 rfl) ?_
          refine q_get X iX11_paste_11 hP (by decide) h0 rfl 5 (by decide) (List.mem_of_getElem? (i := 5) rfl) (v := .ref (ad 105)) rfl dX11_paste_26 ?_
          refine lv_iload_n hx hb dX11_paste_29 rfl (lv_at hl 4 rfl) ?_
          refine q_aald X hP 4 rfl (by decide) h105 (by unfold vp_in; decide) (v := ad 106) rfl dX11_paste_30 ?_
          refine lv_astore (lv' := [(7, .ref (ad 106)), (6, .ref (ad 108)), (0, .ref (ad 0)), (1, .int 1), (2, .int vi), (3, .int 0), (4, .int vk), (5, .int vn)]) hx hb dX11_paste_31 hl (by decide) rfl (fun ls hl => ?_)
          refine lv_aload hx hb dX11_paste_33 (lv_at hl 1 rfl) ?_
          refine q_get X iX11_paste_5 hP (by decide) h108 rfl 1 (by decide) (List.mem_of_getElem? (i := 6) rfl) (v := .int 0) rfl dX11_paste_35 ?_
          refine lv_if_eq (tgt := 49) hx hb dX11_paste_38 (by decide) (fun _ => ?_) (fun h => absurd h (by decide))
          refine lv_bipush (v := (-6)) hx hb dX11_paste_49 (by decide) ?_
          exact q_iret X hP hS ⟨(by first | rfl | (unfold aPst aWr; rfl)), hfr⟩ dX11_paste_51
        · refine lv_aload_n hx hb dX11_paste_25 rfl (lv_at hl 1 rfl) ?_
          refine q_get X iX11_paste_11 hP (by decide) h0 rfl 5 (by decide) (List.mem_of_getElem? (i := 5) rfl) (v := .ref (ad 105)) rfl dX11_paste_26 ?_
          refine lv_iload_n hx hb dX11_paste_29 rfl (lv_at hl 4 rfl) ?_
          refine q_aald X hP 4 rfl (by decide) h105 (by unfold vp_in; decide) (v := ad 108) rfl dX11_paste_30 ?_
          refine lv_astore (lv' := [(7, .ref (ad 108)), (6, .ref (ad 108)), (0, .ref (ad 0)), (1, .int 1), (2, .int vi), (3, .int 1), (4, .int vk), (5, .int vn)]) hx hb dX11_paste_31 hl (by decide) rfl (fun ls hl => ?_)
          refine lv_aload hx hb dX11_paste_33 (lv_at hl 1 rfl) ?_
          refine q_get X iX11_paste_5 hP (by decide) h108 rfl 1 (by decide) (List.mem_of_getElem? (i := 6) rfl) (v := .int 0) rfl dX11_paste_35 ?_
          refine lv_if_eq (tgt := 49) hx hb dX11_paste_38 (by decide) (fun _ => ?_) (fun h => absurd h (by decide))
          refine lv_bipush (v := (-6)) hx hb dX11_paste_49 (by decide) ?_
          exact q_iret X hP hS ⟨(by first | rfl | (unfold aPst aWr; rfl)), hfr⟩ dX11_paste_51
        · refine lv_aload_n hx hb dX11_paste_25 rfl (lv_at hl 1 rfl) ?_
          refine q_get X iX11_paste_11 hP (by decide) h0 rfl 5 (by decide) (List.mem_of_getElem? (i := 5) rfl) (v := .ref (ad 105)) rfl dX11_paste_26 ?_
          refine lv_iload_n hx hb dX11_paste_29 rfl (lv_at hl 4 rfl) ?_
          refine q_aald X hP 4 rfl (by decide) h105 (by unfold vp_in; decide) (v := ad 110) rfl dX11_paste_30 ?_
          refine lv_astore (lv' := [(7, .ref (ad 110)), (6, .ref (ad 108)), (0, .ref (ad 0)), (1, .int 1), (2, .int vi), (3, .int 2), (4, .int vk), (5, .int vn)]) hx hb dX11_paste_31 hl (by decide) rfl (fun ls hl => ?_)
          refine lv_aload hx hb dX11_paste_33 (lv_at hl 1 rfl) ?_
          refine q_get X iX11_paste_5 hP (by decide) h108 rfl 1 (by decide) (List.mem_of_getElem? (i := 6) rfl) (v := .int 0) rfl dX11_paste_35 ?_
          refine lv_if_eq (tgt := 49) hx hb dX11_paste_38 (by decide) (fun _ => ?_) (fun h => absurd h (by decide))
          refine lv_bipush (v := (-6)) hx hb dX11_paste_49 (by decide) ?_
          exact q_iret X hP hS ⟨(by first | rfl | (unfold aPst aWr; rfl)), hfr⟩ dX11_paste_51
        · refine lv_aload_n hx hb dX11_paste_25 rfl (lv_at hl 1 rfl) ?_
          refine q_get X iX11_paste_11 hP (by decide) h0 rfl 5 (by decide) (List.mem_of_getElem? (i := 5) rfl) (v := .ref (ad 105)) rfl dX11_paste_26 ?_
          refine lv_iload_n hx hb dX11_paste_29 rfl (lv_at hl 4 rfl) ?_
          refine q_aald X hP 4 rfl (by decide) h105 (by unfold vp_in; decide) (v := ad 112) rfl dX11_paste_30 ?_
          refine lv_astore (lv' := [(7, .ref (ad 112)), (6, .ref (ad 108)), (0, .ref (ad 0)), (1, .int 1), (2, .int vi), (3, .int 3), (4, .int vk), (5, .int vn)]) hx hb dX11_paste_31 hl (by decide) rfl (fun ls hl => ?_)
          refine lv_aload hx hb dX11_paste_33 (lv_at hl 1 rfl) ?_
          refine q_get X iX11_paste_5 hP (by decide) h108 rfl 1 (by decide) (List.mem_of_getElem? (i := 6) rfl) (v := .int 0) rfl dX11_paste_35 ?_
          refine lv_if_eq (tgt := 49) hx hb dX11_paste_38 (by decide) (fun _ => ?_) (fun h => absurd h (by decide))
          refine lv_bipush (v := (-6)) hx hb dX11_paste_49 (by decide) ?_
          exact q_iret X hP hS ⟨(by first | rfl | (unfold aPst aWr; rfl)), hfr⟩ dX11_paste_51
      · refine lv_aload_n hx hb dX11_paste_17 rfl (lv_at hl 0 rfl) ?_
        refine q_get X iX11_paste_11 hP (by decide) h0 rfl 5 (by decide) (List.mem_of_getElem? (i := 5) rfl) (v := .ref (ad 105)) rfl dX11_paste_18 ?_
        refine lv_iload_n hx hb dX11_paste_21 rfl (lv_at hl 1 rfl) ?_
        refine q_aald X hP 4 rfl (by decide) h105 (by unfold vp_in; decide) (v := ad 110) rfl dX11_paste_22 ?_
        refine lv_astore (lv' := [(6, .ref (ad 110)), (0, .ref (ad 0)), (1, .int 2), (2, .int vi), (3, .int vt), (4, .int vk), (5, .int vn)]) hx hb dX11_paste_23 hl (by decide) rfl (fun ls hl => ?_)
        rcases inS_4 (hw_4.elim (fun q => q.2) (fun q => absurd q.1 hc_11)) with rfl | rfl | rfl | rfl
        · refine lv_aload_n hx hb dX11_paste_25 rfl (lv_at hl 1 rfl) ?_
          refine q_get X iX11_paste_11 hP (by decide) h0 rfl 5 (by decide) (List.mem_of_getElem? (i := 5) rfl) (v := .ref (ad 105)) rfl dX11_paste_26 ?_
          refine lv_iload_n hx hb dX11_paste_29 rfl (lv_at hl 4 rfl) ?_
          refine q_aald X hP 4 rfl (by decide) h105 (by unfold vp_in; decide) (v := ad 106) rfl dX11_paste_30 ?_
          refine lv_astore (lv' := [(7, .ref (ad 106)), (6, .ref (ad 110)), (0, .ref (ad 0)), (1, .int 2), (2, .int vi), (3, .int 0), (4, .int vk), (5, .int vn)]) hx hb dX11_paste_31 hl (by decide) rfl (fun ls hl => ?_)
          refine lv_aload hx hb dX11_paste_33 (lv_at hl 1 rfl) ?_
          refine q_get X iX11_paste_5 hP (by decide) h110 rfl 1 (by decide) (List.mem_of_getElem? (i := 6) rfl) (v := .int 0) rfl dX11_paste_35 ?_
          refine lv_if_eq (tgt := 49) hx hb dX11_paste_38 (by decide) (fun _ => ?_) (fun h => absurd h (by decide))
          refine lv_bipush (v := (-6)) hx hb dX11_paste_49 (by decide) ?_
          exact q_iret X hP hS ⟨(by first | rfl | (unfold aPst aWr; rfl)), hfr⟩ dX11_paste_51
        · refine lv_aload_n hx hb dX11_paste_25 rfl (lv_at hl 1 rfl) ?_
          refine q_get X iX11_paste_11 hP (by decide) h0 rfl 5 (by decide) (List.mem_of_getElem? (i := 5) rfl) (v := .ref (ad 105)) rfl dX11_paste_26 ?_
          refine lv_iload_n hx hb dX11_paste_29 rfl (lv_at hl 4 rfl) ?_
          refine q_aald X hP 4 rfl (by decide) h105 (by unfold vp_in; decide) (v := ad 108) rfl dX11_paste_30 ?_
          refine lv_astore (lv' := [(7, .ref (ad 108)), (6, .ref (ad 110)), (0, .ref (ad 0)), (1, .int 2), (2, .int vi), (3, .int 1), (4, .int vk), (5, .int vn)]) hx hb dX11_paste_31 hl (by decide) rfl (fun ls hl => ?_)
          refine lv_aload hx hb dX11_paste_33 (lv_at hl 1 rfl) ?_
          refine q_get X iX11_paste_5 hP (by decide) h110 rfl 1 (by decide) (List.mem_of_getElem? (i := 6) rfl) (v := .int 0) rfl dX11_paste_35 ?_
          refine lv_if_eq (tgt := 49) hx hb dX11_paste_38 (by decide) (fun _ => ?_) (fun h => absurd h (by decide))
          refine lv_bipush (v := (-6)) hx hb dX11_paste_49 (by decide) ?_
          exact q_iret X hP hS ⟨(by first | rfl | (unfold aPst aWr; rfl)), hfr⟩ dX11_paste_51
        · refine lv_aload_n hx hb dX11_paste_25 rfl (lv_at hl 1 rfl) ?_
          refine q_get X iX11_paste_11 hP (by decide) h0 rfl 5 (by decide) (List.mem_of_getElem? (i := 5) rfl) (v := .ref (ad 105)) rfl dX11_paste_26 ?_
          refine lv_iload_n hx hb dX11_paste_29 rfl (lv_at hl 4 rfl) ?_
          refine q_aald X hP 4 rfl (by decide) h105 (by unfold vp_in; decide) (v := ad 110) rfl dX11_paste_30 ?_
          refine lv_astore (lv' := [(7, .ref (ad 110)), (6, .ref (ad 110)), (0, .ref (ad 0)), (1, .int 2), (2, .int vi), (3, .int 2), (4, .int vk), (5, .int vn)]) hx hb dX11_paste_31 hl (by decide) rfl (fun ls hl => ?_)
          refine lv_aload hx hb dX11_paste_33 (lv_at hl 1 rfl) ?_
          refine q_get X iX11_paste_5 hP (by decide) h110 rfl 1 (by decide) (List.mem_of_getElem? (i := 6) rfl) (v := .int 0) rfl dX11_paste_35 ?_
          refine lv_if_eq (tgt := 49) hx hb dX11_paste_38 (by decide) (fun _ => ?_) (fun h => absurd h (by decide))
          refine lv_bipush (v := (-6)) hx hb dX11_paste_49 (by decide) ?_
          exact q_iret X hP hS ⟨(by first | rfl | (unfold aPst aWr; rfl)), hfr⟩ dX11_paste_51
        · refine lv_aload_n hx hb dX11_paste_25 rfl (lv_at hl 1 rfl) ?_
          refine q_get X iX11_paste_11 hP (by decide) h0 rfl 5 (by decide) (List.mem_of_getElem? (i := 5) rfl) (v := .ref (ad 105)) rfl dX11_paste_26 ?_
          refine lv_iload_n hx hb dX11_paste_29 rfl (lv_at hl 4 rfl) ?_
          refine q_aald X hP 4 rfl (by decide) h105 (by unfold vp_in; decide) (v := ad 112) rfl dX11_paste_30 ?_
          refine lv_astore (lv' := [(7, .ref (ad 112)), (6, .ref (ad 110)), (0, .ref (ad 0)), (1, .int 2), (2, .int vi), (3, .int 3), (4, .int vk), (5, .int vn)]) hx hb dX11_paste_31 hl (by decide) rfl (fun ls hl => ?_)
          refine lv_aload hx hb dX11_paste_33 (lv_at hl 1 rfl) ?_
          refine q_get X iX11_paste_5 hP (by decide) h110 rfl 1 (by decide) (List.mem_of_getElem? (i := 6) rfl) (v := .int 0) rfl dX11_paste_35 ?_
          refine lv_if_eq (tgt := 49) hx hb dX11_paste_38 (by decide) (fun _ => ?_) (fun h => absurd h (by decide))
          refine lv_bipush (v := (-6)) hx hb dX11_paste_49 (by decide) ?_
          exact q_iret X hP hS ⟨(by first | rfl | (unfold aPst aWr; rfl)), hfr⟩ dX11_paste_51
      · refine lv_aload_n hx hb dX11_paste_17 rfl (lv_at hl 0 rfl) ?_
        refine q_get X iX11_paste_11 hP (by decide) h0 rfl 5 (by decide) (List.mem_of_getElem? (i := 5) rfl) (v := .ref (ad 105)) rfl dX11_paste_18 ?_
        refine lv_iload_n hx hb dX11_paste_21 rfl (lv_at hl 1 rfl) ?_
        refine q_aald X hP 4 rfl (by decide) h105 (by unfold vp_in; decide) (v := ad 112) rfl dX11_paste_22 ?_
        refine lv_astore (lv' := [(6, .ref (ad 112)), (0, .ref (ad 0)), (1, .int 3), (2, .int vi), (3, .int vt), (4, .int vk), (5, .int vn)]) hx hb dX11_paste_23 hl (by decide) rfl (fun ls hl => ?_)
        rcases inS_4 (hw_4.elim (fun q => q.2) (fun q => absurd q.1 hc_11)) with rfl | rfl | rfl | rfl
        · refine lv_aload_n hx hb dX11_paste_25 rfl (lv_at hl 1 rfl) ?_
          refine q_get X iX11_paste_11 hP (by decide) h0 rfl 5 (by decide) (List.mem_of_getElem? (i := 5) rfl) (v := .ref (ad 105)) rfl dX11_paste_26 ?_
          refine lv_iload_n hx hb dX11_paste_29 rfl (lv_at hl 4 rfl) ?_
          refine q_aald X hP 4 rfl (by decide) h105 (by unfold vp_in; decide) (v := ad 106) rfl dX11_paste_30 ?_
          refine lv_astore (lv' := [(7, .ref (ad 106)), (6, .ref (ad 112)), (0, .ref (ad 0)), (1, .int 3), (2, .int vi), (3, .int 0), (4, .int vk), (5, .int vn)]) hx hb dX11_paste_31 hl (by decide) rfl (fun ls hl => ?_)
          refine lv_aload hx hb dX11_paste_33 (lv_at hl 1 rfl) ?_
          refine q_get X iX11_paste_5 hP (by decide) h112 rfl 1 (by decide) (List.mem_of_getElem? (i := 6) rfl) (v := .int 0) rfl dX11_paste_35 ?_
          refine lv_if_eq (tgt := 49) hx hb dX11_paste_38 (by decide) (fun _ => ?_) (fun h => absurd h (by decide))
          refine lv_bipush (v := (-6)) hx hb dX11_paste_49 (by decide) ?_
          exact q_iret X hP hS ⟨(by first | rfl | (unfold aPst aWr; rfl)), hfr⟩ dX11_paste_51
        · refine lv_aload_n hx hb dX11_paste_25 rfl (lv_at hl 1 rfl) ?_
          refine q_get X iX11_paste_11 hP (by decide) h0 rfl 5 (by decide) (List.mem_of_getElem? (i := 5) rfl) (v := .ref (ad 105)) rfl dX11_paste_26 ?_
          refine lv_iload_n hx hb dX11_paste_29 rfl (lv_at hl 4 rfl) ?_
          refine q_aald X hP 4 rfl (by decide) h105 (by unfold vp_in; decide) (v := ad 108) rfl dX11_paste_30 ?_
          refine lv_astore (lv' := [(7, .ref (ad 108)), (6, .ref (ad 112)), (0, .ref (ad 0)), (1, .int 3), (2, .int vi), (3, .int 1), (4, .int vk), (5, .int vn)]) hx hb dX11_paste_31 hl (by decide) rfl (fun ls hl => ?_)
          refine lv_aload hx hb dX11_paste_33 (lv_at hl 1 rfl) ?_
          refine q_get X iX11_paste_5 hP (by decide) h112 rfl 1 (by decide) (List.mem_of_getElem? (i := 6) rfl) (v := .int 0) rfl dX11_paste_35 ?_
          refine lv_if_eq (tgt := 49) hx hb dX11_paste_38 (by decide) (fun _ => ?_) (fun h => absurd h (by decide))
          refine lv_bipush (v := (-6)) hx hb dX11_paste_49 (by decide) ?_
          exact q_iret X hP hS ⟨(by first | rfl | (unfold aPst aWr; rfl)), hfr⟩ dX11_paste_51
        · refine lv_aload_n hx hb dX11_paste_25 rfl (lv_at hl 1 rfl) ?_
          refine q_get X iX11_paste_11 hP (by decide) h0 rfl 5 (by decide) (List.mem_of_getElem? (i := 5) rfl) (v := .ref (ad 105)) rfl dX11_paste_26 ?_
          refine lv_iload_n hx hb dX11_paste_29 rfl (lv_at hl 4 rfl) ?_
          refine q_aald X hP 4 rfl (by decide) h105 (by unfold vp_in; decide) (v := ad 110) rfl dX11_paste_30 ?_
          refine lv_astore (lv' := [(7, .ref (ad 110)), (6, .ref (ad 112)), (0, .ref (ad 0)), (1, .int 3), (2, .int vi), (3, .int 2), (4, .int vk), (5, .int vn)]) hx hb dX11_paste_31 hl (by decide) rfl (fun ls hl => ?_)
          refine lv_aload hx hb dX11_paste_33 (lv_at hl 1 rfl) ?_
          refine q_get X iX11_paste_5 hP (by decide) h112 rfl 1 (by decide) (List.mem_of_getElem? (i := 6) rfl) (v := .int 0) rfl dX11_paste_35 ?_
          refine lv_if_eq (tgt := 49) hx hb dX11_paste_38 (by decide) (fun _ => ?_) (fun h => absurd h (by decide))
          refine lv_bipush (v := (-6)) hx hb dX11_paste_49 (by decide) ?_
          exact q_iret X hP hS ⟨(by first | rfl | (unfold aPst aWr; rfl)), hfr⟩ dX11_paste_51
        · refine lv_aload_n hx hb dX11_paste_25 rfl (lv_at hl 1 rfl) ?_
          refine q_get X iX11_paste_11 hP (by decide) h0 rfl 5 (by decide) (List.mem_of_getElem? (i := 5) rfl) (v := .ref (ad 105)) rfl dX11_paste_26 ?_
          refine lv_iload_n hx hb dX11_paste_29 rfl (lv_at hl 4 rfl) ?_
          refine q_aald X hP 4 rfl (by decide) h105 (by unfold vp_in; decide) (v := ad 112) rfl dX11_paste_30 ?_
          refine lv_astore (lv' := [(7, .ref (ad 112)), (6, .ref (ad 112)), (0, .ref (ad 0)), (1, .int 3), (2, .int vi), (3, .int 3), (4, .int vk), (5, .int vn)]) hx hb dX11_paste_31 hl (by decide) rfl (fun ls hl => ?_)
          refine lv_aload hx hb dX11_paste_33 (lv_at hl 1 rfl) ?_
          refine q_get X iX11_paste_5 hP (by decide) h112 rfl 1 (by decide) (List.mem_of_getElem? (i := 6) rfl) (v := .int 0) rfl dX11_paste_35 ?_
          refine lv_if_eq (tgt := 49) hx hb dX11_paste_38 (by decide) (fun _ => ?_) (fun h => absurd h (by decide))
          refine lv_bipush (v := (-6)) hx hb dX11_paste_49 (by decide) ?_
          exact q_iret X hP hS ⟨(by first | rfl | (unfold aPst aWr; rfl)), hfr⟩ dX11_paste_51
    · refine lv_bipush (v := (-2)) hx hb dX11_paste_14 (by decide) ?_
      exact q_iret X hP hS ⟨(by first | exact (aPst_out (hw_1.elim (fun q => absurd (q.1.symm.trans hc_4) (by decide)) (fun q => q.2))).symm | exact ((aPst_in (hw_1.elim (fun q => q.2) (fun q => absurd q.1 hc_4))).trans (aWr_out (hw_4.elim (fun q => absurd (q.1.symm.trans hc_11) (by decide)) (fun q => q.2)))).symm), hfr⟩ dX11_paste_16
