theorem dX7_putFour_0 : decode cX7_putFour 0 = .ok (.bipush 24, 2) := by decide +kernel
theorem dX7_putFour_2 : decode cX7_putFour 2 = .ok (.istore_n 2, 1) := by decide +kernel
theorem dX7_putFour_3 : decode cX7_putFour 3 = .ok (.iload_n 2, 1) := by decide +kernel
theorem dX7_putFour_4 : decode cX7_putFour 4 = .ok (.ifCond .lt 42, 3) := by decide +kernel
theorem dX7_putFour_7 : decode cX7_putFour 7 = .ok (.aload_n 0, 1) := by decide +kernel
theorem dX7_putFour_8 : decode cX7_putFour 8 = .ok (.getfield 19, 3) := by decide +kernel
theorem dX7_putFour_11 : decode cX7_putFour 11 = .ok (.sipush 1000, 3) := by decide +kernel
theorem dX7_putFour_14 : decode cX7_putFour 14 = .ok (.if_icmp .ge 26, 3) := by decide +kernel
theorem dX7_putFour_17 : decode cX7_putFour 17 = .ok (.aload_n 0, 1) := by decide +kernel
theorem dX7_putFour_18 : decode cX7_putFour 18 = .ok (.getfield 9, 3) := by decide +kernel
theorem dX7_putFour_21 : decode cX7_putFour 21 = .ok (.aload_n 0, 1) := by decide +kernel
theorem dX7_putFour_22 : decode cX7_putFour 22 = .ok (.getfield 19, 3) := by decide +kernel
theorem dX7_putFour_25 : decode cX7_putFour 25 = .ok (.iload_n 1, 1) := by decide +kernel
theorem dX7_putFour_26 : decode cX7_putFour 26 = .ok (.iload_n 2, 1) := by decide +kernel
theorem dX7_putFour_27 : decode cX7_putFour 27 = .ok (.ishr, 1) := by decide +kernel
theorem dX7_putFour_28 : decode cX7_putFour 28 = .ok (.i2b, 1) := by decide +kernel
theorem dX7_putFour_29 : decode cX7_putFour 29 = .ok (.bastore, 1) := by decide +kernel
theorem dX7_putFour_30 : decode cX7_putFour 30 = .ok (.aload_n 0, 1) := by decide +kernel
theorem dX7_putFour_31 : decode cX7_putFour 31 = .ok (.dup, 1) := by decide +kernel
theorem dX7_putFour_32 : decode cX7_putFour 32 = .ok (.getfield 19, 3) := by decide +kernel
theorem dX7_putFour_35 : decode cX7_putFour 35 = .ok (.iconst 1, 1) := by decide +kernel
theorem dX7_putFour_36 : decode cX7_putFour 36 = .ok (.iadd, 1) := by decide +kernel
theorem dX7_putFour_37 : decode cX7_putFour 37 = .ok (.putfield 19, 3) := by decide +kernel
theorem dX7_putFour_40 : decode cX7_putFour 40 = .ok (.iinc 2 (-8), 3) := by decide +kernel
theorem dX7_putFour_43 : decode cX7_putFour 43 = .ok (.goto (-40), 3) := by decide +kernel
theorem dX7_putFour_46 : decode cX7_putFour 46 = .ok (.return_, 1) := by decide +kernel
def vX7_putFour : List Cond := .code yX7_putFour cX7_putFour 3 none :: ([.fieldLink RX7 19 "IcicleClock$Tape" "filled" "I", .fieldLink RX7 9 "IcicleClock$Tape" "bytes" "[B"] ++ wsX70)
theorem iX7_putFour_7 : ∀ w ∈ wsX70, w ∈ vX7_putFour := fun _ h => List.mem_cons_of_mem _ (List.mem_append_right _ h)
set_option maxHeartbeats 4000000 in
set_option maxRecDepth 100000 in
theorem k_putFour (l : Launch) (D : va_G) (cs : Nat → ClassId) (ad : Nat → Nat) (hj : wJ ad nW) (g : Nat → va_E) (F : Nat) (f : Nat → Int32) (vn : Int32) (h1 : g 1 = .inr (7, [.ref (ad 2), .int (nI F), .int 0, .int (-1), .int 0, .int 0, .int 0])) (h2 : g 2 = .inl (cs 0, 1000, .inl f)) (hF : F + 4 ≤ 1000) : cV l yX7_putFour vX7_putFour { frames := 0, cells := 0, slots := 0, locals := 0 } D cs ad nW [.ref (ad 1), .int vn] g (fun g2 => g2 1 = .inr (7, [.ref (ad 2), .int (nI (F + 4)), .int 0, .int (-1), .int 0, .int 0, .int 0]) ∧ (∃ f', g2 2 = .inl (cs 0, 1000, .inl f')) ∧ ∀ j, (j ≠ 1 ∧ j ≠ 2) → g2 j = g j) := by
  refine Met.start (cc := cX7_putFour) (maxL := 3) (ret := none) RX7 rfl (by decide) rfl (Nat.le_of_ble_eq_true rfl) ?_
  intro p e s m below meth c ls X hP hl
  have hx := X.1
  have hb := X.2.1
  have hS : va_S (wA ad nW) s.heap s.heap [] := va_S.rf
  have hA : ∀ i, i < nW → wA ad nW (ad i) := fun i h => ⟨i, h, rfl⟩
  have hfr : ∀ j, (j ≠ 1 ∧ j ≠ 2) → g j = g j := fun _ _ => rfl
  have hl : lv_has ls 3 [(0, .ref (ad 1)), (1, .int vn)] := hl
  refine lv_bipush (v := 24) hx hb dX7_putFour_0 (by decide) ?_
  refine lv_istore_n (lv' := [(2, .int 24), (0, .ref (ad 1)), (1, .int vn)]) hx hb dX7_putFour_2 rfl hl (by decide) rfl (fun ls hl => ?_)
  refine lv_iload_n hx hb dX7_putFour_3 rfl (lv_at hl 0 rfl) ?_
  refine lv_if_lt (tgt := 46) hx hb dX7_putFour_4 (by decide) (fun h => absurd h (by decide)) (fun _ => ?_)
  refine lv_aload_n hx hb dX7_putFour_7 rfl (lv_at hl 1 rfl) ?_
  refine q_get X iX7_putFour_7 hP (by decide) h1 rfl 1 (by decide) (List.mem_of_getElem? (i := 1) rfl) (v := .int (nI F)) rfl dX7_putFour_8 ?_
  refine lv_sipush (v := 1000) hx hb dX7_putFour_11 (by decide) ?_
  refine lv_icmp_ge (tgt := 40) hx hb dX7_putFour_14 (by decide) (fun hc_14 => absurd hc_14 (nI_ge (a := F) (b := 1000) (by omega) (by decide))) (fun hc_14 => ?_)
  refine lv_aload_n hx hb dX7_putFour_17 rfl (lv_at hl 1 rfl) ?_
  refine q_get X iX7_putFour_7 hP (by decide) h1 rfl 0 (by decide) (List.mem_of_getElem? (i := 2) rfl) (v := .ref (ad 2)) rfl dX7_putFour_18 ?_
  refine lv_aload_n hx hb dX7_putFour_21 rfl (lv_at hl 1 rfl) ?_
  refine q_get X iX7_putFour_7 hP (by decide) h1 rfl 1 (by decide) (List.mem_of_getElem? (i := 1) rfl) (v := .int (nI F)) rfl dX7_putFour_22 ?_
  refine lv_iload_n hx hb dX7_putFour_25 rfl (lv_at hl 2 rfl) ?_
  refine lv_iload_n hx hb dX7_putFour_26 rfl (lv_at hl 0 rfl) ?_
  refine lv_ishr hx hb dX7_putFour_27 ?_
  refine lv_topi (fun z_1 ez_1 => ?_)
  refine lv_i2b hx hb dX7_putFour_28 rfl ?_
  refine lv_topi (fun z_2 ez_2 => ?_)
  refine q_bast X hP hj hA hS (by decide) h2 (vp_in_nI (by omega) (by decide)) dX7_putFour_29 (fun H locs hP hS => ?_)
  generalize eg_3 : va_up g 2 _ = g_3 at hP
  have hfr_5 : ∀ j, (j ≠ 1 ∧ j ≠ 2) → g_3 j = g j := fun j hj => by rw [← eg_3]; exact (va_up_ne _ _ (by omega)).trans (hfr j hj)
  have h_6 : g_3 1 = .inr (7, [.ref (ad 2), .int (nI F), .int 0, .int (-1), .int 0, .int 0, .int 0]) := by rw [← eg_3, va_up_ne _ _ (by decide)]; exact h1
  obtain ⟨f_4, h_7⟩ : ∃ f, g_3 2 = .inl (cs 0, 1000, .inl f) := ⟨_, by rw [← eg_3]; exact va_up_self _ _ _⟩
  refine lv_aload_n hx hb dX7_putFour_30 rfl (lv_at hl 1 rfl) ?_
  refine lv_dup hx hb dX7_putFour_31 rfl ?_
  refine q_get X iX7_putFour_7 hP (by decide) h_6 rfl 1 (by decide) (List.mem_of_getElem? (i := 1) rfl) (v := .int (nI F)) rfl dX7_putFour_32 ?_
  refine lv_iconst (v := 1) hx hb dX7_putFour_35 (by decide) ?_
  refine lv_iadd hx hb dX7_putFour_36 ?_
  refine lv_topi (fun z_8 ez_8 => ?_)
  obtain rfl : z_8 = nI (F + 1) := ez_8.trans (nI_add F 1)
  refine q_put X iX7_putFour_7 tyX7 tyX7_ok nmX7 hP hj hA hS (by decide) h_6 rfl 1 (by decide) (List.mem_of_getElem? (i := 1) rfl) rfl (ty := .int) (v := .int (nI (F + 1))) (by decide +kernel) rfl rfl (Nat.le_of_ble_eq_true rfl) dX7_putFour_37 (fun H locs hP hS => ?_)
  generalize eg_9 : va_up g_3 1 _ = g_9 at hP
  have hfr_10 : ∀ j, (j ≠ 1 ∧ j ≠ 2) → g_9 j = g j := fun j hj => by rw [← eg_9]; exact (va_up_ne _ _ (by omega)).trans (hfr_5 j hj)
  have h_11 : g_9 1 = .inr (7, [.ref (ad 2), .int (nI (F + 1)), .int 0, .int (-1), .int 0, .int 0, .int 0]) := by rw [← eg_9]; exact va_up_self _ _ _
  have h_12 : g_9 2 = .inl (cs 0, 1000, .inl f_4) := by rw [← eg_9, va_up_ne _ _ (by decide)]; exact h_7
  refine lv_iinc (v := 16) (lv' := [(2, .int 16), (0, .ref (ad 1)), (1, .int vn)]) hx hb dX7_putFour_40 hl (k := 0) rfl (by decide) (by decide) rfl (fun ls hl => ?_)
  refine lv_goto (tgt := 3) hx hb dX7_putFour_43 (by decide) ?_
  refine lv_iload_n hx hb dX7_putFour_3 rfl (lv_at hl 0 rfl) ?_
  refine lv_if_lt (tgt := 46) hx hb dX7_putFour_4 (by decide) (fun h => absurd h (by decide)) (fun _ => ?_)
  refine lv_aload_n hx hb dX7_putFour_7 rfl (lv_at hl 1 rfl) ?_
  refine q_get X iX7_putFour_7 hP (by decide) h_11 rfl 1 (by decide) (List.mem_of_getElem? (i := 1) rfl) (v := .int (nI (F + 1))) rfl dX7_putFour_8 ?_
  refine lv_sipush (v := 1000) hx hb dX7_putFour_11 (by decide) ?_
  refine lv_icmp_ge (tgt := 40) hx hb dX7_putFour_14 (by decide) (fun hc_14 => absurd hc_14 (nI_ge (a := (F + 1)) (b := 1000) (by omega) (by decide))) (fun hc_14 => ?_)
  refine lv_aload_n hx hb dX7_putFour_17 rfl (lv_at hl 1 rfl) ?_
  refine q_get X iX7_putFour_7 hP (by decide) h_11 rfl 0 (by decide) (List.mem_of_getElem? (i := 2) rfl) (v := .ref (ad 2)) rfl dX7_putFour_18 ?_
  refine lv_aload_n hx hb dX7_putFour_21 rfl (lv_at hl 1 rfl) ?_
  refine q_get X iX7_putFour_7 hP (by decide) h_11 rfl 1 (by decide) (List.mem_of_getElem? (i := 1) rfl) (v := .int (nI (F + 1))) rfl dX7_putFour_22 ?_
  refine lv_iload_n hx hb dX7_putFour_25 rfl (lv_at hl 2 rfl) ?_
  refine lv_iload_n hx hb dX7_putFour_26 rfl (lv_at hl 0 rfl) ?_
  refine lv_ishr hx hb dX7_putFour_27 ?_
  refine lv_topi (fun z_13 ez_13 => ?_)
  refine lv_i2b hx hb dX7_putFour_28 rfl ?_
  refine lv_topi (fun z_14 ez_14 => ?_)
  refine q_bast X hP hj hA hS (by decide) h_12 (vp_in_nI (by omega) (by decide)) dX7_putFour_29 (fun H locs hP hS => ?_)
  generalize eg_15 : va_up g_9 2 _ = g_15 at hP
  have hfr_17 : ∀ j, (j ≠ 1 ∧ j ≠ 2) → g_15 j = g j := fun j hj => by rw [← eg_15]; exact (va_up_ne _ _ (by omega)).trans (hfr_10 j hj)
  have h_18 : g_15 1 = .inr (7, [.ref (ad 2), .int (nI (F + 1)), .int 0, .int (-1), .int 0, .int 0, .int 0]) := by rw [← eg_15, va_up_ne _ _ (by decide)]; exact h_11
  obtain ⟨f_16, h_19⟩ : ∃ f, g_15 2 = .inl (cs 0, 1000, .inl f) := ⟨_, by rw [← eg_15]; exact va_up_self _ _ _⟩
  refine lv_aload_n hx hb dX7_putFour_30 rfl (lv_at hl 1 rfl) ?_
  refine lv_dup hx hb dX7_putFour_31 rfl ?_
  refine q_get X iX7_putFour_7 hP (by decide) h_18 rfl 1 (by decide) (List.mem_of_getElem? (i := 1) rfl) (v := .int (nI (F + 1))) rfl dX7_putFour_32 ?_
  refine lv_iconst (v := 1) hx hb dX7_putFour_35 (by decide) ?_
  refine lv_iadd hx hb dX7_putFour_36 ?_
  refine lv_topi (fun z_20 ez_20 => ?_)
  obtain rfl : z_20 = nI ((F + 1) + 1) := ez_20.trans (nI_add (F + 1) 1)
  refine q_put X iX7_putFour_7 tyX7 tyX7_ok nmX7 hP hj hA hS (by decide) h_18 rfl 1 (by decide) (List.mem_of_getElem? (i := 1) rfl) rfl (ty := .int) (v := .int (nI ((F + 1) + 1))) (by decide +kernel) rfl rfl (Nat.le_of_ble_eq_true rfl) dX7_putFour_37 (fun H locs hP hS => ?_)
  generalize eg_21 : va_up g_15 1 _ = g_21 at hP
  have hfr_22 : ∀ j, (j ≠ 1 ∧ j ≠ 2) → g_21 j = g j := fun j hj => by rw [← eg_21]; exact (va_up_ne _ _ (by omega)).trans (hfr_17 j hj)
  have h_23 : g_21 1 = .inr (7, [.ref (ad 2), .int (nI ((F + 1) + 1)), .int 0, .int (-1), .int 0, .int 0, .int 0]) := by rw [← eg_21]; exact va_up_self _ _ _
  have h_24 : g_21 2 = .inl (cs 0, 1000, .inl f_16) := by rw [← eg_21, va_up_ne _ _ (by decide)]; exact h_19
  refine lv_iinc (v := 8) (lv' := [(2, .int 8), (0, .ref (ad 1)), (1, .int vn)]) hx hb dX7_putFour_40 hl (k := 0) rfl (by decide) (by decide) rfl (fun ls hl => ?_)
  refine lv_goto (tgt := 3) hx hb dX7_putFour_43 (by decide) ?_
  refine lv_iload_n hx hb dX7_putFour_3 rfl (lv_at hl 0 rfl) ?_
  refine lv_if_lt (tgt := 46) hx hb dX7_putFour_4 (by decide) (fun h => absurd h (by decide)) (fun _ => ?_)
  refine lv_aload_n hx hb dX7_putFour_7 rfl (lv_at hl 1 rfl) ?_
  refine q_get X iX7_putFour_7 hP (by decide) h_23 rfl 1 (by decide) (List.mem_of_getElem? (i := 1) rfl) (v := .int (nI ((F + 1) + 1))) rfl dX7_putFour_8 ?_
  refine lv_sipush (v := 1000) hx hb dX7_putFour_11 (by decide) ?_
  refine lv_icmp_ge (tgt := 40) hx hb dX7_putFour_14 (by decide) (fun hc_14 => absurd hc_14 (nI_ge (a := ((F + 1) + 1)) (b := 1000) (by omega) (by decide))) (fun hc_14 => ?_)
  refine lv_aload_n hx hb dX7_putFour_17 rfl (lv_at hl 1 rfl) ?_
  refine q_get X iX7_putFour_7 hP (by decide) h_23 rfl 0 (by decide) (List.mem_of_getElem? (i := 2) rfl) (v := .ref (ad 2)) rfl dX7_putFour_18 ?_
  refine lv_aload_n hx hb dX7_putFour_21 rfl (lv_at hl 1 rfl) ?_
  refine q_get X iX7_putFour_7 hP (by decide) h_23 rfl 1 (by decide) (List.mem_of_getElem? (i := 1) rfl) (v := .int (nI ((F + 1) + 1))) rfl dX7_putFour_22 ?_
  refine lv_iload_n hx hb dX7_putFour_25 rfl (lv_at hl 2 rfl) ?_
  refine lv_iload_n hx hb dX7_putFour_26 rfl (lv_at hl 0 rfl) ?_
  refine lv_ishr hx hb dX7_putFour_27 ?_
  refine lv_topi (fun z_25 ez_25 => ?_)
  refine lv_i2b hx hb dX7_putFour_28 rfl ?_
  refine lv_topi (fun z_26 ez_26 => ?_)
  refine q_bast X hP hj hA hS (by decide) h_24 (vp_in_nI (by omega) (by decide)) dX7_putFour_29 (fun H locs hP hS => ?_)
  generalize eg_27 : va_up g_21 2 _ = g_27 at hP
  have hfr_29 : ∀ j, (j ≠ 1 ∧ j ≠ 2) → g_27 j = g j := fun j hj => by rw [← eg_27]; exact (va_up_ne _ _ (by omega)).trans (hfr_22 j hj)
  have h_30 : g_27 1 = .inr (7, [.ref (ad 2), .int (nI ((F + 1) + 1)), .int 0, .int (-1), .int 0, .int 0, .int 0]) := by rw [← eg_27, va_up_ne _ _ (by decide)]; exact h_23
  obtain ⟨f_28, h_31⟩ : ∃ f, g_27 2 = .inl (cs 0, 1000, .inl f) := ⟨_, by rw [← eg_27]; exact va_up_self _ _ _⟩
  refine lv_aload_n hx hb dX7_putFour_30 rfl (lv_at hl 1 rfl) ?_
  refine lv_dup hx hb dX7_putFour_31 rfl ?_
  refine q_get X iX7_putFour_7 hP (by decide) h_30 rfl 1 (by decide) (List.mem_of_getElem? (i := 1) rfl) (v := .int (nI ((F + 1) + 1))) rfl dX7_putFour_32 ?_
  refine lv_iconst (v := 1) hx hb dX7_putFour_35 (by decide) ?_
  refine lv_iadd hx hb dX7_putFour_36 ?_
  refine lv_topi (fun z_32 ez_32 => ?_)
  obtain rfl : z_32 = nI (((F + 1) + 1) + 1) := ez_32.trans (nI_add ((F + 1) + 1) 1)
  refine q_put X iX7_putFour_7 tyX7 tyX7_ok nmX7 hP hj hA hS (by decide) h_30 rfl 1 (by decide) (List.mem_of_getElem? (i := 1) rfl) rfl (ty := .int) (v := .int (nI (((F + 1) + 1) + 1))) (by decide +kernel) rfl rfl (Nat.le_of_ble_eq_true rfl) dX7_putFour_37 (fun H locs hP hS => ?_)
  generalize eg_33 : va_up g_27 1 _ = g_33 at hP
  have hfr_34 : ∀ j, (j ≠ 1 ∧ j ≠ 2) → g_33 j = g j := fun j hj => by rw [← eg_33]; exact (va_up_ne _ _ (by omega)).trans (hfr_29 j hj)
  have h_35 : g_33 1 = .inr (7, [.ref (ad 2), .int (nI (((F + 1) + 1) + 1)), .int 0, .int (-1), .int 0, .int 0, .int 0]) := by rw [← eg_33]; exact va_up_self _ _ _
  have h_36 : g_33 2 = .inl (cs 0, 1000, .inl f_28) := by rw [← eg_33, va_up_ne _ _ (by decide)]; exact h_31
  refine lv_iinc (v := 0) (lv' := [(2, .int 0), (0, .ref (ad 1)), (1, .int vn)]) hx hb dX7_putFour_40 hl (k := 0) rfl (by decide) (by decide) rfl (fun ls hl => ?_)
  refine lv_goto (tgt := 3) hx hb dX7_putFour_43 (by decide) ?_
  refine lv_iload_n hx hb dX7_putFour_3 rfl (lv_at hl 0 rfl) ?_
  refine lv_if_lt (tgt := 46) hx hb dX7_putFour_4 (by decide) (fun h => absurd h (by decide)) (fun _ => ?_)
  refine lv_aload_n hx hb dX7_putFour_7 rfl (lv_at hl 1 rfl) ?_
  refine q_get X iX7_putFour_7 hP (by decide) h_35 rfl 1 (by decide) (List.mem_of_getElem? (i := 1) rfl) (v := .int (nI (((F + 1) + 1) + 1))) rfl dX7_putFour_8 ?_
  refine lv_sipush (v := 1000) hx hb dX7_putFour_11 (by decide) ?_
  refine lv_icmp_ge (tgt := 40) hx hb dX7_putFour_14 (by decide) (fun hc_14 => absurd hc_14 (nI_ge (a := (((F + 1) + 1) + 1)) (b := 1000) (by omega) (by decide))) (fun hc_14 => ?_)
  refine lv_aload_n hx hb dX7_putFour_17 rfl (lv_at hl 1 rfl) ?_
  refine q_get X iX7_putFour_7 hP (by decide) h_35 rfl 0 (by decide) (List.mem_of_getElem? (i := 2) rfl) (v := .ref (ad 2)) rfl dX7_putFour_18 ?_
  refine lv_aload_n hx hb dX7_putFour_21 rfl (lv_at hl 1 rfl) ?_
  refine q_get X iX7_putFour_7 hP (by decide) h_35 rfl 1 (by decide) (List.mem_of_getElem? (i := 1) rfl) (v := .int (nI (((F + 1) + 1) + 1))) rfl dX7_putFour_22 ?_
  refine lv_iload_n hx hb dX7_putFour_25 rfl (lv_at hl 2 rfl) ?_
  refine lv_iload_n hx hb dX7_putFour_26 rfl (lv_at hl 0 rfl) ?_
  refine lv_ishr hx hb dX7_putFour_27 ?_
  refine lv_topi (fun z_37 ez_37 => ?_)
  refine lv_i2b hx hb dX7_putFour_28 rfl ?_
  refine lv_topi (fun z_38 ez_38 => ?_)
  refine q_bast X hP hj hA hS (by decide) h_36 (vp_in_nI (by omega) (by decide)) dX7_putFour_29 (fun H locs hP hS => ?_)
  generalize eg_39 : va_up g_33 2 _ = g_39 at hP
  have hfr_41 : ∀ j, (j ≠ 1 ∧ j ≠ 2) → g_39 j = g j := fun j hj => by rw [← eg_39]; exact (va_up_ne _ _ (by omega)).trans (hfr_34 j hj)
  have h_42 : g_39 1 = .inr (7, [.ref (ad 2), .int (nI (((F + 1) + 1) + 1)), .int 0, .int (-1), .int 0, .int 0, .int 0]) := by rw [← eg_39, va_up_ne _ _ (by decide)]; exact h_35
  obtain ⟨f_40, h_43⟩ : ∃ f, g_39 2 = .inl (cs 0, 1000, .inl f) := ⟨_, by rw [← eg_39]; exact va_up_self _ _ _⟩
  refine lv_aload_n hx hb dX7_putFour_30 rfl (lv_at hl 1 rfl) ?_
  refine lv_dup hx hb dX7_putFour_31 rfl ?_
  refine q_get X iX7_putFour_7 hP (by decide) h_42 rfl 1 (by decide) (List.mem_of_getElem? (i := 1) rfl) (v := .int (nI (((F + 1) + 1) + 1))) rfl dX7_putFour_32 ?_
  refine lv_iconst (v := 1) hx hb dX7_putFour_35 (by decide) ?_
  refine lv_iadd hx hb dX7_putFour_36 ?_
  refine lv_topi (fun z_44 ez_44 => ?_)
  obtain rfl : z_44 = nI ((((F + 1) + 1) + 1) + 1) := ez_44.trans (nI_add (((F + 1) + 1) + 1) 1)
  refine q_put X iX7_putFour_7 tyX7 tyX7_ok nmX7 hP hj hA hS (by decide) h_42 rfl 1 (by decide) (List.mem_of_getElem? (i := 1) rfl) rfl (ty := .int) (v := .int (nI ((((F + 1) + 1) + 1) + 1))) (by decide +kernel) rfl rfl (Nat.le_of_ble_eq_true rfl) dX7_putFour_37 (fun H locs hP hS => ?_)
  generalize eg_45 : va_up g_39 1 _ = g_45 at hP
  have hfr_46 : ∀ j, (j ≠ 1 ∧ j ≠ 2) → g_45 j = g j := fun j hj => by rw [← eg_45]; exact (va_up_ne _ _ (by omega)).trans (hfr_41 j hj)
  have h_47 : g_45 1 = .inr (7, [.ref (ad 2), .int (nI ((((F + 1) + 1) + 1) + 1)), .int 0, .int (-1), .int 0, .int 0, .int 0]) := by rw [← eg_45]; exact va_up_self _ _ _
  have h_48 : g_45 2 = .inl (cs 0, 1000, .inl f_40) := by rw [← eg_45, va_up_ne _ _ (by decide)]; exact h_43
  refine lv_iinc (v := (-8)) (lv' := [(2, .int (-8)), (0, .ref (ad 1)), (1, .int vn)]) hx hb dX7_putFour_40 hl (k := 0) rfl (by decide) (by decide) rfl (fun ls hl => ?_)
  refine lv_goto (tgt := 3) hx hb dX7_putFour_43 (by decide) ?_
  refine lv_iload_n hx hb dX7_putFour_3 rfl (lv_at hl 0 rfl) ?_
  refine lv_if_lt (tgt := 46) hx hb dX7_putFour_4 (by decide) (fun _ => ?_) (fun h => absurd h (by decide))
  exact q_vret X hP hS ⟨h_47, ⟨_, h_48⟩, hfr_46⟩ dX7_putFour_46

theorem dX11_feed_0 : decode cX11_feed 0 = .ok (.aload_n 0, 1) := by decide +kernel
theorem dX11_feed_1 : decode cX11_feed 1 = .ok (.getfield 12, 3) := by decide +kernel
theorem dX11_feed_4 : decode cX11_feed 4 = .ok (.getfield 93, 3) := by decide +kernel
theorem dX11_feed_7 : decode cX11_feed 7 = .ok (.sipush 980, 3) := by decide +kernel
theorem dX11_feed_10 : decode cX11_feed 10 = .ok (.if_icmp .le 5, 3) := by decide +kernel
theorem dX11_feed_15 : decode cX11_feed 15 = .ok (.aload_n 0, 1) := by decide +kernel
theorem dX11_feed_16 : decode cX11_feed 16 = .ok (.getfield 12, 3) := by decide +kernel
theorem dX11_feed_19 : decode cX11_feed 19 = .ok (.iload_n 1, 1) := by decide +kernel
theorem dX11_feed_20 : decode cX11_feed 20 = .ok (.invokevirtual 97, 3) := by decide +kernel
theorem dX11_feed_23 : decode cX11_feed 23 = .ok (.aload_n 0, 1) := by decide +kernel
theorem dX11_feed_24 : decode cX11_feed 24 = .ok (.getfield 12, 3) := by decide +kernel
theorem dX11_feed_27 : decode cX11_feed 27 = .ok (.iload_n 2, 1) := by decide +kernel
theorem dX11_feed_28 : decode cX11_feed 28 = .ok (.invokevirtual 97, 3) := by decide +kernel
theorem dX11_feed_31 : decode cX11_feed 31 = .ok (.aload_n 0, 1) := by decide +kernel
theorem dX11_feed_32 : decode cX11_feed 32 = .ok (.getfield 12, 3) := by decide +kernel
theorem dX11_feed_35 : decode cX11_feed 35 = .ok (.iload_n 3, 1) := by decide +kernel
theorem dX11_feed_36 : decode cX11_feed 36 = .ok (.invokevirtual 97, 3) := by decide +kernel
theorem dX11_feed_39 : decode cX11_feed 39 = .ok (.aload_n 0, 1) := by decide +kernel
theorem dX11_feed_40 : decode cX11_feed 40 = .ok (.getfield 12, 3) := by decide +kernel
theorem dX11_feed_43 : decode cX11_feed 43 = .ok (.iload 4, 2) := by decide +kernel
theorem dX11_feed_45 : decode cX11_feed 45 = .ok (.invokevirtual 97, 3) := by decide +kernel
theorem dX11_feed_48 : decode cX11_feed 48 = .ok (.aload_n 0, 1) := by decide +kernel
theorem dX11_feed_49 : decode cX11_feed 49 = .ok (.getfield 12, 3) := by decide +kernel
theorem dX11_feed_52 : decode cX11_feed 52 = .ok (.iload 5, 2) := by decide +kernel
theorem dX11_feed_54 : decode cX11_feed 54 = .ok (.invokevirtual 97, 3) := by decide +kernel
theorem dX11_feed_57 : decode cX11_feed 57 = .ok (.aload_n 0, 1) := by decide +kernel
theorem dX11_feed_58 : decode cX11_feed 58 = .ok (.getfield 12, 3) := by decide +kernel
theorem dX11_feed_61 : decode cX11_feed 61 = .ok (.getfield 93, 3) := by decide +kernel
theorem dX11_feed_64 : decode cX11_feed 64 = .ok (.ireturn, 1) := by decide +kernel
def vX11_feed : List Cond := .code yX11_feed cX11_feed 6 (some .int) :: ([.fieldLink RX11 12 "IcicleClock" "tape" "LIcicleClock$Tape;", .fieldLink RX11 93 "IcicleClock$Tape" "filled" "I", .methodLink RX11 97 yX7_putFour, .instanceMethod yX7_putFour, .selects RX7 yX7_putFour yX7_putFour, .initialized RX7, .code yX7_putFour cX7_putFour 3 none, .fieldLink RX7 19 "IcicleClock$Tape" "filled" "I", .fieldLink RX7 9 "IcicleClock$Tape" "bytes" "[B"] ++ wsX110 ++ wsX70)
theorem iX11_feed_11 : ∀ w ∈ wsX110, w ∈ vX11_feed := fun _ h => List.mem_cons_of_mem _ (List.mem_append_left _ (List.mem_append_right _ h))
theorem iX11_feed_7 : ∀ w ∈ wsX70, w ∈ vX11_feed := fun _ h => List.mem_cons_of_mem _ (List.mem_append_right _ h)
set_option maxRecDepth 20000 in
theorem gg_X11_feed_X7_putFour : GoodIn vX11_feed (wsV RX11 97 RX7 yX7_putFour vX7_putFour) := goodIn_r _ [3, 4, 5, 6, 7, 8, 9, 24, 25, 26, 27, 28, 29, 30] (by decide +kernel) (by decide +kernel)
set_option maxHeartbeats 4000000 in
set_option maxRecDepth 100000 in
theorem k_feed (l : Launch) (D : va_G) (cs : Nat → ClassId) (ad : Nat → Nat) (hj : wJ ad nW) (g : Nat → va_E) (va : Int32) (vb : Int32) (vc : Int32) (vd : Int32) (vf : Int32) (h0 : g 0 = .inr (11, [.ref (ad 1), .ref (ad 3), .ref (ad 23), .ref (ad 43), .ref (ad 104), .ref (ad 105), .ref (ad 114), .ref (ad 116), .ref (ad 118), .ref (ad 120), .ref (ad 130), .ref (ad 140), .ref (ad 144), .ref (ad 190)])) (h1 : g 1 = .inr (7, [.ref (ad 2), .int 0, .int 0, .int (-1), .int 0, .int 0, .int 0])) (h2 : g 2 = .inl (cs 0, 1000, .inl (fun _ => 0))) : cI l yX11_feed vX11_feed { frames := 1, cells := 0, slots := 0, locals := 22 } D cs ad nW [.ref (ad 0), .int va, .int vb, .int vc, .int vd, .int vf] g (fun r g2 => r = 20 ∧ ∀ j, 197 ≤ j → g2 j = g j) := by
  refine Met.start (cc := cX11_feed) (maxL := 6) (ret := (some .int)) RX11 rfl (by decide) rfl (Nat.le_of_ble_eq_true rfl) ?_
  intro p e s m below meth c ls X hP hl
  have hx := X.1
  have hb := X.2.1
  have hS : va_S (wA ad nW) s.heap s.heap [] := va_S.rf
  have hA : ∀ i, i < nW → wA ad nW (ad i) := fun i h => ⟨i, h, rfl⟩
  have hfr : ∀ j, 197 ≤ j → g j = g j := fun _ _ => rfl
  have hl : lv_has ls 6 [(0, .ref (ad 0)), (1, .int va), (2, .int vb), (3, .int vc), (4, .int vd), (5, .int vf)] := hl
  refine lv_aload_n hx hb dX11_feed_0 rfl (lv_at hl 0 rfl) ?_
  refine q_get X iX11_feed_11 hP (by decide) h0 rfl 0 (by decide) (List.mem_of_getElem? (i := 1) rfl) (v := .ref (ad 1)) rfl dX11_feed_1 ?_
  refine q_get X iX11_feed_7 hP (by decide) h1 rfl 1 (by decide) (List.mem_of_getElem? (i := 2) rfl) (v := .int 0) rfl dX11_feed_4 ?_
  refine lv_sipush (v := 980) hx hb dX11_feed_7 (by decide) ?_
  refine lv_icmp_le (tgt := 15) hx hb dX11_feed_10 (by decide) (fun _ => ?_) (fun h => absurd h (by decide))
  refine lv_aload_n hx hb dX11_feed_15 rfl (lv_at hl 0 rfl) ?_
  refine q_get X iX11_feed_11 hP (by decide) h0 rfl 0 (by decide) (List.mem_of_getElem? (i := 1) rfl) (v := .ref (ad 1)) rfl dX11_feed_16 ?_
  refine lv_iload_n hx hb dX11_feed_19 rfl (lv_at hl 1 rfl) ?_
  refine q_callv (q := (RX7, TX7, 7)) (As := [.int va]) (rest := []) X (k_putFour l D cs ad hj g 0 _ va h1 h2 (by decide)) (cwV 1 X.2.2.2.2.1 gg_X11_feed_X7_putFour rfl rfl rfl (by decide +kernel) ⟨Nat.le_of_ble_eq_true rfl, Nat.le_of_ble_eq_true rfl⟩) (by decide) h1 rfl hP hA hS rfl hl.1 rfl (Nat.le_of_ble_eq_true rfl) dX11_feed_20 ⟨Nat.le_of_ble_eq_true rfl, Nat.le_of_ble_eq_true rfl⟩ (fun g_2 H locs hw_1 hP hS => ?_)
  obtain ⟨h_4, ⟨f_6, h_5⟩, hf_7⟩ := hw_1
  have h_9 : g_2 1 = .inr (7, [.ref (ad 2), .int 4, .int 0, .int (-1), .int 0, .int 0, .int 0]) := h_4
  have h_8 : g_2 0 = .inr (11, [.ref (ad 1), .ref (ad 3), .ref (ad 23), .ref (ad 43), .ref (ad 104), .ref (ad 105), .ref (ad 114), .ref (ad 116), .ref (ad 118), .ref (ad 120), .ref (ad 130), .ref (ad 140), .ref (ad 144), .ref (ad 190)]) := (hf_7 0 (by decide)).trans h0
  have hfr_10 : ∀ j, 197 ≤ j → g_2 j = g j := fun j hj => (hf_7 j (by omega)).trans (hfr j hj)
  refine lv_aload_n hx hb dX11_feed_23 rfl (lv_at hl 0 rfl) ?_
  refine q_get X iX11_feed_11 hP (by decide) h_8 rfl 0 (by decide) (List.mem_of_getElem? (i := 1) rfl) (v := .ref (ad 1)) rfl dX11_feed_24 ?_
  refine lv_iload_n hx hb dX11_feed_27 rfl (lv_at hl 2 rfl) ?_
  refine q_callv (q := (RX7, TX7, 7)) (As := [.int vb]) (rest := []) X (k_putFour l D cs ad hj g_2 4 _ vb h_9 h_5 (by decide)) (cwV 1 X.2.2.2.2.1 gg_X11_feed_X7_putFour rfl rfl rfl (by decide +kernel) ⟨Nat.le_of_ble_eq_true rfl, Nat.le_of_ble_eq_true rfl⟩) (by decide) h_9 rfl hP hA hS rfl hl.1 rfl (Nat.le_of_ble_eq_true rfl) dX11_feed_28 ⟨Nat.le_of_ble_eq_true rfl, Nat.le_of_ble_eq_true rfl⟩ (fun g_12 H locs hw_11 hP hS => ?_)
  obtain ⟨h_14, ⟨f_16, h_15⟩, hf_17⟩ := hw_11
  have h_19 : g_12 1 = .inr (7, [.ref (ad 2), .int 8, .int 0, .int (-1), .int 0, .int 0, .int 0]) := h_14
  have h_18 : g_12 0 = .inr (11, [.ref (ad 1), .ref (ad 3), .ref (ad 23), .ref (ad 43), .ref (ad 104), .ref (ad 105), .ref (ad 114), .ref (ad 116), .ref (ad 118), .ref (ad 120), .ref (ad 130), .ref (ad 140), .ref (ad 144), .ref (ad 190)]) := (hf_17 0 (by decide)).trans h_8
  have hfr_20 : ∀ j, 197 ≤ j → g_12 j = g j := fun j hj => (hf_17 j (by omega)).trans (hfr_10 j hj)
  refine lv_aload_n hx hb dX11_feed_31 rfl (lv_at hl 0 rfl) ?_
  refine q_get X iX11_feed_11 hP (by decide) h_18 rfl 0 (by decide) (List.mem_of_getElem? (i := 1) rfl) (v := .ref (ad 1)) rfl dX11_feed_32 ?_
  refine lv_iload_n hx hb dX11_feed_35 rfl (lv_at hl 3 rfl) ?_
  refine q_callv (q := (RX7, TX7, 7)) (As := [.int vc]) (rest := []) X (k_putFour l D cs ad hj g_12 8 _ vc h_19 h_15 (by decide)) (cwV 1 X.2.2.2.2.1 gg_X11_feed_X7_putFour rfl rfl rfl (by decide +kernel) ⟨Nat.le_of_ble_eq_true rfl, Nat.le_of_ble_eq_true rfl⟩) (by decide) h_19 rfl hP hA hS rfl hl.1 rfl (Nat.le_of_ble_eq_true rfl) dX11_feed_36 ⟨Nat.le_of_ble_eq_true rfl, Nat.le_of_ble_eq_true rfl⟩ (fun g_22 H locs hw_21 hP hS => ?_)
  obtain ⟨h_24, ⟨f_26, h_25⟩, hf_27⟩ := hw_21
  have h_29 : g_22 1 = .inr (7, [.ref (ad 2), .int 12, .int 0, .int (-1), .int 0, .int 0, .int 0]) := h_24
  have h_28 : g_22 0 = .inr (11, [.ref (ad 1), .ref (ad 3), .ref (ad 23), .ref (ad 43), .ref (ad 104), .ref (ad 105), .ref (ad 114), .ref (ad 116), .ref (ad 118), .ref (ad 120), .ref (ad 130), .ref (ad 140), .ref (ad 144), .ref (ad 190)]) := (hf_27 0 (by decide)).trans h_18
  have hfr_30 : ∀ j, 197 ≤ j → g_22 j = g j := fun j hj => (hf_27 j (by omega)).trans (hfr_20 j hj)
  refine lv_aload_n hx hb dX11_feed_39 rfl (lv_at hl 0 rfl) ?_
  refine q_get X iX11_feed_11 hP (by decide) h_28 rfl 0 (by decide) (List.mem_of_getElem? (i := 1) rfl) (v := .ref (ad 1)) rfl dX11_feed_40 ?_
  refine lv_iload hx hb dX11_feed_43 (lv_at hl 4 rfl) ?_
  refine q_callv (q := (RX7, TX7, 7)) (As := [.int vd]) (rest := []) X (k_putFour l D cs ad hj g_22 12 _ vd h_29 h_25 (by decide)) (cwV 1 X.2.2.2.2.1 gg_X11_feed_X7_putFour rfl rfl rfl (by decide +kernel) ⟨Nat.le_of_ble_eq_true rfl, Nat.le_of_ble_eq_true rfl⟩) (by decide) h_29 rfl hP hA hS rfl hl.1 rfl (Nat.le_of_ble_eq_true rfl) dX11_feed_45 ⟨Nat.le_of_ble_eq_true rfl, Nat.le_of_ble_eq_true rfl⟩ (fun g_32 H locs hw_31 hP hS => ?_)
  obtain ⟨h_34, ⟨f_36, h_35⟩, hf_37⟩ := hw_31
  have h_39 : g_32 1 = .inr (7, [.ref (ad 2), .int 16, .int 0, .int (-1), .int 0, .int 0, .int 0]) := h_34
  have h_38 : g_32 0 = .inr (11, [.ref (ad 1), .ref (ad 3), .ref (ad 23), .ref (ad 43), .ref (ad 104), .ref (ad 105), .ref (ad 114), .ref (ad 116), .ref (ad 118), .ref (ad 120), .ref (ad 130), .ref (ad 140), .ref (ad 144), .ref (ad 190)]) := (hf_37 0 (by decide)).trans h_28
  have hfr_40 : ∀ j, 197 ≤ j → g_32 j = g j := fun j hj => (hf_37 j (by omega)).trans (hfr_30 j hj)
  refine lv_aload_n hx hb dX11_feed_48 rfl (lv_at hl 0 rfl) ?_
  refine q_get X iX11_feed_11 hP (by decide) h_38 rfl 0 (by decide) (List.mem_of_getElem? (i := 1) rfl) (v := .ref (ad 1)) rfl dX11_feed_49 ?_
  refine lv_iload hx hb dX11_feed_52 (lv_at hl 5 rfl) ?_
  refine q_callv (q := (RX7, TX7, 7)) (As := [.int vf]) (rest := []) X (k_putFour l D cs ad hj g_32 16 _ vf h_39 h_35 (by decide)) (cwV 1 X.2.2.2.2.1 gg_X11_feed_X7_putFour rfl rfl rfl (by decide +kernel) ⟨Nat.le_of_ble_eq_true rfl, Nat.le_of_ble_eq_true rfl⟩) (by decide) h_39 rfl hP hA hS rfl hl.1 rfl (Nat.le_of_ble_eq_true rfl) dX11_feed_54 ⟨Nat.le_of_ble_eq_true rfl, Nat.le_of_ble_eq_true rfl⟩ (fun g_42 H locs hw_41 hP hS => ?_)
  obtain ⟨h_44, ⟨f_46, h_45⟩, hf_47⟩ := hw_41
  have h_49 : g_42 1 = .inr (7, [.ref (ad 2), .int 20, .int 0, .int (-1), .int 0, .int 0, .int 0]) := h_44
  have h_48 : g_42 0 = .inr (11, [.ref (ad 1), .ref (ad 3), .ref (ad 23), .ref (ad 43), .ref (ad 104), .ref (ad 105), .ref (ad 114), .ref (ad 116), .ref (ad 118), .ref (ad 120), .ref (ad 130), .ref (ad 140), .ref (ad 144), .ref (ad 190)]) := (hf_47 0 (by decide)).trans h_38
  have hfr_50 : ∀ j, 197 ≤ j → g_42 j = g j := fun j hj => (hf_47 j (by omega)).trans (hfr_40 j hj)
  refine lv_aload_n hx hb dX11_feed_57 rfl (lv_at hl 0 rfl) ?_
  refine q_get X iX11_feed_11 hP (by decide) h_48 rfl 0 (by decide) (List.mem_of_getElem? (i := 1) rfl) (v := .ref (ad 1)) rfl dX11_feed_58 ?_
  refine q_get X iX11_feed_7 hP (by decide) h_49 rfl 1 (by decide) (List.mem_of_getElem? (i := 2) rfl) (v := .int 20) rfl dX11_feed_61 ?_
  exact q_iret X hP hS ⟨rfl, hfr_50⟩ dX11_feed_64
