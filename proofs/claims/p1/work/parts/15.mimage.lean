theorem dX12_image_0 : decode cX12_image 0 = .ok (.iload_n 1, 1) := by decide +kernel
theorem dX12_image_1 : decode cX12_image 1 = .ok (.i2l, 1) := by decide +kernel
theorem dX12_image_2 : decode cX12_image 2 = .ok (.lconst 0, 1) := by decide +kernel
theorem dX12_image_3 : decode cX12_image 3 = .ok (.ldc2_w 80, 3) := by decide +kernel
theorem dX12_image_6 : decode cX12_image 6 = .ok (.invokestatic 82, 3) := by decide +kernel
theorem dX12_image_9 : decode cX12_image 9 = .ok (.ifCond .ne 6, 3) := by decide +kernel
theorem dX12_image_15 : decode cX12_image 15 = .ok (.iconst 0, 1) := by decide +kernel
theorem dX12_image_16 : decode cX12_image 16 = .ok (.istore_n 2, 1) := by decide +kernel
theorem dX12_image_17 : decode cX12_image 17 = .ok (.iload_n 2, 1) := by decide +kernel
theorem dX12_image_18 : decode cX12_image 18 = .ok (.bipush 118, 2) := by decide +kernel
theorem dX12_image_20 : decode cX12_image 20 = .ok (.if_icmp .ge 26, 3) := by decide +kernel
theorem dX12_image_46 : decode cX12_image 46 = .ok (.aload_n 0, 1) := by decide +kernel
theorem dX12_image_47 : decode cX12_image 47 = .ok (.getfield 16, 3) := by decide +kernel
theorem dX12_image_50 : decode cX12_image 50 = .ok (.iload_n 1, 1) := by decide +kernel
theorem dX12_image_51 : decode cX12_image 51 = .ok (.iconst 1, 1) := by decide +kernel
theorem dX12_image_52 : decode cX12_image 52 = .ok (.bastore, 1) := by decide +kernel
theorem dX12_image_53 : decode cX12_image 53 = .ok (.iconst 0, 1) := by decide +kernel
theorem dX12_image_54 : decode cX12_image 54 = .ok (.ireturn, 1) := by decide +kernel
theorem dX12_image_23 : decode cX12_image 23 = .ok (.aload_n 0, 1) := by decide +kernel
theorem dX12_image_24 : decode cX12_image 24 = .ok (.getfield 13, 3) := by decide +kernel
theorem dX12_image_27 : decode cX12_image 27 = .ok (.bipush 118, 2) := by decide +kernel
theorem dX12_image_29 : decode cX12_image 29 = .ok (.iload_n 1, 1) := by decide +kernel
theorem dX12_image_30 : decode cX12_image 30 = .ok (.imul, 1) := by decide +kernel
theorem dX12_image_31 : decode cX12_image 31 = .ok (.iload_n 2, 1) := by decide +kernel
theorem dX12_image_32 : decode cX12_image 32 = .ok (.iadd, 1) := by decide +kernel
theorem dX12_image_33 : decode cX12_image 33 = .ok (.aload_n 0, 1) := by decide +kernel
theorem dX12_image_34 : decode cX12_image 34 = .ok (.getfield 9, 3) := by decide +kernel
theorem dX12_image_37 : decode cX12_image 37 = .ok (.iload_n 2, 1) := by decide +kernel
theorem dX12_image_38 : decode cX12_image 38 = .ok (.iaload, 1) := by decide +kernel
theorem dX12_image_39 : decode cX12_image 39 = .ok (.iastore, 1) := by decide +kernel
theorem dX12_image_40 : decode cX12_image 40 = .ok (.iinc 2 1, 3) := by decide +kernel
theorem dX12_image_43 : decode cX12_image 43 = .ok (.goto (-26), 3) := by decide +kernel
theorem dX12_image_12 : decode cX12_image 12 = .ok (.bipush (-2), 2) := by decide +kernel
theorem dX12_image_14 : decode cX12_image 14 = .ok (.ireturn, 1) := by decide +kernel
def vX12_image : List Cond := .code yX12_image cX12_image 3 (some .int) :: ([.constantLong RX12 80 (2), .methodLink RX12 82 yX12_in, .static yX12_in, .initialized RX12, .code yX12_in cX12_in 6 (some .boolean), .fieldLink RX12 16 "IcicleClockModel" "hasImage" "[Z", .fieldLink RX12 13 "IcicleClockModel" "images" "[I", .fieldLink RX12 9 "IcicleClockModel" "world" "[I"] ++ wsX120)
theorem iX12_image_12 : ∀ w ∈ wsX120, w ∈ vX12_image := fun _ h => List.mem_cons_of_mem _ (List.mem_append_right _ h)
set_option maxRecDepth 20000 in
theorem gg_X12_image_X12_in : GoodIn vX12_image (wsS RX12 82 yX12_in vX12_in) := goodIn_r _ [2, 3, 4, 5] (by decide +kernel) (by decide +kernel)
set_option maxHeartbeats 4000000 in
set_option maxRecDepth 100000 in
theorem m_image (l : Launch) (D : va_G) (cs : Nat → ClassId) (ad : Nat → Nat) (hj : wJ ad nW) (g : Nat → va_E) (vk : Int32) (h197 : g 197 = .inr (12, [.int 0, .ref (ad 198), .ref (ad 199), .ref (ad 200), .ref (ad 201), .int 0, .ref (ad 202), .int 0, .int 0, .int 0, .int 0, .int 0, .int 0, .int (-1), .ref (ad 203), .ref (ad 204), .ref (ad 205), .int 0, .int 0, .ref (ad 206), .ref (ad 207), .ref (ad 208), .int 0, .int 0, .int 0, .int 0, .int 0, .ref (ad 209), .ref (ad 210), .ref (ad 211), .long 0, .long 0, .ref (ad 212), .ref (ad 213), .int 0, .int 0, .ref (ad 214), .ref (ad 215), .ref (ad 216), .ref (ad 217)])) (h198 : g 198 = .inl (cs 1, 118, .inl (fun _ => 0))) (h199 : g 199 = .inl (cs 1, 354, .inl (fun _ => 0))) (h200 : g 200 = .inl (cs 3, 3, .inl (fun _ => 0))) : cI l yX12_image vX12_image { frames := 1, cells := 0, slots := 0, locals := 25 } D cs ad nW [.ref (ad 197), .int vk] g (fun r g2 => r = aImg vk) := by
  refine Met.start (cc := cX12_image) (maxL := 3) (ret := (some .int)) RX12 rfl (by decide) rfl (Nat.le_of_ble_eq_true rfl) ?_
  intro p e s m below meth c ls X hP hl
  have hx := X.1
  have hb := X.2.1
  have hS : va_S (wA ad nW) s.heap s.heap [] := va_S.rf
  have hA : ∀ i, i < nW → wA ad nW (ad i) := fun i h => ⟨i, h, rfl⟩
  have hl : lv_has ls 3 [(0, .ref (ad 197)), (1, .int vk)] := hl
  refine lv_iload_n hx hb dX12_image_0 rfl (lv_at hl 1 rfl) ?_
  refine lv_i2l (v := vk.toInt64) hx hb dX12_image_1 rfl ?_
  refine lv_lconst (v := 0) hx hb dX12_image_2 (by decide) ?_
  refine lv_ldc2 (v := 2) hx hb X.2.2.2.2.2.1 (X.2.2.2.2.1 _ (List.mem_of_getElem? (i := 1) rfl)) dX12_image_3 ?_
  refine q_callSi (As := [.long (vk.toInt64), .long 0, .long 2]) (rest := []) X (m_in l D cs ad hj g (vk.toInt64) 0 2 ) (cwS 3 X.2.2.2.2.1 gg_X12_image_X12_in rfl rfl rfl (by decide +kernel) ⟨Nat.le_of_ble_eq_true rfl, Nat.le_of_ble_eq_true rfl⟩) hP hA hS rfl hl.1 rfl (Nat.le_of_ble_eq_true rfl) dX12_image_6 ⟨Nat.le_of_ble_eq_true rfl, Nat.le_of_ble_eq_true rfl⟩ (fun r_3 g_2 H locs hw_1 hP hS => ?_)
  obtain ⟨hw_1b, hw_1⟩ := hw_1
  rw [hw_1b] at hP
  refine lv_if_ne (tgt := 15) hx hb dX12_image_9 (by decide) (fun hc_9 => ?_) (fun hc_9 => ?_)
  · rcases in3 (in_3y hw_1 hc_9).1 (in_3y hw_1 hc_9).2 with rfl | rfl | rfl
    · refine lv_iconst (v := 0) hx hb dX12_image_15 (by decide) ?_
      refine lv_istore_n (lv' := [(2, .int 0), (0, .ref (ad 197)), (1, .int 0)]) hx hb dX12_image_16 rfl hl (by decide) rfl (fun ls hl => ?_)
      have HL17 : ∀ (d17 k17 : Nat) (f17_199 : Nat → Int32) (G17 : Nat → va_E) (H : Heap) (locs : List Loc) (ls : Array Slot), k17 + d17 = 118 → G17 197 = .inr (12, [.int 0, .ref (ad 198), .ref (ad 199), .ref (ad 200), .ref (ad 201), .int 0, .ref (ad 202), .int 0, .int 0, .int 0, .int 0, .int 0, .int 0, .int (-1), .ref (ad 203), .ref (ad 204), .ref (ad 205), .int 0, .int 0, .ref (ad 206), .ref (ad 207), .ref (ad 208), .int 0, .int 0, .int 0, .int 0, .int 0, .ref (ad 209), .ref (ad 210), .ref (ad 211), .long 0, .long 0, .ref (ad 212), .ref (ad 213), .int 0, .int 0, .ref (ad 214), .ref (ad 215), .ref (ad 216), .ref (ad 217)]) → G17 198 = .inl (cs 1, 118, .inl (fun _ => 0)) → G17 199 = .inl (cs 1, 354, .inl f17_199) → G17 200 = .inl (cs 3, 3, .inl (fun _ => 0)) → va_P D vwCl (wL ad G17 nW) H → va_S (wA ad nW) s.heap H locs → lv_has ls 3 [(2, .int (nI k17)), (0, .ref (ad 197)), (1, .int 0)] → W p l e ({ frames := 1, cells := 0, slots := 0, locals := 25 } : Room) s m ([.ref (ad 197), .int 0] : List Value).toArray below meth c H locs 0 0 (MQ below (qI D ad nW (fun r g2 => r = aImg 0)) ([.ref (ad 197), .int 0] : List Value).toArray s 0 0 (wA ad nW)) (F0 m 17 ls []) := by
        intro d17
        induction d17 with
        | zero =>
          intro k17 f17_199 G17 H locs ls hk17 h17_197 h17_198 h17_199 h17_200 hP hS hl
          obtain rfl : k17 = 118 := by omega
          refine lv_iload_n hx hb dX12_image_17 rfl (lv_at hl 0 rfl) ?_
          refine lv_bipush (v := 118) hx hb dX12_image_18 (by decide) ?_
          refine lv_icmp_ge (tgt := 46) hx hb dX12_image_20 (by decide) (fun _ => ?_) (fun h => absurd h (by decide))
          refine lv_aload_n hx hb dX12_image_46 rfl (lv_at hl 1 rfl) ?_
          refine q_get X iX12_image_12 hP (by decide) h17_197 rfl 3 (by decide) (List.mem_of_getElem? (i := 6) rfl) (v := .ref (ad 200)) rfl dX12_image_47 ?_
          refine lv_iload_n hx hb dX12_image_50 rfl (lv_at hl 2 rfl) ?_
          refine lv_iconst (v := 1) hx hb dX12_image_51 (by decide) ?_
          refine q_zast X hP hj hA hS (by decide) h17_200 (by unfold vp_in; decide) dX12_image_52 (fun H locs hP hS => ?_)
          generalize eg_4 : va_up G17 200 _ = g_4 at hP
          have h_6 : g_4 197 = .inr (12, [.int 0, .ref (ad 198), .ref (ad 199), .ref (ad 200), .ref (ad 201), .int 0, .ref (ad 202), .int 0, .int 0, .int 0, .int 0, .int 0, .int 0, .int (-1), .ref (ad 203), .ref (ad 204), .ref (ad 205), .int 0, .int 0, .ref (ad 206), .ref (ad 207), .ref (ad 208), .int 0, .int 0, .int 0, .int 0, .int 0, .ref (ad 209), .ref (ad 210), .ref (ad 211), .long 0, .long 0, .ref (ad 212), .ref (ad 213), .int 0, .int 0, .ref (ad 214), .ref (ad 215), .ref (ad 216), .ref (ad 217)]) := by rw [← eg_4, va_up_ne _ _ (by decide)]; exact h17_197
          have h_7 : g_4 198 = .inl (cs 1, 118, .inl (fun _ => 0)) := by rw [← eg_4, va_up_ne _ _ (by decide)]; exact h17_198
          have h_8 : g_4 199 = .inl (cs 1, 354, .inl f17_199) := by rw [← eg_4, va_up_ne _ _ (by decide)]; exact h17_199
          obtain ⟨f_5, h_9⟩ : ∃ f, g_4 200 = .inl (cs 3, 3, .inl f) := ⟨_, by rw [← eg_4]; exact va_up_self _ _ _⟩
          refine lv_iconst (v := 0) hx hb dX12_image_53 (by decide) ?_
          exact q_iret X hP hS (by unfold aImg; rfl) dX12_image_54
        | succ d17 ih17 =>
          intro k17 f17_199 G17 H locs ls hk17 h17_197 h17_198 h17_199 h17_200 hP hS hl
          refine lv_iload_n hx hb dX12_image_17 rfl (lv_at hl 0 rfl) ?_
          refine lv_bipush (v := 118) hx hb dX12_image_18 (by decide) ?_
          refine lv_icmp_ge (tgt := 46) hx hb dX12_image_20 (by decide) (fun hc_20 => absurd hc_20 (nI_ge (a := k17) (b := 118) (by omega) (by decide))) (fun hc_20 => ?_)
          refine lv_aload_n hx hb dX12_image_23 rfl (lv_at hl 1 rfl) ?_
          refine q_get X iX12_image_12 hP (by decide) h17_197 rfl 2 (by decide) (List.mem_of_getElem? (i := 7) rfl) (v := .ref (ad 199)) rfl dX12_image_24 ?_
          refine lv_bipush (v := 118) hx hb dX12_image_27 (by decide) ?_
          refine lv_iload_n hx hb dX12_image_29 rfl (lv_at hl 2 rfl) ?_
          refine lv_imul hx hb dX12_image_30 ?_
          refine lv_topi (fun z_10 ez_10 => ?_)
          obtain rfl : z_10 = 0 := ez_10.trans (by decide)
          refine lv_iload_n hx hb dX12_image_31 rfl (lv_at hl 0 rfl) ?_
          refine lv_iadd hx hb dX12_image_32 ?_
          refine lv_topi (fun z_11 ez_11 => ?_)
          obtain rfl : z_11 = nI (0 + k17) := ez_11.trans (nI_add 0 k17)
          refine lv_aload_n hx hb dX12_image_33 rfl (lv_at hl 1 rfl) ?_
          refine q_get X iX12_image_12 hP (by decide) h17_197 rfl 1 (by decide) (List.mem_of_getElem? (i := 8) rfl) (v := .ref (ad 198)) rfl dX12_image_34 ?_
          refine lv_iload_n hx hb dX12_image_37 rfl (lv_at hl 0 rfl) ?_
          refine q_iald X hP (by decide) h17_198 (vp_in_nI (by omega) (by decide)) dX12_image_38 ?_
          refine q_iast X hP hj hA hS (by decide) h17_199 (vp_in_nI (by omega) (by decide)) dX12_image_39 (fun H locs hP hS => ?_)
          generalize eg_12 : va_up G17 199 _ = g_12 at hP
          have h_14 : g_12 197 = .inr (12, [.int 0, .ref (ad 198), .ref (ad 199), .ref (ad 200), .ref (ad 201), .int 0, .ref (ad 202), .int 0, .int 0, .int 0, .int 0, .int 0, .int 0, .int (-1), .ref (ad 203), .ref (ad 204), .ref (ad 205), .int 0, .int 0, .ref (ad 206), .ref (ad 207), .ref (ad 208), .int 0, .int 0, .int 0, .int 0, .int 0, .ref (ad 209), .ref (ad 210), .ref (ad 211), .long 0, .long 0, .ref (ad 212), .ref (ad 213), .int 0, .int 0, .ref (ad 214), .ref (ad 215), .ref (ad 216), .ref (ad 217)]) := by rw [← eg_12, va_up_ne _ _ (by decide)]; exact h17_197
          have h_15 : g_12 198 = .inl (cs 1, 118, .inl (fun _ => 0)) := by rw [← eg_12, va_up_ne _ _ (by decide)]; exact h17_198
          obtain ⟨f_13, h_16⟩ : ∃ f, g_12 199 = .inl (cs 1, 354, .inl f) := ⟨_, by rw [← eg_12]; exact va_up_self _ _ _⟩
          have h_17 : g_12 200 = .inl (cs 3, 3, .inl (fun _ => 0)) := by rw [← eg_12, va_up_ne _ _ (by decide)]; exact h17_200
          refine lv_iinc (v := (nI (k17 + 1))) (lv' := [(2, .int (nI (k17 + 1))), (0, .ref (ad 197)), (1, .int 0)]) hx hb dX12_image_40 hl (k := 0) rfl (nI_add k17 1) (by decide) rfl (fun ls hl => ?_)
          refine lv_goto (tgt := 17) hx hb dX12_image_43 (by decide) ?_
          exact ih17 (k17 + 1) _ g_12 _ _ ls (by omega) h_14 h_15 h_16 h_17 hP hS (lv_sub hl [0, 1, 2] rfl)
      exact HL17 118 0 _ g _ _ ls (by omega) h197 h198 h199 h200 hP hS (lv_sub hl [0, 1, 2] rfl)
    · refine lv_iconst (v := 0) hx hb dX12_image_15 (by decide) ?_
      refine lv_istore_n (lv' := [(2, .int 0), (0, .ref (ad 197)), (1, .int 1)]) hx hb dX12_image_16 rfl hl (by decide) rfl (fun ls hl => ?_)
      have HL17 : ∀ (d17 k17 : Nat) (f17_199 : Nat → Int32) (G17 : Nat → va_E) (H : Heap) (locs : List Loc) (ls : Array Slot), k17 + d17 = 118 → G17 197 = .inr (12, [.int 0, .ref (ad 198), .ref (ad 199), .ref (ad 200), .ref (ad 201), .int 0, .ref (ad 202), .int 0, .int 0, .int 0, .int 0, .int 0, .int 0, .int (-1), .ref (ad 203), .ref (ad 204), .ref (ad 205), .int 0, .int 0, .ref (ad 206), .ref (ad 207), .ref (ad 208), .int 0, .int 0, .int 0, .int 0, .int 0, .ref (ad 209), .ref (ad 210), .ref (ad 211), .long 0, .long 0, .ref (ad 212), .ref (ad 213), .int 0, .int 0, .ref (ad 214), .ref (ad 215), .ref (ad 216), .ref (ad 217)]) → G17 198 = .inl (cs 1, 118, .inl (fun _ => 0)) → G17 199 = .inl (cs 1, 354, .inl f17_199) → G17 200 = .inl (cs 3, 3, .inl (fun _ => 0)) → va_P D vwCl (wL ad G17 nW) H → va_S (wA ad nW) s.heap H locs → lv_has ls 3 [(2, .int (nI k17)), (0, .ref (ad 197)), (1, .int 1)] → W p l e ({ frames := 1, cells := 0, slots := 0, locals := 25 } : Room) s m ([.ref (ad 197), .int 1] : List Value).toArray below meth c H locs 0 0 (MQ below (qI D ad nW (fun r g2 => r = aImg 1)) ([.ref (ad 197), .int 1] : List Value).toArray s 0 0 (wA ad nW)) (F0 m 17 ls []) := by
        intro d17
        induction d17 with
        | zero =>
          intro k17 f17_199 G17 H locs ls hk17 h17_197 h17_198 h17_199 h17_200 hP hS hl
          obtain rfl : k17 = 118 := by omega
          refine lv_iload_n hx hb dX12_image_17 rfl (lv_at hl 0 rfl) ?_
          refine lv_bipush (v := 118) hx hb dX12_image_18 (by decide) ?_
          refine lv_icmp_ge (tgt := 46) hx hb dX12_image_20 (by decide) (fun _ => ?_) (fun h => absurd h (by decide))
          refine lv_aload_n hx hb dX12_image_46 rfl (lv_at hl 1 rfl) ?_
          refine q_get X iX12_image_12 hP (by decide) h17_197 rfl 3 (by decide) (List.mem_of_getElem? (i := 6) rfl) (v := .ref (ad 200)) rfl dX12_image_47 ?_
          refine lv_iload_n hx hb dX12_image_50 rfl (lv_at hl 2 rfl) ?_
          refine lv_iconst (v := 1) hx hb dX12_image_51 (by decide) ?_
          refine q_zast X hP hj hA hS (by decide) h17_200 (by unfold vp_in; decide) dX12_image_52 (fun H locs hP hS => ?_)
          generalize eg_18 : va_up G17 200 _ = g_18 at hP
          have h_20 : g_18 197 = .inr (12, [.int 0, .ref (ad 198), .ref (ad 199), .ref (ad 200), .ref (ad 201), .int 0, .ref (ad 202), .int 0, .int 0, .int 0, .int 0, .int 0, .int 0, .int (-1), .ref (ad 203), .ref (ad 204), .ref (ad 205), .int 0, .int 0, .ref (ad 206), .ref (ad 207), .ref (ad 208), .int 0, .int 0, .int 0, .int 0, .int 0, .ref (ad 209), .ref (ad 210), .ref (ad 211), .long 0, .long 0, .ref (ad 212), .ref (ad 213), .int 0, .int 0, .ref (ad 214), .ref (ad 215), .ref (ad 216), .ref (ad 217)]) := by rw [← eg_18, va_up_ne _ _ (by decide)]; exact h17_197
          have h_21 : g_18 198 = .inl (cs 1, 118, .inl (fun _ => 0)) := by rw [← eg_18, va_up_ne _ _ (by decide)]; exact h17_198
          have h_22 : g_18 199 = .inl (cs 1, 354, .inl f17_199) := by rw [← eg_18, va_up_ne _ _ (by decide)]; exact h17_199
          obtain ⟨f_19, h_23⟩ : ∃ f, g_18 200 = .inl (cs 3, 3, .inl f) := ⟨_, by rw [← eg_18]; exact va_up_self _ _ _⟩
          refine lv_iconst (v := 0) hx hb dX12_image_53 (by decide) ?_
          exact q_iret X hP hS (by unfold aImg; rfl) dX12_image_54
        | succ d17 ih17 =>
          intro k17 f17_199 G17 H locs ls hk17 h17_197 h17_198 h17_199 h17_200 hP hS hl
          refine lv_iload_n hx hb dX12_image_17 rfl (lv_at hl 0 rfl) ?_
          refine lv_bipush (v := 118) hx hb dX12_image_18 (by decide) ?_
          refine lv_icmp_ge (tgt := 46) hx hb dX12_image_20 (by decide) (fun hc_20 => absurd hc_20 (nI_ge (a := k17) (b := 118) (by omega) (by decide))) (fun hc_20 => ?_)
          refine lv_aload_n hx hb dX12_image_23 rfl (lv_at hl 1 rfl) ?_
          refine q_get X iX12_image_12 hP (by decide) h17_197 rfl 2 (by decide) (List.mem_of_getElem? (i := 7) rfl) (v := .ref (ad 199)) rfl dX12_image_24 ?_
          refine lv_bipush (v := 118) hx hb dX12_image_27 (by decide) ?_
          refine lv_iload_n hx hb dX12_image_29 rfl (lv_at hl 2 rfl) ?_
          refine lv_imul hx hb dX12_image_30 ?_
          refine lv_topi (fun z_24 ez_24 => ?_)
          obtain rfl : z_24 = 118 := ez_24.trans (by decide)
          refine lv_iload_n hx hb dX12_image_31 rfl (lv_at hl 0 rfl) ?_
          refine lv_iadd hx hb dX12_image_32 ?_
          refine lv_topi (fun z_25 ez_25 => ?_)
          obtain rfl : z_25 = nI (118 + k17) := ez_25.trans (nI_add 118 k17)
          refine lv_aload_n hx hb dX12_image_33 rfl (lv_at hl 1 rfl) ?_
          refine q_get X iX12_image_12 hP (by decide) h17_197 rfl 1 (by decide) (List.mem_of_getElem? (i := 8) rfl) (v := .ref (ad 198)) rfl dX12_image_34 ?_
          refine lv_iload_n hx hb dX12_image_37 rfl (lv_at hl 0 rfl) ?_
          refine q_iald X hP (by decide) h17_198 (vp_in_nI (by omega) (by decide)) dX12_image_38 ?_
          refine q_iast X hP hj hA hS (by decide) h17_199 (vp_in_nI (by omega) (by decide)) dX12_image_39 (fun H locs hP hS => ?_)
          generalize eg_26 : va_up G17 199 _ = g_26 at hP
          have h_28 : g_26 197 = .inr (12, [.int 0, .ref (ad 198), .ref (ad 199), .ref (ad 200), .ref (ad 201), .int 0, .ref (ad 202), .int 0, .int 0, .int 0, .int 0, .int 0, .int 0, .int (-1), .ref (ad 203), .ref (ad 204), .ref (ad 205), .int 0, .int 0, .ref (ad 206), .ref (ad 207), .ref (ad 208), .int 0, .int 0, .int 0, .int 0, .int 0, .ref (ad 209), .ref (ad 210), .ref (ad 211), .long 0, .long 0, .ref (ad 212), .ref (ad 213), .int 0, .int 0, .ref (ad 214), .ref (ad 215), .ref (ad 216), .ref (ad 217)]) := by rw [← eg_26, va_up_ne _ _ (by decide)]; exact h17_197
          have h_29 : g_26 198 = .inl (cs 1, 118, .inl (fun _ => 0)) := by rw [← eg_26, va_up_ne _ _ (by decide)]; exact h17_198
          obtain ⟨f_27, h_30⟩ : ∃ f, g_26 199 = .inl (cs 1, 354, .inl f) := ⟨_, by rw [← eg_26]; exact va_up_self _ _ _⟩
          have h_31 : g_26 200 = .inl (cs 3, 3, .inl (fun _ => 0)) := by rw [← eg_26, va_up_ne _ _ (by decide)]; exact h17_200
          refine lv_iinc (v := (nI (k17 + 1))) (lv' := [(2, .int (nI (k17 + 1))), (0, .ref (ad 197)), (1, .int 1)]) hx hb dX12_image_40 hl (k := 0) rfl (nI_add k17 1) (by decide) rfl (fun ls hl => ?_)
          refine lv_goto (tgt := 17) hx hb dX12_image_43 (by decide) ?_
          exact ih17 (k17 + 1) _ g_26 _ _ ls (by omega) h_28 h_29 h_30 h_31 hP hS (lv_sub hl [0, 1, 2] rfl)
      exact HL17 118 0 _ g _ _ ls (by omega) h197 h198 h199 h200 hP hS (lv_sub hl [0, 1, 2] rfl)
    · refine lv_iconst (v := 0) hx hb dX12_image_15 (by decide) ?_
      refine lv_istore_n (lv' := [(2, .int 0), (0, .ref (ad 197)), (1, .int 2)]) hx hb dX12_image_16 rfl hl (by decide) rfl (fun ls hl => ?_)
      have HL17 : ∀ (d17 k17 : Nat) (f17_199 : Nat → Int32) (G17 : Nat → va_E) (H : Heap) (locs : List Loc) (ls : Array Slot), k17 + d17 = 118 → G17 197 = .inr (12, [.int 0, .ref (ad 198), .ref (ad 199), .ref (ad 200), .ref (ad 201), .int 0, .ref (ad 202), .int 0, .int 0, .int 0, .int 0, .int 0, .int 0, .int (-1), .ref (ad 203), .ref (ad 204), .ref (ad 205), .int 0, .int 0, .ref (ad 206), .ref (ad 207), .ref (ad 208), .int 0, .int 0, .int 0, .int 0, .int 0, .ref (ad 209), .ref (ad 210), .ref (ad 211), .long 0, .long 0, .ref (ad 212), .ref (ad 213), .int 0, .int 0, .ref (ad 214), .ref (ad 215), .ref (ad 216), .ref (ad 217)]) → G17 198 = .inl (cs 1, 118, .inl (fun _ => 0)) → G17 199 = .inl (cs 1, 354, .inl f17_199) → G17 200 = .inl (cs 3, 3, .inl (fun _ => 0)) → va_P D vwCl (wL ad G17 nW) H → va_S (wA ad nW) s.heap H locs → lv_has ls 3 [(2, .int (nI k17)), (0, .ref (ad 197)), (1, .int 2)] → W p l e ({ frames := 1, cells := 0, slots := 0, locals := 25 } : Room) s m ([.ref (ad 197), .int 2] : List Value).toArray below meth c H locs 0 0 (MQ below (qI D ad nW (fun r g2 => r = aImg 2)) ([.ref (ad 197), .int 2] : List Value).toArray s 0 0 (wA ad nW)) (F0 m 17 ls []) := by
        intro d17
        induction d17 with
        | zero =>
          intro k17 f17_199 G17 H locs ls hk17 h17_197 h17_198 h17_199 h17_200 hP hS hl
          obtain rfl : k17 = 118 := by omega
          refine lv_iload_n hx hb dX12_image_17 rfl (lv_at hl 0 rfl) ?_
          refine lv_bipush (v := 118) hx hb dX12_image_18 (by decide) ?_
          refine lv_icmp_ge (tgt := 46) hx hb dX12_image_20 (by decide) (fun _ => ?_) (fun h => absurd h (by decide))
          refine lv_aload_n hx hb dX12_image_46 rfl (lv_at hl 1 rfl) ?_
          refine q_get X iX12_image_12 hP (by decide) h17_197 rfl 3 (by decide) (List.mem_of_getElem? (i := 6) rfl) (v := .ref (ad 200)) rfl dX12_image_47 ?_
          refine lv_iload_n hx hb dX12_image_50 rfl (lv_at hl 2 rfl) ?_
          refine lv_iconst (v := 1) hx hb dX12_image_51 (by decide) ?_
          refine q_zast X hP hj hA hS (by decide) h17_200 (by unfold vp_in; decide) dX12_image_52 (fun H locs hP hS => ?_)
          generalize eg_32 : va_up G17 200 _ = g_32 at hP
          have h_34 : g_32 197 = .inr (12, [.int 0, .ref (ad 198), .ref (ad 199), .ref (ad 200), .ref (ad 201), .int 0, .ref (ad 202), .int 0, .int 0, .int 0, .int 0, .int 0, .int 0, .int (-1), .ref (ad 203), .ref (ad 204), .ref (ad 205), .int 0, .int 0, .ref (ad 206), .ref (ad 207), .ref (ad 208), .int 0, .int 0, .int 0, .int 0, .int 0, .ref (ad 209), .ref (ad 210), .ref (ad 211), .long 0, .long 0, .ref (ad 212), .ref (ad 213), .int 0, .int 0, .ref (ad 214), .ref (ad 215), .ref (ad 216), .ref (ad 217)]) := by rw [← eg_32, va_up_ne _ _ (by decide)]; exact h17_197
          have h_35 : g_32 198 = .inl (cs 1, 118, .inl (fun _ => 0)) := by rw [← eg_32, va_up_ne _ _ (by decide)]; exact h17_198
          have h_36 : g_32 199 = .inl (cs 1, 354, .inl f17_199) := by rw [← eg_32, va_up_ne _ _ (by decide)]; exact h17_199
          obtain ⟨f_33, h_37⟩ : ∃ f, g_32 200 = .inl (cs 3, 3, .inl f) := ⟨_, by rw [← eg_32]; exact va_up_self _ _ _⟩
          refine lv_iconst (v := 0) hx hb dX12_image_53 (by decide) ?_
          exact q_iret X hP hS (by unfold aImg; rfl) dX12_image_54
        | succ d17 ih17 =>
          intro k17 f17_199 G17 H locs ls hk17 h17_197 h17_198 h17_199 h17_200 hP hS hl
          refine lv_iload_n hx hb dX12_image_17 rfl (lv_at hl 0 rfl) ?_
          refine lv_bipush (v := 118) hx hb dX12_image_18 (by decide) ?_
          refine lv_icmp_ge (tgt := 46) hx hb dX12_image_20 (by decide) (fun hc_20 => absurd hc_20 (nI_ge (a := k17) (b := 118) (by omega) (by decide))) (fun hc_20 => ?_)
          refine lv_aload_n hx hb dX12_image_23 rfl (lv_at hl 1 rfl) ?_
          refine q_get X iX12_image_12 hP (by decide) h17_197 rfl 2 (by decide) (List.mem_of_getElem? (i := 7) rfl) (v := .ref (ad 199)) rfl dX12_image_24 ?_
          refine lv_bipush (v := 118) hx hb dX12_image_27 (by decide) ?_
          refine lv_iload_n hx hb dX12_image_29 rfl (lv_at hl 2 rfl) ?_
          refine lv_imul hx hb dX12_image_30 ?_
          refine lv_topi (fun z_38 ez_38 => ?_)
          obtain rfl : z_38 = 236 := ez_38.trans (by decide)
          refine lv_iload_n hx hb dX12_image_31 rfl (lv_at hl 0 rfl) ?_
          refine lv_iadd hx hb dX12_image_32 ?_
          refine lv_topi (fun z_39 ez_39 => ?_)
          obtain rfl : z_39 = nI (236 + k17) := ez_39.trans (nI_add 236 k17)
          refine lv_aload_n hx hb dX12_image_33 rfl (lv_at hl 1 rfl) ?_
          refine q_get X iX12_image_12 hP (by decide) h17_197 rfl 1 (by decide) (List.mem_of_getElem? (i := 8) rfl) (v := .ref (ad 198)) rfl dX12_image_34 ?_
          refine lv_iload_n hx hb dX12_image_37 rfl (lv_at hl 0 rfl) ?_
          refine q_iald X hP (by decide) h17_198 (vp_in_nI (by omega) (by decide)) dX12_image_38 ?_
          refine q_iast X hP hj hA hS (by decide) h17_199 (vp_in_nI (by omega) (by decide)) dX12_image_39 (fun H locs hP hS => ?_)
          generalize eg_40 : va_up G17 199 _ = g_40 at hP
          have h_42 : g_40 197 = .inr (12, [.int 0, .ref (ad 198), .ref (ad 199), .ref (ad 200), .ref (ad 201), .int 0, .ref (ad 202), .int 0, .int 0, .int 0, .int 0, .int 0, .int 0, .int (-1), .ref (ad 203), .ref (ad 204), .ref (ad 205), .int 0, .int 0, .ref (ad 206), .ref (ad 207), .ref (ad 208), .int 0, .int 0, .int 0, .int 0, .int 0, .ref (ad 209), .ref (ad 210), .ref (ad 211), .long 0, .long 0, .ref (ad 212), .ref (ad 213), .int 0, .int 0, .ref (ad 214), .ref (ad 215), .ref (ad 216), .ref (ad 217)]) := by rw [← eg_40, va_up_ne _ _ (by decide)]; exact h17_197
          have h_43 : g_40 198 = .inl (cs 1, 118, .inl (fun _ => 0)) := by rw [← eg_40, va_up_ne _ _ (by decide)]; exact h17_198
          obtain ⟨f_41, h_44⟩ : ∃ f, g_40 199 = .inl (cs 1, 354, .inl f) := ⟨_, by rw [← eg_40]; exact va_up_self _ _ _⟩
          have h_45 : g_40 200 = .inl (cs 3, 3, .inl (fun _ => 0)) := by rw [← eg_40, va_up_ne _ _ (by decide)]; exact h17_200
          refine lv_iinc (v := (nI (k17 + 1))) (lv' := [(2, .int (nI (k17 + 1))), (0, .ref (ad 197)), (1, .int 2)]) hx hb dX12_image_40 hl (k := 0) rfl (nI_add k17 1) (by decide) rfl (fun ls hl => ?_)
          refine lv_goto (tgt := 17) hx hb dX12_image_43 (by decide) ?_
          exact ih17 (k17 + 1) _ g_40 _ _ ls (by omega) h_42 h_43 h_44 h_45 hP hS (lv_sub hl [0, 1, 2] rfl)
      exact HL17 118 0 _ g _ _ ls (by omega) h197 h198 h199 h200 hP hS (lv_sub hl [0, 1, 2] rfl)
  · refine lv_bipush (v := (-2)) hx hb dX12_image_12 (by decide) ?_
    exact q_iret X hP hS (in_3i hw_1 hc_9) dX12_image_14
