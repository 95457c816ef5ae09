theorem dJ6_bitCount_0f7a4_0 : decode cJ6_bitCount_0f7a4 0 = .ok (.iload_n 0, 1) := by decide +kernel
theorem dJ6_bitCount_0f7a4_1 : decode cJ6_bitCount_0f7a4 1 = .ok (.iload_n 0, 1) := by decide +kernel
theorem dJ6_bitCount_0f7a4_2 : decode cJ6_bitCount_0f7a4 2 = .ok (.iconst 1, 1) := by decide +kernel
theorem dJ6_bitCount_0f7a4_3 : decode cJ6_bitCount_0f7a4 3 = .ok (.iushr, 1) := by decide +kernel
theorem dJ6_bitCount_0f7a4_4 : decode cJ6_bitCount_0f7a4 4 = .ok (.ldc_w 265, 3) := by decide +kernel
theorem dJ6_bitCount_0f7a4_7 : decode cJ6_bitCount_0f7a4 7 = .ok (.iand, 1) := by decide +kernel
theorem dJ6_bitCount_0f7a4_8 : decode cJ6_bitCount_0f7a4 8 = .ok (.isub, 1) := by decide +kernel
theorem dJ6_bitCount_0f7a4_9 : decode cJ6_bitCount_0f7a4 9 = .ok (.istore_n 0, 1) := by decide +kernel
theorem dJ6_bitCount_0f7a4_10 : decode cJ6_bitCount_0f7a4 10 = .ok (.iload_n 0, 1) := by decide +kernel
theorem dJ6_bitCount_0f7a4_11 : decode cJ6_bitCount_0f7a4 11 = .ok (.ldc_w 266, 3) := by decide +kernel
theorem dJ6_bitCount_0f7a4_14 : decode cJ6_bitCount_0f7a4 14 = .ok (.iand, 1) := by decide +kernel
theorem dJ6_bitCount_0f7a4_15 : decode cJ6_bitCount_0f7a4 15 = .ok (.iload_n 0, 1) := by decide +kernel
theorem dJ6_bitCount_0f7a4_16 : decode cJ6_bitCount_0f7a4 16 = .ok (.iconst 2, 1) := by decide +kernel
theorem dJ6_bitCount_0f7a4_17 : decode cJ6_bitCount_0f7a4 17 = .ok (.iushr, 1) := by decide +kernel
theorem dJ6_bitCount_0f7a4_18 : decode cJ6_bitCount_0f7a4 18 = .ok (.ldc_w 266, 3) := by decide +kernel
theorem dJ6_bitCount_0f7a4_21 : decode cJ6_bitCount_0f7a4 21 = .ok (.iand, 1) := by decide +kernel
theorem dJ6_bitCount_0f7a4_22 : decode cJ6_bitCount_0f7a4 22 = .ok (.iadd, 1) := by decide +kernel
theorem dJ6_bitCount_0f7a4_23 : decode cJ6_bitCount_0f7a4 23 = .ok (.istore_n 0, 1) := by decide +kernel
theorem dJ6_bitCount_0f7a4_24 : decode cJ6_bitCount_0f7a4 24 = .ok (.iload_n 0, 1) := by decide +kernel
theorem dJ6_bitCount_0f7a4_25 : decode cJ6_bitCount_0f7a4 25 = .ok (.iload_n 0, 1) := by decide +kernel
theorem dJ6_bitCount_0f7a4_26 : decode cJ6_bitCount_0f7a4 26 = .ok (.iconst 4, 1) := by decide +kernel
theorem dJ6_bitCount_0f7a4_27 : decode cJ6_bitCount_0f7a4 27 = .ok (.iushr, 1) := by decide +kernel
theorem dJ6_bitCount_0f7a4_28 : decode cJ6_bitCount_0f7a4 28 = .ok (.iadd, 1) := by decide +kernel
theorem dJ6_bitCount_0f7a4_29 : decode cJ6_bitCount_0f7a4 29 = .ok (.ldc_w 267, 3) := by decide +kernel
theorem dJ6_bitCount_0f7a4_32 : decode cJ6_bitCount_0f7a4 32 = .ok (.iand, 1) := by decide +kernel
theorem dJ6_bitCount_0f7a4_33 : decode cJ6_bitCount_0f7a4 33 = .ok (.istore_n 0, 1) := by decide +kernel
theorem dJ6_bitCount_0f7a4_34 : decode cJ6_bitCount_0f7a4 34 = .ok (.iload_n 0, 1) := by decide +kernel
theorem dJ6_bitCount_0f7a4_35 : decode cJ6_bitCount_0f7a4 35 = .ok (.iload_n 0, 1) := by decide +kernel
theorem dJ6_bitCount_0f7a4_36 : decode cJ6_bitCount_0f7a4 36 = .ok (.bipush 8, 2) := by decide +kernel
theorem dJ6_bitCount_0f7a4_38 : decode cJ6_bitCount_0f7a4 38 = .ok (.iushr, 1) := by decide +kernel
theorem dJ6_bitCount_0f7a4_39 : decode cJ6_bitCount_0f7a4 39 = .ok (.iadd, 1) := by decide +kernel
theorem dJ6_bitCount_0f7a4_40 : decode cJ6_bitCount_0f7a4 40 = .ok (.istore_n 0, 1) := by decide +kernel
theorem dJ6_bitCount_0f7a4_41 : decode cJ6_bitCount_0f7a4 41 = .ok (.iload_n 0, 1) := by decide +kernel
theorem dJ6_bitCount_0f7a4_42 : decode cJ6_bitCount_0f7a4 42 = .ok (.iload_n 0, 1) := by decide +kernel
theorem dJ6_bitCount_0f7a4_43 : decode cJ6_bitCount_0f7a4 43 = .ok (.bipush 16, 2) := by decide +kernel
theorem dJ6_bitCount_0f7a4_45 : decode cJ6_bitCount_0f7a4 45 = .ok (.iushr, 1) := by decide +kernel
theorem dJ6_bitCount_0f7a4_46 : decode cJ6_bitCount_0f7a4 46 = .ok (.iadd, 1) := by decide +kernel
theorem dJ6_bitCount_0f7a4_47 : decode cJ6_bitCount_0f7a4 47 = .ok (.istore_n 0, 1) := by decide +kernel
theorem dJ6_bitCount_0f7a4_48 : decode cJ6_bitCount_0f7a4 48 = .ok (.iload_n 0, 1) := by decide +kernel
theorem dJ6_bitCount_0f7a4_49 : decode cJ6_bitCount_0f7a4 49 = .ok (.bipush 63, 2) := by decide +kernel
theorem dJ6_bitCount_0f7a4_51 : decode cJ6_bitCount_0f7a4 51 = .ok (.iand, 1) := by decide +kernel
theorem dJ6_bitCount_0f7a4_52 : decode cJ6_bitCount_0f7a4 52 = .ok (.ireturn, 1) := by decide +kernel
noncomputable def vJ6_bitCount_0f7a4 : List Cond := .code yJ6_bitCount_0f7a4 cJ6_bitCount_0f7a4 1 (some .int) :: ([.constant RJ6 265 (1431655765), .constant RJ6 266 (858993459), .constant RJ6 267 (252645135)] : List Cond)
theorem gs_J6_bitCount_0f7a4 : Gd vJ6_bitCount_0f7a4 := Gd.cons (by decide +kernel) (Gd.r (by decide +kernel))
set_option maxHeartbeats 4000000 in
set_option maxRecDepth 100000 in
theorem s_J6_bitCount_0f7a4 (l : Launch) (D : va_G) (cs : Nat → ClassId) (ad : Nat → Nat) (kS : kSt) (K : sK) (hKO : KO K) (hj : wJ ad 218) (g : Nat → va_E) (hW : WF (shp ad K) ad cs g) (x : Int32) : sI l yJ6_bitCount_0f7a4 vJ6_bitCount_0f7a4 { frames := 0, cells := 0, slots := 0, locals := 0 } D cs ad kS [.int x] g (fun r g2 => g2 = g ∧ (0 ≤ r.toInt ∧ r.toInt ≤ 63)) := by
  refine Met.startS (cc := cJ6_bitCount_0f7a4) (maxL := 1) (ret := (some .int)) RJ6 rfl (by decide) rfl (Nat.le_of_ble_eq_true rfl) ?_
  intro p e s m below meth c ls X Z hP hl
  have hx := X.1
  have hb := X.2.1
  have hS : va_S (wA ad 218) s.heap s.heap [] := va_S.rf
  have hA : ∀ i, i < 218 → wA ad 218 (ad i) := fun i h => ⟨i, h, rfl⟩
  have hl : lv_has ls 1 [(0, .int x)] := hl
  refine lv_iload_n hx hb dJ6_bitCount_0f7a4_0 rfl (lv_at hl 0 rfl) ?_
  refine lv_iload_n hx hb dJ6_bitCount_0f7a4_1 rfl (lv_at hl 0 rfl) ?_
  refine lv_iconst (v := 1) hx hb dJ6_bitCount_0f7a4_2 (by decide) ?_
  refine lv_iushr hx hb dJ6_bitCount_0f7a4_3 rfl ?_
  refine lv_topi (fun z_1 ez_1 => ?_)
  refine lv_ldcw (v := 1431655765) hx hb X.2.2.2.2.2.1 (X.2.2.2.2.1 _ (List.mem_of_getElem? (i := 1) rfl)) dJ6_bitCount_0f7a4_4 ?_
  refine lv_iand hx hb dJ6_bitCount_0f7a4_7 ?_
  refine lv_topi (fun z_2 ez_2 => ?_)
  refine lv_isub hx hb dJ6_bitCount_0f7a4_8 ?_
  refine lv_topi (fun z_3 ez_3 => ?_)
  refine lv_istore_n (lv' := [(0, .int z_3)]) hx hb dJ6_bitCount_0f7a4_9 rfl hl (by decide) rfl (fun ls hl => ?_)
  refine lv_iload_n hx hb dJ6_bitCount_0f7a4_10 rfl (lv_at hl 0 rfl) ?_
  refine lv_ldcw (v := 858993459) hx hb X.2.2.2.2.2.1 (X.2.2.2.2.1 _ (List.mem_of_getElem? (i := 2) rfl)) dJ6_bitCount_0f7a4_11 ?_
  refine lv_iand hx hb dJ6_bitCount_0f7a4_14 ?_
  refine lv_topi (fun z_4 ez_4 => ?_)
  refine lv_iload_n hx hb dJ6_bitCount_0f7a4_15 rfl (lv_at hl 0 rfl) ?_
  refine lv_iconst (v := 2) hx hb dJ6_bitCount_0f7a4_16 (by decide) ?_
  refine lv_iushr hx hb dJ6_bitCount_0f7a4_17 rfl ?_
  refine lv_topi (fun z_5 ez_5 => ?_)
  refine lv_ldcw (v := 858993459) hx hb X.2.2.2.2.2.1 (X.2.2.2.2.1 _ (List.mem_of_getElem? (i := 2) rfl)) dJ6_bitCount_0f7a4_18 ?_
  refine lv_iand hx hb dJ6_bitCount_0f7a4_21 ?_
  refine lv_topi (fun z_6 ez_6 => ?_)
  refine lv_iadd hx hb dJ6_bitCount_0f7a4_22 ?_
  refine lv_topi (fun z_7 ez_7 => ?_)
  refine lv_istore_n (lv' := [(0, .int z_7)]) hx hb dJ6_bitCount_0f7a4_23 rfl hl (by decide) rfl (fun ls hl => ?_)
  refine lv_iload_n hx hb dJ6_bitCount_0f7a4_24 rfl (lv_at hl 0 rfl) ?_
  refine lv_iload_n hx hb dJ6_bitCount_0f7a4_25 rfl (lv_at hl 0 rfl) ?_
  refine lv_iconst (v := 4) hx hb dJ6_bitCount_0f7a4_26 (by decide) ?_
  refine lv_iushr hx hb dJ6_bitCount_0f7a4_27 rfl ?_
  refine lv_topi (fun z_8 ez_8 => ?_)
  refine lv_iadd hx hb dJ6_bitCount_0f7a4_28 ?_
  refine lv_topi (fun z_9 ez_9 => ?_)
  refine lv_ldcw (v := 252645135) hx hb X.2.2.2.2.2.1 (X.2.2.2.2.1 _ (List.mem_of_getElem? (i := 3) rfl)) dJ6_bitCount_0f7a4_29 ?_
  refine lv_iand hx hb dJ6_bitCount_0f7a4_32 ?_
  refine lv_topi (fun z_10 ez_10 => ?_)
  refine lv_istore_n (lv' := [(0, .int z_10)]) hx hb dJ6_bitCount_0f7a4_33 rfl hl (by decide) rfl (fun ls hl => ?_)
  refine lv_iload_n hx hb dJ6_bitCount_0f7a4_34 rfl (lv_at hl 0 rfl) ?_
  refine lv_iload_n hx hb dJ6_bitCount_0f7a4_35 rfl (lv_at hl 0 rfl) ?_
  refine lv_bipush (v := 8) hx hb dJ6_bitCount_0f7a4_36 (by decide) ?_
  refine lv_iushr hx hb dJ6_bitCount_0f7a4_38 rfl ?_
  refine lv_topi (fun z_11 ez_11 => ?_)
  refine lv_iadd hx hb dJ6_bitCount_0f7a4_39 ?_
  refine lv_topi (fun z_12 ez_12 => ?_)
  refine lv_istore_n (lv' := [(0, .int z_12)]) hx hb dJ6_bitCount_0f7a4_40 rfl hl (by decide) rfl (fun ls hl => ?_)
  refine lv_iload_n hx hb dJ6_bitCount_0f7a4_41 rfl (lv_at hl 0 rfl) ?_
  refine lv_iload_n hx hb dJ6_bitCount_0f7a4_42 rfl (lv_at hl 0 rfl) ?_
  refine lv_bipush (v := 16) hx hb dJ6_bitCount_0f7a4_43 (by decide) ?_
  refine lv_iushr hx hb dJ6_bitCount_0f7a4_45 rfl ?_
  refine lv_topi (fun z_13 ez_13 => ?_)
  refine lv_iadd hx hb dJ6_bitCount_0f7a4_46 ?_
  refine lv_topi (fun z_14 ez_14 => ?_)
  refine lv_istore_n (lv' := [(0, .int z_14)]) hx hb dJ6_bitCount_0f7a4_47 rfl hl (by decide) rfl (fun ls hl => ?_)
  refine lv_iload_n hx hb dJ6_bitCount_0f7a4_48 rfl (lv_at hl 0 rfl) ?_
  refine lv_bipush (v := 63) hx hb dJ6_bitCount_0f7a4_49 (by decide) ?_
  refine lv_iand hx hb dJ6_bitCount_0f7a4_51 ?_
  refine lv_topi (fun z_15 ez_15 => ?_)
  have hz_15 : 0 ≤ z_15.toInt ∧ z_15.toInt ≤ 63 := n_and 6 (by decide) (by decide) (by decide) ez_15
  exact q_iret X hP hS ⟨rfl, (by omega)⟩ dJ6_bitCount_0f7a4_52

theorem dX10_fallenOn_0 : decode cX10_fallenOn 0 = .ok (.iconst 0, 1) := by decide +kernel
theorem dX10_fallenOn_1 : decode cX10_fallenOn 1 = .ok (.istore_n 3, 1) := by decide +kernel
theorem dX10_fallenOn_2 : decode cX10_fallenOn 2 = .ok (.iconst 0, 1) := by decide +kernel
theorem dX10_fallenOn_3 : decode cX10_fallenOn 3 = .ok (.istore 4, 2) := by decide +kernel
theorem dX10_fallenOn_5 : decode cX10_fallenOn 5 = .ok (.iload 4, 2) := by decide +kernel
theorem dX10_fallenOn_7 : decode cX10_fallenOn 7 = .ok (.aload_n 1, 1) := by decide +kernel
theorem dX10_fallenOn_8 : decode cX10_fallenOn 8 = .ok (.getfield 22, 3) := by decide +kernel
theorem dX10_fallenOn_11 : decode cX10_fallenOn 11 = .ok (.if_icmp .ge 27, 3) := by decide +kernel
theorem dX10_fallenOn_14 : decode cX10_fallenOn 14 = .ok (.aload_n 0, 1) := by decide +kernel
theorem dX10_fallenOn_15 : decode cX10_fallenOn 15 = .ok (.getfield 18, 3) := by decide +kernel
theorem dX10_fallenOn_18 : decode cX10_fallenOn 18 = .ok (.iload 4, 2) := by decide +kernel
theorem dX10_fallenOn_20 : decode cX10_fallenOn 20 = .ok (.iaload, 1) := by decide +kernel
theorem dX10_fallenOn_21 : decode cX10_fallenOn 21 = .ok (.iload_n 2, 1) := by decide +kernel
theorem dX10_fallenOn_22 : decode cX10_fallenOn 22 = .ok (.if_icmp .ne 10, 3) := by decide +kernel
theorem dX10_fallenOn_25 : decode cX10_fallenOn 25 = .ok (.iload_n 3, 1) := by decide +kernel
theorem dX10_fallenOn_26 : decode cX10_fallenOn 26 = .ok (.iconst 1, 1) := by decide +kernel
theorem dX10_fallenOn_27 : decode cX10_fallenOn 27 = .ok (.iload 4, 2) := by decide +kernel
theorem dX10_fallenOn_29 : decode cX10_fallenOn 29 = .ok (.ishl, 1) := by decide +kernel
theorem dX10_fallenOn_30 : decode cX10_fallenOn 30 = .ok (.ior, 1) := by decide +kernel
theorem dX10_fallenOn_31 : decode cX10_fallenOn 31 = .ok (.istore_n 3, 1) := by decide +kernel
theorem dX10_fallenOn_32 : decode cX10_fallenOn 32 = .ok (.iinc 4 1, 3) := by decide +kernel
theorem dX10_fallenOn_35 : decode cX10_fallenOn 35 = .ok (.goto (-30), 3) := by decide +kernel
theorem dX10_fallenOn_38 : decode cX10_fallenOn 38 = .ok (.iload_n 3, 1) := by decide +kernel
theorem dX10_fallenOn_39 : decode cX10_fallenOn 39 = .ok (.ireturn, 1) := by decide +kernel
noncomputable def vX10_fallenOn : List Cond := .code yX10_fallenOn cX10_fallenOn 5 (some .int) :: (([.fieldLink RX10 22 "IcicleClock$Street" "icicles" "I", .fieldLink RX10 18 "IcicleClock$Winter" "fall" "[I"] : List Cond) ++ (wsX60 ++ wsX100))
theorem iX10_fallenOn_6 : ∀ w ∈ wsX60, w ∈ vX10_fallenOn := fun _ h => List.mem_cons_of_mem _ (List.mem_append_right _ (List.mem_append_left _ h))
theorem iX10_fallenOn_10 : ∀ w ∈ wsX100, w ∈ vX10_fallenOn := fun _ h => List.mem_cons_of_mem _ (List.mem_append_right _ (List.mem_append_right _ (h)))
theorem gs_X10_fallenOn : Gd vX10_fallenOn := Gd.cons (by decide +kernel) (Gd.app (Gd.r (by decide +kernel)) (Gd.app gwX_6 gwX_10))
set_option maxHeartbeats 4000000 in
set_option maxRecDepth 100000 in
theorem s_X10_fallenOn (l : Launch) (D : va_G) (cs : Nat → ClassId) (ad : Nat → Nat) (kS : kSt) (K : sK) (hKO : KO K) (hj : wJ ad 218) (g : Nat → va_E) (hW : WF (shp ad K) ad cs g) (w : Nat) (dy : Int32) (hp0 : w = 114 ∨ w = 116) : sI l yX10_fallenOn vX10_fallenOn { frames := 0, cells := 0, slots := 0, locals := 0 } D cs ad kS [.ref (ad w), .ref (ad 3), .int dy] g (fun r g2 => g2 = g) := by
  refine Met.startS (cc := cX10_fallenOn) (maxL := 5) (ret := (some .int)) RX10 rfl (by decide) rfl (Nat.le_of_ble_eq_true rfl) ?_
  intro p e s m below meth c ls X Z hP hl
  have hx := X.1
  have hb := X.2.1
  have hS : va_S (wA ad 218) s.heap s.heap [] := va_S.rf
  have hA : ∀ i, i < 218 → wA ad 218 (ad i) := fun i h => ⟨i, h, rfl⟩
  have hw_w := hp0
  have hl : lv_has ls 5 [(0, .ref (ad w)), (1, .ref (ad 3)), (2, .int dy)] := hl
  refine lv_iconst (v := 0) hx hb dX10_fallenOn_0 (by decide) ?_
  refine lv_istore_n (lv' := [(3, .int 0), (0, .ref (ad w)), (1, .ref (ad 3)), (2, .int dy)]) hx hb dX10_fallenOn_1 rfl hl (by decide) rfl (fun ls hl => ?_)
  refine lv_iconst (v := 0) hx hb dX10_fallenOn_2 (by decide) ?_
  refine lv_istore (lv' := [(4, .int 0), (3, .int 0), (0, .ref (ad w)), (1, .ref (ad 3)), (2, .int dy)]) hx hb dX10_fallenOn_3 hl (by decide) rfl (fun ls hl => ?_)
  have HL5 : ∀ (n5 : Nat) (v5_4 : Int32) (v5_3 : Int32) (H : Heap) (locs : List Loc) (ls : Array Slot), (8 - v5_4.toInt).toNat < n5 → (0 ≤ v5_4.toInt ∧ v5_4.toInt ≤ 8) → va_P D vwCl (wL ad g 218) H → va_S (wA ad 218) s.heap H locs → lv_has ls 5 [(4, .int v5_4), (3, .int v5_3), (0, .ref (ad w)), (1, .ref (ad 3)), (2, .int dy)] → W p l e ({ frames := 0, cells := 0, slots := 0, locals := 0 } : Room) s m ([.ref (ad w), .ref (ad 3), .int dy] : List Value).toArray below meth c H locs 0 0 (MQ below (qI D ad 218 (fun r g2 => g2 = g)) ([.ref (ad w), .ref (ad 3), .int dy] : List Value).toArray s 0 0 (wA ad 218)) (F0 m 5 ls []) := by
    intro n5
    induction n5 with
    | zero =>
      intro v5_4 v5_3 H locs ls hm5 hv5_0 hP hS hl
      exact absurd hm5 (Nat.not_lt_zero _)
    | succ n5 ih5 =>
      intro v5_4 v5_3 H locs ls hm5 hv5_0 hP hS hl
      refine lv_iload hx hb dX10_fallenOn_5 (lv_at hl 0 rfl) ?_
      refine lv_aload_n hx hb dX10_fallenOn_7 rfl (lv_at hl 3 rfl) ?_
      obtain ⟨fsc_1, hgc_1, hOc_1⟩ := hW.obj (i := 3) (by decide) (sh_3 ad K)
      obtain ⟨x_3, hk_2, hlx_3, hhx_3⟩ := hOc_1.int 5 rfl
      refine q_get X iX10_fallenOn_6 hP (by decide) hgc_1 rfl 5 (by decide) (List.mem_of_getElem? (i := 1) rfl) (v := .int x_3) hk_2 dX10_fallenOn_8 ?_
      refine lv_icmp_ge (tgt := 38) hx hb dX10_fallenOn_11 (by decide) (fun hc_4 => ?_) (fun hc_4 => ?_)
      · have hhc_4 := n_le (rfl : x_3.toInt = x_3.toInt) (rfl : v5_4.toInt = v5_4.toInt) hc_4
        refine lv_iload_n hx hb dX10_fallenOn_38 rfl (lv_at hl 1 rfl) ?_
        exact q_iret X hP hS rfl dX10_fallenOn_39
      · have hhc_4 := n_nle (rfl : x_3.toInt = x_3.toInt) (rfl : v5_4.toInt = v5_4.toInt) hc_4
        refine lv_aload_n hx hb dX10_fallenOn_14 rfl (lv_at hl 2 rfl) ?_
        obtain ⟨fsc_5, hgc_5, hOc_5⟩ := hW.obj (i := w) (by omega) (shW_0 ad K hw_w)
        have hk_6 := hOc_5.ref 3 rfl
        refine q_get X iX10_fallenOn_10 hP (by omega) hgc_5 rfl 3 (by decide) (List.mem_of_getElem? (i := 2) rfl) (v := .ref (ad (w + 1))) hk_6 dX10_fallenOn_15 ?_
        refine lv_iload hx hb dX10_fallenOn_18 (lv_at hl 0 rfl) ?_
        obtain ⟨fc_7, hgc_7, hFc_7⟩ := hW.arr (i := (w + 1)) (by omega) (shW_1 ad K hw_w)
        refine q_iald X hP (by omega) hgc_7 (n_in (rfl : v5_4.toInt = v5_4.toInt) (by omega) (by omega)) dX10_fallenOn_20 ?_
        refine lv_topi (fun z_8 ez_8 => ?_)
        have hz_8 : (-1) ≤ z_8.toInt ∧ z_8.toInt ≤ 13 := ez_8 ▸ hFc_7 _
        refine lv_iload_n hx hb dX10_fallenOn_21 rfl (lv_at hl 4 rfl) ?_
        have HJ32 : ∀ (v32_3 : Int32) (H : Heap) (locs : List Loc) (ls : Array Slot), va_P D vwCl (wL ad g 218) H → va_S (wA ad 218) s.heap H locs → lv_has ls 5 [(4, .int v5_4), (3, .int v32_3), (0, .ref (ad w)), (1, .ref (ad 3)), (2, .int dy)] → W p l e ({ frames := 0, cells := 0, slots := 0, locals := 0 } : Room) s m ([.ref (ad w), .ref (ad 3), .int dy] : List Value).toArray below meth c H locs 0 0 (MQ below (qI D ad 218 (fun r g2 => g2 = g)) ([.ref (ad w), .ref (ad 3), .int dy] : List Value).toArray s 0 0 (wA ad 218)) (F0 m 32 ls []) := by
          intro v32_3 H locs ls hP hS hl
          obtain ⟨x_9, ex_9⟩ : ∃ y : Int32, y = v5_4 + 1 := ⟨_, rfl⟩
          have hx_9 : x_9.toInt = v5_4.toInt + 1 := n_add rfl (by decide : (1 : Int32).toInt = 1) ex_9 (by omega) (by omega)
          refine lv_iinc (v := x_9) (lv' := [(4, .int x_9), (3, .int v32_3), (0, .ref (ad w)), (1, .ref (ad 3)), (2, .int dy)]) hx hb dX10_fallenOn_32 hl (k := 0) rfl (by rw [ex_9]; rfl) (by decide) rfl (fun ls hl => ?_)
          refine lv_goto (tgt := 5) hx hb dX10_fallenOn_35 (by decide) ?_
          exact ih5 x_9 v32_3 _ _ ls (by omega) (by omega) hP hS (lv_sub hl [0, 1, 2, 3, 4] rfl)
        refine lv_icmp_ne (tgt := 32) hx hb dX10_fallenOn_22 (by decide) (fun hc_10 => ?_) (fun hc_10 => ?_)
        · have hhc_10 := n_ne (rfl : z_8.toInt = z_8.toInt) (rfl : dy.toInt = dy.toInt) hc_10
          exact HJ32 v5_3 _ _ ls hP hS (lv_sub hl [0, 1, 2, 3, 4] rfl)
        · have hhc_10 := n_eq (rfl : z_8.toInt = z_8.toInt) (rfl : dy.toInt = dy.toInt) hc_10
          refine lv_iload_n hx hb dX10_fallenOn_25 rfl (lv_at hl 1 rfl) ?_
          refine lv_iconst (v := 1) hx hb dX10_fallenOn_26 (by decide) ?_
          refine lv_iload hx hb dX10_fallenOn_27 (lv_at hl 0 rfl) ?_
          refine lv_ishl hx hb dX10_fallenOn_29 ?_
          refine lv_topi (fun z_11 ez_11 => ?_)
          refine lv_ior hx hb dX10_fallenOn_30 ?_
          refine lv_topi (fun z_12 ez_12 => ?_)
          refine lv_istore_n (lv' := [(3, .int z_12), (4, .int v5_4), (0, .ref (ad w)), (1, .ref (ad 3)), (2, .int dy)]) hx hb dX10_fallenOn_31 rfl hl (by decide) rfl (fun ls hl => ?_)
          exact HJ32 z_12 _ _ ls hP hS (lv_sub hl [1, 0, 2, 3, 4] rfl)
  have hiv5_4 : (0 : Int32).toInt = 0 := by decide
  have hiv5_3 : (0 : Int32).toInt = 0 := by decide
  exact HL5 _ 0 0 _ _ ls (Nat.lt_succ_self _) (by omega) hP hS (lv_sub hl [0, 1, 2, 3, 4] rfl)

theorem dX10_fallenBy_0 : decode cX10_fallenBy 0 = .ok (.iconst 0, 1) := by decide +kernel
theorem dX10_fallenBy_1 : decode cX10_fallenBy 1 = .ok (.istore_n 3, 1) := by decide +kernel
theorem dX10_fallenBy_2 : decode cX10_fallenBy 2 = .ok (.iconst 0, 1) := by decide +kernel
theorem dX10_fallenBy_3 : decode cX10_fallenBy 3 = .ok (.istore 4, 2) := by decide +kernel
theorem dX10_fallenBy_5 : decode cX10_fallenBy 5 = .ok (.iload 4, 2) := by decide +kernel
theorem dX10_fallenBy_7 : decode cX10_fallenBy 7 = .ok (.aload_n 1, 1) := by decide +kernel
theorem dX10_fallenBy_8 : decode cX10_fallenBy 8 = .ok (.getfield 22, 3) := by decide +kernel
theorem dX10_fallenBy_11 : decode cX10_fallenBy 11 = .ok (.if_icmp .ge 26, 3) := by decide +kernel
theorem dX10_fallenBy_14 : decode cX10_fallenBy 14 = .ok (.aload_n 0, 1) := by decide +kernel
theorem dX10_fallenBy_15 : decode cX10_fallenBy 15 = .ok (.iload 4, 2) := by decide +kernel
theorem dX10_fallenBy_17 : decode cX10_fallenBy 17 = .ok (.iload_n 2, 1) := by decide +kernel
theorem dX10_fallenBy_18 : decode cX10_fallenBy 18 = .ok (.invokevirtual 59, 3) := by decide +kernel
theorem dX10_fallenBy_21 : decode cX10_fallenBy 21 = .ok (.ifCond .eq 10, 3) := by decide +kernel
theorem dX10_fallenBy_24 : decode cX10_fallenBy 24 = .ok (.iload_n 3, 1) := by decide +kernel
theorem dX10_fallenBy_25 : decode cX10_fallenBy 25 = .ok (.iconst 1, 1) := by decide +kernel
theorem dX10_fallenBy_26 : decode cX10_fallenBy 26 = .ok (.iload 4, 2) := by decide +kernel
theorem dX10_fallenBy_28 : decode cX10_fallenBy 28 = .ok (.ishl, 1) := by decide +kernel
theorem dX10_fallenBy_29 : decode cX10_fallenBy 29 = .ok (.ior, 1) := by decide +kernel
theorem dX10_fallenBy_30 : decode cX10_fallenBy 30 = .ok (.istore_n 3, 1) := by decide +kernel
theorem dX10_fallenBy_31 : decode cX10_fallenBy 31 = .ok (.iinc 4 1, 3) := by decide +kernel
theorem dX10_fallenBy_34 : decode cX10_fallenBy 34 = .ok (.goto (-29), 3) := by decide +kernel
theorem dX10_fallenBy_37 : decode cX10_fallenBy 37 = .ok (.iload_n 3, 1) := by decide +kernel
theorem dX10_fallenBy_38 : decode cX10_fallenBy 38 = .ok (.ireturn, 1) := by decide +kernel
noncomputable def vX10_fallenBy : List Cond := .code yX10_fallenBy cX10_fallenBy 5 (some .int) :: (([.fieldLink RX10 22 "IcicleClock$Street" "icicles" "I", .methodLink RX10 59 yX10_fellBy, .instanceMethod yX10_fellBy, .selects RX10 yX10_fellBy yX10_fellBy, .initialized RX10] : List Cond) ++ (wsX60 ++ vX10_fellBy))
theorem iX10_fallenBy_6 : ∀ w ∈ wsX60, w ∈ vX10_fallenBy := fun _ h => List.mem_cons_of_mem _ (List.mem_append_right _ (List.mem_append_left _ h))
theorem gs_X10_fallenBy : Gd vX10_fallenBy := Gd.cons (by decide +kernel) (Gd.app (Gd.r (by decide +kernel)) (Gd.app gwX_6 gs_X10_fellBy))
theorem gg_X10_fallenBy_X10_fellBy : GoodIn vX10_fallenBy (wsV RX10 59 RX10 yX10_fellBy vX10_fellBy) := goodIn_app (goodIn_r _ [2, 3, 4, 5] (by decide +kernel) (by decide +kernel)) (fun w h => ⟨List.mem_cons_of_mem _ (List.mem_append_right _ (List.mem_append_right _ (h))), gs_X10_fellBy w h⟩)
set_option maxHeartbeats 4000000 in
set_option maxRecDepth 100000 in
theorem s_X10_fallenBy (l : Launch) (D : va_G) (cs : Nat → ClassId) (ad : Nat → Nat) (kS : kSt) (K : sK) (hKO : KO K) (hj : wJ ad 218) (g : Nat → va_E) (hW : WF (shp ad K) ad cs g) (w : Nat) (dy : Int32) (hp0 : w = 114 ∨ w = 116) : sI l yX10_fallenBy vX10_fallenBy { frames := 1, cells := 0, slots := 0, locals := 22 } D cs ad kS [.ref (ad w), .ref (ad 3), .int dy] g (fun r g2 => g2 = g) := by
  refine Met.startS (cc := cX10_fallenBy) (maxL := 5) (ret := (some .int)) RX10 rfl (by decide) rfl (Nat.le_of_ble_eq_true rfl) ?_
  intro p e s m below meth c ls X Z hP hl
  have hx := X.1
  have hb := X.2.1
  have hS : va_S (wA ad 218) s.heap s.heap [] := va_S.rf
  have hA : ∀ i, i < 218 → wA ad 218 (ad i) := fun i h => ⟨i, h, rfl⟩
  have hw_w := hp0
  have hl : lv_has ls 5 [(0, .ref (ad w)), (1, .ref (ad 3)), (2, .int dy)] := hl
  refine lv_iconst (v := 0) hx hb dX10_fallenBy_0 (by decide) ?_
  refine lv_istore_n (lv' := [(3, .int 0), (0, .ref (ad w)), (1, .ref (ad 3)), (2, .int dy)]) hx hb dX10_fallenBy_1 rfl hl (by decide) rfl (fun ls hl => ?_)
  refine lv_iconst (v := 0) hx hb dX10_fallenBy_2 (by decide) ?_
  refine lv_istore (lv' := [(4, .int 0), (3, .int 0), (0, .ref (ad w)), (1, .ref (ad 3)), (2, .int dy)]) hx hb dX10_fallenBy_3 hl (by decide) rfl (fun ls hl => ?_)
  have HL5 : ∀ (n5 : Nat) (v5_4 : Int32) (v5_3 : Int32) (H : Heap) (locs : List Loc) (ls : Array Slot), (8 - v5_4.toInt).toNat < n5 → (0 ≤ v5_4.toInt ∧ v5_4.toInt ≤ 8) → va_P D vwCl (wL ad g 218) H → va_S (wA ad 218) s.heap H locs → lv_has ls 5 [(4, .int v5_4), (3, .int v5_3), (0, .ref (ad w)), (1, .ref (ad 3)), (2, .int dy)] → W p l e ({ frames := 1, cells := 0, slots := 0, locals := 22 } : Room) s m ([.ref (ad w), .ref (ad 3), .int dy] : List Value).toArray below meth c H locs 0 0 (MQ below (qI D ad 218 (fun r g2 => g2 = g)) ([.ref (ad w), .ref (ad 3), .int dy] : List Value).toArray s 0 0 (wA ad 218)) (F0 m 5 ls []) := by
    intro n5
    induction n5 with
    | zero =>
      intro v5_4 v5_3 H locs ls hm5 hv5_0 hP hS hl
      exact absurd hm5 (Nat.not_lt_zero _)
    | succ n5 ih5 =>
      intro v5_4 v5_3 H locs ls hm5 hv5_0 hP hS hl
      refine lv_iload hx hb dX10_fallenBy_5 (lv_at hl 0 rfl) ?_
      refine lv_aload_n hx hb dX10_fallenBy_7 rfl (lv_at hl 3 rfl) ?_
      obtain ⟨fsc_1, hgc_1, hOc_1⟩ := hW.obj (i := 3) (by decide) (sh_3 ad K)
      obtain ⟨x_3, hk_2, hlx_3, hhx_3⟩ := hOc_1.int 5 rfl
      refine q_get X iX10_fallenBy_6 hP (by decide) hgc_1 rfl 5 (by decide) (List.mem_of_getElem? (i := 1) rfl) (v := .int x_3) hk_2 dX10_fallenBy_8 ?_
      refine lv_icmp_ge (tgt := 37) hx hb dX10_fallenBy_11 (by decide) (fun hc_4 => ?_) (fun hc_4 => ?_)
      · have hhc_4 := n_le (rfl : x_3.toInt = x_3.toInt) (rfl : v5_4.toInt = v5_4.toInt) hc_4
        refine lv_iload_n hx hb dX10_fallenBy_37 rfl (lv_at hl 1 rfl) ?_
        exact q_iret X hP hS rfl dX10_fallenBy_38
      · have hhc_4 := n_nle (rfl : x_3.toInt = x_3.toInt) (rfl : v5_4.toInt = v5_4.toInt) hc_4
        refine lv_aload_n hx hb dX10_fallenBy_14 rfl (lv_at hl 2 rfl) ?_
        refine lv_iload hx hb dX10_fallenBy_15 (lv_at hl 0 rfl) ?_
        refine lv_iload_n hx hb dX10_fallenBy_17 rfl (lv_at hl 4 rfl) ?_
        obtain ⟨fsc_8, hgc_8, hOc_8⟩ := hW.obj (i := w) (by omega) (shW_0 ad K hw_w)
        refine s_calli (q := (RX10, TX10, 4)) (As := [.int v5_4, .int dy]) (rest := []) X Z (s_X10_fellBy l D cs ad kS K hKO hj g hW w v5_4 dy (by omega) (by omega)) (cwV 2 X.2.2.2.2.1 gg_X10_fallenBy_X10_fellBy rfl rfl rfl (by decide +kernel) ⟨Nat.le_of_ble_eq_true rfl, Nat.le_of_ble_eq_true rfl⟩) (by omega) hgc_8 rfl hP hA hS.2.1 hS rfl hl.1 rfl (Nat.le_of_ble_eq_true rfl) dX10_fallenBy_18 ⟨Nat.le_of_ble_eq_true rfl, Nat.le_of_ble_eq_true rfl⟩ (fun r_7 g_6 H locs hw_5 hP hS => ?_)
        obtain ⟨hw_5g, hw_5⟩ := hw_5
        rw [hw_5g] at hP
        have HJ31 : ∀ (v31_3 : Int32) (H : Heap) (locs : List Loc) (ls : Array Slot), va_P D vwCl (wL ad g 218) H → va_S (wA ad 218) s.heap H locs → lv_has ls 5 [(4, .int v5_4), (3, .int v31_3), (0, .ref (ad w)), (1, .ref (ad 3)), (2, .int dy)] → W p l e ({ frames := 1, cells := 0, slots := 0, locals := 22 } : Room) s m ([.ref (ad w), .ref (ad 3), .int dy] : List Value).toArray below meth c H locs 0 0 (MQ below (qI D ad 218 (fun r g2 => g2 = g)) ([.ref (ad w), .ref (ad 3), .int dy] : List Value).toArray s 0 0 (wA ad 218)) (F0 m 31 ls []) := by
          intro v31_3 H locs ls hP hS hl
          obtain ⟨x_9, ex_9⟩ : ∃ y : Int32, y = v5_4 + 1 := ⟨_, rfl⟩
          have hx_9 : x_9.toInt = v5_4.toInt + 1 := n_add rfl (by decide : (1 : Int32).toInt = 1) ex_9 (by omega) (by omega)
          refine lv_iinc (v := x_9) (lv' := [(4, .int x_9), (3, .int v31_3), (0, .ref (ad w)), (1, .ref (ad 3)), (2, .int dy)]) hx hb dX10_fallenBy_31 hl (k := 0) rfl (by rw [ex_9]; rfl) (by decide) rfl (fun ls hl => ?_)
          refine lv_goto (tgt := 5) hx hb dX10_fallenBy_34 (by decide) ?_
          exact ih5 x_9 v31_3 _ _ ls (by omega) (by omega) hP hS (lv_sub hl [0, 1, 2, 3, 4] rfl)
        refine lv_if_eq (tgt := 31) hx hb dX10_fallenBy_21 (by decide) (fun hc_10 => ?_) (fun hc_10 => ?_)
        · have hhc_10 := n_eq (rfl : r_7.toInt = r_7.toInt) (by decide : (0 : Int32).toInt = 0) hc_10
          exact HJ31 v5_3 _ _ ls hP hS (lv_sub hl [0, 1, 2, 3, 4] rfl)
        · have hhc_10 := n_ne (rfl : r_7.toInt = r_7.toInt) (by decide : (0 : Int32).toInt = 0) hc_10
          refine lv_iload_n hx hb dX10_fallenBy_24 rfl (lv_at hl 1 rfl) ?_
          refine lv_iconst (v := 1) hx hb dX10_fallenBy_25 (by decide) ?_
          refine lv_iload hx hb dX10_fallenBy_26 (lv_at hl 0 rfl) ?_
          refine lv_ishl hx hb dX10_fallenBy_28 ?_
          refine lv_topi (fun z_11 ez_11 => ?_)
          refine lv_ior hx hb dX10_fallenBy_29 ?_
          refine lv_topi (fun z_12 ez_12 => ?_)
          refine lv_istore_n (lv' := [(3, .int z_12), (4, .int v5_4), (0, .ref (ad w)), (1, .ref (ad 3)), (2, .int dy)]) hx hb dX10_fallenBy_30 rfl hl (by decide) rfl (fun ls hl => ?_)
          exact HJ31 z_12 _ _ ls hP hS (lv_sub hl [1, 0, 2, 3, 4] rfl)
  have hiv5_4 : (0 : Int32).toInt = 0 := by decide
  have hiv5_3 : (0 : Int32).toInt = 0 := by decide
  exact HL5 _ 0 0 _ _ ls (Nat.lt_succ_self _) (by omega) hP hS (lv_sub hl [0, 1, 2, 3, 4] rfl)

theorem dX10_fallsUnder_0 : decode cX10_fallsUnder 0 = .ok (.iconst 0, 1) := by decide +kernel
theorem dX10_fallsUnder_1 : decode cX10_fallsUnder 1 = .ok (.istore 4, 2) := by decide +kernel
theorem dX10_fallsUnder_3 : decode cX10_fallsUnder 3 = .ok (.iconst 0, 1) := by decide +kernel
theorem dX10_fallsUnder_4 : decode cX10_fallsUnder 4 = .ok (.istore 5, 2) := by decide +kernel
theorem dX10_fallsUnder_6 : decode cX10_fallsUnder 6 = .ok (.iload 5, 2) := by decide +kernel
theorem dX10_fallsUnder_8 : decode cX10_fallsUnder 8 = .ok (.aload_n 1, 1) := by decide +kernel
theorem dX10_fallsUnder_9 : decode cX10_fallsUnder 9 = .ok (.getfield 22, 3) := by decide +kernel
theorem dX10_fallsUnder_12 : decode cX10_fallsUnder 12 = .ok (.if_icmp .ge 34, 3) := by decide +kernel
theorem dX10_fallsUnder_15 : decode cX10_fallsUnder 15 = .ok (.aload_n 1, 1) := by decide +kernel
theorem dX10_fallsUnder_16 : decode cX10_fallsUnder 16 = .ok (.getfield 27, 3) := by decide +kernel
theorem dX10_fallsUnder_19 : decode cX10_fallsUnder 19 = .ok (.iload 5, 2) := by decide +kernel
theorem dX10_fallsUnder_21 : decode cX10_fallsUnder 21 = .ok (.iaload, 1) := by decide +kernel
theorem dX10_fallsUnder_22 : decode cX10_fallsUnder 22 = .ok (.iload_n 2, 1) := by decide +kernel
theorem dX10_fallsUnder_23 : decode cX10_fallsUnder 23 = .ok (.if_icmp .ne 17, 3) := by decide +kernel
theorem dX10_fallsUnder_26 : decode cX10_fallsUnder 26 = .ok (.aload_n 0, 1) := by decide +kernel
theorem dX10_fallsUnder_27 : decode cX10_fallsUnder 27 = .ok (.getfield 18, 3) := by decide +kernel
theorem dX10_fallsUnder_30 : decode cX10_fallsUnder 30 = .ok (.iload 5, 2) := by decide +kernel
theorem dX10_fallsUnder_32 : decode cX10_fallsUnder 32 = .ok (.iaload, 1) := by decide +kernel
theorem dX10_fallsUnder_33 : decode cX10_fallsUnder 33 = .ok (.iload_n 3, 1) := by decide +kernel
theorem dX10_fallsUnder_34 : decode cX10_fallsUnder 34 = .ok (.if_icmp .ne 6, 3) := by decide +kernel
theorem dX10_fallsUnder_37 : decode cX10_fallsUnder 37 = .ok (.iinc 4 1, 3) := by decide +kernel
theorem dX10_fallsUnder_40 : decode cX10_fallsUnder 40 = .ok (.iinc 5 1, 3) := by decide +kernel
theorem dX10_fallsUnder_43 : decode cX10_fallsUnder 43 = .ok (.goto (-37), 3) := by decide +kernel
theorem dX10_fallsUnder_46 : decode cX10_fallsUnder 46 = .ok (.iload 4, 2) := by decide +kernel
theorem dX10_fallsUnder_48 : decode cX10_fallsUnder 48 = .ok (.ireturn, 1) := by decide +kernel
noncomputable def vX10_fallsUnder : List Cond := .code yX10_fallsUnder cX10_fallsUnder 6 (some .int) :: (([.fieldLink RX10 22 "IcicleClock$Street" "icicles" "I", .fieldLink RX10 27 "IcicleClock$Street" "eaveOf" "[I", .fieldLink RX10 18 "IcicleClock$Winter" "fall" "[I"] : List Cond) ++ (wsX60 ++ wsX100))
theorem iX10_fallsUnder_6 : ∀ w ∈ wsX60, w ∈ vX10_fallsUnder := fun _ h => List.mem_cons_of_mem _ (List.mem_append_right _ (List.mem_append_left _ h))
theorem iX10_fallsUnder_10 : ∀ w ∈ wsX100, w ∈ vX10_fallsUnder := fun _ h => List.mem_cons_of_mem _ (List.mem_append_right _ (List.mem_append_right _ (h)))
theorem gs_X10_fallsUnder : Gd vX10_fallsUnder := Gd.cons (by decide +kernel) (Gd.app (Gd.r (by decide +kernel)) (Gd.app gwX_6 gwX_10))
set_option maxHeartbeats 4000000 in
set_option maxRecDepth 100000 in
theorem s_X10_fallsUnder (l : Launch) (D : va_G) (cs : Nat → ClassId) (ad : Nat → Nat) (kS : kSt) (K : sK) (hKO : KO K) (hj : wJ ad 218) (g : Nat → va_E) (hW : WF (shp ad K) ad cs g) (w : Nat) (ev : Int32) (dy : Int32) (hp0 : w = 114 ∨ w = 116) : sI l yX10_fallsUnder vX10_fallsUnder { frames := 0, cells := 0, slots := 0, locals := 0 } D cs ad kS [.ref (ad w), .ref (ad 3), .int ev, .int dy] g (fun r g2 => g2 = g) := by
  refine Met.startS (cc := cX10_fallsUnder) (maxL := 6) (ret := (some .int)) RX10 rfl (by decide) rfl (Nat.le_of_ble_eq_true rfl) ?_
  intro p e s m below meth c ls X Z hP hl
  have hx := X.1
  have hb := X.2.1
  have hS : va_S (wA ad 218) s.heap s.heap [] := va_S.rf
  have hA : ∀ i, i < 218 → wA ad 218 (ad i) := fun i h => ⟨i, h, rfl⟩
  have hw_w := hp0
  have hl : lv_has ls 6 [(0, .ref (ad w)), (1, .ref (ad 3)), (2, .int ev), (3, .int dy)] := hl
  refine lv_iconst (v := 0) hx hb dX10_fallsUnder_0 (by decide) ?_
  refine lv_istore (lv' := [(4, .int 0), (0, .ref (ad w)), (1, .ref (ad 3)), (2, .int ev), (3, .int dy)]) hx hb dX10_fallsUnder_1 hl (by decide) rfl (fun ls hl => ?_)
  refine lv_iconst (v := 0) hx hb dX10_fallsUnder_3 (by decide) ?_
  refine lv_istore (lv' := [(5, .int 0), (4, .int 0), (0, .ref (ad w)), (1, .ref (ad 3)), (2, .int ev), (3, .int dy)]) hx hb dX10_fallsUnder_4 hl (by decide) rfl (fun ls hl => ?_)
  have HL6 : ∀ (n6 : Nat) (v6_5 : Int32) (v6_4 : Int32) (H : Heap) (locs : List Loc) (ls : Array Slot), (8 - v6_5.toInt).toNat < n6 → (0 ≤ v6_5.toInt ∧ v6_5.toInt ≤ 8) → va_P D vwCl (wL ad g 218) H → va_S (wA ad 218) s.heap H locs → lv_has ls 6 [(5, .int v6_5), (4, .int v6_4), (0, .ref (ad w)), (1, .ref (ad 3)), (2, .int ev), (3, .int dy)] → W p l e ({ frames := 0, cells := 0, slots := 0, locals := 0 } : Room) s m ([.ref (ad w), .ref (ad 3), .int ev, .int dy] : List Value).toArray below meth c H locs 0 0 (MQ below (qI D ad 218 (fun r g2 => g2 = g)) ([.ref (ad w), .ref (ad 3), .int ev, .int dy] : List Value).toArray s 0 0 (wA ad 218)) (F0 m 6 ls []) := by
    intro n6
    induction n6 with
    | zero =>
      intro v6_5 v6_4 H locs ls hm6 hv6_0 hP hS hl
      exact absurd hm6 (Nat.not_lt_zero _)
    | succ n6 ih6 =>
      intro v6_5 v6_4 H locs ls hm6 hv6_0 hP hS hl
      refine lv_iload hx hb dX10_fallsUnder_6 (lv_at hl 0 rfl) ?_
      refine lv_aload_n hx hb dX10_fallsUnder_8 rfl (lv_at hl 3 rfl) ?_
      obtain ⟨fsc_1, hgc_1, hOc_1⟩ := hW.obj (i := 3) (by decide) (sh_3 ad K)
      obtain ⟨x_3, hk_2, hlx_3, hhx_3⟩ := hOc_1.int 5 rfl
      refine q_get X iX10_fallsUnder_6 hP (by decide) hgc_1 rfl 5 (by decide) (List.mem_of_getElem? (i := 1) rfl) (v := .int x_3) hk_2 dX10_fallsUnder_9 ?_
      refine lv_icmp_ge (tgt := 46) hx hb dX10_fallsUnder_12 (by decide) (fun hc_4 => ?_) (fun hc_4 => ?_)
      · have hhc_4 := n_le (rfl : x_3.toInt = x_3.toInt) (rfl : v6_5.toInt = v6_5.toInt) hc_4
        refine lv_iload hx hb dX10_fallsUnder_46 (lv_at hl 1 rfl) ?_
        exact q_iret X hP hS rfl dX10_fallsUnder_48
      · have hhc_4 := n_nle (rfl : x_3.toInt = x_3.toInt) (rfl : v6_5.toInt = v6_5.toInt) hc_4
        refine lv_aload_n hx hb dX10_fallsUnder_15 rfl (lv_at hl 3 rfl) ?_
        have hk_5 := hOc_1.ref 11 rfl
        refine q_get X iX10_fallsUnder_6 hP (by decide) hgc_1 rfl 11 (by decide) (List.mem_of_getElem? (i := 2) rfl) (v := .ref (ad 7)) hk_5 dX10_fallsUnder_16 ?_
        refine lv_iload hx hb dX10_fallsUnder_19 (lv_at hl 0 rfl) ?_
        obtain ⟨fc_6, hgc_6, hFc_6⟩ := hW.arr (i := 7) (by decide) (sh_7 ad K)
        refine q_iald X hP (by decide) hgc_6 (n_in (rfl : v6_5.toInt = v6_5.toInt) (by omega) (by omega)) dX10_fallsUnder_21 ?_
        refine lv_topi (fun z_7 ez_7 => ?_)
        have hz_7 : 0 ≤ z_7.toInt ∧ z_7.toInt ≤ 4 := ez_7 ▸ hFc_6 _
        refine lv_iload_n hx hb dX10_fallsUnder_22 rfl (lv_at hl 4 rfl) ?_
        have HJ40 : ∀ (v40_4 : Int32) (H : Heap) (locs : List Loc) (ls : Array Slot), va_P D vwCl (wL ad g 218) H → va_S (wA ad 218) s.heap H locs → lv_has ls 6 [(5, .int v6_5), (4, .int v40_4), (0, .ref (ad w)), (1, .ref (ad 3)), (2, .int ev), (3, .int dy)] → W p l e ({ frames := 0, cells := 0, slots := 0, locals := 0 } : Room) s m ([.ref (ad w), .ref (ad 3), .int ev, .int dy] : List Value).toArray below meth c H locs 0 0 (MQ below (qI D ad 218 (fun r g2 => g2 = g)) ([.ref (ad w), .ref (ad 3), .int ev, .int dy] : List Value).toArray s 0 0 (wA ad 218)) (F0 m 40 ls []) := by
          intro v40_4 H locs ls hP hS hl
          obtain ⟨x_8, ex_8⟩ : ∃ y : Int32, y = v6_5 + 1 := ⟨_, rfl⟩
          have hx_8 : x_8.toInt = v6_5.toInt + 1 := n_add rfl (by decide : (1 : Int32).toInt = 1) ex_8 (by omega) (by omega)
          refine lv_iinc (v := x_8) (lv' := [(5, .int x_8), (4, .int v40_4), (0, .ref (ad w)), (1, .ref (ad 3)), (2, .int ev), (3, .int dy)]) hx hb dX10_fallsUnder_40 hl (k := 0) rfl (by rw [ex_8]; rfl) (by decide) rfl (fun ls hl => ?_)
          refine lv_goto (tgt := 6) hx hb dX10_fallsUnder_43 (by decide) ?_
          exact ih6 x_8 v40_4 _ _ ls (by omega) (by omega) hP hS (lv_sub hl [0, 1, 2, 3, 4, 5] rfl)
        refine lv_icmp_ne (tgt := 40) hx hb dX10_fallsUnder_23 (by decide) (fun hc_9 => ?_) (fun hc_9 => ?_)
        · have hhc_9 := n_ne (rfl : z_7.toInt = z_7.toInt) (rfl : ev.toInt = ev.toInt) hc_9
          exact HJ40 v6_4 _ _ ls hP hS (lv_sub hl [0, 1, 2, 3, 4, 5] rfl)
        · have hhc_9 := n_eq (rfl : z_7.toInt = z_7.toInt) (rfl : ev.toInt = ev.toInt) hc_9
          refine lv_aload_n hx hb dX10_fallsUnder_26 rfl (lv_at hl 2 rfl) ?_
          obtain ⟨fsc_10, hgc_10, hOc_10⟩ := hW.obj (i := w) (by omega) (shW_0 ad K hw_w)
          have hk_11 := hOc_10.ref 3 rfl
          refine q_get X iX10_fallsUnder_10 hP (by omega) hgc_10 rfl 3 (by decide) (List.mem_of_getElem? (i := 3) rfl) (v := .ref (ad (w + 1))) hk_11 dX10_fallsUnder_27 ?_
          refine lv_iload hx hb dX10_fallsUnder_30 (lv_at hl 0 rfl) ?_
          obtain ⟨fc_12, hgc_12, hFc_12⟩ := hW.arr (i := (w + 1)) (by omega) (shW_1 ad K hw_w)
          refine q_iald X hP (by omega) hgc_12 (n_in (rfl : v6_5.toInt = v6_5.toInt) (by omega) (by omega)) dX10_fallsUnder_32 ?_
          refine lv_topi (fun z_13 ez_13 => ?_)
          have hz_13 : (-1) ≤ z_13.toInt ∧ z_13.toInt ≤ 13 := ez_13 ▸ hFc_12 _
          refine lv_iload_n hx hb dX10_fallsUnder_33 rfl (lv_at hl 5 rfl) ?_
          refine lv_icmp_ne (tgt := 40) hx hb dX10_fallsUnder_34 (by decide) (fun hc_14 => ?_) (fun hc_14 => ?_)
          · have hhc_14 := n_ne (rfl : z_13.toInt = z_13.toInt) (rfl : dy.toInt = dy.toInt) hc_14
            exact HJ40 v6_4 _ _ ls hP hS (lv_sub hl [0, 1, 2, 3, 4, 5] rfl)
          · have hhc_14 := n_eq (rfl : z_13.toInt = z_13.toInt) (rfl : dy.toInt = dy.toInt) hc_14
            obtain ⟨x_15, ex_15⟩ : ∃ y : Int32, y = v6_4 + 1 := ⟨_, rfl⟩
            refine lv_iinc (v := x_15) (lv' := [(4, .int x_15), (5, .int v6_5), (0, .ref (ad w)), (1, .ref (ad 3)), (2, .int ev), (3, .int dy)]) hx hb dX10_fallsUnder_37 hl (k := 1) rfl (by rw [ex_15]; rfl) (by decide) rfl (fun ls hl => ?_)
            exact HJ40 x_15 _ _ ls hP hS (lv_sub hl [1, 0, 2, 3, 4, 5] rfl)
  have hiv6_5 : (0 : Int32).toInt = 0 := by decide
  have hiv6_4 : (0 : Int32).toInt = 0 := by decide
  exact HL6 _ 0 0 _ _ ls (Nat.lt_succ_self _) (by omega) hP hS (lv_sub hl [0, 1, 2, 3, 4, 5] rfl)

theorem dX10_timeAt_0 : decode cX10_timeAt 0 = .ok (.iconst (-1), 1) := by decide +kernel
theorem dX10_timeAt_1 : decode cX10_timeAt 1 = .ok (.istore 4, 2) := by decide +kernel
theorem dX10_timeAt_3 : decode cX10_timeAt 3 = .ok (.iconst (-1), 1) := by decide +kernel
theorem dX10_timeAt_4 : decode cX10_timeAt 4 = .ok (.istore 5, 2) := by decide +kernel
theorem dX10_timeAt_6 : decode cX10_timeAt 6 = .ok (.iconst 0, 1) := by decide +kernel
theorem dX10_timeAt_7 : decode cX10_timeAt 7 = .ok (.istore 6, 2) := by decide +kernel
theorem dX10_timeAt_9 : decode cX10_timeAt 9 = .ok (.iload 6, 2) := by decide +kernel
theorem dX10_timeAt_11 : decode cX10_timeAt 11 = .ok (.aload_n 1, 1) := by decide +kernel
theorem dX10_timeAt_12 : decode cX10_timeAt 12 = .ok (.getfield 22, 3) := by decide +kernel
theorem dX10_timeAt_15 : decode cX10_timeAt 15 = .ok (.if_icmp .ge 77, 3) := by decide +kernel
theorem dX10_timeAt_18 : decode cX10_timeAt 18 = .ok (.iload_n 2, 1) := by decide +kernel
theorem dX10_timeAt_19 : decode cX10_timeAt 19 = .ok (.iconst (-1), 1) := by decide +kernel
theorem dX10_timeAt_20 : decode cX10_timeAt 20 = .ok (.if_icmp .eq 14, 3) := by decide +kernel
theorem dX10_timeAt_23 : decode cX10_timeAt 23 = .ok (.aload_n 1, 1) := by decide +kernel
theorem dX10_timeAt_24 : decode cX10_timeAt 24 = .ok (.getfield 27, 3) := by decide +kernel
theorem dX10_timeAt_27 : decode cX10_timeAt 27 = .ok (.iload 6, 2) := by decide +kernel
theorem dX10_timeAt_29 : decode cX10_timeAt 29 = .ok (.iaload, 1) := by decide +kernel
theorem dX10_timeAt_30 : decode cX10_timeAt 30 = .ok (.iload_n 2, 1) := by decide +kernel
theorem dX10_timeAt_31 : decode cX10_timeAt 31 = .ok (.if_icmp .ne 7, 3) := by decide +kernel
theorem dX10_timeAt_38 : decode cX10_timeAt 38 = .ok (.iconst 0, 1) := by decide +kernel
theorem dX10_timeAt_34 : decode cX10_timeAt 34 = .ok (.iconst 1, 1) := by decide +kernel
theorem dX10_timeAt_35 : decode cX10_timeAt 35 = .ok (.goto 4, 3) := by decide +kernel
theorem dX10_timeAt_39 : decode cX10_timeAt 39 = .ok (.istore 7, 2) := by decide +kernel
theorem dX10_timeAt_41 : decode cX10_timeAt 41 = .ok (.iload 7, 2) := by decide +kernel
theorem dX10_timeAt_43 : decode cX10_timeAt 43 = .ok (.ifCond .eq 43, 3) := by decide +kernel
theorem dX10_timeAt_46 : decode cX10_timeAt 46 = .ok (.aload_n 0, 1) := by decide +kernel
theorem dX10_timeAt_47 : decode cX10_timeAt 47 = .ok (.iload 6, 2) := by decide +kernel
theorem dX10_timeAt_49 : decode cX10_timeAt 49 = .ok (.iload_n 3, 1) := by decide +kernel
theorem dX10_timeAt_50 : decode cX10_timeAt 50 = .ok (.invokevirtual 59, 3) := by decide +kernel
theorem dX10_timeAt_53 : decode cX10_timeAt 53 = .ok (.ifCond .eq 33, 3) := by decide +kernel
theorem dX10_timeAt_56 : decode cX10_timeAt 56 = .ok (.aload_n 0, 1) := by decide +kernel
theorem dX10_timeAt_57 : decode cX10_timeAt 57 = .ok (.getfield 18, 3) := by decide +kernel
theorem dX10_timeAt_60 : decode cX10_timeAt 60 = .ok (.iload 6, 2) := by decide +kernel
theorem dX10_timeAt_62 : decode cX10_timeAt 62 = .ok (.iaload, 1) := by decide +kernel
theorem dX10_timeAt_63 : decode cX10_timeAt 63 = .ok (.iload 4, 2) := by decide +kernel
theorem dX10_timeAt_65 : decode cX10_timeAt 65 = .ok (.if_icmp .lt 21, 3) := by decide +kernel
theorem dX10_timeAt_68 : decode cX10_timeAt 68 = .ok (.aload_n 0, 1) := by decide +kernel
theorem dX10_timeAt_69 : decode cX10_timeAt 69 = .ok (.getfield 18, 3) := by decide +kernel
theorem dX10_timeAt_72 : decode cX10_timeAt 72 = .ok (.iload 6, 2) := by decide +kernel
theorem dX10_timeAt_74 : decode cX10_timeAt 74 = .ok (.iaload, 1) := by decide +kernel
theorem dX10_timeAt_75 : decode cX10_timeAt 75 = .ok (.istore 4, 2) := by decide +kernel
theorem dX10_timeAt_77 : decode cX10_timeAt 77 = .ok (.aload_n 1, 1) := by decide +kernel
theorem dX10_timeAt_78 : decode cX10_timeAt 78 = .ok (.getfield 63, 3) := by decide +kernel
theorem dX10_timeAt_81 : decode cX10_timeAt 81 = .ok (.iload 6, 2) := by decide +kernel
theorem dX10_timeAt_83 : decode cX10_timeAt 83 = .ok (.iaload, 1) := by decide +kernel
theorem dX10_timeAt_84 : decode cX10_timeAt 84 = .ok (.istore 5, 2) := by decide +kernel
theorem dX10_timeAt_86 : decode cX10_timeAt 86 = .ok (.iinc 6 1, 3) := by decide +kernel
theorem dX10_timeAt_89 : decode cX10_timeAt 89 = .ok (.goto (-80), 3) := by decide +kernel
theorem dX10_timeAt_92 : decode cX10_timeAt 92 = .ok (.iload 5, 2) := by decide +kernel
theorem dX10_timeAt_94 : decode cX10_timeAt 94 = .ok (.ireturn, 1) := by decide +kernel
noncomputable def vX10_timeAt : List Cond := .code yX10_timeAt cX10_timeAt 8 (some .int) :: (([.fieldLink RX10 22 "IcicleClock$Street" "icicles" "I", .fieldLink RX10 27 "IcicleClock$Street" "eaveOf" "[I", .methodLink RX10 59 yX10_fellBy, .instanceMethod yX10_fellBy, .selects RX10 yX10_fellBy yX10_fellBy, .initialized RX10, .fieldLink RX10 18 "IcicleClock$Winter" "fall" "[I", .fieldLink RX10 63 "IcicleClock$Street" "hourOf" "[I"] : List Cond) ++ (wsX60 ++ (wsX100 ++ vX10_fellBy)))
theorem iX10_timeAt_6 : ∀ w ∈ wsX60, w ∈ vX10_timeAt := fun _ h => List.mem_cons_of_mem _ (List.mem_append_right _ (List.mem_append_left _ h))
theorem iX10_timeAt_10 : ∀ w ∈ wsX100, w ∈ vX10_timeAt := fun _ h => List.mem_cons_of_mem _ (List.mem_append_right _ (List.mem_append_right _ (List.mem_append_left _ h)))
theorem gs_X10_timeAt : Gd vX10_timeAt := Gd.cons (by decide +kernel) (Gd.app (Gd.r (by decide +kernel)) (Gd.app gwX_6 (Gd.app gwX_10 gs_X10_fellBy)))
theorem gg_X10_timeAt_X10_fellBy : GoodIn vX10_timeAt (wsV RX10 59 RX10 yX10_fellBy vX10_fellBy) := goodIn_app (goodIn_r _ [3, 4, 5, 6] (by decide +kernel) (by decide +kernel)) (fun w h => ⟨List.mem_cons_of_mem _ (List.mem_append_right _ (List.mem_append_right _ (List.mem_append_right _ (h)))), gs_X10_fellBy w h⟩)
set_option maxHeartbeats 4000000 in
set_option maxRecDepth 100000 in
theorem s_X10_timeAt (l : Launch) (D : va_G) (cs : Nat → ClassId) (ad : Nat → Nat) (kS : kSt) (K : sK) (hKO : KO K) (hj : wJ ad 218) (g : Nat → va_E) (hW : WF (shp ad K) ad cs g) (w : Nat) (ev : Int32) (dy : Int32) (hp0 : w = 114 ∨ w = 116) : sI l yX10_timeAt vX10_timeAt { frames := 1, cells := 0, slots := 0, locals := 22 } D cs ad kS [.ref (ad w), .ref (ad 3), .int ev, .int dy] g (fun r g2 => g2 = g) := by
  refine Met.startS (cc := cX10_timeAt) (maxL := 8) (ret := (some .int)) RX10 rfl (by decide) rfl (Nat.le_of_ble_eq_true rfl) ?_
  intro p e s m below meth c ls X Z hP hl
  have hx := X.1
  have hb := X.2.1
  have hS : va_S (wA ad 218) s.heap s.heap [] := va_S.rf
  have hA : ∀ i, i < 218 → wA ad 218 (ad i) := fun i h => ⟨i, h, rfl⟩
  have hw_w := hp0
  have hl : lv_has ls 8 [(0, .ref (ad w)), (1, .ref (ad 3)), (2, .int ev), (3, .int dy)] := hl
  refine lv_iconst (v := (-1)) hx hb dX10_timeAt_0 (by decide) ?_
  refine lv_istore (lv' := [(4, .int (-1)), (0, .ref (ad w)), (1, .ref (ad 3)), (2, .int ev), (3, .int dy)]) hx hb dX10_timeAt_1 hl (by decide) rfl (fun ls hl => ?_)
  refine lv_iconst (v := (-1)) hx hb dX10_timeAt_3 (by decide) ?_
  refine lv_istore (lv' := [(5, .int (-1)), (4, .int (-1)), (0, .ref (ad w)), (1, .ref (ad 3)), (2, .int ev), (3, .int dy)]) hx hb dX10_timeAt_4 hl (by decide) rfl (fun ls hl => ?_)
  refine lv_iconst (v := 0) hx hb dX10_timeAt_6 (by decide) ?_
  refine lv_istore (lv' := [(6, .int 0), (5, .int (-1)), (4, .int (-1)), (0, .ref (ad w)), (1, .ref (ad 3)), (2, .int ev), (3, .int dy)]) hx hb dX10_timeAt_7 hl (by decide) rfl (fun ls hl => ?_)
  have HL9 : ∀ (n9 : Nat) (v9_6 : Int32) (v9_5 : Int32) (v9_4 : Int32) (H : Heap) (locs : List Loc) (ls : Array Slot), (8 - v9_6.toInt).toNat < n9 → (0 ≤ v9_6.toInt ∧ v9_6.toInt ≤ 8) → ((-1) ≤ v9_4.toInt ∧ v9_4.toInt ≤ 13) → va_P D vwCl (wL ad g 218) H → va_S (wA ad 218) s.heap H locs → lv_has ls 8 [(6, .int v9_6), (5, .int v9_5), (4, .int v9_4), (0, .ref (ad w)), (1, .ref (ad 3)), (2, .int ev), (3, .int dy)] → W p l e ({ frames := 1, cells := 0, slots := 0, locals := 22 } : Room) s m ([.ref (ad w), .ref (ad 3), .int ev, .int dy] : List Value).toArray below meth c H locs 0 0 (MQ below (qI D ad 218 (fun r g2 => g2 = g)) ([.ref (ad w), .ref (ad 3), .int ev, .int dy] : List Value).toArray s 0 0 (wA ad 218)) (F0 m 9 ls []) := by
    intro n9
    induction n9 with
    | zero =>
      intro v9_6 v9_5 v9_4 H locs ls hm9 hv9_0 hv9_1 hP hS hl
      exact absurd hm9 (Nat.not_lt_zero _)
    | succ n9 ih9 =>
      intro v9_6 v9_5 v9_4 H locs ls hm9 hv9_0 hv9_1 hP hS hl
      refine lv_iload hx hb dX10_timeAt_9 (lv_at hl 0 rfl) ?_
      refine lv_aload_n hx hb dX10_timeAt_11 rfl (lv_at hl 4 rfl) ?_
      obtain ⟨fsc_1, hgc_1, hOc_1⟩ := hW.obj (i := 3) (by decide) (sh_3 ad K)
      obtain ⟨x_3, hk_2, hlx_3, hhx_3⟩ := hOc_1.int 5 rfl
      refine q_get X iX10_timeAt_6 hP (by decide) hgc_1 rfl 5 (by decide) (List.mem_of_getElem? (i := 1) rfl) (v := .int x_3) hk_2 dX10_timeAt_12 ?_
      refine lv_icmp_ge (tgt := 92) hx hb dX10_timeAt_15 (by decide) (fun hc_4 => ?_) (fun hc_4 => ?_)
      · have hhc_4 := n_le (rfl : x_3.toInt = x_3.toInt) (rfl : v9_6.toInt = v9_6.toInt) hc_4
        refine lv_iload hx hb dX10_timeAt_92 (lv_at hl 1 rfl) ?_
        exact q_iret X hP hS rfl dX10_timeAt_94
      · have hhc_4 := n_nle (rfl : x_3.toInt = x_3.toInt) (rfl : v9_6.toInt = v9_6.toInt) hc_4
        refine lv_iload_n hx hb dX10_timeAt_18 rfl (lv_at hl 5 rfl) ?_
        refine lv_iconst (v := (-1)) hx hb dX10_timeAt_19 (by decide) ?_
        have HJ34 : ∀ (H : Heap) (locs : List Loc) (ls : Array Slot), ((-1) ≤ ev.toInt ∧ ev.toInt ≤ 4) → va_P D vwCl (wL ad g 218) H → va_S (wA ad 218) s.heap H locs → lv_has ls 8 [(6, .int v9_6), (5, .int v9_5), (4, .int v9_4), (0, .ref (ad w)), (1, .ref (ad 3)), (2, .int ev), (3, .int dy)] → W p l e ({ frames := 1, cells := 0, slots := 0, locals := 22 } : Room) s m ([.ref (ad w), .ref (ad 3), .int ev, .int dy] : List Value).toArray below meth c H locs 0 0 (MQ below (qI D ad 218 (fun r g2 => g2 = g)) ([.ref (ad w), .ref (ad 3), .int ev, .int dy] : List Value).toArray s 0 0 (wA ad 218)) (F0 m 34 ls []) := by
          intro H locs ls hv34_0 hP hS hl
          refine lv_iconst (v := 1) hx hb dX10_timeAt_34 (by decide) ?_
          refine lv_goto (tgt := 39) hx hb dX10_timeAt_35 (by decide) ?_
          refine lv_istore (lv' := [(7, .int 1), (6, .int v9_6), (5, .int v9_5), (4, .int v9_4), (0, .ref (ad w)), (1, .ref (ad 3)), (2, .int ev), (3, .int dy)]) hx hb dX10_timeAt_39 hl (by decide) rfl (fun ls hl => ?_)
          refine lv_iload hx hb dX10_timeAt_41 (lv_at hl 0 rfl) ?_
          have HJ86 : ∀ (v86_5 : Int32) (v86_4 : Int32) (H : Heap) (locs : List Loc) (ls : Array Slot), ((-1) ≤ v86_4.toInt ∧ v86_4.toInt ≤ 13) → va_P D vwCl (wL ad g 218) H → va_S (wA ad 218) s.heap H locs → lv_has ls 8 [(6, .int v9_6), (5, .int v86_5), (4, .int v86_4), (0, .ref (ad w)), (1, .ref (ad 3)), (2, .int ev), (3, .int dy)] → W p l e ({ frames := 1, cells := 0, slots := 0, locals := 22 } : Room) s m ([.ref (ad w), .ref (ad 3), .int ev, .int dy] : List Value).toArray below meth c H locs 0 0 (MQ below (qI D ad 218 (fun r g2 => g2 = g)) ([.ref (ad w), .ref (ad 3), .int ev, .int dy] : List Value).toArray s 0 0 (wA ad 218)) (F0 m 86 ls []) := by
            intro v86_5 v86_4 H locs ls hv86_0 hP hS hl
            obtain ⟨x_5, ex_5⟩ : ∃ y : Int32, y = v9_6 + 1 := ⟨_, rfl⟩
            have hx_5 : x_5.toInt = v9_6.toInt + 1 := n_add rfl (by decide : (1 : Int32).toInt = 1) ex_5 (by omega) (by omega)
            refine lv_iinc (v := x_5) (lv' := [(6, .int x_5), (5, .int v86_5), (4, .int v86_4), (0, .ref (ad w)), (1, .ref (ad 3)), (2, .int ev), (3, .int dy)]) hx hb dX10_timeAt_86 hl (k := 0) rfl (by rw [ex_5]; rfl) (by decide) rfl (fun ls hl => ?_)
            refine lv_goto (tgt := 9) hx hb dX10_timeAt_89 (by decide) ?_
            exact ih9 x_5 v86_5 v86_4 _ _ ls (by omega) (by omega) (by omega) hP hS (lv_sub hl [0, 1, 2, 3, 4, 5, 6] rfl)
          refine lv_if_eq (tgt := 86) hx hb dX10_timeAt_43 (by decide) (fun h => absurd h (by decide)) (fun _ => ?_)
          refine lv_aload_n hx hb dX10_timeAt_46 rfl (lv_at hl 4 rfl) ?_
          refine lv_iload hx hb dX10_timeAt_47 (lv_at hl 1 rfl) ?_
          refine lv_iload_n hx hb dX10_timeAt_49 rfl (lv_at hl 7 rfl) ?_
          obtain ⟨fsc_9, hgc_9, hOc_9⟩ := hW.obj (i := w) (by omega) (shW_0 ad K hw_w)
          refine s_calli (q := (RX10, TX10, 4)) (As := [.int v9_6, .int dy]) (rest := []) X Z (s_X10_fellBy l D cs ad kS K hKO hj g hW w v9_6 dy (by omega) (by omega)) (cwV 2 X.2.2.2.2.1 gg_X10_timeAt_X10_fellBy rfl rfl rfl (by decide +kernel) ⟨Nat.le_of_ble_eq_true rfl, Nat.le_of_ble_eq_true rfl⟩) (by omega) hgc_9 rfl hP hA hS.2.1 hS rfl hl.1 rfl (Nat.le_of_ble_eq_true rfl) dX10_timeAt_50 ⟨Nat.le_of_ble_eq_true rfl, Nat.le_of_ble_eq_true rfl⟩ (fun r_8 g_7 H locs hw_6 hP hS => ?_)
          obtain ⟨hw_6g, hw_6⟩ := hw_6
          rw [hw_6g] at hP
          refine lv_if_eq (tgt := 86) hx hb dX10_timeAt_53 (by decide) (fun hc_10 => ?_) (fun hc_10 => ?_)
          · have hhc_10 := n_eq (rfl : r_8.toInt = r_8.toInt) (by decide : (0 : Int32).toInt = 0) hc_10
            exact HJ86 v9_5 v9_4 _ _ ls (by omega) hP hS (lv_sub hl [1, 2, 3, 4, 5, 6, 7] rfl)
          · have hhc_10 := n_ne (rfl : r_8.toInt = r_8.toInt) (by decide : (0 : Int32).toInt = 0) hc_10
            refine lv_aload_n hx hb dX10_timeAt_56 rfl (lv_at hl 4 rfl) ?_
            have hk_11 := hOc_9.ref 3 rfl
            refine q_get X iX10_timeAt_10 hP (by omega) hgc_9 rfl 3 (by decide) (List.mem_of_getElem? (i := 7) rfl) (v := .ref (ad (w + 1))) hk_11 dX10_timeAt_57 ?_
            refine lv_iload hx hb dX10_timeAt_60 (lv_at hl 1 rfl) ?_
            obtain ⟨fc_12, hgc_12, hFc_12⟩ := hW.arr (i := (w + 1)) (by omega) (shW_1 ad K hw_w)
            refine q_iald X hP (by omega) hgc_12 (n_in (rfl : v9_6.toInt = v9_6.toInt) (by omega) (by omega)) dX10_timeAt_62 ?_
            refine lv_topi (fun z_13 ez_13 => ?_)
            have hz_13 : (-1) ≤ z_13.toInt ∧ z_13.toInt ≤ 13 := ez_13 ▸ hFc_12 _
            refine lv_iload hx hb dX10_timeAt_63 (lv_at hl 3 rfl) ?_
            refine lv_icmp_lt (tgt := 86) hx hb dX10_timeAt_65 (by decide) (fun hc_14 => ?_) (fun hc_14 => ?_)
            · have hhc_14 := n_lt (rfl : z_13.toInt = z_13.toInt) (rfl : v9_4.toInt = v9_4.toInt) hc_14
              exact HJ86 v9_5 v9_4 _ _ ls (by omega) hP hS (lv_sub hl [1, 2, 3, 4, 5, 6, 7] rfl)
            · have hhc_14 := n_nlt (rfl : z_13.toInt = z_13.toInt) (rfl : v9_4.toInt = v9_4.toInt) hc_14
              refine lv_aload_n hx hb dX10_timeAt_68 rfl (lv_at hl 4 rfl) ?_
              refine q_get X iX10_timeAt_10 hP (by omega) hgc_9 rfl 3 (by decide) (List.mem_of_getElem? (i := 7) rfl) (v := .ref (ad (w + 1))) hk_11 dX10_timeAt_69 ?_
              refine lv_iload hx hb dX10_timeAt_72 (lv_at hl 1 rfl) ?_
              refine q_iald X hP (by omega) hgc_12 (n_in (rfl : v9_6.toInt = v9_6.toInt) (by omega) (by omega)) dX10_timeAt_74 ?_
              refine lv_topi (fun z_15 ez_15 => ?_)
              have hz_15 : (-1) ≤ z_15.toInt ∧ z_15.toInt ≤ 13 := ez_15 ▸ hFc_12 _
              have hsz_15 : z_15.toInt = z_13.toInt := by rw [ez_15, ez_13]
              refine lv_istore (lv' := [(4, .int z_15), (7, .int 1), (6, .int v9_6), (5, .int v9_5), (0, .ref (ad w)), (1, .ref (ad 3)), (2, .int ev), (3, .int dy)]) hx hb dX10_timeAt_75 hl (by decide) rfl (fun ls hl => ?_)
              refine lv_aload_n hx hb dX10_timeAt_77 rfl (lv_at hl 5 rfl) ?_
              have hk_16 := hOc_1.ref 14 rfl
              refine q_get X iX10_timeAt_6 hP (by decide) hgc_1 rfl 14 (by decide) (List.mem_of_getElem? (i := 8) rfl) (v := .ref (ad 10)) hk_16 dX10_timeAt_78 ?_
              refine lv_iload hx hb dX10_timeAt_81 (lv_at hl 2 rfl) ?_
              obtain ⟨fc_17, hgc_17, hFc_17⟩ := hW.arr (i := 10) (by decide) (sh_10 ad K)
              refine q_iald X hP (by decide) hgc_17 (n_in (rfl : v9_6.toInt = v9_6.toInt) (by omega) (by omega)) dX10_timeAt_83 ?_
              refine lv_topi (fun z_18 ez_18 => ?_)
              refine lv_istore (lv' := [(5, .int z_18), (4, .int z_15), (7, .int 1), (6, .int v9_6), (0, .ref (ad w)), (1, .ref (ad 3)), (2, .int ev), (3, .int dy)]) hx hb dX10_timeAt_84 hl (by decide) rfl (fun ls hl => ?_)
              exact HJ86 z_18 z_15 _ _ ls (by omega) hP hS (lv_sub hl [3, 0, 1, 4, 5, 6, 7] rfl)
        refine lv_icmp_eq (tgt := 34) hx hb dX10_timeAt_20 (by decide) (fun hc_19 => ?_) (fun hc_19 => ?_)
        · have hhc_19 := n_eq (rfl : ev.toInt = ev.toInt) (by decide : (-1 : Int32).toInt = -1) hc_19
          exact HJ34 _ _ ls (by omega) hP hS (lv_sub hl [0, 1, 2, 3, 4, 5, 6] rfl)
        · have hhc_19 := n_ne (rfl : ev.toInt = ev.toInt) (by decide : (-1 : Int32).toInt = -1) hc_19
          refine lv_aload_n hx hb dX10_timeAt_23 rfl (lv_at hl 4 rfl) ?_
          have hk_20 := hOc_1.ref 11 rfl
          refine q_get X iX10_timeAt_6 hP (by decide) hgc_1 rfl 11 (by decide) (List.mem_of_getElem? (i := 2) rfl) (v := .ref (ad 7)) hk_20 dX10_timeAt_24 ?_
          refine lv_iload hx hb dX10_timeAt_27 (lv_at hl 0 rfl) ?_
          obtain ⟨fc_21, hgc_21, hFc_21⟩ := hW.arr (i := 7) (by decide) (sh_7 ad K)
          refine q_iald X hP (by decide) hgc_21 (n_in (rfl : v9_6.toInt = v9_6.toInt) (by omega) (by omega)) dX10_timeAt_29 ?_
          refine lv_topi (fun z_22 ez_22 => ?_)
          have hz_22 : 0 ≤ z_22.toInt ∧ z_22.toInt ≤ 4 := ez_22 ▸ hFc_21 _
          refine lv_iload_n hx hb dX10_timeAt_30 rfl (lv_at hl 5 rfl) ?_
          refine lv_icmp_ne (tgt := 38) hx hb dX10_timeAt_31 (by decide) (fun hc_23 => ?_) (fun hc_23 => ?_)
          · have hhc_23 := n_ne (rfl : z_22.toInt = z_22.toInt) (rfl : ev.toInt = ev.toInt) hc_23
            refine lv_iconst (v := 0) hx hb dX10_timeAt_38 (by decide) ?_
            refine lv_istore (lv' := [(7, .int 0), (6, .int v9_6), (5, .int v9_5), (4, .int v9_4), (0, .ref (ad w)), (1, .ref (ad 3)), (2, .int ev), (3, .int dy)]) hx hb dX10_timeAt_39 hl (by decide) rfl (fun ls hl => ?_)
            refine lv_iload hx hb dX10_timeAt_41 (lv_at hl 0 rfl) ?_
            have HJ86 : ∀ (v86_5 : Int32) (v86_4 : Int32) (H : Heap) (locs : List Loc) (ls : Array Slot), ((-1) ≤ v86_4.toInt ∧ v86_4.toInt ≤ 13) → va_P D vwCl (wL ad g 218) H → va_S (wA ad 218) s.heap H locs → lv_has ls 8 [(6, .int v9_6), (5, .int v86_5), (4, .int v86_4), (0, .ref (ad w)), (1, .ref (ad 3)), (2, .int ev), (3, .int dy)] → W p l e ({ frames := 1, cells := 0, slots := 0, locals := 22 } : Room) s m ([.ref (ad w), .ref (ad 3), .int ev, .int dy] : List Value).toArray below meth c H locs 0 0 (MQ below (qI D ad 218 (fun r g2 => g2 = g)) ([.ref (ad w), .ref (ad 3), .int ev, .int dy] : List Value).toArray s 0 0 (wA ad 218)) (F0 m 86 ls []) := by
              intro v86_5 v86_4 H locs ls hv86_0 hP hS hl
              obtain ⟨x_24, ex_24⟩ : ∃ y : Int32, y = v9_6 + 1 := ⟨_, rfl⟩
              have hx_24 : x_24.toInt = v9_6.toInt + 1 := n_add rfl (by decide : (1 : Int32).toInt = 1) ex_24 (by omega) (by omega)
              refine lv_iinc (v := x_24) (lv' := [(6, .int x_24), (5, .int v86_5), (4, .int v86_4), (0, .ref (ad w)), (1, .ref (ad 3)), (2, .int ev), (3, .int dy)]) hx hb dX10_timeAt_86 hl (k := 0) rfl (by rw [ex_24]; rfl) (by decide) rfl (fun ls hl => ?_)
              refine lv_goto (tgt := 9) hx hb dX10_timeAt_89 (by decide) ?_
              exact ih9 x_24 v86_5 v86_4 _ _ ls (by omega) (by omega) (by omega) hP hS (lv_sub hl [0, 1, 2, 3, 4, 5, 6] rfl)
            refine lv_if_eq (tgt := 86) hx hb dX10_timeAt_43 (by decide) (fun _ => ?_) (fun h => absurd h (by decide))
            exact HJ86 v9_5 v9_4 _ _ ls (by omega) hP hS (lv_sub hl [1, 2, 3, 4, 5, 6, 7] rfl)
          · have hhc_23 := n_eq (rfl : z_22.toInt = z_22.toInt) (rfl : ev.toInt = ev.toInt) hc_23
            exact HJ34 _ _ ls (by omega) hP hS (lv_sub hl [0, 1, 2, 3, 4, 5, 6] rfl)
  have hiv9_6 : (0 : Int32).toInt = 0 := by decide
  have hiv9_5 : ((-1) : Int32).toInt = -1 := by decide
  have hiv9_4 : ((-1) : Int32).toInt = -1 := by decide
  exact HL9 _ 0 (-1) (-1) _ _ ls (Nat.lt_succ_self _) (by omega) (by omega) hP hS (lv_sub hl [0, 1, 2, 3, 4, 5, 6] rfl)

theorem dX10_daysOfOneTime_0 : decode cX10_daysOfOneTime 0 = .ok (.iconst 0, 1) := by decide +kernel
theorem dX10_daysOfOneTime_1 : decode cX10_daysOfOneTime 1 = .ok (.istore 4, 2) := by decide +kernel
theorem dX10_daysOfOneTime_3 : decode cX10_daysOfOneTime 3 = .ok (.iconst 0, 1) := by decide +kernel
theorem dX10_daysOfOneTime_4 : decode cX10_daysOfOneTime 4 = .ok (.istore 5, 2) := by decide +kernel
theorem dX10_daysOfOneTime_6 : decode cX10_daysOfOneTime 6 = .ok (.iload 5, 2) := by decide +kernel
theorem dX10_daysOfOneTime_8 : decode cX10_daysOfOneTime 8 = .ok (.aload_n 1, 1) := by decide +kernel
theorem dX10_daysOfOneTime_9 : decode cX10_daysOfOneTime 9 = .ok (.getfield 37, 3) := by decide +kernel
theorem dX10_daysOfOneTime_12 : decode cX10_daysOfOneTime 12 = .ok (.if_icmp .ge 47, 3) := by decide +kernel
theorem dX10_daysOfOneTime_15 : decode cX10_daysOfOneTime 15 = .ok (.aload_n 0, 1) := by decide +kernel
theorem dX10_daysOfOneTime_16 : decode cX10_daysOfOneTime 16 = .ok (.aload_n 1, 1) := by decide +kernel
theorem dX10_daysOfOneTime_17 : decode cX10_daysOfOneTime 17 = .ok (.iload_n 2, 1) := by decide +kernel
theorem dX10_daysOfOneTime_18 : decode cX10_daysOfOneTime 18 = .ok (.iload 5, 2) := by decide +kernel
theorem dX10_daysOfOneTime_20 : decode cX10_daysOfOneTime 20 = .ok (.invokevirtual 66, 3) := by decide +kernel
theorem dX10_daysOfOneTime_23 : decode cX10_daysOfOneTime 23 = .ok (.istore 6, 2) := by decide +kernel
theorem dX10_daysOfOneTime_25 : decode cX10_daysOfOneTime 25 = .ok (.iload 6, 2) := by decide +kernel
theorem dX10_daysOfOneTime_27 : decode cX10_daysOfOneTime 27 = .ok (.iconst (-1), 1) := by decide +kernel
theorem dX10_daysOfOneTime_28 : decode cX10_daysOfOneTime 28 = .ok (.if_icmp .eq 25, 3) := by decide +kernel
theorem dX10_daysOfOneTime_31 : decode cX10_daysOfOneTime 31 = .ok (.iload 6, 2) := by decide +kernel
theorem dX10_daysOfOneTime_33 : decode cX10_daysOfOneTime 33 = .ok (.aload_n 0, 1) := by decide +kernel
theorem dX10_daysOfOneTime_34 : decode cX10_daysOfOneTime 34 = .ok (.aload_n 1, 1) := by decide +kernel
theorem dX10_daysOfOneTime_35 : decode cX10_daysOfOneTime 35 = .ok (.iload_n 3, 1) := by decide +kernel
theorem dX10_daysOfOneTime_36 : decode cX10_daysOfOneTime 36 = .ok (.iload 5, 2) := by decide +kernel
theorem dX10_daysOfOneTime_38 : decode cX10_daysOfOneTime 38 = .ok (.invokevirtual 66, 3) := by decide +kernel
theorem dX10_daysOfOneTime_41 : decode cX10_daysOfOneTime 41 = .ok (.if_icmp .ne 12, 3) := by decide +kernel
theorem dX10_daysOfOneTime_44 : decode cX10_daysOfOneTime 44 = .ok (.iload 4, 2) := by decide +kernel
theorem dX10_daysOfOneTime_46 : decode cX10_daysOfOneTime 46 = .ok (.iconst 1, 1) := by decide +kernel
theorem dX10_daysOfOneTime_47 : decode cX10_daysOfOneTime 47 = .ok (.iload 5, 2) := by decide +kernel
theorem dX10_daysOfOneTime_49 : decode cX10_daysOfOneTime 49 = .ok (.ishl, 1) := by decide +kernel
theorem dX10_daysOfOneTime_50 : decode cX10_daysOfOneTime 50 = .ok (.ior, 1) := by decide +kernel
theorem dX10_daysOfOneTime_51 : decode cX10_daysOfOneTime 51 = .ok (.istore 4, 2) := by decide +kernel
theorem dX10_daysOfOneTime_53 : decode cX10_daysOfOneTime 53 = .ok (.iinc 5 1, 3) := by decide +kernel
theorem dX10_daysOfOneTime_56 : decode cX10_daysOfOneTime 56 = .ok (.goto (-50), 3) := by decide +kernel
theorem dX10_daysOfOneTime_59 : decode cX10_daysOfOneTime 59 = .ok (.iload 4, 2) := by decide +kernel
theorem dX10_daysOfOneTime_61 : decode cX10_daysOfOneTime 61 = .ok (.ireturn, 1) := by decide +kernel
noncomputable def vX10_daysOfOneTime : List Cond := .code yX10_daysOfOneTime cX10_daysOfOneTime 7 (some .int) :: (([.fieldLink RX10 37 "IcicleClock$Street" "days" "I", .methodLink RX10 66 yX10_timeAt, .instanceMethod yX10_timeAt, .selects RX10 yX10_timeAt yX10_timeAt, .initialized RX10] : List Cond) ++ (wsX60 ++ vX10_timeAt))
theorem iX10_daysOfOneTime_6 : ∀ w ∈ wsX60, w ∈ vX10_daysOfOneTime := fun _ h => List.mem_cons_of_mem _ (List.mem_append_right _ (List.mem_append_left _ h))
theorem gs_X10_daysOfOneTime : Gd vX10_daysOfOneTime := Gd.cons (by decide +kernel) (Gd.app (Gd.r (by decide +kernel)) (Gd.app gwX_6 gs_X10_timeAt))
theorem gg_X10_daysOfOneTime_X10_timeAt : GoodIn vX10_daysOfOneTime (wsV RX10 66 RX10 yX10_timeAt vX10_timeAt) := goodIn_app (goodIn_r _ [2, 3, 4, 5] (by decide +kernel) (by decide +kernel)) (fun w h => ⟨List.mem_cons_of_mem _ (List.mem_append_right _ (List.mem_append_right _ (h))), gs_X10_timeAt w h⟩)
set_option maxHeartbeats 4000000 in
set_option maxRecDepth 100000 in
theorem s_X10_daysOfOneTime (l : Launch) (D : va_G) (cs : Nat → ClassId) (ad : Nat → Nat) (kS : kSt) (K : sK) (hKO : KO K) (hj : wJ ad 218) (g : Nat → va_E) (hW : WF (shp ad K) ad cs g) (w : Nat) (ev : Int32) (eo : Int32) (hp0 : w = 114 ∨ w = 116) : sI l yX10_daysOfOneTime vX10_daysOfOneTime { frames := 2, cells := 0, slots := 0, locals := 49 } D cs ad kS [.ref (ad w), .ref (ad 3), .int ev, .int eo] g (fun r g2 => g2 = g) := by
  refine Met.startS (cc := cX10_daysOfOneTime) (maxL := 7) (ret := (some .int)) RX10 rfl (by decide) rfl (Nat.le_of_ble_eq_true rfl) ?_
  intro p e s m below meth c ls X Z hP hl
  have hx := X.1
  have hb := X.2.1
  have hS : va_S (wA ad 218) s.heap s.heap [] := va_S.rf
  have hA : ∀ i, i < 218 → wA ad 218 (ad i) := fun i h => ⟨i, h, rfl⟩
  have hw_w := hp0
  have hl : lv_has ls 7 [(0, .ref (ad w)), (1, .ref (ad 3)), (2, .int ev), (3, .int eo)] := hl
  refine lv_iconst (v := 0) hx hb dX10_daysOfOneTime_0 (by decide) ?_
  refine lv_istore (lv' := [(4, .int 0), (0, .ref (ad w)), (1, .ref (ad 3)), (2, .int ev), (3, .int eo)]) hx hb dX10_daysOfOneTime_1 hl (by decide) rfl (fun ls hl => ?_)
  refine lv_iconst (v := 0) hx hb dX10_daysOfOneTime_3 (by decide) ?_
  refine lv_istore (lv' := [(5, .int 0), (4, .int 0), (0, .ref (ad w)), (1, .ref (ad 3)), (2, .int ev), (3, .int eo)]) hx hb dX10_daysOfOneTime_4 hl (by decide) rfl (fun ls hl => ?_)
  have HL6 : ∀ (n6 : Nat) (v6_5 : Int32) (v6_4 : Int32) (H : Heap) (locs : List Loc) (ls : Array Slot), (14 - v6_5.toInt).toNat < n6 → (0 ≤ v6_5.toInt ∧ v6_5.toInt ≤ 14) → va_P D vwCl (wL ad g 218) H → va_S (wA ad 218) s.heap H locs → lv_has ls 7 [(5, .int v6_5), (4, .int v6_4), (0, .ref (ad w)), (1, .ref (ad 3)), (2, .int ev), (3, .int eo)] → W p l e ({ frames := 2, cells := 0, slots := 0, locals := 49 } : Room) s m ([.ref (ad w), .ref (ad 3), .int ev, .int eo] : List Value).toArray below meth c H locs 0 0 (MQ below (qI D ad 218 (fun r g2 => g2 = g)) ([.ref (ad w), .ref (ad 3), .int ev, .int eo] : List Value).toArray s 0 0 (wA ad 218)) (F0 m 6 ls []) := by
    intro n6
    induction n6 with
    | zero =>
      intro v6_5 v6_4 H locs ls hm6 hv6_0 hP hS hl
      exact absurd hm6 (Nat.not_lt_zero _)
    | succ n6 ih6 =>
      intro v6_5 v6_4 H locs ls hm6 hv6_0 hP hS hl
      refine lv_iload hx hb dX10_daysOfOneTime_6 (lv_at hl 0 rfl) ?_
      refine lv_aload_n hx hb dX10_daysOfOneTime_8 rfl (lv_at hl 3 rfl) ?_
      obtain ⟨fsc_1, hgc_1, hOc_1⟩ := hW.obj (i := 3) (by decide) (sh_3 ad K)
      obtain ⟨x_3, hk_2, hlx_3, hhx_3⟩ := hOc_1.int 3 rfl
      refine q_get X iX10_daysOfOneTime_6 hP (by decide) hgc_1 rfl 3 (by decide) (List.mem_of_getElem? (i := 1) rfl) (v := .int x_3) hk_2 dX10_daysOfOneTime_9 ?_
      refine lv_icmp_ge (tgt := 59) hx hb dX10_daysOfOneTime_12 (by decide) (fun hc_4 => ?_) (fun hc_4 => ?_)
      · have hhc_4 := n_le (rfl : x_3.toInt = x_3.toInt) (rfl : v6_5.toInt = v6_5.toInt) hc_4
        refine lv_iload hx hb dX10_daysOfOneTime_59 (lv_at hl 1 rfl) ?_
        exact q_iret X hP hS rfl dX10_daysOfOneTime_61
      · have hhc_4 := n_nle (rfl : x_3.toInt = x_3.toInt) (rfl : v6_5.toInt = v6_5.toInt) hc_4
        refine lv_aload_n hx hb dX10_daysOfOneTime_15 rfl (lv_at hl 2 rfl) ?_
        refine lv_aload_n hx hb dX10_daysOfOneTime_16 rfl (lv_at hl 3 rfl) ?_
        refine lv_iload_n hx hb dX10_daysOfOneTime_17 rfl (lv_at hl 4 rfl) ?_
        refine lv_iload hx hb dX10_daysOfOneTime_18 (lv_at hl 0 rfl) ?_
        obtain ⟨fsc_8, hgc_8, hOc_8⟩ := hW.obj (i := w) (by omega) (shW_0 ad K hw_w)
        refine s_calli (q := (RX10, TX10, 4)) (As := [.ref (ad 3), .int ev, .int v6_5]) (rest := []) X Z (s_X10_timeAt l D cs ad kS K hKO hj g hW w ev v6_5 (by omega)) (cwV 3 X.2.2.2.2.1 gg_X10_daysOfOneTime_X10_timeAt rfl rfl rfl (by decide +kernel) ⟨Nat.le_of_ble_eq_true rfl, Nat.le_of_ble_eq_true rfl⟩) (by omega) hgc_8 rfl hP hA hS.2.1 hS rfl hl.1 rfl (Nat.le_of_ble_eq_true rfl) dX10_daysOfOneTime_20 ⟨Nat.le_of_ble_eq_true rfl, Nat.le_of_ble_eq_true rfl⟩ (fun r_7 g_6 H locs hw_5 hP hS => ?_)
        rw [hw_5] at hP
        refine lv_istore (lv' := [(6, .int r_7), (5, .int v6_5), (4, .int v6_4), (0, .ref (ad w)), (1, .ref (ad 3)), (2, .int ev), (3, .int eo)]) hx hb dX10_daysOfOneTime_23 hl (by decide) rfl (fun ls hl => ?_)
        refine lv_iload hx hb dX10_daysOfOneTime_25 (lv_at hl 0 rfl) ?_
        refine lv_iconst (v := (-1)) hx hb dX10_daysOfOneTime_27 (by decide) ?_
        have HJ53 : ∀ (v53_4 : Int32) (H : Heap) (locs : List Loc) (ls : Array Slot), va_P D vwCl (wL ad g 218) H → va_S (wA ad 218) s.heap H locs → lv_has ls 7 [(5, .int v6_5), (4, .int v53_4), (0, .ref (ad w)), (1, .ref (ad 3)), (2, .int ev), (3, .int eo)] → W p l e ({ frames := 2, cells := 0, slots := 0, locals := 49 } : Room) s m ([.ref (ad w), .ref (ad 3), .int ev, .int eo] : List Value).toArray below meth c H locs 0 0 (MQ below (qI D ad 218 (fun r g2 => g2 = g)) ([.ref (ad w), .ref (ad 3), .int ev, .int eo] : List Value).toArray s 0 0 (wA ad 218)) (F0 m 53 ls []) := by
          intro v53_4 H locs ls hP hS hl
          obtain ⟨x_9, ex_9⟩ : ∃ y : Int32, y = v6_5 + 1 := ⟨_, rfl⟩
          have hx_9 : x_9.toInt = v6_5.toInt + 1 := n_add rfl (by decide : (1 : Int32).toInt = 1) ex_9 (by omega) (by omega)
          refine lv_iinc (v := x_9) (lv' := [(5, .int x_9), (4, .int v53_4), (0, .ref (ad w)), (1, .ref (ad 3)), (2, .int ev), (3, .int eo)]) hx hb dX10_daysOfOneTime_53 hl (k := 0) rfl (by rw [ex_9]; rfl) (by decide) rfl (fun ls hl => ?_)
          refine lv_goto (tgt := 6) hx hb dX10_daysOfOneTime_56 (by decide) ?_
          exact ih6 x_9 v53_4 _ _ ls (by omega) (by omega) hP hS (lv_sub hl [0, 1, 2, 3, 4, 5] rfl)
        refine lv_icmp_eq (tgt := 53) hx hb dX10_daysOfOneTime_28 (by decide) (fun hc_10 => ?_) (fun hc_10 => ?_)
        · have hhc_10 := n_eq (rfl : r_7.toInt = r_7.toInt) (by decide : (-1 : Int32).toInt = -1) hc_10
          exact HJ53 v6_4 _ _ ls hP hS (lv_sub hl [1, 2, 3, 4, 5, 6] rfl)
        · have hhc_10 := n_ne (rfl : r_7.toInt = r_7.toInt) (by decide : (-1 : Int32).toInt = -1) hc_10
          refine lv_iload hx hb dX10_daysOfOneTime_31 (lv_at hl 0 rfl) ?_
          refine lv_aload_n hx hb dX10_daysOfOneTime_33 rfl (lv_at hl 3 rfl) ?_
          refine lv_aload_n hx hb dX10_daysOfOneTime_34 rfl (lv_at hl 4 rfl) ?_
          refine lv_iload_n hx hb dX10_daysOfOneTime_35 rfl (lv_at hl 6 rfl) ?_
          refine lv_iload hx hb dX10_daysOfOneTime_36 (lv_at hl 1 rfl) ?_
          refine s_calli (q := (RX10, TX10, 4)) (As := [.ref (ad 3), .int eo, .int v6_5]) (rest := [.int r_7]) X Z (s_X10_timeAt l D cs ad kS K hKO hj g hW w eo v6_5 (by omega)) (cwV 3 X.2.2.2.2.1 gg_X10_daysOfOneTime_X10_timeAt rfl rfl rfl (by decide +kernel) ⟨Nat.le_of_ble_eq_true rfl, Nat.le_of_ble_eq_true rfl⟩) (by omega) hgc_8 rfl hP hA hS.2.1 hS rfl hl.1 rfl (Nat.le_of_ble_eq_true rfl) dX10_daysOfOneTime_38 ⟨Nat.le_of_ble_eq_true rfl, Nat.le_of_ble_eq_true rfl⟩ (fun r_13 g_12 H locs hw_11 hP hS => ?_)
          rw [hw_11] at hP
          refine lv_icmp_ne (tgt := 53) hx hb dX10_daysOfOneTime_41 (by decide) (fun hc_14 => ?_) (fun hc_14 => ?_)
          · have hhc_14 := n_ne (rfl : r_7.toInt = r_7.toInt) (rfl : r_13.toInt = r_13.toInt) hc_14
            exact HJ53 v6_4 _ _ ls hP hS (lv_sub hl [1, 2, 3, 4, 5, 6] rfl)
          · have hhc_14 := n_eq (rfl : r_7.toInt = r_7.toInt) (rfl : r_13.toInt = r_13.toInt) hc_14
            refine lv_iload hx hb dX10_daysOfOneTime_44 (lv_at hl 2 rfl) ?_
            refine lv_iconst (v := 1) hx hb dX10_daysOfOneTime_46 (by decide) ?_
            refine lv_iload hx hb dX10_daysOfOneTime_47 (lv_at hl 1 rfl) ?_
            refine lv_ishl hx hb dX10_daysOfOneTime_49 ?_
            refine lv_topi (fun z_15 ez_15 => ?_)
            refine lv_ior hx hb dX10_daysOfOneTime_50 ?_
            refine lv_topi (fun z_16 ez_16 => ?_)
            refine lv_istore (lv' := [(4, .int z_16), (6, .int r_7), (5, .int v6_5), (0, .ref (ad w)), (1, .ref (ad 3)), (2, .int ev), (3, .int eo)]) hx hb dX10_daysOfOneTime_51 hl (by decide) rfl (fun ls hl => ?_)
            exact HJ53 z_16 _ _ ls hP hS (lv_sub hl [2, 0, 3, 4, 5, 6] rfl)
  have hiv6_5 : (0 : Int32).toInt = 0 := by decide
  have hiv6_4 : (0 : Int32).toInt = 0 := by decide
  exact HL6 _ 0 0 _ _ ls (Nat.lt_succ_self _) (by omega) hP hS (lv_sub hl [0, 1, 2, 3, 4, 5] rfl)

theorem dX10_lateness_0 : decode cX10_lateness 0 = .ok (.iconst 0, 1) := by decide +kernel
theorem dX10_lateness_1 : decode cX10_lateness 1 = .ok (.istore_n 3, 1) := by decide +kernel
theorem dX10_lateness_2 : decode cX10_lateness 2 = .ok (.iload_n 3, 1) := by decide +kernel
theorem dX10_lateness_3 : decode cX10_lateness 3 = .ok (.aload_n 1, 1) := by decide +kernel
theorem dX10_lateness_4 : decode cX10_lateness 4 = .ok (.getfield 22, 3) := by decide +kernel
theorem dX10_lateness_7 : decode cX10_lateness 7 = .ok (.if_icmp .ge 53, 3) := by decide +kernel
theorem dX10_lateness_10 : decode cX10_lateness 10 = .ok (.aload_n 1, 1) := by decide +kernel
theorem dX10_lateness_11 : decode cX10_lateness 11 = .ok (.getfield 63, 3) := by decide +kernel
theorem dX10_lateness_14 : decode cX10_lateness 14 = .ok (.iload_n 3, 1) := by decide +kernel
theorem dX10_lateness_15 : decode cX10_lateness 15 = .ok (.iaload, 1) := by decide +kernel
theorem dX10_lateness_16 : decode cX10_lateness 16 = .ok (.aload_n 1, 1) := by decide +kernel
theorem dX10_lateness_17 : decode cX10_lateness 17 = .ok (.getfield 69, 3) := by decide +kernel
theorem dX10_lateness_20 : decode cX10_lateness 20 = .ok (.iload_n 2, 1) := by decide +kernel
theorem dX10_lateness_21 : decode cX10_lateness 21 = .ok (.iaload, 1) := by decide +kernel
theorem dX10_lateness_22 : decode cX10_lateness 22 = .ok (.if_icmp .ne 32, 3) := by decide +kernel
theorem dX10_lateness_25 : decode cX10_lateness 25 = .ok (.aload_n 0, 1) := by decide +kernel
theorem dX10_lateness_26 : decode cX10_lateness 26 = .ok (.getfield 18, 3) := by decide +kernel
theorem dX10_lateness_29 : decode cX10_lateness 29 = .ok (.iload_n 3, 1) := by decide +kernel
theorem dX10_lateness_30 : decode cX10_lateness 30 = .ok (.iaload, 1) := by decide +kernel
theorem dX10_lateness_31 : decode cX10_lateness 31 = .ok (.iconst (-1), 1) := by decide +kernel
theorem dX10_lateness_32 : decode cX10_lateness 32 = .ok (.if_icmp .ne 8, 3) := by decide +kernel
theorem dX10_lateness_35 : decode cX10_lateness 35 = .ok (.bipush 99, 2) := by decide +kernel
theorem dX10_lateness_37 : decode cX10_lateness 37 = .ok (.goto 16, 3) := by decide +kernel
theorem dX10_lateness_40 : decode cX10_lateness 40 = .ok (.aload_n 0, 1) := by decide +kernel
theorem dX10_lateness_41 : decode cX10_lateness 41 = .ok (.getfield 18, 3) := by decide +kernel
theorem dX10_lateness_44 : decode cX10_lateness 44 = .ok (.iload_n 3, 1) := by decide +kernel
theorem dX10_lateness_45 : decode cX10_lateness 45 = .ok (.iaload, 1) := by decide +kernel
theorem dX10_lateness_46 : decode cX10_lateness 46 = .ok (.aload_n 1, 1) := by decide +kernel
theorem dX10_lateness_47 : decode cX10_lateness 47 = .ok (.getfield 72, 3) := by decide +kernel
theorem dX10_lateness_50 : decode cX10_lateness 50 = .ok (.iload_n 2, 1) := by decide +kernel
theorem dX10_lateness_51 : decode cX10_lateness 51 = .ok (.iaload, 1) := by decide +kernel
theorem dX10_lateness_52 : decode cX10_lateness 52 = .ok (.isub, 1) := by decide +kernel
theorem dX10_lateness_53 : decode cX10_lateness 53 = .ok (.ireturn, 1) := by decide +kernel
theorem dX10_lateness_54 : decode cX10_lateness 54 = .ok (.iinc 3 1, 3) := by decide +kernel
theorem dX10_lateness_57 : decode cX10_lateness 57 = .ok (.goto (-55), 3) := by decide +kernel
theorem dX10_lateness_60 : decode cX10_lateness 60 = .ok (.bipush 99, 2) := by decide +kernel
theorem dX10_lateness_62 : decode cX10_lateness 62 = .ok (.ireturn, 1) := by decide +kernel
noncomputable def vX10_lateness : List Cond := .code yX10_lateness cX10_lateness 4 (some .int) :: (([.fieldLink RX10 22 "IcicleClock$Street" "icicles" "I", .fieldLink RX10 63 "IcicleClock$Street" "hourOf" "[I", .fieldLink RX10 69 "IcicleClock$Street" "dueHour" "[I", .fieldLink RX10 18 "IcicleClock$Winter" "fall" "[I", .fieldLink RX10 72 "IcicleClock$Street" "dueDay" "[I"] : List Cond) ++ (wsX60 ++ wsX100))
theorem iX10_lateness_6 : ∀ w ∈ wsX60, w ∈ vX10_lateness := fun _ h => List.mem_cons_of_mem _ (List.mem_append_right _ (List.mem_append_left _ h))
theorem iX10_lateness_10 : ∀ w ∈ wsX100, w ∈ vX10_lateness := fun _ h => List.mem_cons_of_mem _ (List.mem_append_right _ (List.mem_append_right _ (h)))
theorem gs_X10_lateness : Gd vX10_lateness := Gd.cons (by decide +kernel) (Gd.app (Gd.r (by decide +kernel)) (Gd.app gwX_6 gwX_10))
set_option maxHeartbeats 4000000 in
set_option maxRecDepth 100000 in
theorem s_X10_lateness (l : Launch) (D : va_G) (cs : Nat → ClassId) (ad : Nat → Nat) (kS : kSt) (K : sK) (hKO : KO K) (hj : wJ ad 218) (g : Nat → va_E) (hW : WF (shp ad K) ad cs g) (w : Nat) (wk : Int32) (hp0 : w = 114 ∨ w = 116) (hp1 : 0 ≤ wk.toInt ∧ wk.toInt ≤ 5) : sI l yX10_lateness vX10_lateness { frames := 0, cells := 0, slots := 0, locals := 0 } D cs ad kS [.ref (ad w), .ref (ad 3), .int wk] g (fun r g2 => g2 = g) := by
  refine Met.startS (cc := cX10_lateness) (maxL := 4) (ret := (some .int)) RX10 rfl (by decide) rfl (Nat.le_of_ble_eq_true rfl) ?_
  intro p e s m below meth c ls X Z hP hl
  have hx := X.1
  have hb := X.2.1
  have hS : va_S (wA ad 218) s.heap s.heap [] := va_S.rf
  have hA : ∀ i, i < 218 → wA ad 218 (ad i) := fun i h => ⟨i, h, rfl⟩
  have hw_w := hp0
  have hl : lv_has ls 4 [(0, .ref (ad w)), (1, .ref (ad 3)), (2, .int wk)] := hl
  refine lv_iconst (v := 0) hx hb dX10_lateness_0 (by decide) ?_
  refine lv_istore_n (lv' := [(3, .int 0), (0, .ref (ad w)), (1, .ref (ad 3)), (2, .int wk)]) hx hb dX10_lateness_1 rfl hl (by decide) rfl (fun ls hl => ?_)
  have HL2 : ∀ (n2 : Nat) (v2_3 : Int32) (H : Heap) (locs : List Loc) (ls : Array Slot), (8 - v2_3.toInt).toNat < n2 → (0 ≤ v2_3.toInt ∧ v2_3.toInt ≤ 8) → va_P D vwCl (wL ad g 218) H → va_S (wA ad 218) s.heap H locs → lv_has ls 4 [(3, .int v2_3), (0, .ref (ad w)), (1, .ref (ad 3)), (2, .int wk)] → W p l e ({ frames := 0, cells := 0, slots := 0, locals := 0 } : Room) s m ([.ref (ad w), .ref (ad 3), .int wk] : List Value).toArray below meth c H locs 0 0 (MQ below (qI D ad 218 (fun r g2 => g2 = g)) ([.ref (ad w), .ref (ad 3), .int wk] : List Value).toArray s 0 0 (wA ad 218)) (F0 m 2 ls []) := by
    intro n2
    induction n2 with
    | zero =>
      intro v2_3 H locs ls hm2 hv2_0 hP hS hl
      exact absurd hm2 (Nat.not_lt_zero _)
    | succ n2 ih2 =>
      intro v2_3 H locs ls hm2 hv2_0 hP hS hl
      refine lv_iload_n hx hb dX10_lateness_2 rfl (lv_at hl 0 rfl) ?_
      refine lv_aload_n hx hb dX10_lateness_3 rfl (lv_at hl 2 rfl) ?_
      obtain ⟨fsc_1, hgc_1, hOc_1⟩ := hW.obj (i := 3) (by decide) (sh_3 ad K)
      obtain ⟨x_3, hk_2, hlx_3, hhx_3⟩ := hOc_1.int 5 rfl
      refine q_get X iX10_lateness_6 hP (by decide) hgc_1 rfl 5 (by decide) (List.mem_of_getElem? (i := 1) rfl) (v := .int x_3) hk_2 dX10_lateness_4 ?_
      refine lv_icmp_ge (tgt := 60) hx hb dX10_lateness_7 (by decide) (fun hc_4 => ?_) (fun hc_4 => ?_)
      · have hhc_4 := n_le (rfl : x_3.toInt = x_3.toInt) (rfl : v2_3.toInt = v2_3.toInt) hc_4
        refine lv_bipush (v := 99) hx hb dX10_lateness_60 (by decide) ?_
        exact q_iret X hP hS rfl dX10_lateness_62
      · have hhc_4 := n_nle (rfl : x_3.toInt = x_3.toInt) (rfl : v2_3.toInt = v2_3.toInt) hc_4
        refine lv_aload_n hx hb dX10_lateness_10 rfl (lv_at hl 2 rfl) ?_
        have hk_5 := hOc_1.ref 14 rfl
        refine q_get X iX10_lateness_6 hP (by decide) hgc_1 rfl 14 (by decide) (List.mem_of_getElem? (i := 2) rfl) (v := .ref (ad 10)) hk_5 dX10_lateness_11 ?_
        refine lv_iload_n hx hb dX10_lateness_14 rfl (lv_at hl 0 rfl) ?_
        obtain ⟨fc_6, hgc_6, hFc_6⟩ := hW.arr (i := 10) (by decide) (sh_10 ad K)
        refine q_iald X hP (by decide) hgc_6 (n_in (rfl : v2_3.toInt = v2_3.toInt) (by omega) (by omega)) dX10_lateness_15 ?_
        refine lv_topi (fun z_7 ez_7 => ?_)
        refine lv_aload_n hx hb dX10_lateness_16 rfl (lv_at hl 2 rfl) ?_
        have hk_8 := hOc_1.ref 15 rfl
        refine q_get X iX10_lateness_6 hP (by decide) hgc_1 rfl 15 (by decide) (List.mem_of_getElem? (i := 3) rfl) (v := .ref (ad 11)) hk_8 dX10_lateness_17 ?_
        refine lv_iload_n hx hb dX10_lateness_20 rfl (lv_at hl 3 rfl) ?_
        obtain ⟨fc_9, hgc_9, hFc_9⟩ := hW.arr (i := 11) (by decide) (sh_11 ad K)
        refine q_iald X hP (by decide) hgc_9 (n_in (rfl : wk.toInt = wk.toInt) (by omega) (by omega)) dX10_lateness_21 ?_
        refine lv_topi (fun z_10 ez_10 => ?_)
        refine lv_icmp_ne (tgt := 54) hx hb dX10_lateness_22 (by decide) (fun hc_11 => ?_) (fun hc_11 => ?_)
        · have hhc_11 := n_ne (rfl : z_7.toInt = z_7.toInt) (rfl : z_10.toInt = z_10.toInt) hc_11
          obtain ⟨x_12, ex_12⟩ : ∃ y : Int32, y = v2_3 + 1 := ⟨_, rfl⟩
          have hx_12 : x_12.toInt = v2_3.toInt + 1 := n_add rfl (by decide : (1 : Int32).toInt = 1) ex_12 (by omega) (by omega)
          refine lv_iinc (v := x_12) (lv' := [(3, .int x_12), (0, .ref (ad w)), (1, .ref (ad 3)), (2, .int wk)]) hx hb dX10_lateness_54 hl (k := 0) rfl (by rw [ex_12]; rfl) (by decide) rfl (fun ls hl => ?_)
          refine lv_goto (tgt := 2) hx hb dX10_lateness_57 (by decide) ?_
          exact ih2 x_12 _ _ ls (by omega) (by omega) hP hS (lv_sub hl [0, 1, 2, 3] rfl)
        · have hhc_11 := n_eq (rfl : z_7.toInt = z_7.toInt) (rfl : z_10.toInt = z_10.toInt) hc_11
          refine lv_aload_n hx hb dX10_lateness_25 rfl (lv_at hl 1 rfl) ?_
          obtain ⟨fsc_13, hgc_13, hOc_13⟩ := hW.obj (i := w) (by omega) (shW_0 ad K hw_w)
          have hk_14 := hOc_13.ref 3 rfl
          refine q_get X iX10_lateness_10 hP (by omega) hgc_13 rfl 3 (by decide) (List.mem_of_getElem? (i := 4) rfl) (v := .ref (ad (w + 1))) hk_14 dX10_lateness_26 ?_
          refine lv_iload_n hx hb dX10_lateness_29 rfl (lv_at hl 0 rfl) ?_
          obtain ⟨fc_15, hgc_15, hFc_15⟩ := hW.arr (i := (w + 1)) (by omega) (shW_1 ad K hw_w)
          refine q_iald X hP (by omega) hgc_15 (n_in (rfl : v2_3.toInt = v2_3.toInt) (by omega) (by omega)) dX10_lateness_30 ?_
          refine lv_topi (fun z_16 ez_16 => ?_)
          have hz_16 : (-1) ≤ z_16.toInt ∧ z_16.toInt ≤ 13 := ez_16 ▸ hFc_15 _
          refine lv_iconst (v := (-1)) hx hb dX10_lateness_31 (by decide) ?_
          refine lv_icmp_ne (tgt := 40) hx hb dX10_lateness_32 (by decide) (fun hc_17 => ?_) (fun hc_17 => ?_)
          · have hhc_17 := n_ne (rfl : z_16.toInt = z_16.toInt) (by decide : (-1 : Int32).toInt = -1) hc_17
            refine lv_aload_n hx hb dX10_lateness_40 rfl (lv_at hl 1 rfl) ?_
            refine q_get X iX10_lateness_10 hP (by omega) hgc_13 rfl 3 (by decide) (List.mem_of_getElem? (i := 4) rfl) (v := .ref (ad (w + 1))) hk_14 dX10_lateness_41 ?_
            refine lv_iload_n hx hb dX10_lateness_44 rfl (lv_at hl 0 rfl) ?_
            refine q_iald X hP (by omega) hgc_15 (n_in (rfl : v2_3.toInt = v2_3.toInt) (by omega) (by omega)) dX10_lateness_45 ?_
            refine lv_topi (fun z_18 ez_18 => ?_)
            have hz_18 : (-1) ≤ z_18.toInt ∧ z_18.toInt ≤ 13 := ez_18 ▸ hFc_15 _
            have hsz_18 : z_18.toInt = z_16.toInt := by rw [ez_18, ez_16]
            refine lv_aload_n hx hb dX10_lateness_46 rfl (lv_at hl 2 rfl) ?_
            have hk_19 := hOc_1.ref 16 rfl
            refine q_get X iX10_lateness_6 hP (by decide) hgc_1 rfl 16 (by decide) (List.mem_of_getElem? (i := 5) rfl) (v := .ref (ad 12)) hk_19 dX10_lateness_47 ?_
            refine lv_iload_n hx hb dX10_lateness_50 rfl (lv_at hl 3 rfl) ?_
            obtain ⟨fc_20, hgc_20, hFc_20⟩ := hW.arr (i := 12) (by decide) (sh_12 ad K)
            refine q_iald X hP (by decide) hgc_20 (n_in (rfl : wk.toInt = wk.toInt) (by omega) (by omega)) dX10_lateness_51 ?_
            refine lv_topi (fun z_21 ez_21 => ?_)
            refine lv_isub hx hb dX10_lateness_52 ?_
            refine lv_topi (fun z_22 ez_22 => ?_)
            exact q_iret X hP hS rfl dX10_lateness_53
          · have hhc_17 := n_eq (rfl : z_16.toInt = z_16.toInt) (by decide : (-1 : Int32).toInt = -1) hc_17
            refine lv_bipush (v := 99) hx hb dX10_lateness_35 (by decide) ?_
            refine lv_goto (tgt := 53) hx hb dX10_lateness_37 (by decide) ?_
            exact q_iret X hP hS rfl dX10_lateness_53
  have hiv2_3 : (0 : Int32).toInt = 0 := by decide
  exact HL2 _ 0 _ _ ls (Nat.lt_succ_self _) (by omega) hP hS (lv_sub hl [0, 1, 2, 3] rfl)

theorem dX10_offTogether_0 : decode cX10_offTogether 0 = .ok (.iconst 0, 1) := by decide +kernel
theorem dX10_offTogether_1 : decode cX10_offTogether 1 = .ok (.istore_n 2, 1) := by decide +kernel
theorem dX10_offTogether_2 : decode cX10_offTogether 2 = .ok (.iconst 0, 1) := by decide +kernel
theorem dX10_offTogether_3 : decode cX10_offTogether 3 = .ok (.istore_n 3, 1) := by decide +kernel
theorem dX10_offTogether_4 : decode cX10_offTogether 4 = .ok (.iload_n 3, 1) := by decide +kernel
theorem dX10_offTogether_5 : decode cX10_offTogether 5 = .ok (.aload_n 1, 1) := by decide +kernel
theorem dX10_offTogether_6 : decode cX10_offTogether 6 = .ok (.getfield 75, 3) := by decide +kernel
theorem dX10_offTogether_9 : decode cX10_offTogether 9 = .ok (.if_icmp .ge 21, 3) := by decide +kernel
theorem dX10_offTogether_12 : decode cX10_offTogether 12 = .ok (.iload_n 2, 1) := by decide +kernel
theorem dX10_offTogether_13 : decode cX10_offTogether 13 = .ok (.aload_n 0, 1) := by decide +kernel
theorem dX10_offTogether_14 : decode cX10_offTogether 14 = .ok (.aload_n 1, 1) := by decide +kernel
theorem dX10_offTogether_15 : decode cX10_offTogether 15 = .ok (.iload_n 3, 1) := by decide +kernel
theorem dX10_offTogether_16 : decode cX10_offTogether 16 = .ok (.invokevirtual 78, 3) := by decide +kernel
theorem dX10_offTogether_19 : decode cX10_offTogether 19 = .ok (.invokestatic 82, 3) := by decide +kernel
theorem dX10_offTogether_22 : decode cX10_offTogether 22 = .ok (.iadd, 1) := by decide +kernel
theorem dX10_offTogether_23 : decode cX10_offTogether 23 = .ok (.istore_n 2, 1) := by decide +kernel
theorem dX10_offTogether_24 : decode cX10_offTogether 24 = .ok (.iinc 3 1, 3) := by decide +kernel
theorem dX10_offTogether_27 : decode cX10_offTogether 27 = .ok (.goto (-23), 3) := by decide +kernel
theorem dX10_offTogether_30 : decode cX10_offTogether 30 = .ok (.iload_n 2, 1) := by decide +kernel
theorem dX10_offTogether_31 : decode cX10_offTogether 31 = .ok (.ireturn, 1) := by decide +kernel
noncomputable def vX10_offTogether : List Cond := .code yX10_offTogether cX10_offTogether 4 (some .int) :: (([.fieldLink RX10 75 "IcicleClock$Street" "works" "I", .methodLink RX10 78 yX10_lateness, .instanceMethod yX10_lateness, .selects RX10 yX10_lateness yX10_lateness, .initialized RX10, .methodLink RX10 82 Lib.Math.abs.name, .static Lib.Math.abs.name, .initialized "java/lang/Math", .code Lib.Math.abs.name Lib.Math.abs.code 1 (some .int)] : List Cond) ++ (wsX60 ++ vX10_lateness))
theorem iX10_offTogether_6 : ∀ w ∈ wsX60, w ∈ vX10_offTogether := fun _ h => List.mem_cons_of_mem _ (List.mem_append_right _ (List.mem_append_left _ h))
theorem gs_X10_offTogether : Gd vX10_offTogether := Gd.cons (by decide +kernel) (Gd.app (Gd.r (by decide +kernel)) (Gd.app gwX_6 gs_X10_lateness))
theorem gg_X10_offTogether_X10_lateness : GoodIn vX10_offTogether (wsV RX10 78 RX10 yX10_lateness vX10_lateness) := goodIn_app (goodIn_r _ [2, 3, 4, 5] (by decide +kernel) (by decide +kernel)) (fun w h => ⟨List.mem_cons_of_mem _ (List.mem_append_right _ (List.mem_append_right _ (h))), gs_X10_lateness w h⟩)
set_option maxHeartbeats 4000000 in
set_option maxRecDepth 100000 in
theorem s_X10_offTogether (l : Launch) (D : va_G) (cs : Nat → ClassId) (ad : Nat → Nat) (kS : kSt) (K : sK) (hKO : KO K) (hj : wJ ad 218) (g : Nat → va_E) (hW : WF (shp ad K) ad cs g) (w : Nat) (hp0 : w = 114 ∨ w = 116) : sI l yX10_offTogether vX10_offTogether { frames := 1, cells := 0, slots := 0, locals := 23 } D cs ad kS [.ref (ad w), .ref (ad 3)] g (fun r g2 => g2 = g) := by
  refine Met.startS (cc := cX10_offTogether) (maxL := 4) (ret := (some .int)) RX10 rfl (by decide) rfl (Nat.le_of_ble_eq_true rfl) ?_
  intro p e s m below meth c ls X Z hP hl
  have hx := X.1
  have hb := X.2.1
  have hS : va_S (wA ad 218) s.heap s.heap [] := va_S.rf
  have hA : ∀ i, i < 218 → wA ad 218 (ad i) := fun i h => ⟨i, h, rfl⟩
  have hw_w := hp0
  have hl : lv_has ls 4 [(0, .ref (ad w)), (1, .ref (ad 3))] := hl
  refine lv_iconst (v := 0) hx hb dX10_offTogether_0 (by decide) ?_
  refine lv_istore_n (lv' := [(2, .int 0), (0, .ref (ad w)), (1, .ref (ad 3))]) hx hb dX10_offTogether_1 rfl hl (by decide) rfl (fun ls hl => ?_)
  refine lv_iconst (v := 0) hx hb dX10_offTogether_2 (by decide) ?_
  refine lv_istore_n (lv' := [(3, .int 0), (2, .int 0), (0, .ref (ad w)), (1, .ref (ad 3))]) hx hb dX10_offTogether_3 rfl hl (by decide) rfl (fun ls hl => ?_)
  have HL4 : ∀ (n4 : Nat) (v4_3 : Int32) (v4_2 : Int32) (H : Heap) (locs : List Loc) (ls : Array Slot), (6 - v4_3.toInt).toNat < n4 → (0 ≤ v4_3.toInt ∧ v4_3.toInt ≤ 6) → va_P D vwCl (wL ad g 218) H → va_S (wA ad 218) s.heap H locs → lv_has ls 4 [(3, .int v4_3), (2, .int v4_2), (0, .ref (ad w)), (1, .ref (ad 3))] → W p l e ({ frames := 1, cells := 0, slots := 0, locals := 23 } : Room) s m ([.ref (ad w), .ref (ad 3)] : List Value).toArray below meth c H locs 0 0 (MQ below (qI D ad 218 (fun r g2 => g2 = g)) ([.ref (ad w), .ref (ad 3)] : List Value).toArray s 0 0 (wA ad 218)) (F0 m 4 ls []) := by
    intro n4
    induction n4 with
    | zero =>
      intro v4_3 v4_2 H locs ls hm4 hv4_0 hP hS hl
      exact absurd hm4 (Nat.not_lt_zero _)
    | succ n4 ih4 =>
      intro v4_3 v4_2 H locs ls hm4 hv4_0 hP hS hl
      refine lv_iload_n hx hb dX10_offTogether_4 rfl (lv_at hl 0 rfl) ?_
      refine lv_aload_n hx hb dX10_offTogether_5 rfl (lv_at hl 3 rfl) ?_
      obtain ⟨fsc_1, hgc_1, hOc_1⟩ := hW.obj (i := 3) (by decide) (sh_3 ad K)
      obtain ⟨x_3, hk_2, hlx_3, hhx_3⟩ := hOc_1.int 6 rfl
      refine q_get X iX10_offTogether_6 hP (by decide) hgc_1 rfl 6 (by decide) (List.mem_of_getElem? (i := 1) rfl) (v := .int x_3) hk_2 dX10_offTogether_6 ?_
      refine lv_icmp_ge (tgt := 30) hx hb dX10_offTogether_9 (by decide) (fun hc_4 => ?_) (fun hc_4 => ?_)
      · have hhc_4 := n_le (rfl : x_3.toInt = x_3.toInt) (rfl : v4_3.toInt = v4_3.toInt) hc_4
        refine lv_iload_n hx hb dX10_offTogether_30 rfl (lv_at hl 1 rfl) ?_
        exact q_iret X hP hS rfl dX10_offTogether_31
      · have hhc_4 := n_nle (rfl : x_3.toInt = x_3.toInt) (rfl : v4_3.toInt = v4_3.toInt) hc_4
        refine lv_iload_n hx hb dX10_offTogether_12 rfl (lv_at hl 1 rfl) ?_
        refine lv_aload_n hx hb dX10_offTogether_13 rfl (lv_at hl 2 rfl) ?_
        refine lv_aload_n hx hb dX10_offTogether_14 rfl (lv_at hl 3 rfl) ?_
        refine lv_iload_n hx hb dX10_offTogether_15 rfl (lv_at hl 0 rfl) ?_
        obtain ⟨fsc_8, hgc_8, hOc_8⟩ := hW.obj (i := w) (by omega) (shW_0 ad K hw_w)
        refine s_calli (q := (RX10, TX10, 4)) (As := [.ref (ad 3), .int v4_3]) (rest := [.int v4_2]) X Z (s_X10_lateness l D cs ad kS K hKO hj g hW w v4_3 (by omega) (by omega)) (cwV 2 X.2.2.2.2.1 gg_X10_offTogether_X10_lateness rfl rfl rfl (by decide +kernel) ⟨Nat.le_of_ble_eq_true rfl, Nat.le_of_ble_eq_true rfl⟩) (by omega) hgc_8 rfl hP hA hS.2.1 hS rfl hl.1 rfl (Nat.le_of_ble_eq_true rfl) dX10_offTogether_16 ⟨Nat.le_of_ble_eq_true rfl, Nat.le_of_ble_eq_true rfl⟩ (fun r_7 g_6 H locs hw_5 hP hS => ?_)
        rw [hw_5] at hP
        refine va_mabs hx hb (X.2.2.2.1.trans hl.1.symm) X.2.2.2.2.2.1 (X.2.2.2.2.1 _ (List.mem_of_getElem? (i := 6) rfl)) (X.2.2.2.2.1 _ (List.mem_of_getElem? (i := 7) rfl)) (X.2.2.2.2.1 _ (List.mem_of_getElem? (i := 8) rfl)) (X.2.2.2.2.1 _ (List.mem_of_getElem? (i := 9) rfl)) (Nat.le_of_ble_eq_true rfl) (Nat.le_of_ble_eq_true rfl) (Nat.le_of_ble_eq_true rfl) (Nat.le_of_ble_eq_true rfl) dX10_offTogether_19 ?_
        refine lv_topi (fun z_9 ez_9 => ?_)
        refine lv_iadd hx hb dX10_offTogether_22 ?_
        refine lv_topi (fun z_10 ez_10 => ?_)
        refine lv_istore_n (lv' := [(2, .int z_10), (3, .int v4_3), (0, .ref (ad w)), (1, .ref (ad 3))]) hx hb dX10_offTogether_23 rfl hl (by decide) rfl (fun ls hl => ?_)
        obtain ⟨x_11, ex_11⟩ : ∃ y : Int32, y = v4_3 + 1 := ⟨_, rfl⟩
        have hx_11 : x_11.toInt = v4_3.toInt + 1 := n_add rfl (by decide : (1 : Int32).toInt = 1) ex_11 (by omega) (by omega)
        refine lv_iinc (v := x_11) (lv' := [(3, .int x_11), (2, .int z_10), (0, .ref (ad w)), (1, .ref (ad 3))]) hx hb dX10_offTogether_24 hl (k := 1) rfl (by rw [ex_11]; rfl) (by decide) rfl (fun ls hl => ?_)
        refine lv_goto (tgt := 4) hx hb dX10_offTogether_27 (by decide) ?_
        exact ih4 x_11 z_10 _ _ ls (by omega) (by omega) hP hS (lv_sub hl [0, 1, 2, 3] rfl)
  have hiv4_3 : (0 : Int32).toInt = 0 := by decide
  have hiv4_2 : (0 : Int32).toInt = 0 := by decide
  exact HL4 _ 0 0 _ _ ls (Nat.lt_succ_self _) (by omega) hP hS (lv_sub hl [0, 1, 2, 3] rfl)
