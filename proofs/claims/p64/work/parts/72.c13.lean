theorem dX7_kindOf_0 : decode cX7_kindOf 0 = .ok (.iload_n 0, 1) := by decide +kernel
theorem dX7_kindOf_1 : decode cX7_kindOf 1 = .ok (.bipush 32, 2) := by decide +kernel
theorem dX7_kindOf_3 : decode cX7_kindOf 3 = .ok (.if_icmp .eq 9, 3) := by decide +kernel
theorem dX7_kindOf_6 : decode cX7_kindOf 6 = .ok (.iload_n 0, 1) := by decide +kernel
theorem dX7_kindOf_7 : decode cX7_kindOf 7 = .ok (.bipush 10, 2) := by decide +kernel
theorem dX7_kindOf_9 : decode cX7_kindOf 9 = .ok (.if_icmp .ne 5, 3) := by decide +kernel
theorem dX7_kindOf_14 : decode cX7_kindOf 14 = .ok (.iload_n 0, 1) := by decide +kernel
theorem dX7_kindOf_15 : decode cX7_kindOf 15 = .ok (.bipush 97, 2) := by decide +kernel
theorem dX7_kindOf_17 : decode cX7_kindOf 17 = .ok (.if_icmp .lt 11, 3) := by decide +kernel
theorem dX7_kindOf_20 : decode cX7_kindOf 20 = .ok (.iload_n 0, 1) := by decide +kernel
theorem dX7_kindOf_21 : decode cX7_kindOf 21 = .ok (.bipush 122, 2) := by decide +kernel
theorem dX7_kindOf_23 : decode cX7_kindOf 23 = .ok (.if_icmp .gt 5, 3) := by decide +kernel
theorem dX7_kindOf_26 : decode cX7_kindOf 26 = .ok (.iconst 1, 1) := by decide +kernel
theorem dX7_kindOf_27 : decode cX7_kindOf 27 = .ok (.ireturn, 1) := by decide +kernel
theorem dX7_kindOf_28 : decode cX7_kindOf 28 = .ok (.iload_n 0, 1) := by decide +kernel
theorem dX7_kindOf_29 : decode cX7_kindOf 29 = .ok (.bipush 48, 2) := by decide +kernel
theorem dX7_kindOf_31 : decode cX7_kindOf 31 = .ok (.if_icmp .lt 11, 3) := by decide +kernel
theorem dX7_kindOf_34 : decode cX7_kindOf 34 = .ok (.iload_n 0, 1) := by decide +kernel
theorem dX7_kindOf_35 : decode cX7_kindOf 35 = .ok (.bipush 57, 2) := by decide +kernel
theorem dX7_kindOf_37 : decode cX7_kindOf 37 = .ok (.if_icmp .gt 5, 3) := by decide +kernel
theorem dX7_kindOf_40 : decode cX7_kindOf 40 = .ok (.iconst 2, 1) := by decide +kernel
theorem dX7_kindOf_41 : decode cX7_kindOf 41 = .ok (.ireturn, 1) := by decide +kernel
theorem dX7_kindOf_42 : decode cX7_kindOf 42 = .ok (.iload_n 0, 1) := by decide +kernel
theorem dX7_kindOf_43 : decode cX7_kindOf 43 = .ok (.bipush 59, 2) := by decide +kernel
theorem dX7_kindOf_45 : decode cX7_kindOf 45 = .ok (.if_icmp .ne 7, 3) := by decide +kernel
theorem dX7_kindOf_48 : decode cX7_kindOf 48 = .ok (.iconst 3, 1) := by decide +kernel
theorem dX7_kindOf_49 : decode cX7_kindOf 49 = .ok (.goto 4, 3) := by decide +kernel
theorem dX7_kindOf_52 : decode cX7_kindOf 52 = .ok (.iconst 4, 1) := by decide +kernel
theorem dX7_kindOf_53 : decode cX7_kindOf 53 = .ok (.ireturn, 1) := by decide +kernel
theorem dX7_kindOf_12 : decode cX7_kindOf 12 = .ok (.iconst 5, 1) := by decide +kernel
theorem dX7_kindOf_13 : decode cX7_kindOf 13 = .ok (.ireturn, 1) := by decide +kernel
noncomputable def vX7_kindOf : List Cond := .code yX7_kindOf cX7_kindOf 1 (some .int) :: ([] : List Cond)
theorem gs_X7_kindOf : Gd vX7_kindOf := Gd.cons (by decide +kernel) (Gd.r (by decide +kernel))
set_option maxHeartbeats 4000000 in
set_option maxRecDepth 100000 in
theorem s_X7_kindOf (l : Launch) (D : va_G) (cs : Nat → ClassId) (ad : Nat → Nat) (kS : kSt) (K : sK) (hKO : KO K) (hj : wJ ad 218) (g : Nat → va_E) (hW : WF (shp ad K) ad cs g) (sg : Int32) : sI l yX7_kindOf vX7_kindOf { frames := 0, cells := 0, slots := 0, locals := 0 } D cs ad kS [.int sg] g (fun r g2 => g2 = g ∧ (1 ≤ r.toInt ∧ r.toInt ≤ 5)) := by
  refine Met.startS (cc := cX7_kindOf) (maxL := 1) (ret := (some .int)) RX7 rfl (by decide) rfl (Nat.le_of_ble_eq_true rfl) ?_
  intro p e s m below meth c ls X Z hP hl
  have hx := X.1
  have hb := X.2.1
  have hS : va_S (wA ad 218) s.heap s.heap [] := va_S.rf
  have hA : ∀ i, i < 218 → wA ad 218 (ad i) := fun i h => ⟨i, h, rfl⟩
  have hl : lv_has ls 1 [(0, .int sg)] := hl
  refine lv_iload_n hx hb dX7_kindOf_0 rfl (lv_at hl 0 rfl) ?_
  refine lv_bipush (v := 32) hx hb dX7_kindOf_1 (by decide) ?_
  have HJ12 : ∀ (H : Heap) (locs : List Loc) (ls : Array Slot), (10 ≤ sg.toInt ∧ sg.toInt ≤ 32) → va_P D vwCl (wL ad g 218) H → va_S (wA ad 218) s.heap H locs → lv_has ls 1 [] → W p l e ({ frames := 0, cells := 0, slots := 0, locals := 0 } : Room) s m ([.int sg] : List Value).toArray below meth c H locs 0 0 (MQ below (qI D ad 218 (fun r g2 => g2 = g ∧ (1 ≤ r.toInt ∧ r.toInt ≤ 5))) ([.int sg] : List Value).toArray s 0 0 (wA ad 218)) (F0 m 12 ls []) := by
    intro H locs ls hv12_0 hP hS hl
    refine lv_iconst (v := 5) hx hb dX7_kindOf_12 (by decide) ?_
    have hr0 : (5 : Int32).toInt = 5 := by decide
    exact q_iret X hP hS ⟨rfl, (by omega)⟩ dX7_kindOf_13
  refine lv_icmp_eq (tgt := 12) hx hb dX7_kindOf_3 (by decide) (fun hc_1 => ?_) (fun hc_1 => ?_)
  · have hhc_1 := n_eq (rfl : sg.toInt = sg.toInt) (by decide : (32 : Int32).toInt = 32) hc_1
    exact HJ12 _ _ ls (by omega) hP hS (lv_sub hl [] rfl)
  · have hhc_1 := n_ne (rfl : sg.toInt = sg.toInt) (by decide : (32 : Int32).toInt = 32) hc_1
    refine lv_iload_n hx hb dX7_kindOf_6 rfl (lv_at hl 0 rfl) ?_
    refine lv_bipush (v := 10) hx hb dX7_kindOf_7 (by decide) ?_
    refine lv_icmp_ne (tgt := 14) hx hb dX7_kindOf_9 (by decide) (fun hc_2 => ?_) (fun hc_2 => ?_)
    · have hhc_2 := n_ne (rfl : sg.toInt = sg.toInt) (by decide : (10 : Int32).toInt = 10) hc_2
      refine lv_iload_n hx hb dX7_kindOf_14 rfl (lv_at hl 0 rfl) ?_
      refine lv_bipush (v := 97) hx hb dX7_kindOf_15 (by decide) ?_
      have HJ28 : ∀ (H : Heap) (locs : List Loc) (ls : Array Slot), va_P D vwCl (wL ad g 218) H → va_S (wA ad 218) s.heap H locs → lv_has ls 1 [(0, .int sg)] → W p l e ({ frames := 0, cells := 0, slots := 0, locals := 0 } : Room) s m ([.int sg] : List Value).toArray below meth c H locs 0 0 (MQ below (qI D ad 218 (fun r g2 => g2 = g ∧ (1 ≤ r.toInt ∧ r.toInt ≤ 5))) ([.int sg] : List Value).toArray s 0 0 (wA ad 218)) (F0 m 28 ls []) := by
        intro H locs ls hP hS hl
        refine lv_iload_n hx hb dX7_kindOf_28 rfl (lv_at hl 0 rfl) ?_
        refine lv_bipush (v := 48) hx hb dX7_kindOf_29 (by decide) ?_
        have HJ42 : ∀ (H : Heap) (locs : List Loc) (ls : Array Slot), va_P D vwCl (wL ad g 218) H → va_S (wA ad 218) s.heap H locs → lv_has ls 1 [(0, .int sg)] → W p l e ({ frames := 0, cells := 0, slots := 0, locals := 0 } : Room) s m ([.int sg] : List Value).toArray below meth c H locs 0 0 (MQ below (qI D ad 218 (fun r g2 => g2 = g ∧ (1 ≤ r.toInt ∧ r.toInt ≤ 5))) ([.int sg] : List Value).toArray s 0 0 (wA ad 218)) (F0 m 42 ls []) := by
          intro H locs ls hP hS hl
          refine lv_iload_n hx hb dX7_kindOf_42 rfl (lv_at hl 0 rfl) ?_
          refine lv_bipush (v := 59) hx hb dX7_kindOf_43 (by decide) ?_
          refine lv_icmp_ne (tgt := 52) hx hb dX7_kindOf_45 (by decide) (fun hc_3 => ?_) (fun hc_3 => ?_)
          · have hhc_3 := n_ne (rfl : sg.toInt = sg.toInt) (by decide : (59 : Int32).toInt = 59) hc_3
            refine lv_iconst (v := 4) hx hb dX7_kindOf_52 (by decide) ?_
            have hr0 : (4 : Int32).toInt = 4 := by decide
            exact q_iret X hP hS ⟨rfl, (by omega)⟩ dX7_kindOf_53
          · have hhc_3 := n_eq (rfl : sg.toInt = sg.toInt) (by decide : (59 : Int32).toInt = 59) hc_3
            refine lv_iconst (v := 3) hx hb dX7_kindOf_48 (by decide) ?_
            refine lv_goto (tgt := 53) hx hb dX7_kindOf_49 (by decide) ?_
            have hr0 : (3 : Int32).toInt = 3 := by decide
            exact q_iret X hP hS ⟨rfl, (by omega)⟩ dX7_kindOf_53
        refine lv_icmp_lt (tgt := 42) hx hb dX7_kindOf_31 (by decide) (fun hc_4 => ?_) (fun hc_4 => ?_)
        · have hhc_4 := n_lt (rfl : sg.toInt = sg.toInt) (by decide : (48 : Int32).toInt = 48) hc_4
          exact HJ42 _ _ ls hP hS (lv_sub hl [0] rfl)
        · have hhc_4 := n_nlt (rfl : sg.toInt = sg.toInt) (by decide : (48 : Int32).toInt = 48) hc_4
          refine lv_iload_n hx hb dX7_kindOf_34 rfl (lv_at hl 0 rfl) ?_
          refine lv_bipush (v := 57) hx hb dX7_kindOf_35 (by decide) ?_
          refine lv_icmp_gt (tgt := 42) hx hb dX7_kindOf_37 (by decide) (fun hc_5 => ?_) (fun hc_5 => ?_)
          · have hhc_5 := n_lt (by decide : (57 : Int32).toInt = 57) (rfl : sg.toInt = sg.toInt) hc_5
            exact HJ42 _ _ ls hP hS (lv_sub hl [0] rfl)
          · have hhc_5 := n_nlt (by decide : (57 : Int32).toInt = 57) (rfl : sg.toInt = sg.toInt) hc_5
            refine lv_iconst (v := 2) hx hb dX7_kindOf_40 (by decide) ?_
            have hr0 : (2 : Int32).toInt = 2 := by decide
            exact q_iret X hP hS ⟨rfl, (by omega)⟩ dX7_kindOf_41
      refine lv_icmp_lt (tgt := 28) hx hb dX7_kindOf_17 (by decide) (fun hc_6 => ?_) (fun hc_6 => ?_)
      · have hhc_6 := n_lt (rfl : sg.toInt = sg.toInt) (by decide : (97 : Int32).toInt = 97) hc_6
        exact HJ28 _ _ ls hP hS (lv_sub hl [0] rfl)
      · have hhc_6 := n_nlt (rfl : sg.toInt = sg.toInt) (by decide : (97 : Int32).toInt = 97) hc_6
        refine lv_iload_n hx hb dX7_kindOf_20 rfl (lv_at hl 0 rfl) ?_
        refine lv_bipush (v := 122) hx hb dX7_kindOf_21 (by decide) ?_
        refine lv_icmp_gt (tgt := 28) hx hb dX7_kindOf_23 (by decide) (fun hc_7 => ?_) (fun hc_7 => ?_)
        · have hhc_7 := n_lt (by decide : (122 : Int32).toInt = 122) (rfl : sg.toInt = sg.toInt) hc_7
          exact HJ28 _ _ ls hP hS (lv_sub hl [0] rfl)
        · have hhc_7 := n_nlt (by decide : (122 : Int32).toInt = 122) (rfl : sg.toInt = sg.toInt) hc_7
          refine lv_iconst (v := 1) hx hb dX7_kindOf_26 (by decide) ?_
          have hr0 : (1 : Int32).toInt = 1 := by decide
          exact q_iret X hP hS ⟨rfl, (by omega)⟩ dX7_kindOf_27
    · have hhc_2 := n_eq (rfl : sg.toInt = sg.toInt) (by decide : (10 : Int32).toInt = 10) hc_2
      exact HJ12 _ _ ls (by omega) hP hS (lv_sub hl [] rfl)

theorem dX7_putFour_0 : decode cX7_putFour 0 = .ok (.bipush 24, 2) := by decide +kernel
theorem dX7_putFour_2 : decode cX7_putFour 2 = .ok (.istore_n 2, 1) := by decide +kernel
theorem dX7_putFour_3 : decode cX7_putFour 3 = .ok (.iload_n 2, 1) := by decide +kernel
theorem dX7_putFour_4 : decode cX7_putFour 4 = .ok (.ifCond .lt 42, 3) := by decide +kernel
theorem dX7_putFour_7 : decode cX7_putFour 7 = .ok (.aload_n 0, 1) := by decide +kernel
theorem dX7_putFour_8 : decode cX7_putFour 8 = .ok (.getfield 19, 3) := by decide +kernel
theorem dX7_putFour_11 : decode cX7_putFour 11 = .ok (.sipush 1000, 3) := by decide +kernel
theorem dX7_putFour_14 : decode cX7_putFour 14 = .ok (.if_icmp .ge 26, 3) := by decide +kernel
theorem dX7_putFour_17 : decode cX7_putFour 17 = .ok (.aload_n 0, 1) := by decide +kernel
theorem dX7_putFour_18 : decode cX7_putFour 18 = .ok (.getfield 9, 3) := by decide +kernel
theorem dX7_putFour_21 : decode cX7_putFour 21 = .ok (.aload_n 0, 1) := by decide +kernel
theorem dX7_putFour_22 : decode cX7_putFour 22 = .ok (.getfield 19, 3) := by decide +kernel
theorem dX7_putFour_25 : decode cX7_putFour 25 = .ok (.iload_n 1, 1) := by decide +kernel
theorem dX7_putFour_26 : decode cX7_putFour 26 = .ok (.iload_n 2, 1) := by decide +kernel
theorem dX7_putFour_27 : decode cX7_putFour 27 = .ok (.ishr, 1) := by decide +kernel
theorem dX7_putFour_28 : decode cX7_putFour 28 = .ok (.i2b, 1) := by decide +kernel
theorem dX7_putFour_29 : decode cX7_putFour 29 = .ok (.bastore, 1) := by decide +kernel
theorem dX7_putFour_30 : decode cX7_putFour 30 = .ok (.aload_n 0, 1) := by decide +kernel
theorem dX7_putFour_31 : decode cX7_putFour 31 = .ok (.dup, 1) := by decide +kernel
theorem dX7_putFour_32 : decode cX7_putFour 32 = .ok (.getfield 19, 3) := by decide +kernel
theorem dX7_putFour_35 : decode cX7_putFour 35 = .ok (.iconst 1, 1) := by decide +kernel
theorem dX7_putFour_36 : decode cX7_putFour 36 = .ok (.iadd, 1) := by decide +kernel
theorem dX7_putFour_37 : decode cX7_putFour 37 = .ok (.putfield 19, 3) := by decide +kernel
theorem dX7_putFour_40 : decode cX7_putFour 40 = .ok (.iinc 2 (-8), 3) := by decide +kernel
theorem dX7_putFour_43 : decode cX7_putFour 43 = .ok (.goto (-40), 3) := by decide +kernel
theorem dX7_putFour_46 : decode cX7_putFour 46 = .ok (.return_, 1) := by decide +kernel
noncomputable def vX7_putFour : List Cond := .code yX7_putFour cX7_putFour 3 none :: (([.fieldLink RX7 19 "IcicleClock$Tape" "filled" "I", .fieldLink RX7 9 "IcicleClock$Tape" "bytes" "[B"] : List Cond) ++ wsX70)
theorem iX7_putFour_7 : ∀ w ∈ wsX70, w ∈ vX7_putFour := fun _ h => List.mem_cons_of_mem _ (List.mem_append_right _ (h))
theorem gs_X7_putFour : Gd vX7_putFour := Gd.cons (by decide +kernel) (Gd.app (Gd.r (by decide +kernel)) gwX_7)
set_option maxHeartbeats 4000000 in
set_option maxRecDepth 100000 in
theorem s_X7_putFour (l : Launch) (D : va_G) (cs : Nat → ClassId) (ad : Nat → Nat) (kS : kSt) (K : sK) (hKO : KO K) (hj : wJ ad 218) (g : Nat → va_E) (hW : WF (shp ad K) ad cs g) (nu : Int32) : sV l yX7_putFour vX7_putFour { frames := 0, cells := 0, slots := 0, locals := 0 } D cs ad kS [.ref (ad 1), .int nu] g (fun g2 => WF (shp ad K) ad cs g2 ∧ (∀ j, j ≠ 1 ∧ j ≠ 2 → g2 j = g j)) := by
  refine Met.startS (cc := cX7_putFour) (maxL := 3) (ret := none) RX7 rfl (by decide) rfl (Nat.le_of_ble_eq_true rfl) ?_
  intro p e s m below meth c ls X Z hP hl
  have hx := X.1
  have hb := X.2.1
  have hS : va_S (wA ad 218) s.heap s.heap [] := va_S.rf
  have hA : ∀ i, i < 218 → wA ad 218 (ad i) := fun i h => ⟨i, h, rfl⟩
  have hfr : ∀ j, j ≠ 1 ∧ j ≠ 2 → g j = g j := fun _ _ => rfl
  have hl : lv_has ls 3 [(0, .ref (ad 1)), (1, .int nu)] := hl
  refine lv_bipush (v := 24) hx hb dX7_putFour_0 (by decide) ?_
  refine lv_istore_n (lv' := [(2, .int 24), (0, .ref (ad 1)), (1, .int nu)]) hx hb dX7_putFour_2 rfl hl (by decide) rfl (fun ls hl => ?_)
  have HL3 : ∀ (n3 : Nat) (v3_2 : Int32) (G3 : Nat → va_E) (H : Heap) (locs : List Loc) (ls : Array Slot), (v3_2.toInt - (-8)).toNat < n3 → ((-8) ≤ v3_2.toInt ∧ v3_2.toInt ≤ 24) → WF (shp ad K) ad cs G3 → (∀ j, j ≠ 1 ∧ j ≠ 2 → G3 j = g j) → va_P D vwCl (wL ad G3 218) H → va_S (wA ad 218) s.heap H locs → lv_has ls 3 [(2, .int v3_2), (0, .ref (ad 1)), (1, .int nu)] → W p l e ({ frames := 0, cells := 0, slots := 0, locals := 0 } : Room) s m ([.ref (ad 1), .int nu] : List Value).toArray below meth c H locs 0 0 (MQ below (qV D ad 218 (fun g2 => WF (shp ad K) ad cs g2 ∧ (∀ j, j ≠ 1 ∧ j ≠ 2 → g2 j = g j))) ([.ref (ad 1), .int nu] : List Value).toArray s 0 0 (wA ad 218)) (F0 m 3 ls []) := by
    intro n3
    induction n3 with
    | zero =>
      intro v3_2 G3 H locs ls hm3 hv3_0 hW3 hfr3 hP hS hl
      exact absurd hm3 (Nat.not_lt_zero _)
    | succ n3 ih3 =>
      intro v3_2 G3 H locs ls hm3 hv3_0 hW3 hfr3 hP hS hl
      refine lv_iload_n hx hb dX7_putFour_3 rfl (lv_at hl 0 rfl) ?_
      refine lv_if_lt (tgt := 46) hx hb dX7_putFour_4 (by decide) (fun hc_1 => ?_) (fun hc_1 => ?_)
      · have hhc_1 := n_lt (rfl : v3_2.toInt = v3_2.toInt) (by decide : (0 : Int32).toInt = 0) hc_1
        exact q_vret X hP hS ⟨hW3, hfr3⟩ dX7_putFour_46
      · have hhc_1 := n_nlt (rfl : v3_2.toInt = v3_2.toInt) (by decide : (0 : Int32).toInt = 0) hc_1
        refine lv_aload_n hx hb dX7_putFour_7 rfl (lv_at hl 1 rfl) ?_
        obtain ⟨fsc_2, hgc_2, hOc_2⟩ := hW3.obj (i := 1) (by decide) (sh_1 ad K)
        obtain ⟨x_4, hk_3, hlx_4, hhx_4⟩ := hOc_2.int 1 rfl
        refine q_get X iX7_putFour_7 hP (by decide) hgc_2 rfl 1 (by decide) (List.mem_of_getElem? (i := 1) rfl) (v := .int x_4) hk_3 dX7_putFour_8 ?_
        refine lv_sipush (v := 1000) hx hb dX7_putFour_11 (by decide) ?_
        have HJ40 : ∀ (G40 : Nat → va_E) (H : Heap) (locs : List Loc) (ls : Array Slot), WF (shp ad K) ad cs G40 → (∀ j, j ≠ 1 ∧ j ≠ 2 → G40 j = g j) → va_P D vwCl (wL ad G40 218) H → va_S (wA ad 218) s.heap H locs → lv_has ls 3 [(2, .int v3_2), (0, .ref (ad 1)), (1, .int nu)] → W p l e ({ frames := 0, cells := 0, slots := 0, locals := 0 } : Room) s m ([.ref (ad 1), .int nu] : List Value).toArray below meth c H locs 0 0 (MQ below (qV D ad 218 (fun g2 => WF (shp ad K) ad cs g2 ∧ (∀ j, j ≠ 1 ∧ j ≠ 2 → g2 j = g j))) ([.ref (ad 1), .int nu] : List Value).toArray s 0 0 (wA ad 218)) (F0 m 40 ls []) := by
          intro G40 H locs ls hW40 hfr40 hP hS hl
          obtain ⟨x_5, ex_5⟩ : ∃ y : Int32, y = v3_2 + (-8) := ⟨_, rfl⟩
          have hx_5 : x_5.toInt = v3_2.toInt + (-8) := n_add rfl (by decide : (-8 : Int32).toInt = -8) ex_5 (by omega) (by omega)
          refine lv_iinc (v := x_5) (lv' := [(2, .int x_5), (0, .ref (ad 1)), (1, .int nu)]) hx hb dX7_putFour_40 hl (k := 0) rfl (by rw [ex_5]; rfl) (by decide) rfl (fun ls hl => ?_)
          refine lv_goto (tgt := 3) hx hb dX7_putFour_43 (by decide) ?_
          exact ih3 x_5 G40 _ _ ls (by omega) (by omega) hW40 hfr40 hP hS (lv_sub hl [0, 1, 2] rfl)
        refine lv_icmp_ge (tgt := 40) hx hb dX7_putFour_14 (by decide) (fun hc_6 => ?_) (fun hc_6 => ?_)
        · have hhc_6 := n_le (by decide : (1000 : Int32).toInt = 1000) (rfl : x_4.toInt = x_4.toInt) hc_6
          exact HJ40 G3 _ _ ls hW3 hfr3 hP hS (lv_sub hl [0, 1, 2] rfl)
        · have hhc_6 := n_nle (by decide : (1000 : Int32).toInt = 1000) (rfl : x_4.toInt = x_4.toInt) hc_6
          refine lv_aload_n hx hb dX7_putFour_17 rfl (lv_at hl 1 rfl) ?_
          have hk_7 := hOc_2.ref 0 rfl
          refine q_get X iX7_putFour_7 hP (by decide) hgc_2 rfl 0 (by decide) (List.mem_of_getElem? (i := 2) rfl) (v := .ref (ad 2)) hk_7 dX7_putFour_18 ?_
          refine lv_aload_n hx hb dX7_putFour_21 rfl (lv_at hl 1 rfl) ?_
          refine q_get X iX7_putFour_7 hP (by decide) hgc_2 rfl 1 (by decide) (List.mem_of_getElem? (i := 1) rfl) (v := .int x_4) hk_3 dX7_putFour_22 ?_
          refine lv_iload_n hx hb dX7_putFour_25 rfl (lv_at hl 2 rfl) ?_
          refine lv_iload_n hx hb dX7_putFour_26 rfl (lv_at hl 0 rfl) ?_
          refine lv_ishr hx hb dX7_putFour_27 ?_
          refine lv_topi (fun z_8 ez_8 => ?_)
          refine lv_i2b hx hb dX7_putFour_28 rfl ?_
          refine lv_topi (fun z_9 ez_9 => ?_)
          obtain ⟨fc_10, hgc_10, hFc_10⟩ := hW3.arr (i := 2) (by decide) (sh_2 ad K)
          refine s_bast X hP hj hA hS (by decide) hgc_10 (n_in (rfl : x_4.toInt = x_4.toInt) (by omega) (by omega)) dX7_putFour_29 hW3 (sh_2 ad K) (hFc_10.put trivial) (fun fc_11 gc_11 H locs ec_11 hFc_11 hgc_11 hfc_11 hWc_11 hP hS => ?_)
          have hg_13 := (hfc_11 1 (by decide)).trans hgc_2
          have hfr_12 : ∀ j, j ≠ 1 ∧ j ≠ 2 → gc_11 j = g j := fun j hj => (hfc_11 j (by omega)).trans (hfr3 j hj)
          refine lv_aload_n hx hb dX7_putFour_30 rfl (lv_at hl 1 rfl) ?_
          refine lv_dup hx hb dX7_putFour_31 rfl ?_
          refine q_get X iX7_putFour_7 hP (by decide) hg_13 rfl 1 (by decide) (List.mem_of_getElem? (i := 1) rfl) (v := .int x_4) hk_3 dX7_putFour_32 ?_
          refine lv_iconst (v := 1) hx hb dX7_putFour_35 (by decide) ?_
          refine lv_iadd hx hb dX7_putFour_36 ?_
          refine lv_topi (fun z_14 ez_14 => ?_)
          have hz_14 : z_14.toInt = x_4.toInt + 1 := n_add (rfl : x_4.toInt = x_4.toInt) (by decide : (1 : Int32).toInt = 1) ez_14 (by omega) (by omega)
          refine s_put X iX7_putFour_7 tyX7 tyX7_ok nmX7 hP hj hA hS (by decide) hg_13 rfl 1 (by decide) (List.mem_of_getElem? (i := 1) rfl) rfl (ty := .int) (v := .int z_14) (by decide +kernel) rfl rfl dX7_putFour_37 hWc_11 (sh_1 ad K) hOc_2 rfl ⟨z_14, rfl, by omega, by omega⟩ (fun fsc_15 gc_15 H locs hOc_15 hkc_15 hnc_15 hgc_15 hfc_15 hWc_15 hP hS => ?_)
          have hk_16 := (hnc_15 0 (by decide)).trans hk_7
          have hg_18 := (hfc_15 2 (by decide)).trans hgc_11
          have hfr_17 : ∀ j, j ≠ 1 ∧ j ≠ 2 → gc_15 j = g j := fun j hj => (hfc_15 j (by omega)).trans (hfr_12 j hj)
          exact HJ40 gc_15 _ _ ls hWc_15 hfr_17 hP hS (lv_sub hl [0, 1, 2] rfl)
  have hiv3_2 : (24 : Int32).toInt = 24 := by decide
  exact HL3 _ 24 g _ _ ls (Nat.lt_succ_self _) (by omega) hW hfr hP hS (lv_sub hl [0, 1, 2] rfl)

theorem dX7_blame_0 : decode cX7_blame 0 = .ok (.aload_n 0, 1) := by decide +kernel
theorem dX7_blame_1 : decode cX7_blame 1 = .ok (.getfield 27, 3) := by decide +kernel
theorem dX7_blame_4 : decode cX7_blame 4 = .ok (.ifCond .ne 16, 3) := by decide +kernel
theorem dX7_blame_7 : decode cX7_blame 7 = .ok (.aload_n 0, 1) := by decide +kernel
theorem dX7_blame_8 : decode cX7_blame 8 = .ok (.iload_n 1, 1) := by decide +kernel
theorem dX7_blame_9 : decode cX7_blame 9 = .ok (.putfield 27, 3) := by decide +kernel
theorem dX7_blame_12 : decode cX7_blame 12 = .ok (.aload_n 0, 1) := by decide +kernel
theorem dX7_blame_13 : decode cX7_blame 13 = .ok (.aload_n 0, 1) := by decide +kernel
theorem dX7_blame_14 : decode cX7_blame 14 = .ok (.getfield 159, 3) := by decide +kernel
theorem dX7_blame_17 : decode cX7_blame 17 = .ok (.putfield 15, 3) := by decide +kernel
theorem dX7_blame_20 : decode cX7_blame 20 = .ok (.return_, 1) := by decide +kernel
noncomputable def vX7_blame : List Cond := .code yX7_blame cX7_blame 2 none :: (([.fieldLink RX7 27 "IcicleClock$Tape" "fault" "I", .fieldLink RX7 159 "IcicleClock$Tape" "start" "I", .fieldLink RX7 15 "IcicleClock$Tape" "faultPlace" "I"] : List Cond) ++ wsX70)
theorem iX7_blame_7 : ∀ w ∈ wsX70, w ∈ vX7_blame := fun _ h => List.mem_cons_of_mem _ (List.mem_append_right _ (h))
theorem gs_X7_blame : Gd vX7_blame := Gd.cons (by decide +kernel) (Gd.app (Gd.r (by decide +kernel)) gwX_7)
set_option maxHeartbeats 4000000 in
set_option maxRecDepth 100000 in
theorem s_X7_blame (l : Launch) (D : va_G) (cs : Nat → ClassId) (ad : Nat → Nat) (kS : kSt) (K : sK) (hKO : KO K) (hj : wJ ad 218) (g : Nat → va_E) (hW : WF (shp ad K) ad cs g) (wh : Int32) : sV l yX7_blame vX7_blame { frames := 0, cells := 0, slots := 0, locals := 0 } D cs ad kS [.ref (ad 1), .int wh] g (fun g2 => WF (shp ad K) ad cs g2 ∧ (∀ j, j ≠ 1 → g2 j = g j)) := by
  refine Met.startS (cc := cX7_blame) (maxL := 2) (ret := none) RX7 rfl (by decide) rfl (Nat.le_of_ble_eq_true rfl) ?_
  intro p e s m below meth c ls X Z hP hl
  have hx := X.1
  have hb := X.2.1
  have hS : va_S (wA ad 218) s.heap s.heap [] := va_S.rf
  have hA : ∀ i, i < 218 → wA ad 218 (ad i) := fun i h => ⟨i, h, rfl⟩
  have hfr : ∀ j, j ≠ 1 → g j = g j := fun _ _ => rfl
  have hl : lv_has ls 2 [(0, .ref (ad 1)), (1, .int wh)] := hl
  refine lv_aload_n hx hb dX7_blame_0 rfl (lv_at hl 0 rfl) ?_
  obtain ⟨fsc_1, hgc_1, hOc_1⟩ := hW.obj (i := 1) (by decide) (sh_1 ad K)
  obtain ⟨x_3, hk_2, -⟩ := hOc_1.int 2 rfl
  refine q_get X iX7_blame_7 hP (by decide) hgc_1 rfl 2 (by decide) (List.mem_of_getElem? (i := 1) rfl) (v := .int x_3) hk_2 dX7_blame_1 ?_
  have HJ20 : ∀ (G20 : Nat → va_E) (H : Heap) (locs : List Loc) (ls : Array Slot), WF (shp ad K) ad cs G20 → (∀ j, j ≠ 1 → G20 j = g j) → va_P D vwCl (wL ad G20 218) H → va_S (wA ad 218) s.heap H locs → lv_has ls 2 [] → W p l e ({ frames := 0, cells := 0, slots := 0, locals := 0 } : Room) s m ([.ref (ad 1), .int wh] : List Value).toArray below meth c H locs 0 0 (MQ below (qV D ad 218 (fun g2 => WF (shp ad K) ad cs g2 ∧ (∀ j, j ≠ 1 → g2 j = g j))) ([.ref (ad 1), .int wh] : List Value).toArray s 0 0 (wA ad 218)) (F0 m 20 ls []) := by
    intro G20 H locs ls hW20 hfr20 hP hS hl
    exact q_vret X hP hS ⟨hW20, hfr20⟩ dX7_blame_20
  refine lv_if_ne (tgt := 20) hx hb dX7_blame_4 (by decide) (fun hc_4 => ?_) (fun hc_4 => ?_)
  · have hhc_4 := n_ne (rfl : x_3.toInt = x_3.toInt) (by decide : (0 : Int32).toInt = 0) hc_4
    exact HJ20 g _ _ ls hW hfr hP hS (lv_sub hl [] rfl)
  · have hhc_4 := n_eq (rfl : x_3.toInt = x_3.toInt) (by decide : (0 : Int32).toInt = 0) hc_4
    refine lv_aload_n hx hb dX7_blame_7 rfl (lv_at hl 0 rfl) ?_
    refine lv_iload_n hx hb dX7_blame_8 rfl (lv_at hl 1 rfl) ?_
    refine s_put X iX7_blame_7 tyX7 tyX7_ok nmX7 hP hj hA hS (by decide) hgc_1 rfl 2 (by decide) (List.mem_of_getElem? (i := 1) rfl) rfl (ty := .int) (v := .int wh) (by decide +kernel) rfl rfl dX7_blame_9 hW (sh_1 ad K) hOc_1 rfl ⟨wh, rfl, n_lo _, n_hi _⟩ (fun fsc_5 gc_5 H locs hOc_5 hkc_5 hnc_5 hgc_5 hfc_5 hWc_5 hP hS => ?_)
    have hfr_6 : ∀ j, j ≠ 1 → gc_5 j = g j := fun j hj => (hfc_5 j (by omega)).trans (hfr j hj)
    refine lv_aload_n hx hb dX7_blame_12 rfl (lv_at hl 0 rfl) ?_
    refine lv_aload_n hx hb dX7_blame_13 rfl (lv_at hl 0 rfl) ?_
    obtain ⟨x_8, hk_7, hlx_8, hhx_8⟩ := hOc_5.int 4 rfl
    refine q_get X iX7_blame_7 hP (by decide) hgc_5 rfl 4 (by decide) (List.mem_of_getElem? (i := 2) rfl) (v := .int x_8) hk_7 dX7_blame_14 ?_
    refine s_put X iX7_blame_7 tyX7 tyX7_ok nmX7 hP hj hA hS (by decide) hgc_5 rfl 3 (by decide) (List.mem_of_getElem? (i := 3) rfl) rfl (ty := .int) (v := .int x_8) (by decide +kernel) rfl rfl dX7_blame_17 hWc_5 (sh_1 ad K) hOc_5 rfl ⟨x_8, rfl, n_lo _, n_hi _⟩ (fun fsc_9 gc_9 H locs hOc_9 hkc_9 hnc_9 hgc_9 hfc_9 hWc_9 hP hS => ?_)
    have hk_10 := (hnc_9 2 (by decide)).trans hkc_5
    have hk_11 := (hnc_9 4 (by decide)).trans hk_7
    have hfr_12 : ∀ j, j ≠ 1 → gc_9 j = g j := fun j hj => (hfc_9 j (by omega)).trans (hfr_6 j hj)
    exact HJ20 gc_9 _ _ ls hWc_9 hfr_12 hP hS (lv_sub hl [] rfl)

theorem dX7_advance_0 : decode cX7_advance 0 = .ok (.aload_n 0, 1) := by decide +kernel
theorem dX7_advance_1 : decode cX7_advance 1 = .ok (.aload_n 0, 1) := by decide +kernel
theorem dX7_advance_2 : decode cX7_advance 2 = .ok (.getfield 30, 3) := by decide +kernel
theorem dX7_advance_5 : decode cX7_advance 5 = .ok (.putfield 159, 3) := by decide +kernel
theorem dX7_advance_8 : decode cX7_advance 8 = .ok (.aload_n 0, 1) := by decide +kernel
theorem dX7_advance_9 : decode cX7_advance 9 = .ok (.getfield 159, 3) := by decide +kernel
theorem dX7_advance_12 : decode cX7_advance 12 = .ok (.aload_n 0, 1) := by decide +kernel
theorem dX7_advance_13 : decode cX7_advance 13 = .ok (.getfield 19, 3) := by decide +kernel
theorem dX7_advance_16 : decode cX7_advance 16 = .ok (.if_icmp .ge 32, 3) := by decide +kernel
theorem dX7_advance_19 : decode cX7_advance 19 = .ok (.aload_n 0, 1) := by decide +kernel
theorem dX7_advance_20 : decode cX7_advance 20 = .ok (.getfield 9, 3) := by decide +kernel
theorem dX7_advance_23 : decode cX7_advance 23 = .ok (.aload_n 0, 1) := by decide +kernel
theorem dX7_advance_24 : decode cX7_advance 24 = .ok (.getfield 159, 3) := by decide +kernel
theorem dX7_advance_27 : decode cX7_advance 27 = .ok (.baload, 1) := by decide +kernel
theorem dX7_advance_28 : decode cX7_advance 28 = .ok (.invokestatic 175, 3) := by decide +kernel
theorem dX7_advance_31 : decode cX7_advance 31 = .ok (.iconst 5, 1) := by decide +kernel
theorem dX7_advance_32 : decode cX7_advance 32 = .ok (.if_icmp .ne 16, 3) := by decide +kernel
theorem dX7_advance_35 : decode cX7_advance 35 = .ok (.aload_n 0, 1) := by decide +kernel
theorem dX7_advance_36 : decode cX7_advance 36 = .ok (.dup, 1) := by decide +kernel
theorem dX7_advance_37 : decode cX7_advance 37 = .ok (.getfield 159, 3) := by decide +kernel
theorem dX7_advance_40 : decode cX7_advance 40 = .ok (.iconst 1, 1) := by decide +kernel
theorem dX7_advance_41 : decode cX7_advance 41 = .ok (.iadd, 1) := by decide +kernel
theorem dX7_advance_42 : decode cX7_advance 42 = .ok (.putfield 159, 3) := by decide +kernel
theorem dX7_advance_45 : decode cX7_advance 45 = .ok (.goto (-37), 3) := by decide +kernel
theorem dX7_advance_48 : decode cX7_advance 48 = .ok (.aload_n 0, 1) := by decide +kernel
theorem dX7_advance_49 : decode cX7_advance 49 = .ok (.aload_n 0, 1) := by decide +kernel
theorem dX7_advance_50 : decode cX7_advance 50 = .ok (.getfield 159, 3) := by decide +kernel
theorem dX7_advance_53 : decode cX7_advance 53 = .ok (.aload_n 0, 1) := by decide +kernel
theorem dX7_advance_54 : decode cX7_advance 54 = .ok (.getfield 19, 3) := by decide +kernel
theorem dX7_advance_57 : decode cX7_advance 57 = .ok (.if_icmp .ge 18, 3) := by decide +kernel
theorem dX7_advance_60 : decode cX7_advance 60 = .ok (.aload_n 0, 1) := by decide +kernel
theorem dX7_advance_61 : decode cX7_advance 61 = .ok (.getfield 9, 3) := by decide +kernel
theorem dX7_advance_64 : decode cX7_advance 64 = .ok (.aload_n 0, 1) := by decide +kernel
theorem dX7_advance_65 : decode cX7_advance 65 = .ok (.getfield 159, 3) := by decide +kernel
theorem dX7_advance_68 : decode cX7_advance 68 = .ok (.baload, 1) := by decide +kernel
theorem dX7_advance_69 : decode cX7_advance 69 = .ok (.invokestatic 175, 3) := by decide +kernel
theorem dX7_advance_72 : decode cX7_advance 72 = .ok (.goto 4, 3) := by decide +kernel
theorem dX7_advance_75 : decode cX7_advance 75 = .ok (.iconst 0, 1) := by decide +kernel
theorem dX7_advance_76 : decode cX7_advance 76 = .ok (.putfield 36, 3) := by decide +kernel
theorem dX7_advance_79 : decode cX7_advance 79 = .ok (.aload_n 0, 1) := by decide +kernel
theorem dX7_advance_80 : decode cX7_advance 80 = .ok (.aload_n 0, 1) := by decide +kernel
theorem dX7_advance_81 : decode cX7_advance 81 = .ok (.getfield 36, 3) := by decide +kernel
theorem dX7_advance_84 : decode cX7_advance 84 = .ok (.ifCond .ne 10, 3) := by decide +kernel
theorem dX7_advance_87 : decode cX7_advance 87 = .ok (.aload_n 0, 1) := by decide +kernel
theorem dX7_advance_88 : decode cX7_advance 88 = .ok (.getfield 159, 3) := by decide +kernel
theorem dX7_advance_91 : decode cX7_advance 91 = .ok (.goto 9, 3) := by decide +kernel
theorem dX7_advance_94 : decode cX7_advance 94 = .ok (.aload_n 0, 1) := by decide +kernel
theorem dX7_advance_95 : decode cX7_advance 95 = .ok (.getfield 159, 3) := by decide +kernel
theorem dX7_advance_98 : decode cX7_advance 98 = .ok (.iconst 1, 1) := by decide +kernel
theorem dX7_advance_99 : decode cX7_advance 99 = .ok (.iadd, 1) := by decide +kernel
theorem dX7_advance_100 : decode cX7_advance 100 = .ok (.putfield 30, 3) := by decide +kernel
theorem dX7_advance_103 : decode cX7_advance 103 = .ok (.aload_n 0, 1) := by decide +kernel
theorem dX7_advance_104 : decode cX7_advance 104 = .ok (.getfield 36, 3) := by decide +kernel
theorem dX7_advance_107 : decode cX7_advance 107 = .ok (.iconst 1, 1) := by decide +kernel
theorem dX7_advance_108 : decode cX7_advance 108 = .ok (.if_icmp .eq 11, 3) := by decide +kernel
theorem dX7_advance_111 : decode cX7_advance 111 = .ok (.aload_n 0, 1) := by decide +kernel
theorem dX7_advance_112 : decode cX7_advance 112 = .ok (.getfield 36, 3) := by decide +kernel
theorem dX7_advance_115 : decode cX7_advance 115 = .ok (.iconst 2, 1) := by decide +kernel
theorem dX7_advance_116 : decode cX7_advance 116 = .ok (.if_icmp .ne 7, 3) := by decide +kernel
theorem dX7_advance_123 : decode cX7_advance 123 = .ok (.iconst 0, 1) := by decide +kernel
theorem dX7_advance_119 : decode cX7_advance 119 = .ok (.iconst 1, 1) := by decide +kernel
theorem dX7_advance_120 : decode cX7_advance 120 = .ok (.goto 4, 3) := by decide +kernel
theorem dX7_advance_124 : decode cX7_advance 124 = .ok (.istore_n 1, 1) := by decide +kernel
theorem dX7_advance_125 : decode cX7_advance 125 = .ok (.iload_n 1, 1) := by decide +kernel
theorem dX7_advance_126 : decode cX7_advance 126 = .ok (.ifCond .eq 46, 3) := by decide +kernel
theorem dX7_advance_129 : decode cX7_advance 129 = .ok (.aload_n 0, 1) := by decide +kernel
theorem dX7_advance_130 : decode cX7_advance 130 = .ok (.getfield 30, 3) := by decide +kernel
theorem dX7_advance_133 : decode cX7_advance 133 = .ok (.aload_n 0, 1) := by decide +kernel
theorem dX7_advance_134 : decode cX7_advance 134 = .ok (.getfield 19, 3) := by decide +kernel
theorem dX7_advance_137 : decode cX7_advance 137 = .ok (.if_icmp .ge 35, 3) := by decide +kernel
theorem dX7_advance_140 : decode cX7_advance 140 = .ok (.aload_n 0, 1) := by decide +kernel
theorem dX7_advance_141 : decode cX7_advance 141 = .ok (.getfield 9, 3) := by decide +kernel
theorem dX7_advance_144 : decode cX7_advance 144 = .ok (.aload_n 0, 1) := by decide +kernel
theorem dX7_advance_145 : decode cX7_advance 145 = .ok (.getfield 30, 3) := by decide +kernel
theorem dX7_advance_148 : decode cX7_advance 148 = .ok (.baload, 1) := by decide +kernel
theorem dX7_advance_149 : decode cX7_advance 149 = .ok (.invokestatic 175, 3) := by decide +kernel
theorem dX7_advance_152 : decode cX7_advance 152 = .ok (.aload_n 0, 1) := by decide +kernel
theorem dX7_advance_153 : decode cX7_advance 153 = .ok (.getfield 36, 3) := by decide +kernel
theorem dX7_advance_156 : decode cX7_advance 156 = .ok (.if_icmp .ne 16, 3) := by decide +kernel
theorem dX7_advance_159 : decode cX7_advance 159 = .ok (.aload_n 0, 1) := by decide +kernel
theorem dX7_advance_160 : decode cX7_advance 160 = .ok (.dup, 1) := by decide +kernel
theorem dX7_advance_161 : decode cX7_advance 161 = .ok (.getfield 30, 3) := by decide +kernel
theorem dX7_advance_164 : decode cX7_advance 164 = .ok (.iconst 1, 1) := by decide +kernel
theorem dX7_advance_165 : decode cX7_advance 165 = .ok (.iadd, 1) := by decide +kernel
theorem dX7_advance_166 : decode cX7_advance 166 = .ok (.putfield 30, 3) := by decide +kernel
theorem dX7_advance_169 : decode cX7_advance 169 = .ok (.goto (-44), 3) := by decide +kernel
theorem dX7_advance_172 : decode cX7_advance 172 = .ok (.return_, 1) := by decide +kernel
noncomputable def vX7_advance : List Cond := .code yX7_advance cX7_advance 2 none :: (([.fieldLink RX7 30 "IcicleClock$Tape" "stop" "I", .fieldLink RX7 159 "IcicleClock$Tape" "start" "I", .fieldLink RX7 19 "IcicleClock$Tape" "filled" "I", .fieldLink RX7 9 "IcicleClock$Tape" "bytes" "[B", .methodLink RX7 175 yX7_kindOf, .static yX7_kindOf, .initialized RX7, .fieldLink RX7 36 "IcicleClock$Tape" "kind" "I"] : List Cond) ++ (wsX70 ++ vX7_kindOf))
theorem iX7_advance_7 : ∀ w ∈ wsX70, w ∈ vX7_advance := fun _ h => List.mem_cons_of_mem _ (List.mem_append_right _ (List.mem_append_left _ h))
theorem gs_X7_advance : Gd vX7_advance := Gd.cons (by decide +kernel) (Gd.app (Gd.r (by decide +kernel)) (Gd.app gwX_7 gs_X7_kindOf))
theorem gg_X7_advance_X7_kindOf : GoodIn vX7_advance (wsS RX7 175 yX7_kindOf vX7_kindOf) := goodIn_app (goodIn_r _ [5, 6, 7] (by decide +kernel) (by decide +kernel)) (fun w h => ⟨List.mem_cons_of_mem _ (List.mem_append_right _ (List.mem_append_right _ (h))), gs_X7_kindOf w h⟩)
set_option maxHeartbeats 4000000 in
set_option maxRecDepth 100000 in
theorem s_X7_advance (l : Launch) (D : va_G) (cs : Nat → ClassId) (ad : Nat → Nat) (kS : kSt) (K : sK) (hKO : KO K) (hj : wJ ad 218) (g : Nat → va_E) (hW : WF (shp ad K) ad cs g) : sV l yX7_advance vX7_advance { frames := 1, cells := 0, slots := 0, locals := 20 } D cs ad kS [.ref (ad 1)] g (fun g2 => WF (shp ad K) ad cs g2 ∧ (∀ j, j ≠ 1 → g2 j = g j)) := by
  refine Met.startS (cc := cX7_advance) (maxL := 2) (ret := none) RX7 rfl (by decide) rfl (Nat.le_of_ble_eq_true rfl) ?_
  intro p e s m below meth c ls X Z hP hl
  have hx := X.1
  have hb := X.2.1
  have hS : va_S (wA ad 218) s.heap s.heap [] := va_S.rf
  have hA : ∀ i, i < 218 → wA ad 218 (ad i) := fun i h => ⟨i, h, rfl⟩
  have hfr : ∀ j, j ≠ 1 → g j = g j := fun _ _ => rfl
  have hl : lv_has ls 2 [(0, .ref (ad 1))] := hl
  obtain ⟨fsc_1, hgc_1, hOc_1⟩ := hW.obj (i := 1) (by decide) (sh_1 ad K)
  obtain ⟨x_3, hk_2, hlx_3, hhx_3⟩ := hOc_1.int 4 rfl
  have hgix_3 := gI_of hgc_1 hk_2
  obtain ⟨x_5, hk_4, hlx_5, hhx_5⟩ := hOc_1.int 5 rfl
  have hgix_5 := gI_of hgc_1 hk_4
  refine lv_aload_n hx hb dX7_advance_0 rfl (lv_at hl 0 rfl) ?_
  refine lv_aload_n hx hb dX7_advance_1 rfl (lv_at hl 0 rfl) ?_
  refine q_get X iX7_advance_7 hP (by decide) hgc_1 rfl 5 (by decide) (List.mem_of_getElem? (i := 1) rfl) (v := .int x_5) hk_4 dX7_advance_2 ?_
  refine s_put X iX7_advance_7 tyX7 tyX7_ok nmX7 hP hj hA hS (by decide) hgc_1 rfl 4 (by decide) (List.mem_of_getElem? (i := 2) rfl) rfl (ty := .int) (v := .int x_5) (by decide +kernel) rfl rfl dX7_advance_5 hW (sh_1 ad K) hOc_1 rfl ⟨x_5, rfl, by omega, by omega⟩ (fun fsc_6 gc_6 H locs hOc_6 hkc_6 hnc_6 hgc_6 hfc_6 hWc_6 hP hS => ?_)
  have hk_7 := (hnc_6 5 (by decide)).trans hk_4
  have hfr_8 : ∀ j, j ≠ 1 → gc_6 j = g j := fun j hj => (hfc_6 j (by omega)).trans (hfr j hj)
  have hgi_9 := gI_of hgc_6 hkc_6
  have hgi_10 := gI_of hgc_6 hk_7
  have HL8 : ∀ (n8 : Nat) (G8 : Nat → va_E) (H : Heap) (locs : List Loc) (ls : Array Slot), (1000 - gI G8 1 4).toNat < n8 → WF (shp ad K) ad cs G8 → (∀ j, j ≠ 1 → G8 j = g j) → va_P D vwCl (wL ad G8 218) H → va_S (wA ad 218) s.heap H locs → lv_has ls 2 [(0, .ref (ad 1))] → W p l e ({ frames := 1, cells := 0, slots := 0, locals := 20 } : Room) s m ([.ref (ad 1)] : List Value).toArray below meth c H locs 0 0 (MQ below (qV D ad 218 (fun g2 => WF (shp ad K) ad cs g2 ∧ (∀ j, j ≠ 1 → g2 j = g j))) ([.ref (ad 1)] : List Value).toArray s 0 0 (wA ad 218)) (F0 m 8 ls []) := by
    intro n8
    induction n8 with
    | zero =>
      intro G8 H locs ls hm8 hW8 hfr8 hP hS hl
      exact absurd hm8 (Nat.not_lt_zero _)
    | succ n8 ih8 =>
      intro G8 H locs ls hm8 hW8 hfr8 hP hS hl
      refine lv_aload_n hx hb dX7_advance_8 rfl (lv_at hl 0 rfl) ?_
      obtain ⟨fsc_11, hgc_11, hOc_11⟩ := hW8.obj (i := 1) (by decide) (sh_1 ad K)
      obtain ⟨x_13, hk_12, hlx_13, hhx_13⟩ := hOc_11.int 4 rfl
      have hgix_13 := gI_of hgc_11 hk_12
      refine q_get X iX7_advance_7 hP (by decide) hgc_11 rfl 4 (by decide) (List.mem_of_getElem? (i := 2) rfl) (v := .int x_13) hk_12 dX7_advance_9 ?_
      refine lv_aload_n hx hb dX7_advance_12 rfl (lv_at hl 0 rfl) ?_
      obtain ⟨x_15, hk_14, hlx_15, hhx_15⟩ := hOc_11.int 1 rfl
      refine q_get X iX7_advance_7 hP (by decide) hgc_11 rfl 1 (by decide) (List.mem_of_getElem? (i := 3) rfl) (v := .int x_15) hk_14 dX7_advance_13 ?_
      have HJ48 : ∀ (G48 : Nat → va_E) (H : Heap) (locs : List Loc) (ls : Array Slot), WF (shp ad K) ad cs G48 → (∀ j, j ≠ 1 → G48 j = g j) → G48 1 = .inr (7, fsc_11) → va_P D vwCl (wL ad G48 218) H → va_S (wA ad 218) s.heap H locs → lv_has ls 2 [(0, .ref (ad 1))] → W p l e ({ frames := 1, cells := 0, slots := 0, locals := 20 } : Room) s m ([.ref (ad 1)] : List Value).toArray below meth c H locs 0 0 (MQ below (qV D ad 218 (fun g2 => WF (shp ad K) ad cs g2 ∧ (∀ j, j ≠ 1 → g2 j = g j))) ([.ref (ad 1)] : List Value).toArray s 0 0 (wA ad 218)) (F0 m 48 ls []) := by
        intro G48 H locs ls hW48 hfr48 hg48_0 hP hS hl
        refine lv_aload_n hx hb dX7_advance_48 rfl (lv_at hl 0 rfl) ?_
        refine lv_aload_n hx hb dX7_advance_49 rfl (lv_at hl 0 rfl) ?_
        refine q_get X iX7_advance_7 hP (by decide) hg48_0 rfl 4 (by decide) (List.mem_of_getElem? (i := 2) rfl) (v := .int x_13) hk_12 dX7_advance_50 ?_
        refine lv_aload_n hx hb dX7_advance_53 rfl (lv_at hl 0 rfl) ?_
        refine q_get X iX7_advance_7 hP (by decide) hg48_0 rfl 1 (by decide) (List.mem_of_getElem? (i := 3) rfl) (v := .int x_15) hk_14 dX7_advance_54 ?_
        refine lv_icmp_ge (tgt := 75) hx hb dX7_advance_57 (by decide) (fun hc_16 => ?_) (fun hc_16 => ?_)
        · have hhc_16 := n_le (rfl : x_15.toInt = x_15.toInt) (rfl : x_13.toInt = x_13.toInt) hc_16
          refine lv_iconst (v := 0) hx hb dX7_advance_75 (by decide) ?_
          refine s_put X iX7_advance_7 tyX7 tyX7_ok nmX7 hP hj hA hS (by decide) hg48_0 rfl 6 (by decide) (List.mem_of_getElem? (i := 8) rfl) rfl (ty := .int) (v := .int 0) (by decide +kernel) rfl rfl dX7_advance_76 hW48 (sh_1 ad K) hOc_11 rfl ⟨0, rfl, by decide, by decide⟩ (fun fsc_17 gc_17 H locs hOc_17 hkc_17 hnc_17 hgc_17 hfc_17 hWc_17 hP hS => ?_)
          have hk_18 := (hnc_17 4 (by decide)).trans hk_12
          have hk_19 := (hnc_17 1 (by decide)).trans hk_14
          have hfr_20 : ∀ j, j ≠ 1 → gc_17 j = g j := fun j hj => (hfc_17 j (by omega)).trans (hfr48 j hj)
          have hgi_21 := gI_of hgc_17 hk_18
          refine lv_aload_n hx hb dX7_advance_79 rfl (lv_at hl 0 rfl) ?_
          refine lv_aload_n hx hb dX7_advance_80 rfl (lv_at hl 0 rfl) ?_
          refine q_get X iX7_advance_7 hP (by decide) hgc_17 rfl 6 (by decide) (List.mem_of_getElem? (i := 8) rfl) (v := .int 0) hkc_17 dX7_advance_81 ?_
          refine lv_if_ne (tgt := 94) hx hb dX7_advance_84 (by decide) (fun h => absurd h (by decide)) (fun _ => ?_)
          refine lv_aload_n hx hb dX7_advance_87 rfl (lv_at hl 0 rfl) ?_
          refine q_get X iX7_advance_7 hP (by decide) hgc_17 rfl 4 (by decide) (List.mem_of_getElem? (i := 2) rfl) (v := .int x_13) hk_18 dX7_advance_88 ?_
          refine lv_goto (tgt := 100) hx hb dX7_advance_91 (by decide) ?_
          refine s_put X iX7_advance_7 tyX7 tyX7_ok nmX7 hP hj hA hS (by decide) hgc_17 rfl 5 (by decide) (List.mem_of_getElem? (i := 1) rfl) rfl (ty := .int) (v := .int x_13) (by decide +kernel) rfl rfl dX7_advance_100 hWc_17 (sh_1 ad K) hOc_17 rfl ⟨x_13, rfl, by omega, by omega⟩ (fun fsc_22 gc_22 H locs hOc_22 hkc_22 hnc_22 hgc_22 hfc_22 hWc_22 hP hS => ?_)
          have hk_23 := (hnc_22 6 (by decide)).trans hkc_17
          have hk_24 := (hnc_22 4 (by decide)).trans hk_18
          have hk_25 := (hnc_22 1 (by decide)).trans hk_19
          have hfr_26 : ∀ j, j ≠ 1 → gc_22 j = g j := fun j hj => (hfc_22 j (by omega)).trans (hfr_20 j hj)
          have hgi_27 := gI_of hgc_22 hkc_22
          have hgi_28 := gI_of hgc_22 hk_24
          refine lv_aload_n hx hb dX7_advance_103 rfl (lv_at hl 0 rfl) ?_
          refine q_get X iX7_advance_7 hP (by decide) hgc_22 rfl 6 (by decide) (List.mem_of_getElem? (i := 8) rfl) (v := .int 0) hk_23 dX7_advance_104 ?_
          refine lv_iconst (v := 1) hx hb dX7_advance_107 (by decide) ?_
          have HJ119 : ∀ (G119 : Nat → va_E) (H : Heap) (locs : List Loc) (ls : Array Slot), WF (shp ad K) ad cs G119 → (∀ j, j ≠ 1 → G119 j = g j) → G119 1 = .inr (7, fsc_22) → va_P D vwCl (wL ad G119 218) H → va_S (wA ad 218) s.heap H locs → lv_has ls 2 [(0, .ref (ad 1))] → W p l e ({ frames := 1, cells := 0, slots := 0, locals := 20 } : Room) s m ([.ref (ad 1)] : List Value).toArray below meth c H locs 0 0 (MQ below (qV D ad 218 (fun g2 => WF (shp ad K) ad cs g2 ∧ (∀ j, j ≠ 1 → g2 j = g j))) ([.ref (ad 1)] : List Value).toArray s 0 0 (wA ad 218)) (F0 m 119 ls []) := by
            intro G119 H locs ls hW119 hfr119 hg119_0 hP hS hl
            refine lv_iconst (v := 1) hx hb dX7_advance_119 (by decide) ?_
            refine lv_goto (tgt := 124) hx hb dX7_advance_120 (by decide) ?_
            refine lv_istore_n (lv' := [(1, .int 1), (0, .ref (ad 1))]) hx hb dX7_advance_124 rfl hl (by decide) rfl (fun ls hl => ?_)
            have HL125 : ∀ (n125 : Nat) (G125 : Nat → va_E) (H : Heap) (locs : List Loc) (ls : Array Slot), (1000 - gI G125 1 5).toNat < n125 → WF (shp ad K) ad cs G125 → (∀ j, j ≠ 1 → G125 j = g j) → va_P D vwCl (wL ad G125 218) H → va_S (wA ad 218) s.heap H locs → lv_has ls 2 [(1, .int 1), (0, .ref (ad 1))] → W p l e ({ frames := 1, cells := 0, slots := 0, locals := 20 } : Room) s m ([.ref (ad 1)] : List Value).toArray below meth c H locs 0 0 (MQ below (qV D ad 218 (fun g2 => WF (shp ad K) ad cs g2 ∧ (∀ j, j ≠ 1 → g2 j = g j))) ([.ref (ad 1)] : List Value).toArray s 0 0 (wA ad 218)) (F0 m 125 ls []) := by
              intro n125
              induction n125 with
              | zero =>
                intro G125 H locs ls hm125 hW125 hfr125 hP hS hl
                exact absurd hm125 (Nat.not_lt_zero _)
              | succ n125 ih125 =>
                intro G125 H locs ls hm125 hW125 hfr125 hP hS hl
                refine lv_iload_n hx hb dX7_advance_125 rfl (lv_at hl 0 rfl) ?_
                have HJ172 : ∀ (G172 : Nat → va_E) (H : Heap) (locs : List Loc) (ls : Array Slot), WF (shp ad K) ad cs G172 → (∀ j, j ≠ 1 → G172 j = g j) → va_P D vwCl (wL ad G172 218) H → va_S (wA ad 218) s.heap H locs → lv_has ls 2 [] → W p l e ({ frames := 1, cells := 0, slots := 0, locals := 20 } : Room) s m ([.ref (ad 1)] : List Value).toArray below meth c H locs 0 0 (MQ below (qV D ad 218 (fun g2 => WF (shp ad K) ad cs g2 ∧ (∀ j, j ≠ 1 → g2 j = g j))) ([.ref (ad 1)] : List Value).toArray s 0 0 (wA ad 218)) (F0 m 172 ls []) := by
                  intro G172 H locs ls hW172 hfr172 hP hS hl
                  exact q_vret X hP hS ⟨hW172, hfr172⟩ dX7_advance_172
                refine lv_if_eq (tgt := 172) hx hb dX7_advance_126 (by decide) (fun h => absurd h (by decide)) (fun _ => ?_)
                refine lv_aload_n hx hb dX7_advance_129 rfl (lv_at hl 1 rfl) ?_
                obtain ⟨fsc_29, hgc_29, hOc_29⟩ := hW125.obj (i := 1) (by decide) (sh_1 ad K)
                obtain ⟨x_31, hk_30, hlx_31, hhx_31⟩ := hOc_29.int 5 rfl
                have hgix_31 := gI_of hgc_29 hk_30
                refine q_get X iX7_advance_7 hP (by decide) hgc_29 rfl 5 (by decide) (List.mem_of_getElem? (i := 1) rfl) (v := .int x_31) hk_30 dX7_advance_130 ?_
                refine lv_aload_n hx hb dX7_advance_133 rfl (lv_at hl 1 rfl) ?_
                obtain ⟨x_33, hk_32, hlx_33, hhx_33⟩ := hOc_29.int 1 rfl
                refine q_get X iX7_advance_7 hP (by decide) hgc_29 rfl 1 (by decide) (List.mem_of_getElem? (i := 3) rfl) (v := .int x_33) hk_32 dX7_advance_134 ?_
                refine lv_icmp_ge (tgt := 172) hx hb dX7_advance_137 (by decide) (fun hc_34 => ?_) (fun hc_34 => ?_)
                · have hhc_34 := n_le (rfl : x_33.toInt = x_33.toInt) (rfl : x_31.toInt = x_31.toInt) hc_34
                  obtain ⟨x_36, hk_35, hlx_36, hhx_36⟩ := hOc_29.int 4 rfl
                  have hgix_36 := gI_of hgc_29 hk_35
                  have hgi_38 := gI_of hgc_29 hk_30
                  exact HJ172 G125 _ _ ls hW125 hfr125 hP hS (lv_sub hl [] rfl)
                · have hhc_34 := n_nle (rfl : x_33.toInt = x_33.toInt) (rfl : x_31.toInt = x_31.toInt) hc_34
                  refine lv_aload_n hx hb dX7_advance_140 rfl (lv_at hl 1 rfl) ?_
                  have hk_39 := hOc_29.ref 0 rfl
                  refine q_get X iX7_advance_7 hP (by decide) hgc_29 rfl 0 (by decide) (List.mem_of_getElem? (i := 4) rfl) (v := .ref (ad 2)) hk_39 dX7_advance_141 ?_
                  refine lv_aload_n hx hb dX7_advance_144 rfl (lv_at hl 1 rfl) ?_
                  refine q_get X iX7_advance_7 hP (by decide) hgc_29 rfl 5 (by decide) (List.mem_of_getElem? (i := 1) rfl) (v := .int x_31) hk_30 dX7_advance_145 ?_
                  obtain ⟨fc_40, hgc_40, hFc_40⟩ := hW125.arr (i := 2) (by decide) (sh_2 ad K)
                  refine q_bald X hP (by decide) hgc_40 (n_in (rfl : x_31.toInt = x_31.toInt) (by omega) (by omega)) dX7_advance_148 ?_
                  refine lv_topi (fun z_41 ez_41 => ?_)
                  obtain ⟨x_43, hk_42, hlx_43, hhx_43⟩ := hOc_29.int 4 rfl
                  have hgix_43 := gI_of hgc_29 hk_42
                  have hgi_45 := gI_of hgc_29 hk_30
                  refine s_callSi (As := [.int z_41]) (rest := []) X Z (s_X7_kindOf l D cs ad kS K hKO hj G125 hW125 z_41) (cwS 1 X.2.2.2.2.1 gg_X7_advance_X7_kindOf rfl rfl rfl (by decide +kernel) ⟨Nat.le_of_ble_eq_true rfl, Nat.le_of_ble_eq_true rfl⟩) hP hA hS.2.1 hS rfl hl.1 rfl (Nat.le_of_ble_eq_true rfl) dX7_advance_149 ⟨Nat.le_of_ble_eq_true rfl, Nat.le_of_ble_eq_true rfl⟩ (fun r_48 g_47 H locs hw_46 hP hS => ?_)
                  obtain ⟨hw_46g, hw_46⟩ := hw_46
                  rw [hw_46g] at hP
                  refine lv_aload_n hx hb dX7_advance_152 rfl (lv_at hl 1 rfl) ?_
                  obtain ⟨x_50, hk_49, hlx_50, hhx_50⟩ := hOc_29.int 6 rfl
                  refine q_get X iX7_advance_7 hP (by decide) hgc_29 rfl 6 (by decide) (List.mem_of_getElem? (i := 8) rfl) (v := .int x_50) hk_49 dX7_advance_153 ?_
                  refine lv_icmp_ne (tgt := 172) hx hb dX7_advance_156 (by decide) (fun hc_51 => ?_) (fun hc_51 => ?_)
                  · have hhc_51 := n_ne (rfl : r_48.toInt = r_48.toInt) (rfl : x_50.toInt = x_50.toInt) hc_51
                    have hgi_52 := gI_of hgc_29 hk_42
                    have hgi_53 := gI_of hgc_29 hk_30
                    exact HJ172 G125 _ _ ls hW125 hfr125 hP hS (lv_sub hl [] rfl)
                  · have hhc_51 := n_eq (rfl : r_48.toInt = r_48.toInt) (rfl : x_50.toInt = x_50.toInt) hc_51
                    refine lv_aload_n hx hb dX7_advance_159 rfl (lv_at hl 1 rfl) ?_
                    refine lv_dup hx hb dX7_advance_160 rfl ?_
                    refine q_get X iX7_advance_7 hP (by decide) hgc_29 rfl 5 (by decide) (List.mem_of_getElem? (i := 1) rfl) (v := .int x_31) hk_30 dX7_advance_161 ?_
                    refine lv_iconst (v := 1) hx hb dX7_advance_164 (by decide) ?_
                    refine lv_iadd hx hb dX7_advance_165 ?_
                    refine lv_topi (fun z_54 ez_54 => ?_)
                    have hz_54 : z_54.toInt = x_31.toInt + 1 := n_add (rfl : x_31.toInt = x_31.toInt) (by decide : (1 : Int32).toInt = 1) ez_54 (by omega) (by omega)
                    refine s_put X iX7_advance_7 tyX7 tyX7_ok nmX7 hP hj hA hS (by decide) hgc_29 rfl 5 (by decide) (List.mem_of_getElem? (i := 1) rfl) rfl (ty := .int) (v := .int z_54) (by decide +kernel) rfl rfl dX7_advance_166 hW125 (sh_1 ad K) hOc_29 rfl ⟨z_54, rfl, by omega, by omega⟩ (fun fsc_55 gc_55 H locs hOc_55 hkc_55 hnc_55 hgc_55 hfc_55 hWc_55 hP hS => ?_)
                    have hk_56 := (hnc_55 1 (by decide)).trans hk_32
                    have hk_57 := (hnc_55 0 (by decide)).trans hk_39
                    have hk_58 := (hnc_55 4 (by decide)).trans hk_42
                    have hk_59 := (hnc_55 6 (by decide)).trans hk_49
                    have hg_61 := (hfc_55 2 (by decide)).trans hgc_40
                    have hfr_60 : ∀ j, j ≠ 1 → gc_55 j = g j := fun j hj => (hfc_55 j (by omega)).trans (hfr125 j hj)
                    have hgi_62 := gI_of hgc_55 hkc_55
                    have hgi_63 := gI_of hgc_55 hk_58
                    refine lv_goto (tgt := 125) hx hb dX7_advance_169 (by decide) ?_
                    have hgi_64 := gI_of hgc_55 hk_58
                    have hgi_65 := gI_of hgc_55 hkc_55
                    exact ih125 gc_55 _ _ ls (by omega) hWc_55 hfr_60 hP hS (lv_sub hl [0, 1] rfl)
            have hgi_66 := gI_of hg119_0 hk_24
            have hgi_67 := gI_of hg119_0 hkc_22
            exact HL125 _ G119 _ _ ls (Nat.lt_succ_self _) hW119 hfr119 hP hS (lv_sub hl [0, 1] rfl)
          refine lv_icmp_eq (tgt := 119) hx hb dX7_advance_108 (by decide) (fun h => absurd h (by decide)) (fun _ => ?_)
          refine lv_aload_n hx hb dX7_advance_111 rfl (lv_at hl 0 rfl) ?_
          refine q_get X iX7_advance_7 hP (by decide) hgc_22 rfl 6 (by decide) (List.mem_of_getElem? (i := 8) rfl) (v := .int 0) hk_23 dX7_advance_112 ?_
          refine lv_iconst (v := 2) hx hb dX7_advance_115 (by decide) ?_
          refine lv_icmp_ne (tgt := 123) hx hb dX7_advance_116 (by decide) (fun _ => ?_) (fun h => absurd h (by decide))
          refine lv_iconst (v := 0) hx hb dX7_advance_123 (by decide) ?_
          refine lv_istore_n (lv' := [(1, .int 0), (0, .ref (ad 1))]) hx hb dX7_advance_124 rfl hl (by decide) rfl (fun ls hl => ?_)
          have HL125 : ∀ (n125 : Nat) (G125 : Nat → va_E) (H : Heap) (locs : List Loc) (ls : Array Slot), (1000 - gI G125 1 5).toNat < n125 → WF (shp ad K) ad cs G125 → (∀ j, j ≠ 1 → G125 j = g j) → va_P D vwCl (wL ad G125 218) H → va_S (wA ad 218) s.heap H locs → lv_has ls 2 [(1, .int 0), (0, .ref (ad 1))] → W p l e ({ frames := 1, cells := 0, slots := 0, locals := 20 } : Room) s m ([.ref (ad 1)] : List Value).toArray below meth c H locs 0 0 (MQ below (qV D ad 218 (fun g2 => WF (shp ad K) ad cs g2 ∧ (∀ j, j ≠ 1 → g2 j = g j))) ([.ref (ad 1)] : List Value).toArray s 0 0 (wA ad 218)) (F0 m 125 ls []) := by
            intro n125
            induction n125 with
            | zero =>
              intro G125 H locs ls hm125 hW125 hfr125 hP hS hl
              exact absurd hm125 (Nat.not_lt_zero _)
            | succ n125 ih125 =>
              intro G125 H locs ls hm125 hW125 hfr125 hP hS hl
              refine lv_iload_n hx hb dX7_advance_125 rfl (lv_at hl 0 rfl) ?_
              have HJ172 : ∀ (G172 : Nat → va_E) (H : Heap) (locs : List Loc) (ls : Array Slot), WF (shp ad K) ad cs G172 → (∀ j, j ≠ 1 → G172 j = g j) → va_P D vwCl (wL ad G172 218) H → va_S (wA ad 218) s.heap H locs → lv_has ls 2 [] → W p l e ({ frames := 1, cells := 0, slots := 0, locals := 20 } : Room) s m ([.ref (ad 1)] : List Value).toArray below meth c H locs 0 0 (MQ below (qV D ad 218 (fun g2 => WF (shp ad K) ad cs g2 ∧ (∀ j, j ≠ 1 → g2 j = g j))) ([.ref (ad 1)] : List Value).toArray s 0 0 (wA ad 218)) (F0 m 172 ls []) := by
                intro G172 H locs ls hW172 hfr172 hP hS hl
                exact q_vret X hP hS ⟨hW172, hfr172⟩ dX7_advance_172
              refine lv_if_eq (tgt := 172) hx hb dX7_advance_126 (by decide) (fun _ => ?_) (fun h => absurd h (by decide))
              obtain ⟨fsc_68, hgc_68, hOc_68⟩ := hW125.obj (i := 1) (by decide) (sh_1 ad K)
              obtain ⟨x_70, hk_69, hlx_70, hhx_70⟩ := hOc_68.int 4 rfl
              have hgix_70 := gI_of hgc_68 hk_69
              obtain ⟨x_73, hk_72, hlx_73, hhx_73⟩ := hOc_68.int 5 rfl
              have hgix_73 := gI_of hgc_68 hk_72
              exact HJ172 G125 _ _ ls hW125 hfr125 hP hS (lv_sub hl [] rfl)
          have hgi_75 := gI_of hgc_22 hk_24
          have hgi_76 := gI_of hgc_22 hkc_22
          exact HL125 _ gc_22 _ _ ls (Nat.lt_succ_self _) hWc_22 hfr_26 hP hS (lv_sub hl [0, 1] rfl)
        · have hhc_16 := n_nle (rfl : x_15.toInt = x_15.toInt) (rfl : x_13.toInt = x_13.toInt) hc_16
          refine lv_aload_n hx hb dX7_advance_60 rfl (lv_at hl 0 rfl) ?_
          have hk_77 := hOc_11.ref 0 rfl
          refine q_get X iX7_advance_7 hP (by decide) hg48_0 rfl 0 (by decide) (List.mem_of_getElem? (i := 4) rfl) (v := .ref (ad 2)) hk_77 dX7_advance_61 ?_
          refine lv_aload_n hx hb dX7_advance_64 rfl (lv_at hl 0 rfl) ?_
          refine q_get X iX7_advance_7 hP (by decide) hg48_0 rfl 4 (by decide) (List.mem_of_getElem? (i := 2) rfl) (v := .int x_13) hk_12 dX7_advance_65 ?_
          obtain ⟨fc_78, hgc_78, hFc_78⟩ := hW48.arr (i := 2) (by decide) (sh_2 ad K)
          refine q_bald X hP (by decide) hgc_78 (n_in (rfl : x_13.toInt = x_13.toInt) (by omega) (by omega)) dX7_advance_68 ?_
          refine lv_topi (fun z_79 ez_79 => ?_)
          have hgi_80 := gI_of hg48_0 hk_12
          obtain ⟨x_82, hk_81, hlx_82, hhx_82⟩ := hOc_11.int 5 rfl
          have hgix_82 := gI_of hg48_0 hk_81
          refine s_callSi (As := [.int z_79]) (rest := [.ref (ad 1)]) X Z (s_X7_kindOf l D cs ad kS K hKO hj G48 hW48 z_79) (cwS 1 X.2.2.2.2.1 gg_X7_advance_X7_kindOf rfl rfl rfl (by decide +kernel) ⟨Nat.le_of_ble_eq_true rfl, Nat.le_of_ble_eq_true rfl⟩) hP hA hS.2.1 hS rfl hl.1 rfl (Nat.le_of_ble_eq_true rfl) dX7_advance_69 ⟨Nat.le_of_ble_eq_true rfl, Nat.le_of_ble_eq_true rfl⟩ (fun r_86 g_85 H locs hw_84 hP hS => ?_)
          obtain ⟨hw_84g, hw_84⟩ := hw_84
          rw [hw_84g] at hP
          refine lv_goto (tgt := 76) hx hb dX7_advance_72 (by decide) ?_
          refine s_put X iX7_advance_7 tyX7 tyX7_ok nmX7 hP hj hA hS (by decide) hg48_0 rfl 6 (by decide) (List.mem_of_getElem? (i := 8) rfl) rfl (ty := .int) (v := .int r_86) (by decide +kernel) rfl rfl dX7_advance_76 hW48 (sh_1 ad K) hOc_11 rfl ⟨r_86, rfl, by omega, by omega⟩ (fun fsc_87 gc_87 H locs hOc_87 hkc_87 hnc_87 hgc_87 hfc_87 hWc_87 hP hS => ?_)
          have hk_88 := (hnc_87 4 (by decide)).trans hk_12
          have hk_89 := (hnc_87 1 (by decide)).trans hk_14
          have hk_90 := (hnc_87 0 (by decide)).trans hk_77
          have hk_91 := (hnc_87 5 (by decide)).trans hk_81
          have hg_93 := (hfc_87 2 (by decide)).trans hgc_78
          have hfr_92 : ∀ j, j ≠ 1 → gc_87 j = g j := fun j hj => (hfc_87 j (by omega)).trans (hfr48 j hj)
          have hgi_94 := gI_of hgc_87 hk_88
          have hgi_95 := gI_of hgc_87 hk_91
          refine lv_aload_n hx hb dX7_advance_79 rfl (lv_at hl 0 rfl) ?_
          refine lv_aload_n hx hb dX7_advance_80 rfl (lv_at hl 0 rfl) ?_
          refine q_get X iX7_advance_7 hP (by decide) hgc_87 rfl 6 (by decide) (List.mem_of_getElem? (i := 8) rfl) (v := .int r_86) hkc_87 dX7_advance_81 ?_
          refine lv_if_ne (tgt := 94) hx hb dX7_advance_84 (by decide) (fun hc_96 => ?_) (fun hc_96 => by exfalso; have hhc_96 := n_eq (rfl : r_86.toInt = r_86.toInt) (by decide : (0 : Int32).toInt = 0) hc_96; omega)
          have hhc_96 := n_ne (rfl : r_86.toInt = r_86.toInt) (by decide : (0 : Int32).toInt = 0) hc_96
          refine lv_aload_n hx hb dX7_advance_94 rfl (lv_at hl 0 rfl) ?_
          refine q_get X iX7_advance_7 hP (by decide) hgc_87 rfl 4 (by decide) (List.mem_of_getElem? (i := 2) rfl) (v := .int x_13) hk_88 dX7_advance_95 ?_
          refine lv_iconst (v := 1) hx hb dX7_advance_98 (by decide) ?_
          refine lv_iadd hx hb dX7_advance_99 ?_
          refine lv_topi (fun z_97 ez_97 => ?_)
          have hz_97 : z_97.toInt = x_13.toInt + 1 := n_add (rfl : x_13.toInt = x_13.toInt) (by decide : (1 : Int32).toInt = 1) ez_97 (by omega) (by omega)
          refine s_put X iX7_advance_7 tyX7 tyX7_ok nmX7 hP hj hA hS (by decide) hgc_87 rfl 5 (by decide) (List.mem_of_getElem? (i := 1) rfl) rfl (ty := .int) (v := .int z_97) (by decide +kernel) rfl rfl dX7_advance_100 hWc_87 (sh_1 ad K) hOc_87 rfl ⟨z_97, rfl, by omega, by omega⟩ (fun fsc_98 gc_98 H locs hOc_98 hkc_98 hnc_98 hgc_98 hfc_98 hWc_98 hP hS => ?_)
          have hk_99 := (hnc_98 6 (by decide)).trans hkc_87
          have hk_100 := (hnc_98 4 (by decide)).trans hk_88
          have hk_101 := (hnc_98 1 (by decide)).trans hk_89
          have hk_102 := (hnc_98 0 (by decide)).trans hk_90
          have hg_104 := (hfc_98 2 (by decide)).trans hg_93
          have hfr_103 : ∀ j, j ≠ 1 → gc_98 j = g j := fun j hj => (hfc_98 j (by omega)).trans (hfr_92 j hj)
          have hgi_105 := gI_of hgc_98 hkc_98
          have hgi_106 := gI_of hgc_98 hk_100
          refine lv_aload_n hx hb dX7_advance_103 rfl (lv_at hl 0 rfl) ?_
          refine q_get X iX7_advance_7 hP (by decide) hgc_98 rfl 6 (by decide) (List.mem_of_getElem? (i := 8) rfl) (v := .int r_86) hk_99 dX7_advance_104 ?_
          refine lv_iconst (v := 1) hx hb dX7_advance_107 (by decide) ?_
          have HJ119 : ∀ (G119 : Nat → va_E) (H : Heap) (locs : List Loc) (ls : Array Slot), WF (shp ad K) ad cs G119 → (∀ j, j ≠ 1 → G119 j = g j) → G119 1 = .inr (7, fsc_98) → va_P D vwCl (wL ad G119 218) H → va_S (wA ad 218) s.heap H locs → lv_has ls 2 [(0, .ref (ad 1))] → W p l e ({ frames := 1, cells := 0, slots := 0, locals := 20 } : Room) s m ([.ref (ad 1)] : List Value).toArray below meth c H locs 0 0 (MQ below (qV D ad 218 (fun g2 => WF (shp ad K) ad cs g2 ∧ (∀ j, j ≠ 1 → g2 j = g j))) ([.ref (ad 1)] : List Value).toArray s 0 0 (wA ad 218)) (F0 m 119 ls []) := by
            intro G119 H locs ls hW119 hfr119 hg119_0 hP hS hl
            refine lv_iconst (v := 1) hx hb dX7_advance_119 (by decide) ?_
            refine lv_goto (tgt := 124) hx hb dX7_advance_120 (by decide) ?_
            refine lv_istore_n (lv' := [(1, .int 1), (0, .ref (ad 1))]) hx hb dX7_advance_124 rfl hl (by decide) rfl (fun ls hl => ?_)
            have HL125 : ∀ (n125 : Nat) (G125 : Nat → va_E) (H : Heap) (locs : List Loc) (ls : Array Slot), (1000 - gI G125 1 5).toNat < n125 → WF (shp ad K) ad cs G125 → (∀ j, j ≠ 1 → G125 j = g j) → va_P D vwCl (wL ad G125 218) H → va_S (wA ad 218) s.heap H locs → lv_has ls 2 [(1, .int 1), (0, .ref (ad 1))] → W p l e ({ frames := 1, cells := 0, slots := 0, locals := 20 } : Room) s m ([.ref (ad 1)] : List Value).toArray below meth c H locs 0 0 (MQ below (qV D ad 218 (fun g2 => WF (shp ad K) ad cs g2 ∧ (∀ j, j ≠ 1 → g2 j = g j))) ([.ref (ad 1)] : List Value).toArray s 0 0 (wA ad 218)) (F0 m 125 ls []) := by
              intro n125
              induction n125 with
              | zero =>
                intro G125 H locs ls hm125 hW125 hfr125 hP hS hl
                exact absurd hm125 (Nat.not_lt_zero _)
              | succ n125 ih125 =>
                intro G125 H locs ls hm125 hW125 hfr125 hP hS hl
                refine lv_iload_n hx hb dX7_advance_125 rfl (lv_at hl 0 rfl) ?_
                have HJ172 : ∀ (G172 : Nat → va_E) (H : Heap) (locs : List Loc) (ls : Array Slot), WF (shp ad K) ad cs G172 → (∀ j, j ≠ 1 → G172 j = g j) → va_P D vwCl (wL ad G172 218) H → va_S (wA ad 218) s.heap H locs → lv_has ls 2 [] → W p l e ({ frames := 1, cells := 0, slots := 0, locals := 20 } : Room) s m ([.ref (ad 1)] : List Value).toArray below meth c H locs 0 0 (MQ below (qV D ad 218 (fun g2 => WF (shp ad K) ad cs g2 ∧ (∀ j, j ≠ 1 → g2 j = g j))) ([.ref (ad 1)] : List Value).toArray s 0 0 (wA ad 218)) (F0 m 172 ls []) := by
                  intro G172 H locs ls hW172 hfr172 hP hS hl
                  exact q_vret X hP hS ⟨hW172, hfr172⟩ dX7_advance_172
                refine lv_if_eq (tgt := 172) hx hb dX7_advance_126 (by decide) (fun h => absurd h (by decide)) (fun _ => ?_)
                refine lv_aload_n hx hb dX7_advance_129 rfl (lv_at hl 1 rfl) ?_
                obtain ⟨fsc_107, hgc_107, hOc_107⟩ := hW125.obj (i := 1) (by decide) (sh_1 ad K)
                obtain ⟨x_109, hk_108, hlx_109, hhx_109⟩ := hOc_107.int 5 rfl
                have hgix_109 := gI_of hgc_107 hk_108
                refine q_get X iX7_advance_7 hP (by decide) hgc_107 rfl 5 (by decide) (List.mem_of_getElem? (i := 1) rfl) (v := .int x_109) hk_108 dX7_advance_130 ?_
                refine lv_aload_n hx hb dX7_advance_133 rfl (lv_at hl 1 rfl) ?_
                obtain ⟨x_111, hk_110, hlx_111, hhx_111⟩ := hOc_107.int 1 rfl
                refine q_get X iX7_advance_7 hP (by decide) hgc_107 rfl 1 (by decide) (List.mem_of_getElem? (i := 3) rfl) (v := .int x_111) hk_110 dX7_advance_134 ?_
                refine lv_icmp_ge (tgt := 172) hx hb dX7_advance_137 (by decide) (fun hc_112 => ?_) (fun hc_112 => ?_)
                · have hhc_112 := n_le (rfl : x_111.toInt = x_111.toInt) (rfl : x_109.toInt = x_109.toInt) hc_112
                  obtain ⟨x_114, hk_113, hlx_114, hhx_114⟩ := hOc_107.int 4 rfl
                  have hgix_114 := gI_of hgc_107 hk_113
                  have hgi_116 := gI_of hgc_107 hk_108
                  exact HJ172 G125 _ _ ls hW125 hfr125 hP hS (lv_sub hl [] rfl)
                · have hhc_112 := n_nle (rfl : x_111.toInt = x_111.toInt) (rfl : x_109.toInt = x_109.toInt) hc_112
                  refine lv_aload_n hx hb dX7_advance_140 rfl (lv_at hl 1 rfl) ?_
                  have hk_117 := hOc_107.ref 0 rfl
                  refine q_get X iX7_advance_7 hP (by decide) hgc_107 rfl 0 (by decide) (List.mem_of_getElem? (i := 4) rfl) (v := .ref (ad 2)) hk_117 dX7_advance_141 ?_
                  refine lv_aload_n hx hb dX7_advance_144 rfl (lv_at hl 1 rfl) ?_
                  refine q_get X iX7_advance_7 hP (by decide) hgc_107 rfl 5 (by decide) (List.mem_of_getElem? (i := 1) rfl) (v := .int x_109) hk_108 dX7_advance_145 ?_
                  obtain ⟨fc_118, hgc_118, hFc_118⟩ := hW125.arr (i := 2) (by decide) (sh_2 ad K)
                  refine q_bald X hP (by decide) hgc_118 (n_in (rfl : x_109.toInt = x_109.toInt) (by omega) (by omega)) dX7_advance_148 ?_
                  refine lv_topi (fun z_119 ez_119 => ?_)
                  obtain ⟨x_121, hk_120, hlx_121, hhx_121⟩ := hOc_107.int 4 rfl
                  have hgix_121 := gI_of hgc_107 hk_120
                  have hgi_123 := gI_of hgc_107 hk_108
                  refine s_callSi (As := [.int z_119]) (rest := []) X Z (s_X7_kindOf l D cs ad kS K hKO hj G125 hW125 z_119) (cwS 1 X.2.2.2.2.1 gg_X7_advance_X7_kindOf rfl rfl rfl (by decide +kernel) ⟨Nat.le_of_ble_eq_true rfl, Nat.le_of_ble_eq_true rfl⟩) hP hA hS.2.1 hS rfl hl.1 rfl (Nat.le_of_ble_eq_true rfl) dX7_advance_149 ⟨Nat.le_of_ble_eq_true rfl, Nat.le_of_ble_eq_true rfl⟩ (fun r_126 g_125 H locs hw_124 hP hS => ?_)
                  obtain ⟨hw_124g, hw_124⟩ := hw_124
                  rw [hw_124g] at hP
                  refine lv_aload_n hx hb dX7_advance_152 rfl (lv_at hl 1 rfl) ?_
                  obtain ⟨x_128, hk_127, hlx_128, hhx_128⟩ := hOc_107.int 6 rfl
                  refine q_get X iX7_advance_7 hP (by decide) hgc_107 rfl 6 (by decide) (List.mem_of_getElem? (i := 8) rfl) (v := .int x_128) hk_127 dX7_advance_153 ?_
                  refine lv_icmp_ne (tgt := 172) hx hb dX7_advance_156 (by decide) (fun hc_129 => ?_) (fun hc_129 => ?_)
                  · have hhc_129 := n_ne (rfl : r_126.toInt = r_126.toInt) (rfl : x_128.toInt = x_128.toInt) hc_129
                    have hgi_130 := gI_of hgc_107 hk_120
                    have hgi_131 := gI_of hgc_107 hk_108
                    exact HJ172 G125 _ _ ls hW125 hfr125 hP hS (lv_sub hl [] rfl)
                  · have hhc_129 := n_eq (rfl : r_126.toInt = r_126.toInt) (rfl : x_128.toInt = x_128.toInt) hc_129
                    refine lv_aload_n hx hb dX7_advance_159 rfl (lv_at hl 1 rfl) ?_
                    refine lv_dup hx hb dX7_advance_160 rfl ?_
                    refine q_get X iX7_advance_7 hP (by decide) hgc_107 rfl 5 (by decide) (List.mem_of_getElem? (i := 1) rfl) (v := .int x_109) hk_108 dX7_advance_161 ?_
                    refine lv_iconst (v := 1) hx hb dX7_advance_164 (by decide) ?_
                    refine lv_iadd hx hb dX7_advance_165 ?_
                    refine lv_topi (fun z_132 ez_132 => ?_)
                    have hz_132 : z_132.toInt = x_109.toInt + 1 := n_add (rfl : x_109.toInt = x_109.toInt) (by decide : (1 : Int32).toInt = 1) ez_132 (by omega) (by omega)
                    refine s_put X iX7_advance_7 tyX7 tyX7_ok nmX7 hP hj hA hS (by decide) hgc_107 rfl 5 (by decide) (List.mem_of_getElem? (i := 1) rfl) rfl (ty := .int) (v := .int z_132) (by decide +kernel) rfl rfl dX7_advance_166 hW125 (sh_1 ad K) hOc_107 rfl ⟨z_132, rfl, by omega, by omega⟩ (fun fsc_133 gc_133 H locs hOc_133 hkc_133 hnc_133 hgc_133 hfc_133 hWc_133 hP hS => ?_)
                    have hk_134 := (hnc_133 1 (by decide)).trans hk_110
                    have hk_135 := (hnc_133 0 (by decide)).trans hk_117
                    have hk_136 := (hnc_133 4 (by decide)).trans hk_120
                    have hk_137 := (hnc_133 6 (by decide)).trans hk_127
                    have hg_139 := (hfc_133 2 (by decide)).trans hgc_118
                    have hfr_138 : ∀ j, j ≠ 1 → gc_133 j = g j := fun j hj => (hfc_133 j (by omega)).trans (hfr125 j hj)
                    have hgi_140 := gI_of hgc_133 hkc_133
                    have hgi_141 := gI_of hgc_133 hk_136
                    refine lv_goto (tgt := 125) hx hb dX7_advance_169 (by decide) ?_
                    have hgi_142 := gI_of hgc_133 hk_136
                    have hgi_143 := gI_of hgc_133 hkc_133
                    exact ih125 gc_133 _ _ ls (by omega) hWc_133 hfr_138 hP hS (lv_sub hl [0, 1] rfl)
            have hgi_144 := gI_of hg119_0 hk_100
            have hgi_145 := gI_of hg119_0 hkc_98
            exact HL125 _ G119 _ _ ls (Nat.lt_succ_self _) hW119 hfr119 hP hS (lv_sub hl [0, 1] rfl)
          refine lv_icmp_eq (tgt := 119) hx hb dX7_advance_108 (by decide) (fun hc_146 => ?_) (fun hc_146 => ?_)
          · have hhc_146 := n_eq (rfl : r_86.toInt = r_86.toInt) (by decide : (1 : Int32).toInt = 1) hc_146
            have hgi_147 := gI_of hgc_98 hk_100
            have hgi_148 := gI_of hgc_98 hkc_98
            exact HJ119 gc_98 _ _ ls hWc_98 hfr_103 hgc_98 hP hS (lv_sub hl [0] rfl)
          · have hhc_146 := n_ne (rfl : r_86.toInt = r_86.toInt) (by decide : (1 : Int32).toInt = 1) hc_146
            refine lv_aload_n hx hb dX7_advance_111 rfl (lv_at hl 0 rfl) ?_
            refine q_get X iX7_advance_7 hP (by decide) hgc_98 rfl 6 (by decide) (List.mem_of_getElem? (i := 8) rfl) (v := .int r_86) hk_99 dX7_advance_112 ?_
            refine lv_iconst (v := 2) hx hb dX7_advance_115 (by decide) ?_
            refine lv_icmp_ne (tgt := 123) hx hb dX7_advance_116 (by decide) (fun hc_149 => ?_) (fun hc_149 => ?_)
            · have hhc_149 := n_ne (rfl : r_86.toInt = r_86.toInt) (by decide : (2 : Int32).toInt = 2) hc_149
              refine lv_iconst (v := 0) hx hb dX7_advance_123 (by decide) ?_
              refine lv_istore_n (lv' := [(1, .int 0), (0, .ref (ad 1))]) hx hb dX7_advance_124 rfl hl (by decide) rfl (fun ls hl => ?_)
              have HL125 : ∀ (n125 : Nat) (G125 : Nat → va_E) (H : Heap) (locs : List Loc) (ls : Array Slot), (1000 - gI G125 1 5).toNat < n125 → WF (shp ad K) ad cs G125 → (∀ j, j ≠ 1 → G125 j = g j) → va_P D vwCl (wL ad G125 218) H → va_S (wA ad 218) s.heap H locs → lv_has ls 2 [(1, .int 0), (0, .ref (ad 1))] → W p l e ({ frames := 1, cells := 0, slots := 0, locals := 20 } : Room) s m ([.ref (ad 1)] : List Value).toArray below meth c H locs 0 0 (MQ below (qV D ad 218 (fun g2 => WF (shp ad K) ad cs g2 ∧ (∀ j, j ≠ 1 → g2 j = g j))) ([.ref (ad 1)] : List Value).toArray s 0 0 (wA ad 218)) (F0 m 125 ls []) := by
                intro n125
                induction n125 with
                | zero =>
                  intro G125 H locs ls hm125 hW125 hfr125 hP hS hl
                  exact absurd hm125 (Nat.not_lt_zero _)
                | succ n125 ih125 =>
                  intro G125 H locs ls hm125 hW125 hfr125 hP hS hl
                  refine lv_iload_n hx hb dX7_advance_125 rfl (lv_at hl 0 rfl) ?_
                  have HJ172 : ∀ (G172 : Nat → va_E) (H : Heap) (locs : List Loc) (ls : Array Slot), WF (shp ad K) ad cs G172 → (∀ j, j ≠ 1 → G172 j = g j) → va_P D vwCl (wL ad G172 218) H → va_S (wA ad 218) s.heap H locs → lv_has ls 2 [] → W p l e ({ frames := 1, cells := 0, slots := 0, locals := 20 } : Room) s m ([.ref (ad 1)] : List Value).toArray below meth c H locs 0 0 (MQ below (qV D ad 218 (fun g2 => WF (shp ad K) ad cs g2 ∧ (∀ j, j ≠ 1 → g2 j = g j))) ([.ref (ad 1)] : List Value).toArray s 0 0 (wA ad 218)) (F0 m 172 ls []) := by
                    intro G172 H locs ls hW172 hfr172 hP hS hl
                    exact q_vret X hP hS ⟨hW172, hfr172⟩ dX7_advance_172
                  refine lv_if_eq (tgt := 172) hx hb dX7_advance_126 (by decide) (fun _ => ?_) (fun h => absurd h (by decide))
                  obtain ⟨fsc_150, hgc_150, hOc_150⟩ := hW125.obj (i := 1) (by decide) (sh_1 ad K)
                  obtain ⟨x_152, hk_151, hlx_152, hhx_152⟩ := hOc_150.int 4 rfl
                  have hgix_152 := gI_of hgc_150 hk_151
                  obtain ⟨x_155, hk_154, hlx_155, hhx_155⟩ := hOc_150.int 5 rfl
                  have hgix_155 := gI_of hgc_150 hk_154
                  exact HJ172 G125 _ _ ls hW125 hfr125 hP hS (lv_sub hl [] rfl)
              have hgi_157 := gI_of hgc_98 hk_100
              have hgi_158 := gI_of hgc_98 hkc_98
              exact HL125 _ gc_98 _ _ ls (Nat.lt_succ_self _) hWc_98 hfr_103 hP hS (lv_sub hl [0, 1] rfl)
            · have hhc_149 := n_eq (rfl : r_86.toInt = r_86.toInt) (by decide : (2 : Int32).toInt = 2) hc_149
              have hgi_159 := gI_of hgc_98 hk_100
              have hgi_160 := gI_of hgc_98 hkc_98
              exact HJ119 gc_98 _ _ ls hWc_98 hfr_103 hgc_98 hP hS (lv_sub hl [0] rfl)
      refine lv_icmp_ge (tgt := 48) hx hb dX7_advance_16 (by decide) (fun hc_161 => ?_) (fun hc_161 => ?_)
      · have hhc_161 := n_le (rfl : x_15.toInt = x_15.toInt) (rfl : x_13.toInt = x_13.toInt) hc_161
        have hgi_162 := gI_of hgc_11 hk_12
        obtain ⟨x_164, hk_163, hlx_164, hhx_164⟩ := hOc_11.int 5 rfl
        have hgix_164 := gI_of hgc_11 hk_163
        exact HJ48 G8 _ _ ls hW8 hfr8 hgc_11 hP hS (lv_sub hl [0] rfl)
      · have hhc_161 := n_nle (rfl : x_15.toInt = x_15.toInt) (rfl : x_13.toInt = x_13.toInt) hc_161
        refine lv_aload_n hx hb dX7_advance_19 rfl (lv_at hl 0 rfl) ?_
        have hk_166 := hOc_11.ref 0 rfl
        refine q_get X iX7_advance_7 hP (by decide) hgc_11 rfl 0 (by decide) (List.mem_of_getElem? (i := 4) rfl) (v := .ref (ad 2)) hk_166 dX7_advance_20 ?_
        refine lv_aload_n hx hb dX7_advance_23 rfl (lv_at hl 0 rfl) ?_
        refine q_get X iX7_advance_7 hP (by decide) hgc_11 rfl 4 (by decide) (List.mem_of_getElem? (i := 2) rfl) (v := .int x_13) hk_12 dX7_advance_24 ?_
        obtain ⟨fc_167, hgc_167, hFc_167⟩ := hW8.arr (i := 2) (by decide) (sh_2 ad K)
        refine q_bald X hP (by decide) hgc_167 (n_in (rfl : x_13.toInt = x_13.toInt) (by omega) (by omega)) dX7_advance_27 ?_
        refine lv_topi (fun z_168 ez_168 => ?_)
        have hgi_169 := gI_of hgc_11 hk_12
        obtain ⟨x_171, hk_170, hlx_171, hhx_171⟩ := hOc_11.int 5 rfl
        have hgix_171 := gI_of hgc_11 hk_170
        refine s_callSi (As := [.int z_168]) (rest := []) X Z (s_X7_kindOf l D cs ad kS K hKO hj G8 hW8 z_168) (cwS 1 X.2.2.2.2.1 gg_X7_advance_X7_kindOf rfl rfl rfl (by decide +kernel) ⟨Nat.le_of_ble_eq_true rfl, Nat.le_of_ble_eq_true rfl⟩) hP hA hS.2.1 hS rfl hl.1 rfl (Nat.le_of_ble_eq_true rfl) dX7_advance_28 ⟨Nat.le_of_ble_eq_true rfl, Nat.le_of_ble_eq_true rfl⟩ (fun r_175 g_174 H locs hw_173 hP hS => ?_)
        obtain ⟨hw_173g, hw_173⟩ := hw_173
        rw [hw_173g] at hP
        refine lv_iconst (v := 5) hx hb dX7_advance_31 (by decide) ?_
        refine lv_icmp_ne (tgt := 48) hx hb dX7_advance_32 (by decide) (fun hc_176 => ?_) (fun hc_176 => ?_)
        · have hhc_176 := n_ne (rfl : r_175.toInt = r_175.toInt) (by decide : (5 : Int32).toInt = 5) hc_176
          have hgi_177 := gI_of hgc_11 hk_12
          have hgi_178 := gI_of hgc_11 hk_170
          exact HJ48 G8 _ _ ls hW8 hfr8 hgc_11 hP hS (lv_sub hl [0] rfl)
        · have hhc_176 := n_eq (rfl : r_175.toInt = r_175.toInt) (by decide : (5 : Int32).toInt = 5) hc_176
          refine lv_aload_n hx hb dX7_advance_35 rfl (lv_at hl 0 rfl) ?_
          refine lv_dup hx hb dX7_advance_36 rfl ?_
          refine q_get X iX7_advance_7 hP (by decide) hgc_11 rfl 4 (by decide) (List.mem_of_getElem? (i := 2) rfl) (v := .int x_13) hk_12 dX7_advance_37 ?_
          refine lv_iconst (v := 1) hx hb dX7_advance_40 (by decide) ?_
          refine lv_iadd hx hb dX7_advance_41 ?_
          refine lv_topi (fun z_179 ez_179 => ?_)
          have hz_179 : z_179.toInt = x_13.toInt + 1 := n_add (rfl : x_13.toInt = x_13.toInt) (by decide : (1 : Int32).toInt = 1) ez_179 (by omega) (by omega)
          refine s_put X iX7_advance_7 tyX7 tyX7_ok nmX7 hP hj hA hS (by decide) hgc_11 rfl 4 (by decide) (List.mem_of_getElem? (i := 2) rfl) rfl (ty := .int) (v := .int z_179) (by decide +kernel) rfl rfl dX7_advance_42 hW8 (sh_1 ad K) hOc_11 rfl ⟨z_179, rfl, by omega, by omega⟩ (fun fsc_180 gc_180 H locs hOc_180 hkc_180 hnc_180 hgc_180 hfc_180 hWc_180 hP hS => ?_)
          have hk_181 := (hnc_180 1 (by decide)).trans hk_14
          have hk_182 := (hnc_180 0 (by decide)).trans hk_166
          have hk_183 := (hnc_180 5 (by decide)).trans hk_170
          have hg_185 := (hfc_180 2 (by decide)).trans hgc_167
          have hfr_184 : ∀ j, j ≠ 1 → gc_180 j = g j := fun j hj => (hfc_180 j (by omega)).trans (hfr8 j hj)
          have hgi_186 := gI_of hgc_180 hkc_180
          have hgi_187 := gI_of hgc_180 hk_183
          refine lv_goto (tgt := 8) hx hb dX7_advance_45 (by decide) ?_
          have hgi_188 := gI_of hgc_180 hkc_180
          have hgi_189 := gI_of hgc_180 hk_183
          exact ih8 gc_180 _ _ ls (by omega) hWc_180 hfr_184 hP hS (lv_sub hl [0] rfl)
  have hgi_190 := gI_of hgc_6 hkc_6
  have hgi_191 := gI_of hgc_6 hk_7
  exact HL8 _ gc_6 _ _ ls (Nat.lt_succ_self _) hWc_6 hfr_8 hP hS (lv_sub hl [0] rfl)

theorem dX7_numberHere_0 : decode cX7_numberHere 0 = .ok (.iconst 0, 1) := by decide +kernel
theorem dX7_numberHere_1 : decode cX7_numberHere 1 = .ok (.istore_n 1, 1) := by decide +kernel
theorem dX7_numberHere_2 : decode cX7_numberHere 2 = .ok (.aload_n 0, 1) := by decide +kernel
theorem dX7_numberHere_3 : decode cX7_numberHere 3 = .ok (.getfield 159, 3) := by decide +kernel
theorem dX7_numberHere_6 : decode cX7_numberHere 6 = .ok (.istore_n 2, 1) := by decide +kernel
theorem dX7_numberHere_7 : decode cX7_numberHere 7 = .ok (.iload_n 2, 1) := by decide +kernel
theorem dX7_numberHere_8 : decode cX7_numberHere 8 = .ok (.aload_n 0, 1) := by decide +kernel
theorem dX7_numberHere_9 : decode cX7_numberHere 9 = .ok (.getfield 30, 3) := by decide +kernel
theorem dX7_numberHere_12 : decode cX7_numberHere 12 = .ok (.if_icmp .ge 29, 3) := by decide +kernel
theorem dX7_numberHere_15 : decode cX7_numberHere 15 = .ok (.bipush 100, 2) := by decide +kernel
theorem dX7_numberHere_17 : decode cX7_numberHere 17 = .ok (.iload_n 1, 1) := by decide +kernel
theorem dX7_numberHere_18 : decode cX7_numberHere 18 = .ok (.bipush 10, 2) := by decide +kernel
theorem dX7_numberHere_20 : decode cX7_numberHere 20 = .ok (.imul, 1) := by decide +kernel
theorem dX7_numberHere_21 : decode cX7_numberHere 21 = .ok (.aload_n 0, 1) := by decide +kernel
theorem dX7_numberHere_22 : decode cX7_numberHere 22 = .ok (.getfield 9, 3) := by decide +kernel
theorem dX7_numberHere_25 : decode cX7_numberHere 25 = .ok (.iload_n 2, 1) := by decide +kernel
theorem dX7_numberHere_26 : decode cX7_numberHere 26 = .ok (.baload, 1) := by decide +kernel
theorem dX7_numberHere_27 : decode cX7_numberHere 27 = .ok (.iadd, 1) := by decide +kernel
theorem dX7_numberHere_28 : decode cX7_numberHere 28 = .ok (.bipush 48, 2) := by decide +kernel
theorem dX7_numberHere_30 : decode cX7_numberHere 30 = .ok (.isub, 1) := by decide +kernel
theorem dX7_numberHere_31 : decode cX7_numberHere 31 = .ok (.invokestatic 162, 3) := by decide +kernel
theorem dX7_numberHere_34 : decode cX7_numberHere 34 = .ok (.istore_n 1, 1) := by decide +kernel
theorem dX7_numberHere_35 : decode cX7_numberHere 35 = .ok (.iinc 2 1, 3) := by decide +kernel
theorem dX7_numberHere_38 : decode cX7_numberHere 38 = .ok (.goto (-31), 3) := by decide +kernel
theorem dX7_numberHere_41 : decode cX7_numberHere 41 = .ok (.iload_n 1, 1) := by decide +kernel
theorem dX7_numberHere_42 : decode cX7_numberHere 42 = .ok (.ireturn, 1) := by decide +kernel
noncomputable def vX7_numberHere : List Cond := .code yX7_numberHere cX7_numberHere 3 (some .int) :: (([.fieldLink RX7 159 "IcicleClock$Tape" "start" "I", .fieldLink RX7 30 "IcicleClock$Tape" "stop" "I", .fieldLink RX7 9 "IcicleClock$Tape" "bytes" "[B", .methodLink RX7 162 Lib.Math.min.name, .static Lib.Math.min.name, .initialized "java/lang/Math", .code Lib.Math.min.name Lib.Math.min.code 2 (some .int)] : List Cond) ++ wsX70)
theorem iX7_numberHere_7 : ∀ w ∈ wsX70, w ∈ vX7_numberHere := fun _ h => List.mem_cons_of_mem _ (List.mem_append_right _ (h))
theorem gs_X7_numberHere : Gd vX7_numberHere := Gd.cons (by decide +kernel) (Gd.app (Gd.r (by decide +kernel)) gwX_7)
set_option maxHeartbeats 4000000 in
set_option maxRecDepth 100000 in
theorem s_X7_numberHere (l : Launch) (D : va_G) (cs : Nat → ClassId) (ad : Nat → Nat) (kS : kSt) (K : sK) (hKO : KO K) (hj : wJ ad 218) (g : Nat → va_E) (hW : WF (shp ad K) ad cs g) : sI l yX7_numberHere vX7_numberHere { frames := 1, cells := 0, slots := 0, locals := 13 } D cs ad kS [.ref (ad 1)] g (fun r g2 => g2 = g) := by
  refine Met.startS (cc := cX7_numberHere) (maxL := 3) (ret := (some .int)) RX7 rfl (by decide) rfl (Nat.le_of_ble_eq_true rfl) ?_
  intro p e s m below meth c ls X Z hP hl
  have hx := X.1
  have hb := X.2.1
  have hS : va_S (wA ad 218) s.heap s.heap [] := va_S.rf
  have hA : ∀ i, i < 218 → wA ad 218 (ad i) := fun i h => ⟨i, h, rfl⟩
  have hl : lv_has ls 3 [(0, .ref (ad 1))] := hl
  refine lv_iconst (v := 0) hx hb dX7_numberHere_0 (by decide) ?_
  refine lv_istore_n (lv' := [(1, .int 0), (0, .ref (ad 1))]) hx hb dX7_numberHere_1 rfl hl (by decide) rfl (fun ls hl => ?_)
  refine lv_aload_n hx hb dX7_numberHere_2 rfl (lv_at hl 1 rfl) ?_
  obtain ⟨fsc_1, hgc_1, hOc_1⟩ := hW.obj (i := 1) (by decide) (sh_1 ad K)
  obtain ⟨x_3, hk_2, hlx_3, hhx_3⟩ := hOc_1.int 4 rfl
  refine q_get X iX7_numberHere_7 hP (by decide) hgc_1 rfl 4 (by decide) (List.mem_of_getElem? (i := 1) rfl) (v := .int x_3) hk_2 dX7_numberHere_3 ?_
  refine lv_istore_n (lv' := [(2, .int x_3), (1, .int 0), (0, .ref (ad 1))]) hx hb dX7_numberHere_6 rfl hl (by decide) rfl (fun ls hl => ?_)
  have HL7 : ∀ (n7 : Nat) (v7_2 : Int32) (v7_1 : Int32) (H : Heap) (locs : List Loc) (ls : Array Slot), (1000 - v7_2.toInt).toNat < n7 → (0 ≤ v7_2.toInt ∧ v7_2.toInt ≤ 1000) → (v7_1.toInt ≤ 100) → va_P D vwCl (wL ad g 218) H → va_S (wA ad 218) s.heap H locs → lv_has ls 3 [(2, .int v7_2), (1, .int v7_1), (0, .ref (ad 1))] → W p l e ({ frames := 1, cells := 0, slots := 0, locals := 13 } : Room) s m ([.ref (ad 1)] : List Value).toArray below meth c H locs 0 0 (MQ below (qI D ad 218 (fun r g2 => g2 = g)) ([.ref (ad 1)] : List Value).toArray s 0 0 (wA ad 218)) (F0 m 7 ls []) := by
    intro n7
    induction n7 with
    | zero =>
      intro v7_2 v7_1 H locs ls hm7 hv7_0 hv7_1 hP hS hl
      exact absurd hm7 (Nat.not_lt_zero _)
    | succ n7 ih7 =>
      intro v7_2 v7_1 H locs ls hm7 hv7_0 hv7_1 hP hS hl
      refine lv_iload_n hx hb dX7_numberHere_7 rfl (lv_at hl 0 rfl) ?_
      refine lv_aload_n hx hb dX7_numberHere_8 rfl (lv_at hl 2 rfl) ?_
      obtain ⟨x_5, hk_4, hlx_5, hhx_5⟩ := hOc_1.int 5 rfl
      refine q_get X iX7_numberHere_7 hP (by decide) hgc_1 rfl 5 (by decide) (List.mem_of_getElem? (i := 2) rfl) (v := .int x_5) hk_4 dX7_numberHere_9 ?_
      refine lv_icmp_ge (tgt := 41) hx hb dX7_numberHere_12 (by decide) (fun hc_6 => ?_) (fun hc_6 => ?_)
      · have hhc_6 := n_le (rfl : x_5.toInt = x_5.toInt) (rfl : v7_2.toInt = v7_2.toInt) hc_6
        refine lv_iload_n hx hb dX7_numberHere_41 rfl (lv_at hl 1 rfl) ?_
        exact q_iret X hP hS rfl dX7_numberHere_42
      · have hhc_6 := n_nle (rfl : x_5.toInt = x_5.toInt) (rfl : v7_2.toInt = v7_2.toInt) hc_6
        refine lv_bipush (v := 100) hx hb dX7_numberHere_15 (by decide) ?_
        refine lv_iload_n hx hb dX7_numberHere_17 rfl (lv_at hl 1 rfl) ?_
        refine lv_bipush (v := 10) hx hb dX7_numberHere_18 (by decide) ?_
        refine lv_imul hx hb dX7_numberHere_20 ?_
        refine lv_topi (fun z_7 ez_7 => ?_)
        refine lv_aload_n hx hb dX7_numberHere_21 rfl (lv_at hl 2 rfl) ?_
        have hk_8 := hOc_1.ref 0 rfl
        refine q_get X iX7_numberHere_7 hP (by decide) hgc_1 rfl 0 (by decide) (List.mem_of_getElem? (i := 3) rfl) (v := .ref (ad 2)) hk_8 dX7_numberHere_22 ?_
        refine lv_iload_n hx hb dX7_numberHere_25 rfl (lv_at hl 0 rfl) ?_
        obtain ⟨fc_9, hgc_9, hFc_9⟩ := hW.arr (i := 2) (by decide) (sh_2 ad K)
        refine q_bald X hP (by decide) hgc_9 (n_in (rfl : v7_2.toInt = v7_2.toInt) (by omega) (by omega)) dX7_numberHere_26 ?_
        refine lv_topi (fun z_10 ez_10 => ?_)
        refine lv_iadd hx hb dX7_numberHere_27 ?_
        refine lv_topi (fun z_11 ez_11 => ?_)
        refine lv_bipush (v := 48) hx hb dX7_numberHere_28 (by decide) ?_
        refine lv_isub hx hb dX7_numberHere_30 ?_
        refine lv_topi (fun z_12 ez_12 => ?_)
        refine va_mmin hx hb (X.2.2.2.1.trans hl.1.symm) X.2.2.2.2.2.1 (X.2.2.2.2.1 _ (List.mem_of_getElem? (i := 4) rfl)) (X.2.2.2.2.1 _ (List.mem_of_getElem? (i := 5) rfl)) (X.2.2.2.2.1 _ (List.mem_of_getElem? (i := 6) rfl)) (X.2.2.2.2.1 _ (List.mem_of_getElem? (i := 7) rfl)) (Nat.le_of_ble_eq_true rfl) (Nat.le_of_ble_eq_true rfl) (Nat.le_of_ble_eq_true rfl) (Nat.le_of_ble_eq_true rfl) dX7_numberHere_31 ?_
        refine lv_topi (fun z_13 ez_13 => ?_)
        have hz_13 := n_min (by decide : (100 : Int32).toInt = 100) (rfl : z_12.toInt = z_12.toInt) ez_13
        refine lv_istore_n (lv' := [(1, .int z_13), (2, .int v7_2), (0, .ref (ad 1))]) hx hb dX7_numberHere_34 rfl hl (by decide) rfl (fun ls hl => ?_)
        obtain ⟨x_14, ex_14⟩ : ∃ y : Int32, y = v7_2 + 1 := ⟨_, rfl⟩
        have hx_14 : x_14.toInt = v7_2.toInt + 1 := n_add rfl (by decide : (1 : Int32).toInt = 1) ex_14 (by omega) (by omega)
        refine lv_iinc (v := x_14) (lv' := [(2, .int x_14), (1, .int z_13), (0, .ref (ad 1))]) hx hb dX7_numberHere_35 hl (k := 1) rfl (by rw [ex_14]; rfl) (by decide) rfl (fun ls hl => ?_)
        refine lv_goto (tgt := 7) hx hb dX7_numberHere_38 (by decide) ?_
        exact ih7 x_14 z_13 _ _ ls (by omega) (by omega) (by omega) hP hS (lv_sub hl [0, 1, 2] rfl)
  have hiv7_1 : (0 : Int32).toInt = 0 := by decide
  exact HL7 _ x_3 0 _ _ ls (Nat.lt_succ_self _) (by omega) (by omega) hP hS (lv_sub hl [0, 1, 2] rfl)

theorem dX7_isWord_0 : decode cX7_isWord 0 = .ok (.aload_n 0, 1) := by decide +kernel
theorem dX7_isWord_1 : decode cX7_isWord 1 = .ok (.getfield 36, 3) := by decide +kernel
theorem dX7_isWord_4 : decode cX7_isWord 4 = .ok (.iconst 1, 1) := by decide +kernel
theorem dX7_isWord_5 : decode cX7_isWord 5 = .ok (.if_icmp .ne 19, 3) := by decide +kernel
theorem dX7_isWord_8 : decode cX7_isWord 8 = .ok (.aload_n 0, 1) := by decide +kernel
theorem dX7_isWord_9 : decode cX7_isWord 9 = .ok (.getfield 30, 3) := by decide +kernel
theorem dX7_isWord_12 : decode cX7_isWord 12 = .ok (.aload_n 0, 1) := by decide +kernel
theorem dX7_isWord_13 : decode cX7_isWord 13 = .ok (.getfield 159, 3) := by decide +kernel
theorem dX7_isWord_16 : decode cX7_isWord 16 = .ok (.isub, 1) := by decide +kernel
theorem dX7_isWord_17 : decode cX7_isWord 17 = .ok (.aload_n 1, 1) := by decide +kernel
theorem dX7_isWord_18 : decode cX7_isWord 18 = .ok (.invokevirtual 167, 3) := by decide +kernel
theorem dX7_isWord_21 : decode cX7_isWord 21 = .ok (.if_icmp .eq 5, 3) := by decide +kernel
theorem dX7_isWord_26 : decode cX7_isWord 26 = .ok (.iconst 0, 1) := by decide +kernel
theorem dX7_isWord_27 : decode cX7_isWord 27 = .ok (.istore_n 2, 1) := by decide +kernel
theorem dX7_isWord_28 : decode cX7_isWord 28 = .ok (.iload_n 2, 1) := by decide +kernel
theorem dX7_isWord_29 : decode cX7_isWord 29 = .ok (.aload_n 1, 1) := by decide +kernel
theorem dX7_isWord_30 : decode cX7_isWord 30 = .ok (.invokevirtual 167, 3) := by decide +kernel
theorem dX7_isWord_33 : decode cX7_isWord 33 = .ok (.if_icmp .ge 30, 3) := by decide +kernel
theorem dX7_isWord_36 : decode cX7_isWord 36 = .ok (.aload_n 0, 1) := by decide +kernel
theorem dX7_isWord_37 : decode cX7_isWord 37 = .ok (.getfield 9, 3) := by decide +kernel
theorem dX7_isWord_40 : decode cX7_isWord 40 = .ok (.aload_n 0, 1) := by decide +kernel
theorem dX7_isWord_41 : decode cX7_isWord 41 = .ok (.getfield 159, 3) := by decide +kernel
theorem dX7_isWord_44 : decode cX7_isWord 44 = .ok (.iload_n 2, 1) := by decide +kernel
theorem dX7_isWord_45 : decode cX7_isWord 45 = .ok (.iadd, 1) := by decide +kernel
theorem dX7_isWord_46 : decode cX7_isWord 46 = .ok (.baload, 1) := by decide +kernel
theorem dX7_isWord_47 : decode cX7_isWord 47 = .ok (.aload_n 1, 1) := by decide +kernel
theorem dX7_isWord_48 : decode cX7_isWord 48 = .ok (.iload_n 2, 1) := by decide +kernel
theorem dX7_isWord_49 : decode cX7_isWord 49 = .ok (.invokevirtual 171, 3) := by decide +kernel
theorem dX7_isWord_52 : decode cX7_isWord 52 = .ok (.if_icmp .eq 5, 3) := by decide +kernel
theorem dX7_isWord_55 : decode cX7_isWord 55 = .ok (.iconst 0, 1) := by decide +kernel
theorem dX7_isWord_56 : decode cX7_isWord 56 = .ok (.ireturn, 1) := by decide +kernel
theorem dX7_isWord_57 : decode cX7_isWord 57 = .ok (.iinc 2 1, 3) := by decide +kernel
theorem dX7_isWord_60 : decode cX7_isWord 60 = .ok (.goto (-32), 3) := by decide +kernel
theorem dX7_isWord_63 : decode cX7_isWord 63 = .ok (.iconst 1, 1) := by decide +kernel
theorem dX7_isWord_64 : decode cX7_isWord 64 = .ok (.ireturn, 1) := by decide +kernel
theorem dX7_isWord_24 : decode cX7_isWord 24 = .ok (.iconst 0, 1) := by decide +kernel
theorem dX7_isWord_25 : decode cX7_isWord 25 = .ok (.ireturn, 1) := by decide +kernel
theorem gs_J0_length_8abf5 : Gd vJ0_length_8abf5 := Gd.r (by decide +kernel)
theorem gs_J0_charAt_5068e : Gd vJ0_charAt_5068e := Gd.r (by decide +kernel)
noncomputable def vX7_isWord : List Cond := .code yX7_isWord cX7_isWord 3 (some .boolean) :: (([.fieldLink RX7 36 "IcicleClock$Tape" "kind" "I", .fieldLink RX7 30 "IcicleClock$Tape" "stop" "I", .fieldLink RX7 159 "IcicleClock$Tape" "start" "I", .methodLink RX7 167 yJ0_length_8abf5, .instanceMethod yJ0_length_8abf5, .selects RJ0 yJ0_length_8abf5 yJ0_length_8abf5, .initialized RJ0, .fieldLink RX7 9 "IcicleClock$Tape" "bytes" "[B", .methodLink RX7 171 yJ0_charAt_5068e, .instanceMethod yJ0_charAt_5068e, .selects RJ0 yJ0_charAt_5068e yJ0_charAt_5068e] : List Cond) ++ (wsX70 ++ (vJ0_length_8abf5 ++ vJ0_charAt_5068e)))
theorem iX7_isWord_7 : ∀ w ∈ wsX70, w ∈ vX7_isWord := fun _ h => List.mem_cons_of_mem _ (List.mem_append_right _ (List.mem_append_left _ h))
theorem gs_X7_isWord : Gd vX7_isWord := Gd.cons (by decide +kernel) (Gd.app (Gd.r (by decide +kernel)) (Gd.app gwX_7 (Gd.app gs_J0_length_8abf5 gs_J0_charAt_5068e)))
theorem gg_X7_isWord_J0_length_8abf5 : GoodIn vX7_isWord (wsV RX7 167 RJ0 yJ0_length_8abf5 vJ0_length_8abf5) := goodIn_app (goodIn_r _ [4, 5, 6, 7] (by decide +kernel) (by decide +kernel)) (fun w h => ⟨List.mem_cons_of_mem _ (List.mem_append_right _ (List.mem_append_right _ (List.mem_append_left _ h))), gs_J0_length_8abf5 w h⟩)
theorem gg_X7_isWord_J0_charAt_5068e : GoodIn vX7_isWord (wsV RX7 171 RJ0 yJ0_charAt_5068e vJ0_charAt_5068e) := goodIn_app (goodIn_r _ [9, 10, 11, 7] (by decide +kernel) (by decide +kernel)) (fun w h => ⟨List.mem_cons_of_mem _ (List.mem_append_right _ (List.mem_append_right _ (List.mem_append_right _ (h)))), gs_J0_charAt_5068e w h⟩)
set_option maxHeartbeats 4000000 in
set_option maxRecDepth 100000 in
theorem s_X7_isWord (l : Launch) (D : va_G) (cs : Nat → ClassId) (ad : Nat → Nat) (kS : kSt) (K : sK) (hKO : KO K) (hj : wJ ad 218) (g : Nat → va_E) (hW : WF (shp ad K) ad cs g) (q : Nat) (hp0 : q < 15) : sI l yX7_isWord vX7_isWord { frames := 4, cells := 0, slots := 0, locals := 85 } D cs ad kS [.ref (ad 1), .ref (kS.1 q)] g (fun r g2 => g2 = g ∧ (0 ≤ r.toInt ∧ r.toInt ≤ 1)) := by
  refine Met.startS (cc := cX7_isWord) (maxL := 3) (ret := (some .boolean)) RX7 rfl (by decide) rfl (Nat.le_of_ble_eq_true rfl) ?_
  intro p e s m below meth c ls X Z hP hl
  have hx := X.1
  have hb := X.2.1
  have hS : va_S (wA ad 218) s.heap s.heap [] := va_S.rf
  have hA : ∀ i, i < 218 → wA ad 218 (ad i) := fun i h => ⟨i, h, rfl⟩
  have hl : lv_has ls 3 [(0, .ref (ad 1)), (1, .ref (kS.1 q))] := hl
  refine lv_aload_n hx hb dX7_isWord_0 rfl (lv_at hl 0 rfl) ?_
  obtain ⟨fsc_1, hgc_1, hOc_1⟩ := hW.obj (i := 1) (by decide) (sh_1 ad K)
  obtain ⟨x_3, hk_2, hlx_3, hhx_3⟩ := hOc_1.int 6 rfl
  refine q_get X iX7_isWord_7 hP (by decide) hgc_1 rfl 6 (by decide) (List.mem_of_getElem? (i := 1) rfl) (v := .int x_3) hk_2 dX7_isWord_1 ?_
  refine lv_iconst (v := 1) hx hb dX7_isWord_4 (by decide) ?_
  have HJ24 : ∀ (H : Heap) (locs : List Loc) (ls : Array Slot), va_P D vwCl (wL ad g 218) H → va_S (wA ad 218) s.heap H locs → lv_has ls 3 [] → W p l e ({ frames := 4, cells := 0, slots := 0, locals := 85 } : Room) s m ([.ref (ad 1), .ref (kS.1 q)] : List Value).toArray below meth c H locs 0 0 (MQ below (qI D ad 218 (fun r g2 => g2 = g ∧ (0 ≤ r.toInt ∧ r.toInt ≤ 1))) ([.ref (ad 1), .ref (kS.1 q)] : List Value).toArray s 0 0 (wA ad 218)) (F0 m 24 ls []) := by
    intro H locs ls hP hS hl
    refine lv_iconst (v := 0) hx hb dX7_isWord_24 (by decide) ?_
    have hr0 : (0 : Int32).toInt = 0 := by decide
    exact q_zret X hP hS rfl ⟨rfl, (by omega)⟩ dX7_isWord_25
  refine lv_icmp_ne (tgt := 24) hx hb dX7_isWord_5 (by decide) (fun hc_4 => ?_) (fun hc_4 => ?_)
  · have hhc_4 := n_ne (rfl : x_3.toInt = x_3.toInt) (by decide : (1 : Int32).toInt = 1) hc_4
    exact HJ24 _ _ ls hP hS (lv_sub hl [] rfl)
  · have hhc_4 := n_eq (rfl : x_3.toInt = x_3.toInt) (by decide : (1 : Int32).toInt = 1) hc_4
    refine lv_aload_n hx hb dX7_isWord_8 rfl (lv_at hl 0 rfl) ?_
    obtain ⟨x_6, hk_5, hlx_6, hhx_6⟩ := hOc_1.int 5 rfl
    refine q_get X iX7_isWord_7 hP (by decide) hgc_1 rfl 5 (by decide) (List.mem_of_getElem? (i := 2) rfl) (v := .int x_6) hk_5 dX7_isWord_9 ?_
    refine lv_aload_n hx hb dX7_isWord_12 rfl (lv_at hl 0 rfl) ?_
    obtain ⟨x_8, hk_7, hlx_8, hhx_8⟩ := hOc_1.int 4 rfl
    refine q_get X iX7_isWord_7 hP (by decide) hgc_1 rfl 4 (by decide) (List.mem_of_getElem? (i := 3) rfl) (v := .int x_8) hk_7 dX7_isWord_13 ?_
    refine lv_isub hx hb dX7_isWord_16 ?_
    refine lv_topi (fun z_9 ez_9 => ?_)
    have hz_9 : z_9.toInt = x_6.toInt - x_8.toInt := n_sub (rfl : x_6.toInt = x_6.toInt) (rfl : x_8.toInt = x_8.toInt) ez_9 (by omega) (by omega)
    refine lv_aload_n hx hb dX7_isWord_17 rfl (lv_at hl 1 rfl) ?_
    refine s_callt (As := []) (rest := [.int z_9]) X Z (i := q) (by omega) (s_length l D cs ad kS K hKO hj g hW q (by omega)) (cwV 0 X.2.2.2.2.1 gg_X7_isWord_J0_length_8abf5 rfl rfl rfl (by decide +kernel) ⟨Nat.le_of_ble_eq_true rfl, Nat.le_of_ble_eq_true rfl⟩) hP hA hS.2.1 hS rfl hl.1 rfl (Nat.le_of_ble_eq_true rfl) dX7_isWord_18 ⟨Nat.le_of_ble_eq_true rfl, Nat.le_of_ble_eq_true rfl⟩ (fun r_12 g_11 H locs hw_10 hP hS => ?_)
    obtain ⟨hw_10g, hw_10⟩ := hw_10
    rw [hw_10g] at hP
    have hlenle := lenS_le q
    refine lv_icmp_eq (tgt := 26) hx hb dX7_isWord_21 (by decide) (fun hc_13 => ?_) (fun hc_13 => ?_)
    · have hhc_13 := n_eq (rfl : z_9.toInt = z_9.toInt) (rfl : r_12.toInt = r_12.toInt) hc_13
      refine lv_iconst (v := 0) hx hb dX7_isWord_26 (by decide) ?_
      refine lv_istore_n (lv' := [(2, .int 0), (0, .ref (ad 1)), (1, .ref (kS.1 q))]) hx hb dX7_isWord_27 rfl hl (by decide) rfl (fun ls hl => ?_)
      have HL28 : ∀ (n28 : Nat) (v28_2 : Int32) (H : Heap) (locs : List Loc) (ls : Array Slot), (6 - v28_2.toInt).toNat < n28 → (0 ≤ v28_2.toInt ∧ v28_2.toInt ≤ 6) → va_P D vwCl (wL ad g 218) H → va_S (wA ad 218) s.heap H locs → lv_has ls 3 [(2, .int v28_2), (0, .ref (ad 1)), (1, .ref (kS.1 q))] → W p l e ({ frames := 4, cells := 0, slots := 0, locals := 85 } : Room) s m ([.ref (ad 1), .ref (kS.1 q)] : List Value).toArray below meth c H locs 0 0 (MQ below (qI D ad 218 (fun r g2 => g2 = g ∧ (0 ≤ r.toInt ∧ r.toInt ≤ 1))) ([.ref (ad 1), .ref (kS.1 q)] : List Value).toArray s 0 0 (wA ad 218)) (F0 m 28 ls []) := by
        intro n28
        induction n28 with
        | zero =>
          intro v28_2 H locs ls hm28 hv28_0 hP hS hl
          exact absurd hm28 (Nat.not_lt_zero _)
        | succ n28 ih28 =>
          intro v28_2 H locs ls hm28 hv28_0 hP hS hl
          refine lv_iload_n hx hb dX7_isWord_28 rfl (lv_at hl 0 rfl) ?_
          refine lv_aload_n hx hb dX7_isWord_29 rfl (lv_at hl 2 rfl) ?_
          refine s_callt (As := []) (rest := [.int v28_2]) X Z (i := q) (by omega) (s_length l D cs ad kS K hKO hj g hW q (by omega)) (cwV 0 X.2.2.2.2.1 gg_X7_isWord_J0_length_8abf5 rfl rfl rfl (by decide +kernel) ⟨Nat.le_of_ble_eq_true rfl, Nat.le_of_ble_eq_true rfl⟩) hP hA hS.2.1 hS rfl hl.1 rfl (Nat.le_of_ble_eq_true rfl) dX7_isWord_30 ⟨Nat.le_of_ble_eq_true rfl, Nat.le_of_ble_eq_true rfl⟩ (fun r_16 g_15 H locs hw_14 hP hS => ?_)
          obtain ⟨hw_14g, hw_14⟩ := hw_14
          rw [hw_14g] at hP
          have hlenle := lenS_le q
          refine lv_icmp_ge (tgt := 63) hx hb dX7_isWord_33 (by decide) (fun hc_17 => ?_) (fun hc_17 => ?_)
          · have hhc_17 := n_le (rfl : r_16.toInt = r_16.toInt) (rfl : v28_2.toInt = v28_2.toInt) hc_17
            refine lv_iconst (v := 1) hx hb dX7_isWord_63 (by decide) ?_
            have hr0 : (1 : Int32).toInt = 1 := by decide
            exact q_zret X hP hS rfl ⟨rfl, (by omega)⟩ dX7_isWord_64
          · have hhc_17 := n_nle (rfl : r_16.toInt = r_16.toInt) (rfl : v28_2.toInt = v28_2.toInt) hc_17
            refine lv_aload_n hx hb dX7_isWord_36 rfl (lv_at hl 1 rfl) ?_
            have hk_18 := hOc_1.ref 0 rfl
            refine q_get X iX7_isWord_7 hP (by decide) hgc_1 rfl 0 (by decide) (List.mem_of_getElem? (i := 8) rfl) (v := .ref (ad 2)) hk_18 dX7_isWord_37 ?_
            refine lv_aload_n hx hb dX7_isWord_40 rfl (lv_at hl 1 rfl) ?_
            refine q_get X iX7_isWord_7 hP (by decide) hgc_1 rfl 4 (by decide) (List.mem_of_getElem? (i := 3) rfl) (v := .int x_8) hk_7 dX7_isWord_41 ?_
            refine lv_iload_n hx hb dX7_isWord_44 rfl (lv_at hl 0 rfl) ?_
            refine lv_iadd hx hb dX7_isWord_45 ?_
            refine lv_topi (fun z_19 ez_19 => ?_)
            have hz_19 : z_19.toInt = x_8.toInt + v28_2.toInt := n_add (rfl : x_8.toInt = x_8.toInt) (rfl : v28_2.toInt = v28_2.toInt) ez_19 (by omega) (by omega)
            obtain ⟨fc_20, hgc_20, hFc_20⟩ := hW.arr (i := 2) (by decide) (sh_2 ad K)
            refine q_bald X hP (by decide) hgc_20 (n_in (rfl : z_19.toInt = z_19.toInt) (by omega) (by omega)) dX7_isWord_46 ?_
            refine lv_topi (fun z_21 ez_21 => ?_)
            refine lv_aload_n hx hb dX7_isWord_47 rfl (lv_at hl 2 rfl) ?_
            refine lv_iload_n hx hb dX7_isWord_48 rfl (lv_at hl 0 rfl) ?_
            refine s_callt (As := [.int v28_2]) (rest := [.int z_21]) X Z (i := q) (by omega) (s_charAt l D cs ad kS K hKO hj g hW q v28_2 (by omega) (by omega) (by omega)) (cwV 1 X.2.2.2.2.1 gg_X7_isWord_J0_charAt_5068e rfl rfl rfl (by decide +kernel) ⟨Nat.le_of_ble_eq_true rfl, Nat.le_of_ble_eq_true rfl⟩) hP hA hS.2.1 hS rfl hl.1 rfl (Nat.le_of_ble_eq_true rfl) dX7_isWord_49 ⟨Nat.le_of_ble_eq_true rfl, Nat.le_of_ble_eq_true rfl⟩ (fun r_24 g_23 H locs hw_22 hP hS => ?_)
            rw [hw_22] at hP
            refine lv_icmp_eq (tgt := 57) hx hb dX7_isWord_52 (by decide) (fun hc_25 => ?_) (fun hc_25 => ?_)
            · have hhc_25 := n_eq (rfl : z_21.toInt = z_21.toInt) (rfl : r_24.toInt = r_24.toInt) hc_25
              obtain ⟨x_26, ex_26⟩ : ∃ y : Int32, y = v28_2 + 1 := ⟨_, rfl⟩
              have hx_26 : x_26.toInt = v28_2.toInt + 1 := n_add rfl (by decide : (1 : Int32).toInt = 1) ex_26 (by omega) (by omega)
              refine lv_iinc (v := x_26) (lv' := [(2, .int x_26), (0, .ref (ad 1)), (1, .ref (kS.1 q))]) hx hb dX7_isWord_57 hl (k := 0) rfl (by rw [ex_26]; rfl) (by decide) rfl (fun ls hl => ?_)
              refine lv_goto (tgt := 28) hx hb dX7_isWord_60 (by decide) ?_
              exact ih28 x_26 _ _ ls (by omega) (by omega) hP hS (lv_sub hl [0, 1, 2] rfl)
            · have hhc_25 := n_ne (rfl : z_21.toInt = z_21.toInt) (rfl : r_24.toInt = r_24.toInt) hc_25
              refine lv_iconst (v := 0) hx hb dX7_isWord_55 (by decide) ?_
              have hr0 : (0 : Int32).toInt = 0 := by decide
              exact q_zret X hP hS rfl ⟨rfl, (by omega)⟩ dX7_isWord_56
      have hiv28_2 : (0 : Int32).toInt = 0 := by decide
      exact HL28 _ 0 _ _ ls (Nat.lt_succ_self _) (by omega) hP hS (lv_sub hl [0, 1, 2] rfl)
    · have hhc_13 := n_ne (rfl : z_9.toInt = z_9.toInt) (rfl : r_12.toInt = r_12.toInt) hc_13
      exact HJ24 _ _ ls hP hS (lv_sub hl [] rfl)

theorem dX7_pass_0 : decode cX7_pass 0 = .ok (.iload_n 1, 1) := by decide +kernel
theorem dX7_pass_1 : decode cX7_pass 1 = .ok (.ifCond .eq 10, 3) := by decide +kernel
theorem dX7_pass_4 : decode cX7_pass 4 = .ok (.aload_n 0, 1) := by decide +kernel
theorem dX7_pass_5 : decode cX7_pass 5 = .ok (.invokevirtual 33, 3) := by decide +kernel
theorem dX7_pass_8 : decode cX7_pass 8 = .ok (.goto 8, 3) := by decide +kernel
theorem dX7_pass_11 : decode cX7_pass 11 = .ok (.aload_n 0, 1) := by decide +kernel
theorem dX7_pass_12 : decode cX7_pass 12 = .ok (.iconst 1, 1) := by decide +kernel
theorem dX7_pass_13 : decode cX7_pass 13 = .ok (.invokevirtual 67, 3) := by decide +kernel
theorem dX7_pass_16 : decode cX7_pass 16 = .ok (.return_, 1) := by decide +kernel
noncomputable def vX7_pass : List Cond := .code yX7_pass cX7_pass 2 none :: (([.methodLink RX7 33 yX7_advance, .instanceMethod yX7_advance, .selects RX7 yX7_advance yX7_advance, .initialized RX7, .methodLink RX7 67 yX7_blame, .instanceMethod yX7_blame, .selects RX7 yX7_blame yX7_blame] : List Cond) ++ (vX7_advance ++ vX7_blame))
theorem gs_X7_pass : Gd vX7_pass := Gd.cons (by decide +kernel) (Gd.app (Gd.r (by decide +kernel)) (Gd.app gs_X7_advance gs_X7_blame))
theorem gg_X7_pass_X7_advance : GoodIn vX7_pass (wsV RX7 33 RX7 yX7_advance vX7_advance) := goodIn_app (goodIn_r _ [1, 2, 3, 4] (by decide +kernel) (by decide +kernel)) (fun w h => ⟨List.mem_cons_of_mem _ (List.mem_append_right _ (List.mem_append_left _ h)), gs_X7_advance w h⟩)
theorem gg_X7_pass_X7_blame : GoodIn vX7_pass (wsV RX7 67 RX7 yX7_blame vX7_blame) := goodIn_app (goodIn_r _ [5, 6, 7, 4] (by decide +kernel) (by decide +kernel)) (fun w h => ⟨List.mem_cons_of_mem _ (List.mem_append_right _ (List.mem_append_right _ (h))), gs_X7_blame w h⟩)
set_option maxHeartbeats 4000000 in
set_option maxRecDepth 100000 in
theorem s_X7_pass (l : Launch) (D : va_G) (cs : Nat → ClassId) (ad : Nat → Nat) (kS : kSt) (K : sK) (hKO : KO K) (hj : wJ ad 218) (g : Nat → va_E) (hW : WF (shp ad K) ad cs g) (bo : Int32) : sV l yX7_pass vX7_pass { frames := 2, cells := 0, slots := 0, locals := 41 } D cs ad kS [.ref (ad 1), .int bo] g (fun g2 => WF (shp ad K) ad cs g2 ∧ (∀ j, j ≠ 1 → g2 j = g j)) := by
  refine Met.startS (cc := cX7_pass) (maxL := 2) (ret := none) RX7 rfl (by decide) rfl (Nat.le_of_ble_eq_true rfl) ?_
  intro p e s m below meth c ls X Z hP hl
  have hx := X.1
  have hb := X.2.1
  have hS : va_S (wA ad 218) s.heap s.heap [] := va_S.rf
  have hA : ∀ i, i < 218 → wA ad 218 (ad i) := fun i h => ⟨i, h, rfl⟩
  have hfr : ∀ j, j ≠ 1 → g j = g j := fun _ _ => rfl
  have hl : lv_has ls 2 [(0, .ref (ad 1)), (1, .int bo)] := hl
  refine lv_iload_n hx hb dX7_pass_0 rfl (lv_at hl 1 rfl) ?_
  have HJ16 : ∀ (G16 : Nat → va_E) (H : Heap) (locs : List Loc) (ls : Array Slot), WF (shp ad K) ad cs G16 → (∀ j, j ≠ 1 → G16 j = g j) → va_P D vwCl (wL ad G16 218) H → va_S (wA ad 218) s.heap H locs → lv_has ls 2 [] → W p l e ({ frames := 2, cells := 0, slots := 0, locals := 41 } : Room) s m ([.ref (ad 1), .int bo] : List Value).toArray below meth c H locs 0 0 (MQ below (qV D ad 218 (fun g2 => WF (shp ad K) ad cs g2 ∧ (∀ j, j ≠ 1 → g2 j = g j))) ([.ref (ad 1), .int bo] : List Value).toArray s 0 0 (wA ad 218)) (F0 m 16 ls []) := by
    intro G16 H locs ls hW16 hfr16 hP hS hl
    exact q_vret X hP hS ⟨hW16, hfr16⟩ dX7_pass_16
  refine lv_if_eq (tgt := 11) hx hb dX7_pass_1 (by decide) (fun hc_1 => ?_) (fun hc_1 => ?_)
  · have hhc_1 := n_eq (rfl : bo.toInt = bo.toInt) (by decide : (0 : Int32).toInt = 0) hc_1
    refine lv_aload_n hx hb dX7_pass_11 rfl (lv_at hl 0 rfl) ?_
    refine lv_iconst (v := 1) hx hb dX7_pass_12 (by decide) ?_
    obtain ⟨fsc_5, hgc_5, hOc_5⟩ := hW.obj (i := 1) (by decide) (sh_1 ad K)
    refine s_callv (q := (RX7, TX7, 7)) (As := [.int 1]) (rest := []) X Z (s_X7_blame l D cs ad kS K hKO hj g hW 1) (cwV 1 X.2.2.2.2.1 gg_X7_pass_X7_blame rfl rfl rfl (by decide +kernel) ⟨Nat.le_of_ble_eq_true rfl, Nat.le_of_ble_eq_true rfl⟩) (by decide) hgc_5 rfl hP hA hS.2.1 hS rfl hl.1 rfl (Nat.le_of_ble_eq_true rfl) dX7_pass_13 ⟨Nat.le_of_ble_eq_true rfl, Nat.le_of_ble_eq_true rfl⟩ (fun g_3 H locs hw_2 hP hS => ?_)
    obtain ⟨hw_2W, hw_2f⟩ := hw_2
    have hfr_6 : ∀ j, j ≠ 1 → g_3 j = g j := fun j hj => (hw_2f j (by omega)).trans (hfr j hj)
    exact HJ16 g_3 _ _ ls hw_2W hfr_6 hP hS (lv_sub hl [] rfl)
  · have hhc_1 := n_ne (rfl : bo.toInt = bo.toInt) (by decide : (0 : Int32).toInt = 0) hc_1
    refine lv_aload_n hx hb dX7_pass_4 rfl (lv_at hl 0 rfl) ?_
    obtain ⟨fsc_10, hgc_10, hOc_10⟩ := hW.obj (i := 1) (by decide) (sh_1 ad K)
    refine s_callv (q := (RX7, TX7, 7)) (As := []) (rest := []) X Z (s_X7_advance l D cs ad kS K hKO hj g hW) (cwV 0 X.2.2.2.2.1 gg_X7_pass_X7_advance rfl rfl rfl (by decide +kernel) ⟨Nat.le_of_ble_eq_true rfl, Nat.le_of_ble_eq_true rfl⟩) (by decide) hgc_10 rfl hP hA hS.2.1 hS rfl hl.1 rfl (Nat.le_of_ble_eq_true rfl) dX7_pass_5 ⟨Nat.le_of_ble_eq_true rfl, Nat.le_of_ble_eq_true rfl⟩ (fun g_8 H locs hw_7 hP hS => ?_)
    obtain ⟨hw_7W, hw_7f⟩ := hw_7
    have hfr_11 : ∀ j, j ≠ 1 → g_8 j = g j := fun j hj => (hw_7f j (by omega)).trans (hfr j hj)
    refine lv_goto (tgt := 16) hx hb dX7_pass_8 (by decide) ?_
    exact HJ16 g_8 _ _ ls hw_7W hfr_11 hP hS (lv_sub hl [] rfl)

theorem dX7_passNumber_0 : decode cX7_passNumber 0 = .ok (.aload_n 0, 1) := by decide +kernel
theorem dX7_passNumber_1 : decode cX7_passNumber 1 = .ok (.getfield 36, 3) := by decide +kernel
theorem dX7_passNumber_4 : decode cX7_passNumber 4 = .ok (.iconst 2, 1) := by decide +kernel
theorem dX7_passNumber_5 : decode cX7_passNumber 5 = .ok (.if_icmp .eq 10, 3) := by decide +kernel
theorem dX7_passNumber_8 : decode cX7_passNumber 8 = .ok (.aload_n 0, 1) := by decide +kernel
theorem dX7_passNumber_9 : decode cX7_passNumber 9 = .ok (.iconst 1, 1) := by decide +kernel
theorem dX7_passNumber_10 : decode cX7_passNumber 10 = .ok (.invokevirtual 67, 3) := by decide +kernel
theorem dX7_passNumber_13 : decode cX7_passNumber 13 = .ok (.iconst 0, 1) := by decide +kernel
theorem dX7_passNumber_14 : decode cX7_passNumber 14 = .ok (.ireturn, 1) := by decide +kernel
theorem dX7_passNumber_15 : decode cX7_passNumber 15 = .ok (.aload_n 0, 1) := by decide +kernel
theorem dX7_passNumber_16 : decode cX7_passNumber 16 = .ok (.invokevirtual 155, 3) := by decide +kernel
theorem dX7_passNumber_19 : decode cX7_passNumber 19 = .ok (.istore_n 3, 1) := by decide +kernel
theorem dX7_passNumber_20 : decode cX7_passNumber 20 = .ok (.iload_n 3, 1) := by decide +kernel
theorem dX7_passNumber_21 : decode cX7_passNumber 21 = .ok (.iload_n 1, 1) := by decide +kernel
theorem dX7_passNumber_22 : decode cX7_passNumber 22 = .ok (.if_icmp .lt 8, 3) := by decide +kernel
theorem dX7_passNumber_25 : decode cX7_passNumber 25 = .ok (.iload_n 3, 1) := by decide +kernel
theorem dX7_passNumber_26 : decode cX7_passNumber 26 = .ok (.iload_n 2, 1) := by decide +kernel
theorem dX7_passNumber_27 : decode cX7_passNumber 27 = .ok (.if_icmp .le 10, 3) := by decide +kernel
theorem dX7_passNumber_37 : decode cX7_passNumber 37 = .ok (.aload_n 0, 1) := by decide +kernel
theorem dX7_passNumber_38 : decode cX7_passNumber 38 = .ok (.invokevirtual 33, 3) := by decide +kernel
theorem dX7_passNumber_41 : decode cX7_passNumber 41 = .ok (.iload_n 3, 1) := by decide +kernel
theorem dX7_passNumber_42 : decode cX7_passNumber 42 = .ok (.ireturn, 1) := by decide +kernel
theorem dX7_passNumber_30 : decode cX7_passNumber 30 = .ok (.aload_n 0, 1) := by decide +kernel
theorem dX7_passNumber_31 : decode cX7_passNumber 31 = .ok (.iconst 2, 1) := by decide +kernel
theorem dX7_passNumber_32 : decode cX7_passNumber 32 = .ok (.invokevirtual 67, 3) := by decide +kernel
theorem dX7_passNumber_35 : decode cX7_passNumber 35 = .ok (.iconst 0, 1) := by decide +kernel
theorem dX7_passNumber_36 : decode cX7_passNumber 36 = .ok (.ireturn, 1) := by decide +kernel
noncomputable def vX7_passNumber : List Cond := .code yX7_passNumber cX7_passNumber 4 (some .int) :: (([.fieldLink RX7 36 "IcicleClock$Tape" "kind" "I", .methodLink RX7 67 yX7_blame, .instanceMethod yX7_blame, .selects RX7 yX7_blame yX7_blame, .initialized RX7, .methodLink RX7 155 yX7_numberHere, .instanceMethod yX7_numberHere, .selects RX7 yX7_numberHere yX7_numberHere, .methodLink RX7 33 yX7_advance, .instanceMethod yX7_advance, .selects RX7 yX7_advance yX7_advance] : List Cond) ++ (wsX70 ++ (vX7_blame ++ (vX7_numberHere ++ vX7_advance))))
theorem iX7_passNumber_7 : ∀ w ∈ wsX70, w ∈ vX7_passNumber := fun _ h => List.mem_cons_of_mem _ (List.mem_append_right _ (List.mem_append_left _ h))
theorem gs_X7_passNumber : Gd vX7_passNumber := Gd.cons (by decide +kernel) (Gd.app (Gd.r (by decide +kernel)) (Gd.app gwX_7 (Gd.app gs_X7_blame (Gd.app gs_X7_numberHere gs_X7_advance))))
theorem gg_X7_passNumber_X7_blame : GoodIn vX7_passNumber (wsV RX7 67 RX7 yX7_blame vX7_blame) := goodIn_app (goodIn_r _ [2, 3, 4, 5] (by decide +kernel) (by decide +kernel)) (fun w h => ⟨List.mem_cons_of_mem _ (List.mem_append_right _ (List.mem_append_right _ (List.mem_append_left _ h))), gs_X7_blame w h⟩)
theorem gg_X7_passNumber_X7_numberHere : GoodIn vX7_passNumber (wsV RX7 155 RX7 yX7_numberHere vX7_numberHere) := goodIn_app (goodIn_r _ [6, 7, 8, 5] (by decide +kernel) (by decide +kernel)) (fun w h => ⟨List.mem_cons_of_mem _ (List.mem_append_right _ (List.mem_append_right _ (List.mem_append_right _ (List.mem_append_left _ h)))), gs_X7_numberHere w h⟩)
theorem gg_X7_passNumber_X7_advance : GoodIn vX7_passNumber (wsV RX7 33 RX7 yX7_advance vX7_advance) := goodIn_app (goodIn_r _ [9, 10, 11, 5] (by decide +kernel) (by decide +kernel)) (fun w h => ⟨List.mem_cons_of_mem _ (List.mem_append_right _ (List.mem_append_right _ (List.mem_append_right _ (List.mem_append_right _ (h))))), gs_X7_advance w h⟩)
set_option maxHeartbeats 4000000 in
set_option maxRecDepth 100000 in
theorem s_X7_passNumber (l : Launch) (D : va_G) (cs : Nat → ClassId) (ad : Nat → Nat) (kS : kSt) (K : sK) (hKO : KO K) (hj : wJ ad 218) (g : Nat → va_E) (hW : WF (shp ad K) ad cs g) (le : Int32) (mo : Int32) (hp0 : 0 ≤ le.toInt ∧ le.toInt ≤ 1) : sI l yX7_passNumber vX7_passNumber { frames := 2, cells := 0, slots := 0, locals := 41 } D cs ad kS [.ref (ad 1), .int le, .int mo] g (fun r g2 => WF (shp ad K) ad cs g2 ∧ (∀ j, j ≠ 1 → g2 j = g j) ∧ (0 ≤ r.toInt ∧ (r.toInt = 0 ∨ r.toInt ≤ mo.toInt))) := by
  refine Met.startS (cc := cX7_passNumber) (maxL := 4) (ret := (some .int)) RX7 rfl (by decide) rfl (Nat.le_of_ble_eq_true rfl) ?_
  intro p e s m below meth c ls X Z hP hl
  have hx := X.1
  have hb := X.2.1
  have hS : va_S (wA ad 218) s.heap s.heap [] := va_S.rf
  have hA : ∀ i, i < 218 → wA ad 218 (ad i) := fun i h => ⟨i, h, rfl⟩
  have hfr : ∀ j, j ≠ 1 → g j = g j := fun _ _ => rfl
  have hl : lv_has ls 4 [(0, .ref (ad 1)), (1, .int le), (2, .int mo)] := hl
  refine lv_aload_n hx hb dX7_passNumber_0 rfl (lv_at hl 0 rfl) ?_
  obtain ⟨fsc_1, hgc_1, hOc_1⟩ := hW.obj (i := 1) (by decide) (sh_1 ad K)
  obtain ⟨x_3, hk_2, hlx_3, hhx_3⟩ := hOc_1.int 6 rfl
  refine q_get X iX7_passNumber_7 hP (by decide) hgc_1 rfl 6 (by decide) (List.mem_of_getElem? (i := 1) rfl) (v := .int x_3) hk_2 dX7_passNumber_1 ?_
  refine lv_iconst (v := 2) hx hb dX7_passNumber_4 (by decide) ?_
  refine lv_icmp_eq (tgt := 15) hx hb dX7_passNumber_5 (by decide) (fun hc_4 => ?_) (fun hc_4 => ?_)
  · have hhc_4 := n_eq (rfl : x_3.toInt = x_3.toInt) (by decide : (2 : Int32).toInt = 2) hc_4
    refine lv_aload_n hx hb dX7_passNumber_15 rfl (lv_at hl 0 rfl) ?_
    refine s_calli (q := (RX7, TX7, 7)) (As := []) (rest := []) X Z (s_X7_numberHere l D cs ad kS K hKO hj g hW) (cwV 0 X.2.2.2.2.1 gg_X7_passNumber_X7_numberHere rfl rfl rfl (by decide +kernel) ⟨Nat.le_of_ble_eq_true rfl, Nat.le_of_ble_eq_true rfl⟩) (by decide) hgc_1 rfl hP hA hS.2.1 hS rfl hl.1 rfl (Nat.le_of_ble_eq_true rfl) dX7_passNumber_16 ⟨Nat.le_of_ble_eq_true rfl, Nat.le_of_ble_eq_true rfl⟩ (fun r_7 g_6 H locs hw_5 hP hS => ?_)
    rw [hw_5] at hP
    refine lv_istore_n (lv' := [(3, .int r_7), (0, .ref (ad 1)), (1, .int le), (2, .int mo)]) hx hb dX7_passNumber_19 rfl hl (by decide) rfl (fun ls hl => ?_)
    refine lv_iload_n hx hb dX7_passNumber_20 rfl (lv_at hl 0 rfl) ?_
    refine lv_iload_n hx hb dX7_passNumber_21 rfl (lv_at hl 2 rfl) ?_
    have HJ30 : ∀ (G30 : Nat → va_E) (H : Heap) (locs : List Loc) (ls : Array Slot), WF (shp ad K) ad cs G30 → (∀ j, j ≠ 1 → G30 j = g j) → G30 1 = .inr (7, fsc_1) → va_P D vwCl (wL ad G30 218) H → va_S (wA ad 218) s.heap H locs → lv_has ls 4 [(0, .ref (ad 1))] → W p l e ({ frames := 2, cells := 0, slots := 0, locals := 41 } : Room) s m ([.ref (ad 1), .int le, .int mo] : List Value).toArray below meth c H locs 0 0 (MQ below (qI D ad 218 (fun r g2 => WF (shp ad K) ad cs g2 ∧ (∀ j, j ≠ 1 → g2 j = g j) ∧ (0 ≤ r.toInt ∧ (r.toInt = 0 ∨ r.toInt ≤ mo.toInt)))) ([.ref (ad 1), .int le, .int mo] : List Value).toArray s 0 0 (wA ad 218)) (F0 m 30 ls []) := by
      intro G30 H locs ls hW30 hfr30 hg30_0 hP hS hl
      refine lv_aload_n hx hb dX7_passNumber_30 rfl (lv_at hl 0 rfl) ?_
      refine lv_iconst (v := 2) hx hb dX7_passNumber_31 (by decide) ?_
      refine s_callv (q := (RX7, TX7, 7)) (As := [.int 2]) (rest := []) X Z (s_X7_blame l D cs ad kS K hKO hj G30 hW30 2) (cwV 1 X.2.2.2.2.1 gg_X7_passNumber_X7_blame rfl rfl rfl (by decide +kernel) ⟨Nat.le_of_ble_eq_true rfl, Nat.le_of_ble_eq_true rfl⟩) (by decide) hg30_0 rfl hP hA hS.2.1 hS rfl hl.1 rfl (Nat.le_of_ble_eq_true rfl) dX7_passNumber_32 ⟨Nat.le_of_ble_eq_true rfl, Nat.le_of_ble_eq_true rfl⟩ (fun g_9 H locs hw_8 hP hS => ?_)
      obtain ⟨hw_8W, hw_8f⟩ := hw_8
      have hfr_11 : ∀ j, j ≠ 1 → g_9 j = g j := fun j hj => (hw_8f j (by omega)).trans (hfr30 j hj)
      refine lv_iconst (v := 0) hx hb dX7_passNumber_35 (by decide) ?_
      have hr0 : (0 : Int32).toInt = 0 := by decide
      exact q_iret X hP hS ⟨hw_8W, hfr_11, (by omega)⟩ dX7_passNumber_36
    refine lv_icmp_lt (tgt := 30) hx hb dX7_passNumber_22 (by decide) (fun hc_12 => ?_) (fun hc_12 => ?_)
    · have hhc_12 := n_lt (rfl : r_7.toInt = r_7.toInt) (rfl : le.toInt = le.toInt) hc_12
      have := n_hi r_7
      have := n_lo r_7
      exact HJ30 g _ _ ls hW hfr hgc_1 hP hS (lv_sub hl [1] rfl)
    · have hhc_12 := n_nlt (rfl : r_7.toInt = r_7.toInt) (rfl : le.toInt = le.toInt) hc_12
      have := n_hi r_7
      have := n_lo r_7
      refine lv_iload_n hx hb dX7_passNumber_25 rfl (lv_at hl 0 rfl) ?_
      refine lv_iload_n hx hb dX7_passNumber_26 rfl (lv_at hl 3 rfl) ?_
      refine lv_icmp_le (tgt := 37) hx hb dX7_passNumber_27 (by decide) (fun hc_13 => ?_) (fun hc_13 => ?_)
      · have hhc_13 := n_le (rfl : r_7.toInt = r_7.toInt) (rfl : mo.toInt = mo.toInt) hc_13
        have := n_hi mo
        have := n_lo mo
        have := n_hi r_7
        refine lv_aload_n hx hb dX7_passNumber_37 rfl (lv_at hl 1 rfl) ?_
        refine s_callv (q := (RX7, TX7, 7)) (As := []) (rest := []) X Z (s_X7_advance l D cs ad kS K hKO hj g hW) (cwV 0 X.2.2.2.2.1 gg_X7_passNumber_X7_advance rfl rfl rfl (by decide +kernel) ⟨Nat.le_of_ble_eq_true rfl, Nat.le_of_ble_eq_true rfl⟩) (by decide) hgc_1 rfl hP hA hS.2.1 hS rfl hl.1 rfl (Nat.le_of_ble_eq_true rfl) dX7_passNumber_38 ⟨Nat.le_of_ble_eq_true rfl, Nat.le_of_ble_eq_true rfl⟩ (fun g_15 H locs hw_14 hP hS => ?_)
        obtain ⟨hw_14W, hw_14f⟩ := hw_14
        have hfr_17 : ∀ j, j ≠ 1 → g_15 j = g j := fun j hj => (hw_14f j (by omega)).trans (hfr j hj)
        refine lv_iload_n hx hb dX7_passNumber_41 rfl (lv_at hl 0 rfl) ?_
        exact q_iret X hP hS ⟨hw_14W, hfr_17, (by omega)⟩ dX7_passNumber_42
      · have hhc_13 := n_nle (rfl : r_7.toInt = r_7.toInt) (rfl : mo.toInt = mo.toInt) hc_13
        have := n_hi mo
        have := n_lo mo
        have := n_hi r_7
        exact HJ30 g _ _ ls hW hfr hgc_1 hP hS (lv_sub hl [1] rfl)
  · have hhc_4 := n_ne (rfl : x_3.toInt = x_3.toInt) (by decide : (2 : Int32).toInt = 2) hc_4
    refine lv_aload_n hx hb dX7_passNumber_8 rfl (lv_at hl 0 rfl) ?_
    refine lv_iconst (v := 1) hx hb dX7_passNumber_9 (by decide) ?_
    refine s_callv (q := (RX7, TX7, 7)) (As := [.int 1]) (rest := []) X Z (s_X7_blame l D cs ad kS K hKO hj g hW 1) (cwV 1 X.2.2.2.2.1 gg_X7_passNumber_X7_blame rfl rfl rfl (by decide +kernel) ⟨Nat.le_of_ble_eq_true rfl, Nat.le_of_ble_eq_true rfl⟩) (by decide) hgc_1 rfl hP hA hS.2.1 hS rfl hl.1 rfl (Nat.le_of_ble_eq_true rfl) dX7_passNumber_10 ⟨Nat.le_of_ble_eq_true rfl, Nat.le_of_ble_eq_true rfl⟩ (fun g_19 H locs hw_18 hP hS => ?_)
    obtain ⟨hw_18W, hw_18f⟩ := hw_18
    have hfr_21 : ∀ j, j ≠ 1 → g_19 j = g j := fun j hj => (hw_18f j (by omega)).trans (hfr j hj)
    refine lv_iconst (v := 0) hx hb dX7_passNumber_13 (by decide) ?_
    have hr0 : (0 : Int32).toInt = 0 := by decide
    exact q_iret X hP hS ⟨hw_18W, hfr_21, (by omega)⟩ dX7_passNumber_14

theorem dX7_numberBehind_0 : decode cX7_numberBehind 0 = .ok (.aload_n 0, 1) := by decide +kernel
theorem dX7_numberBehind_1 : decode cX7_numberBehind 1 = .ok (.aload_n 0, 1) := by decide +kernel
theorem dX7_numberBehind_2 : decode cX7_numberBehind 2 = .ok (.aload_n 1, 1) := by decide +kernel
theorem dX7_numberBehind_3 : decode cX7_numberBehind 3 = .ok (.invokevirtual 45, 3) := by decide +kernel
theorem dX7_numberBehind_6 : decode cX7_numberBehind 6 = .ok (.invokevirtual 71, 3) := by decide +kernel
theorem dX7_numberBehind_9 : decode cX7_numberBehind 9 = .ok (.aload_n 0, 1) := by decide +kernel
theorem dX7_numberBehind_10 : decode cX7_numberBehind 10 = .ok (.iconst 0, 1) := by decide +kernel
theorem dX7_numberBehind_11 : decode cX7_numberBehind 11 = .ok (.iload_n 2, 1) := by decide +kernel
theorem dX7_numberBehind_12 : decode cX7_numberBehind 12 = .ok (.invokevirtual 132, 3) := by decide +kernel
theorem dX7_numberBehind_15 : decode cX7_numberBehind 15 = .ok (.ireturn, 1) := by decide +kernel
noncomputable def vX7_numberBehind : List Cond := .code yX7_numberBehind cX7_numberBehind 3 (some .int) :: (([.methodLink RX7 45 yX7_isWord, .instanceMethod yX7_isWord, .selects RX7 yX7_isWord yX7_isWord, .initialized RX7, .methodLink RX7 71 yX7_pass, .instanceMethod yX7_pass, .selects RX7 yX7_pass yX7_pass, .methodLink RX7 132 yX7_passNumber, .instanceMethod yX7_passNumber, .selects RX7 yX7_passNumber yX7_passNumber] : List Cond) ++ (vX7_isWord ++ (vX7_pass ++ vX7_passNumber)))
theorem gs_X7_numberBehind : Gd vX7_numberBehind := Gd.cons (by decide +kernel) (Gd.app (Gd.r (by decide +kernel)) (Gd.app gs_X7_isWord (Gd.app gs_X7_pass gs_X7_passNumber)))
theorem gg_X7_numberBehind_X7_isWord : GoodIn vX7_numberBehind (wsV RX7 45 RX7 yX7_isWord vX7_isWord) := goodIn_app (goodIn_r _ [1, 2, 3, 4] (by decide +kernel) (by decide +kernel)) (fun w h => ⟨List.mem_cons_of_mem _ (List.mem_append_right _ (List.mem_append_left _ h)), gs_X7_isWord w h⟩)
theorem gg_X7_numberBehind_X7_pass : GoodIn vX7_numberBehind (wsV RX7 71 RX7 yX7_pass vX7_pass) := goodIn_app (goodIn_r _ [5, 6, 7, 4] (by decide +kernel) (by decide +kernel)) (fun w h => ⟨List.mem_cons_of_mem _ (List.mem_append_right _ (List.mem_append_right _ (List.mem_append_left _ h))), gs_X7_pass w h⟩)
theorem gg_X7_numberBehind_X7_passNumber : GoodIn vX7_numberBehind (wsV RX7 132 RX7 yX7_passNumber vX7_passNumber) := goodIn_app (goodIn_r _ [8, 9, 10, 4] (by decide +kernel) (by decide +kernel)) (fun w h => ⟨List.mem_cons_of_mem _ (List.mem_append_right _ (List.mem_append_right _ (List.mem_append_right _ (h)))), gs_X7_passNumber w h⟩)
set_option maxHeartbeats 4000000 in
set_option maxRecDepth 100000 in
theorem s_X7_numberBehind (l : Launch) (D : va_G) (cs : Nat → ClassId) (ad : Nat → Nat) (kS : kSt) (K : sK) (hKO : KO K) (hj : wJ ad 218) (g : Nat → va_E) (hW : WF (shp ad K) ad cs g) (q : Nat) (mo : Int32) (hp0 : q < 15) : sI l yX7_numberBehind vX7_numberBehind { frames := 5, cells := 0, slots := 0, locals := 107 } D cs ad kS [.ref (ad 1), .ref (kS.1 q), .int mo] g (fun r g2 => WF (shp ad K) ad cs g2 ∧ (∀ j, j ≠ 1 → g2 j = g j) ∧ (0 ≤ r.toInt ∧ (r.toInt = 0 ∨ r.toInt ≤ mo.toInt))) := by
  refine Met.startS (cc := cX7_numberBehind) (maxL := 3) (ret := (some .int)) RX7 rfl (by decide) rfl (Nat.le_of_ble_eq_true rfl) ?_
  intro p e s m below meth c ls X Z hP hl
  have hx := X.1
  have hb := X.2.1
  have hS : va_S (wA ad 218) s.heap s.heap [] := va_S.rf
  have hA : ∀ i, i < 218 → wA ad 218 (ad i) := fun i h => ⟨i, h, rfl⟩
  have hfr : ∀ j, j ≠ 1 → g j = g j := fun _ _ => rfl
  have hl : lv_has ls 3 [(0, .ref (ad 1)), (1, .ref (kS.1 q)), (2, .int mo)] := hl
  refine lv_aload_n hx hb dX7_numberBehind_0 rfl (lv_at hl 0 rfl) ?_
  refine lv_aload_n hx hb dX7_numberBehind_1 rfl (lv_at hl 0 rfl) ?_
  refine lv_aload_n hx hb dX7_numberBehind_2 rfl (lv_at hl 1 rfl) ?_
  obtain ⟨fsc_4, hgc_4, hOc_4⟩ := hW.obj (i := 1) (by decide) (sh_1 ad K)
  refine s_calli (q := (RX7, TX7, 7)) (As := [.ref (kS.1 q)]) (rest := [.ref (ad 1)]) X Z (s_X7_isWord l D cs ad kS K hKO hj g hW q (by omega)) (cwV 1 X.2.2.2.2.1 gg_X7_numberBehind_X7_isWord rfl rfl rfl (by decide +kernel) ⟨Nat.le_of_ble_eq_true rfl, Nat.le_of_ble_eq_true rfl⟩) (by decide) hgc_4 rfl hP hA hS.2.1 hS rfl hl.1 rfl (Nat.le_of_ble_eq_true rfl) dX7_numberBehind_3 ⟨Nat.le_of_ble_eq_true rfl, Nat.le_of_ble_eq_true rfl⟩ (fun r_3 g_2 H locs hw_1 hP hS => ?_)
  obtain ⟨hw_1g, hw_1⟩ := hw_1
  rw [hw_1g] at hP
  refine s_callv (q := (RX7, TX7, 7)) (As := [.int r_3]) (rest := []) X Z (s_X7_pass l D cs ad kS K hKO hj g hW r_3) (cwV 1 X.2.2.2.2.1 gg_X7_numberBehind_X7_pass rfl rfl rfl (by decide +kernel) ⟨Nat.le_of_ble_eq_true rfl, Nat.le_of_ble_eq_true rfl⟩) (by decide) hgc_4 rfl hP hA hS.2.1 hS rfl hl.1 rfl (Nat.le_of_ble_eq_true rfl) dX7_numberBehind_6 ⟨Nat.le_of_ble_eq_true rfl, Nat.le_of_ble_eq_true rfl⟩ (fun g_6 H locs hw_5 hP hS => ?_)
  obtain ⟨hw_5W, hw_5f⟩ := hw_5
  have hfr_8 : ∀ j, j ≠ 1 → g_6 j = g j := fun j hj => (hw_5f j (by omega)).trans (hfr j hj)
  refine lv_aload_n hx hb dX7_numberBehind_9 rfl (lv_at hl 0 rfl) ?_
  refine lv_iconst (v := 0) hx hb dX7_numberBehind_10 (by decide) ?_
  refine lv_iload_n hx hb dX7_numberBehind_11 rfl (lv_at hl 2 rfl) ?_
  have hqk_9 : (0 : Int32).toInt = 0 := by decide
  obtain ⟨fsc_13, hgc_13, hOc_13⟩ := hw_5W.obj (i := 1) (by decide) (sh_1 ad K)
  refine s_calli (q := (RX7, TX7, 7)) (As := [.int 0, .int mo]) (rest := []) X Z (s_X7_passNumber l D cs ad kS K hKO hj g_6 hw_5W 0 mo (by omega)) (cwV 2 X.2.2.2.2.1 gg_X7_numberBehind_X7_passNumber rfl rfl rfl (by decide +kernel) ⟨Nat.le_of_ble_eq_true rfl, Nat.le_of_ble_eq_true rfl⟩) (by decide) hgc_13 rfl hP hA hS.2.1 hS rfl hl.1 rfl (Nat.le_of_ble_eq_true rfl) dX7_numberBehind_12 ⟨Nat.le_of_ble_eq_true rfl, Nat.le_of_ble_eq_true rfl⟩ (fun r_12 g_11 H locs hw_10 hP hS => ?_)
  obtain ⟨hw_10W, hw_10f, hw_10⟩ := hw_10
  have hfr_14 : ∀ j, j ≠ 1 → g_11 j = g j := fun j hj => (hw_10f j (by omega)).trans (hfr_8 j hj)
  exact q_iret X hP hS ⟨hw_10W, hfr_14, (by omega)⟩ dX7_numberBehind_15
