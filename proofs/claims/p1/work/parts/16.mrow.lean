theorem in_8 {w r : Int32} (h : (r = 1 ∧ 0 ≤ w.toInt64 ∧ w.toInt64 ≤ 8) ∨ (r = 0 ∧ ¬ (0 ≤ w.toInt64 ∧ w.toInt64 ≤ 8))) : (r = 1 ∧ 0 ≤ w.toInt ∧ w.toInt ≤ 8) ∨ (r = 0 ∧ ¬ (0 ≤ w.toInt ∧ w.toInt ≤ 8)) := by
  have e1 : (0 : Int64) ≤ w.toInt64 ↔ 0 ≤ w.toInt := (w_le 0 w).trans Int32.le_iff_toInt_le
  have e2 : w.toInt64 ≤ 8 ↔ w.toInt ≤ 8 := (w_le w 8).trans Int32.le_iff_toInt_le
  rw [e1, e2] at h
  exact h
theorem in_8v {w r : Int32} (h : (r = 1 ∧ 0 ≤ w.toInt64 ∧ w.toInt64 ≤ 8) ∨ (r = 0 ∧ ¬ (0 ≤ w.toInt64 ∧ w.toInt64 ≤ 8))) (hr : ¬ r = 0) : vp_in w 118 := by
  rcases in_8 h with q | q
  · exact vp_in_iff.mpr ⟨q.2.1, by have := q.2.2; omega⟩
  · exact absurd q.1 hr
theorem in_8a {w r : Int32} (h : (r = 1 ∧ 0 ≤ w.toInt64 ∧ w.toInt64 ≤ 8) ∨ (r = 0 ∧ ¬ (0 ≤ w.toInt64 ∧ w.toInt64 ≤ 8))) (hr : ¬ r = 0) : aCnt w = 0 := by
  rcases in_8 h with q | q
  · exact if_neg (by omega)
  · exact absurd q.1 hr
theorem in_8n {w r : Int32} (h : (r = 1 ∧ 0 ≤ w.toInt64 ∧ w.toInt64 ≤ 8) ∨ (r = 0 ∧ ¬ (0 ≤ w.toInt64 ∧ w.toInt64 ≤ 8))) (hr : r = 0) (h9 : ¬ w = 9) (h10 : ¬ w = 10) : aCnt w = -1 := by
  have a9 : w.toInt ≠ 9 := fun q => h9 (Int32.toInt_inj.mp q)
  have a10 : w.toInt ≠ 10 := fun q => h10 (Int32.toInt_inj.mp q)
  rcases in_8 h with q | q
  · exact absurd (q.1.symm.trans hr) (by decide)
  · exact if_pos (by omega)
theorem dX12_row_0 : decode cX12_row 0 = .ok (.iload_n 1, 1) := by decide +kernel
theorem dX12_row_1 : decode cX12_row 1 = .ok (.invokestatic 307, 3) := by decide +kernel
theorem dX12_row_4 : decode cX12_row 4 = .ok (.ifCond .eq 21, 3) := by decide +kernel
theorem dX12_row_25 : decode cX12_row 25 = .ok (.bipush (-2), 2) := by decide +kernel
theorem dX12_row_27 : decode cX12_row 27 = .ok (.ireturn, 1) := by decide +kernel
theorem dX12_row_7 : decode cX12_row 7 = .ok (.iload_n 2, 1) := by decide +kernel
theorem dX12_row_8 : decode cX12_row 8 = .ok (.i2l, 1) := by decide +kernel
theorem dX12_row_9 : decode cX12_row 9 = .ok (.lconst 0, 1) := by decide +kernel
theorem dX12_row_10 : decode cX12_row 10 = .ok (.ldc2_w 431, 3) := by decide +kernel
theorem dX12_row_13 : decode cX12_row 13 = .ok (.invokestatic 82, 3) := by decide +kernel
theorem dX12_row_16 : decode cX12_row 16 = .ok (.ifCond .eq 9, 3) := by decide +kernel
theorem dX12_row_19 : decode cX12_row 19 = .ok (.iload_n 3, 1) := by decide +kernel
theorem dX12_row_20 : decode cX12_row 20 = .ok (.bipush 60, 2) := by decide +kernel
theorem dX12_row_22 : decode cX12_row 22 = .ok (.if_icmp .le 6, 3) := by decide +kernel
theorem dX12_row_28 : decode cX12_row 28 = .ok (.iload_n 3, 1) := by decide +kernel
theorem dX12_row_29 : decode cX12_row 29 = .ok (.ifCond .ge 6, 3) := by decide +kernel
theorem dX12_row_35 : decode cX12_row 35 = .ok (.aload_n 0, 1) := by decide +kernel
theorem dX12_row_36 : decode cX12_row 36 = .ok (.getfield 65, 3) := by decide +kernel
theorem dX12_row_39 : decode cX12_row 39 = .ok (.iload_n 1, 1) := by decide +kernel
theorem dX12_row_40 : decode cX12_row 40 = .ok (.iload_n 3, 1) := by decide +kernel
theorem dX12_row_41 : decode cX12_row 41 = .ok (.iastore, 1) := by decide +kernel
theorem dX12_row_42 : decode cX12_row 42 = .ok (.aload_n 0, 1) := by decide +kernel
theorem dX12_row_43 : decode cX12_row 43 = .ok (.getfield 68, 3) := by decide +kernel
theorem dX12_row_46 : decode cX12_row 46 = .ok (.iload_n 1, 1) := by decide +kernel
theorem dX12_row_47 : decode cX12_row 47 = .ok (.iload_n 2, 1) := by decide +kernel
theorem dX12_row_48 : decode cX12_row 48 = .ok (.iastore, 1) := by decide +kernel
theorem dX12_row_49 : decode cX12_row 49 = .ok (.iconst 0, 1) := by decide +kernel
theorem dX12_row_50 : decode cX12_row 50 = .ok (.istore 4, 2) := by decide +kernel
theorem dX12_row_52 : decode cX12_row 52 = .ok (.iload 4, 2) := by decide +kernel
theorem dX12_row_54 : decode cX12_row 54 = .ok (.bipush 60, 2) := by decide +kernel
theorem dX12_row_56 : decode cX12_row 56 = .ok (.if_icmp .ge 22, 3) := by decide +kernel
theorem dX12_row_78 : decode cX12_row 78 = .ok (.iconst 0, 1) := by decide +kernel
theorem dX12_row_79 : decode cX12_row 79 = .ok (.ireturn, 1) := by decide +kernel
theorem dX12_row_59 : decode cX12_row 59 = .ok (.aload_n 0, 1) := by decide +kernel
theorem dX12_row_60 : decode cX12_row 60 = .ok (.getfield 71, 3) := by decide +kernel
theorem dX12_row_63 : decode cX12_row 63 = .ok (.bipush 60, 2) := by decide +kernel
theorem dX12_row_65 : decode cX12_row 65 = .ok (.iload_n 1, 1) := by decide +kernel
theorem dX12_row_66 : decode cX12_row 66 = .ok (.imul, 1) := by decide +kernel
theorem dX12_row_67 : decode cX12_row 67 = .ok (.iload 4, 2) := by decide +kernel
theorem dX12_row_69 : decode cX12_row 69 = .ok (.iadd, 1) := by decide +kernel
theorem dX12_row_70 : decode cX12_row 70 = .ok (.lconst 0, 1) := by decide +kernel
theorem dX12_row_71 : decode cX12_row 71 = .ok (.lastore, 1) := by decide +kernel
theorem dX12_row_72 : decode cX12_row 72 = .ok (.iinc 4 1, 3) := by decide +kernel
theorem dX12_row_75 : decode cX12_row 75 = .ok (.goto (-23), 3) := by decide +kernel
theorem dX12_row_32 : decode cX12_row 32 = .ok (.bipush (-3), 2) := by decide +kernel
theorem dX12_row_34 : decode cX12_row 34 = .ok (.ireturn, 1) := by decide +kernel
def vX12_row : List Cond := .code yX12_row cX12_row 5 (some .int) :: ([.methodLink RX12 307 yX12_isSlot, .static yX12_isSlot, .initialized RX12, .code yX12_isSlot cX12_isSlot 1 (some .boolean), .constantLong RX12 431 (3), .methodLink RX12 82 yX12_in, .static yX12_in, .code yX12_in cX12_in 6 (some .boolean), .fieldLink RX12 65 "IcicleClockModel" "many" "[I", .fieldLink RX12 68 "IcicleClockModel" "width" "[I", .fieldLink RX12 71 "IcicleClockModel" "numbers" "[J"] ++ wsX120)
theorem iX12_row_12 : ∀ w ∈ wsX120, w ∈ vX12_row := fun _ h => List.mem_cons_of_mem _ (List.mem_append_right _ h)
set_option maxRecDepth 20000 in
theorem gg_X12_row_X12_isSlot : GoodIn vX12_row (wsS RX12 307 yX12_isSlot vX12_isSlot) := goodIn_r _ [1, 2, 3, 4, 5, 6, 7, 3, 8] (by decide +kernel) (by decide +kernel)
set_option maxRecDepth 20000 in
theorem gg_X12_row_X12_in : GoodIn vX12_row (wsS RX12 82 yX12_in vX12_in) := goodIn_r _ [6, 7, 3, 8] (by decide +kernel) (by decide +kernel)
set_option maxHeartbeats 4000000 in
set_option maxRecDepth 100000 in
theorem m_row (l : Launch) (D : va_G) (cs : Nat → ClassId) (ad : Nat → Nat) (hj : wJ ad nW) (g : Nat → va_E) (vs : Int32) (vw : Int32) (vn : Int32) (h197 : g 197 = .inr (12, [.int 0, .ref (ad 198), .ref (ad 199), .ref (ad 200), .ref (ad 201), .int 0, .ref (ad 202), .int 0, .int 0, .int 0, .int 0, .int 0, .int 0, .int (-1), .ref (ad 203), .ref (ad 204), .ref (ad 205), .int 0, .int 0, .ref (ad 206), .ref (ad 207), .ref (ad 208), .int 0, .int 0, .int 0, .int 0, .int 0, .ref (ad 209), .ref (ad 210), .ref (ad 211), .long 0, .long 0, .ref (ad 212), .ref (ad 213), .int 0, .int 0, .ref (ad 214), .ref (ad 215), .ref (ad 216), .ref (ad 217)])) (h214 : g 214 = .inl (cs 1, 4, .inl mF)) (h215 : g 215 = .inl (cs 1, 4, .inl (fun _ => 0))) (h216 : g 216 = .inl (cs 2, 240, .inr (.inl (fun _ => 0)))) : cI l yX12_row vX12_row { frames := 2, cells := 0, slots := 0, locals := 45 } D cs ad nW [.ref (ad 197), .int vs, .int vw, .int vn] g (fun r g2 => r = aRow vs vw vn) := by
  refine Met.start (cc := cX12_row) (maxL := 5) (ret := (some .int)) RX12 rfl (by decide) rfl (Nat.le_of_ble_eq_true rfl) ?_
  intro p e s m below meth c ls X hP hl
  have hx := X.1
  have hb := X.2.1
  have hS : va_S (wA ad nW) s.heap s.heap [] := va_S.rf
  have hA : ∀ i, i < nW → wA ad nW (ad i) := fun i h => ⟨i, h, rfl⟩
  have hl : lv_has ls 5 [(0, .ref (ad 197)), (1, .int vs), (2, .int vw), (3, .int vn)] := hl
  refine lv_iload_n hx hb dX12_row_0 rfl (lv_at hl 1 rfl) ?_
  refine q_callSi (As := [.int vs]) (rest := []) X (m_isSlot l D cs ad hj g vs ) (cwS 1 X.2.2.2.2.1 gg_X12_row_X12_isSlot rfl rfl rfl (by decide +kernel) ⟨Nat.le_of_ble_eq_true rfl, Nat.le_of_ble_eq_true rfl⟩) hP hA hS rfl hl.1 rfl (Nat.le_of_ble_eq_true rfl) dX12_row_1 ⟨Nat.le_of_ble_eq_true rfl, Nat.le_of_ble_eq_true rfl⟩ (fun r_3 g_2 H locs hw_1 hP hS => ?_)
  obtain ⟨hw_1b, hw_1⟩ := hw_1
  rw [hw_1b] at hP
  refine lv_if_eq (tgt := 25) hx hb dX12_row_4 (by decide) (fun hc_4 => ?_) (fun hc_4 => ?_)
  · refine lv_bipush (v := (-2)) hx hb dX12_row_25 (by decide) ?_
    exact q_iret X hP hS (by first | exact aRow_s (hw_1.elim (fun q => absurd (q.1.symm.trans hc_4) (by decide)) (fun q => q.2)) | exact aRow_w (hw_1.elim (fun q => q.2) (fun q => absurd q.1 hc_4)) ((in_S hw_4).elim (fun q => absurd (q.1.symm.trans hc_16) (by decide)) (fun q => q.2)) | exact aRow_n (hw_1.elim (fun q => q.2) (fun q => absurd q.1 hc_4)) ((in_S hw_4).elim (fun q => q.2) (fun q => absurd q.1 hc_16)) hc_22) dX12_row_27
  · refine lv_iload_n hx hb dX12_row_7 rfl (lv_at hl 2 rfl) ?_
    refine lv_i2l (v := vw.toInt64) hx hb dX12_row_8 rfl ?_
    refine lv_lconst (v := 0) hx hb dX12_row_9 (by decide) ?_
    refine lv_ldc2 (v := 3) hx hb X.2.2.2.2.2.1 (X.2.2.2.2.1 _ (List.mem_of_getElem? (i := 5) rfl)) dX12_row_10 ?_
    refine q_callSi (As := [.long (vw.toInt64), .long 0, .long 3]) (rest := []) X (m_in l D cs ad hj g (vw.toInt64) 0 3 ) (cwS 3 X.2.2.2.2.1 gg_X12_row_X12_in rfl rfl rfl (by decide +kernel) ⟨Nat.le_of_ble_eq_true rfl, Nat.le_of_ble_eq_true rfl⟩) hP hA hS rfl hl.1 rfl (Nat.le_of_ble_eq_true rfl) dX12_row_13 ⟨Nat.le_of_ble_eq_true rfl, Nat.le_of_ble_eq_true rfl⟩ (fun r_6 g_5 H locs hw_4 hP hS => ?_)
    obtain ⟨hw_4b, hw_4⟩ := hw_4
    rw [hw_4b] at hP
    refine lv_if_eq (tgt := 25) hx hb dX12_row_16 (by decide) (fun hc_16 => ?_) (fun hc_16 => ?_)
    · refine lv_bipush (v := (-2)) hx hb dX12_row_25 (by decide) ?_
      exact q_iret X hP hS (by first | exact aRow_s (hw_1.elim (fun q => absurd (q.1.symm.trans hc_4) (by decide)) (fun q => q.2)) | exact aRow_w (hw_1.elim (fun q => q.2) (fun q => absurd q.1 hc_4)) ((in_S hw_4).elim (fun q => absurd (q.1.symm.trans hc_16) (by decide)) (fun q => q.2)) | exact aRow_n (hw_1.elim (fun q => q.2) (fun q => absurd q.1 hc_4)) ((in_S hw_4).elim (fun q => q.2) (fun q => absurd q.1 hc_16)) hc_22) dX12_row_27
    · refine lv_iload_n hx hb dX12_row_19 rfl (lv_at hl 3 rfl) ?_
      refine lv_bipush (v := 60) hx hb dX12_row_20 (by decide) ?_
      refine lv_icmp_le (tgt := 28) hx hb dX12_row_22 (by decide) (fun hc_22 => ?_) (fun hc_22 => ?_)
      · refine lv_iload_n hx hb dX12_row_28 rfl (lv_at hl 3 rfl) ?_
        refine lv_if_ge (tgt := 35) hx hb dX12_row_29 (by decide) (fun hc_29 => ?_) (fun hc_29 => ?_)
        · rcases inS_4 (hw_1.elim (fun q => q.2) (fun q => absurd q.1 hc_4)) with rfl | rfl | rfl | rfl
          · refine lv_aload_n hx hb dX12_row_35 rfl (lv_at hl 0 rfl) ?_
            refine q_get X iX12_row_12 hP (by decide) h197 rfl 36 (by decide) (List.mem_of_getElem? (i := 9) rfl) (v := .ref (ad 214)) rfl dX12_row_36 ?_
            refine lv_iload_n hx hb dX12_row_39 rfl (lv_at hl 1 rfl) ?_
            refine lv_iload_n hx hb dX12_row_40 rfl (lv_at hl 3 rfl) ?_
            refine q_iast X hP hj hA hS (by decide) h214 (by unfold vp_in; decide) dX12_row_41 (fun H locs hP hS => ?_)
            generalize eg_7 : va_up g 214 _ = g_7 at hP
            have h_9 : g_7 197 = .inr (12, [.int 0, .ref (ad 198), .ref (ad 199), .ref (ad 200), .ref (ad 201), .int 0, .ref (ad 202), .int 0, .int 0, .int 0, .int 0, .int 0, .int 0, .int (-1), .ref (ad 203), .ref (ad 204), .ref (ad 205), .int 0, .int 0, .ref (ad 206), .ref (ad 207), .ref (ad 208), .int 0, .int 0, .int 0, .int 0, .int 0, .ref (ad 209), .ref (ad 210), .ref (ad 211), .long 0, .long 0, .ref (ad 212), .ref (ad 213), .int 0, .int 0, .ref (ad 214), .ref (ad 215), .ref (ad 216), .ref (ad 217)]) := by rw [← eg_7, va_up_ne _ _ (by decide)]; exact h197
            obtain ⟨f_8, h_10⟩ : ∃ f, g_7 214 = .inl (cs 1, 4, .inl f) := ⟨_, by rw [← eg_7]; exact va_up_self _ _ _⟩
            have h_11 : g_7 215 = .inl (cs 1, 4, .inl (fun _ => 0)) := by rw [← eg_7, va_up_ne _ _ (by decide)]; exact h215
            have h_12 : g_7 216 = .inl (cs 2, 240, .inr (.inl (fun _ => 0))) := by rw [← eg_7, va_up_ne _ _ (by decide)]; exact h216
            refine lv_aload_n hx hb dX12_row_42 rfl (lv_at hl 0 rfl) ?_
            refine q_get X iX12_row_12 hP (by decide) h_9 rfl 37 (by decide) (List.mem_of_getElem? (i := 10) rfl) (v := .ref (ad 215)) rfl dX12_row_43 ?_
            refine lv_iload_n hx hb dX12_row_46 rfl (lv_at hl 1 rfl) ?_
            refine lv_iload_n hx hb dX12_row_47 rfl (lv_at hl 2 rfl) ?_
            refine q_iast X hP hj hA hS (by decide) h_11 (by unfold vp_in; decide) dX12_row_48 (fun H locs hP hS => ?_)
            generalize eg_13 : va_up g_7 215 _ = g_13 at hP
            have h_15 : g_13 197 = .inr (12, [.int 0, .ref (ad 198), .ref (ad 199), .ref (ad 200), .ref (ad 201), .int 0, .ref (ad 202), .int 0, .int 0, .int 0, .int 0, .int 0, .int 0, .int (-1), .ref (ad 203), .ref (ad 204), .ref (ad 205), .int 0, .int 0, .ref (ad 206), .ref (ad 207), .ref (ad 208), .int 0, .int 0, .int 0, .int 0, .int 0, .ref (ad 209), .ref (ad 210), .ref (ad 211), .long 0, .long 0, .ref (ad 212), .ref (ad 213), .int 0, .int 0, .ref (ad 214), .ref (ad 215), .ref (ad 216), .ref (ad 217)]) := by rw [← eg_13, va_up_ne _ _ (by decide)]; exact h_9
            have h_16 : g_13 214 = .inl (cs 1, 4, .inl f_8) := by rw [← eg_13, va_up_ne _ _ (by decide)]; exact h_10
            obtain ⟨f_14, h_17⟩ : ∃ f, g_13 215 = .inl (cs 1, 4, .inl f) := ⟨_, by rw [← eg_13]; exact va_up_self _ _ _⟩
            have h_18 : g_13 216 = .inl (cs 2, 240, .inr (.inl (fun _ => 0))) := by rw [← eg_13, va_up_ne _ _ (by decide)]; exact h_12
            refine lv_iconst (v := 0) hx hb dX12_row_49 (by decide) ?_
            refine lv_istore (lv' := [(4, .int 0), (0, .ref (ad 197)), (1, .int 0), (2, .int vw), (3, .int vn)]) hx hb dX12_row_50 hl (by decide) rfl (fun ls hl => ?_)
            have HL52 : ∀ (d52 k52 : Nat) (f52_216 : Nat → Int64) (G52 : Nat → va_E) (H : Heap) (locs : List Loc) (ls : Array Slot), k52 + d52 = 60 → G52 197 = .inr (12, [.int 0, .ref (ad 198), .ref (ad 199), .ref (ad 200), .ref (ad 201), .int 0, .ref (ad 202), .int 0, .int 0, .int 0, .int 0, .int 0, .int 0, .int (-1), .ref (ad 203), .ref (ad 204), .ref (ad 205), .int 0, .int 0, .ref (ad 206), .ref (ad 207), .ref (ad 208), .int 0, .int 0, .int 0, .int 0, .int 0, .ref (ad 209), .ref (ad 210), .ref (ad 211), .long 0, .long 0, .ref (ad 212), .ref (ad 213), .int 0, .int 0, .ref (ad 214), .ref (ad 215), .ref (ad 216), .ref (ad 217)]) → G52 214 = .inl (cs 1, 4, .inl f_8) → G52 215 = .inl (cs 1, 4, .inl f_14) → G52 216 = .inl (cs 2, 240, .inr (.inl f52_216)) → va_P D vwCl (wL ad G52 nW) H → va_S (wA ad nW) s.heap H locs → lv_has ls 5 [(4, .int (nI k52)), (0, .ref (ad 197)), (1, .int 0), (2, .int vw), (3, .int vn)] → W p l e ({ frames := 2, cells := 0, slots := 0, locals := 45 } : Room) s m ([.ref (ad 197), .int 0, .int vw, .int vn] : List Value).toArray below meth c H locs 0 0 (MQ below (qI D ad nW (fun r g2 => r = aRow 0 vw vn)) ([.ref (ad 197), .int 0, .int vw, .int vn] : List Value).toArray s 0 0 (wA ad nW)) (F0 m 52 ls []) := by
              intro d52
              induction d52 with
              | zero =>
                intro k52 f52_216 G52 H locs ls hk52 h52_197 h52_214 h52_215 h52_216 hP hS hl
                obtain rfl : k52 = 60 := by omega
                refine lv_iload hx hb dX12_row_52 (lv_at hl 0 rfl) ?_
                refine lv_bipush (v := 60) hx hb dX12_row_54 (by decide) ?_
                refine lv_icmp_ge (tgt := 78) hx hb dX12_row_56 (by decide) (fun _ => ?_) (fun h => absurd h (by decide))
                refine lv_iconst (v := 0) hx hb dX12_row_78 (by decide) ?_
                exact q_iret X hP hS (aRow_ok ⟨by decide, by decide⟩ ((in_S hw_4).elim (fun q => q.2) (fun q => absurd q.1 hc_16)) hc_22 hc_29) dX12_row_79
              | succ d52 ih52 =>
                intro k52 f52_216 G52 H locs ls hk52 h52_197 h52_214 h52_215 h52_216 hP hS hl
                refine lv_iload hx hb dX12_row_52 (lv_at hl 0 rfl) ?_
                refine lv_bipush (v := 60) hx hb dX12_row_54 (by decide) ?_
                refine lv_icmp_ge (tgt := 78) hx hb dX12_row_56 (by decide) (fun hc_56 => absurd hc_56 (nI_ge (a := k52) (b := 60) (by omega) (by decide))) (fun hc_56 => ?_)
                refine lv_aload_n hx hb dX12_row_59 rfl (lv_at hl 1 rfl) ?_
                refine q_get X iX12_row_12 hP (by decide) h52_197 rfl 38 (by decide) (List.mem_of_getElem? (i := 11) rfl) (v := .ref (ad 216)) rfl dX12_row_60 ?_
                refine lv_bipush (v := 60) hx hb dX12_row_63 (by decide) ?_
                refine lv_iload_n hx hb dX12_row_65 rfl (lv_at hl 2 rfl) ?_
                refine lv_imul hx hb dX12_row_66 ?_
                refine lv_topi (fun z_19 ez_19 => ?_)
                obtain rfl : z_19 = 0 := ez_19.trans (by decide)
                refine lv_iload hx hb dX12_row_67 (lv_at hl 0 rfl) ?_
                refine lv_iadd hx hb dX12_row_69 ?_
                refine lv_topi (fun z_20 ez_20 => ?_)
                obtain rfl : z_20 = nI (0 + k52) := ez_20.trans (nI_add 0 k52)
                refine lv_lconst (v := 0) hx hb dX12_row_70 (by decide) ?_
                refine q_last X hP hj hA hS (by decide) h52_216 (vp_in_nI (by omega) (by decide)) dX12_row_71 (fun H locs hP hS => ?_)
                generalize eg_21 : va_up G52 216 _ = g_21 at hP
                have h_23 : g_21 197 = .inr (12, [.int 0, .ref (ad 198), .ref (ad 199), .ref (ad 200), .ref (ad 201), .int 0, .ref (ad 202), .int 0, .int 0, .int 0, .int 0, .int 0, .int 0, .int (-1), .ref (ad 203), .ref (ad 204), .ref (ad 205), .int 0, .int 0, .ref (ad 206), .ref (ad 207), .ref (ad 208), .int 0, .int 0, .int 0, .int 0, .int 0, .ref (ad 209), .ref (ad 210), .ref (ad 211), .long 0, .long 0, .ref (ad 212), .ref (ad 213), .int 0, .int 0, .ref (ad 214), .ref (ad 215), .ref (ad 216), .ref (ad 217)]) := by rw [← eg_21, va_up_ne _ _ (by decide)]; exact h52_197
                have h_24 : g_21 214 = .inl (cs 1, 4, .inl f_8) := by rw [← eg_21, va_up_ne _ _ (by decide)]; exact h52_214
                have h_25 : g_21 215 = .inl (cs 1, 4, .inl f_14) := by rw [← eg_21, va_up_ne _ _ (by decide)]; exact h52_215
                obtain ⟨f_22, h_26⟩ : ∃ f, g_21 216 = .inl (cs 2, 240, .inr (.inl f)) := ⟨_, by rw [← eg_21]; exact va_up_self _ _ _⟩
                refine lv_iinc (v := (nI (k52 + 1))) (lv' := [(4, .int (nI (k52 + 1))), (0, .ref (ad 197)), (1, .int 0), (2, .int vw), (3, .int vn)]) hx hb dX12_row_72 hl (k := 0) rfl (nI_add k52 1) (by decide) rfl (fun ls hl => ?_)
                refine lv_goto (tgt := 52) hx hb dX12_row_75 (by decide) ?_
                exact ih52 (k52 + 1) _ g_21 _ _ ls (by omega) h_23 h_24 h_25 h_26 hP hS (lv_sub hl [0, 1, 2, 3, 4] rfl)
            exact HL52 60 0 _ g_13 _ _ ls (by omega) h_15 h_16 h_17 h_18 hP hS (lv_sub hl [0, 1, 2, 3, 4] rfl)
          · refine lv_aload_n hx hb dX12_row_35 rfl (lv_at hl 0 rfl) ?_
            refine q_get X iX12_row_12 hP (by decide) h197 rfl 36 (by decide) (List.mem_of_getElem? (i := 9) rfl) (v := .ref (ad 214)) rfl dX12_row_36 ?_
            refine lv_iload_n hx hb dX12_row_39 rfl (lv_at hl 1 rfl) ?_
            refine lv_iload_n hx hb dX12_row_40 rfl (lv_at hl 3 rfl) ?_
            refine q_iast X hP hj hA hS (by decide) h214 (by unfold vp_in; decide) dX12_row_41 (fun H locs hP hS => ?_)
            generalize eg_27 : va_up g 214 _ = g_27 at hP
            have h_29 : g_27 197 = .inr (12, [.int 0, .ref (ad 198), .ref (ad 199), .ref (ad 200), .ref (ad 201), .int 0, .ref (ad 202), .int 0, .int 0, .int 0, .int 0, .int 0, .int 0, .int (-1), .ref (ad 203), .ref (ad 204), .ref (ad 205), .int 0, .int 0, .ref (ad 206), .ref (ad 207), .ref (ad 208), .int 0, .int 0, .int 0, .int 0, .int 0, .ref (ad 209), .ref (ad 210), .ref (ad 211), .long 0, .long 0, .ref (ad 212), .ref (ad 213), .int 0, .int 0, .ref (ad 214), .ref (ad 215), .ref (ad 216), .ref (ad 217)]) := by rw [← eg_27, va_up_ne _ _ (by decide)]; exact h197
            obtain ⟨f_28, h_30⟩ : ∃ f, g_27 214 = .inl (cs 1, 4, .inl f) := ⟨_, by rw [← eg_27]; exact va_up_self _ _ _⟩
            have h_31 : g_27 215 = .inl (cs 1, 4, .inl (fun _ => 0)) := by rw [← eg_27, va_up_ne _ _ (by decide)]; exact h215
            have h_32 : g_27 216 = .inl (cs 2, 240, .inr (.inl (fun _ => 0))) := by rw [← eg_27, va_up_ne _ _ (by decide)]; exact h216
            refine lv_aload_n hx hb dX12_row_42 rfl (lv_at hl 0 rfl) ?_
            refine q_get X iX12_row_12 hP (by decide) h_29 rfl 37 (by decide) (List.mem_of_getElem? (i := 10) rfl) (v := .ref (ad 215)) rfl dX12_row_43 ?_
            refine lv_iload_n hx hb dX12_row_46 rfl (lv_at hl 1 rfl) ?_
            refine lv_iload_n hx hb dX12_row_47 rfl (lv_at hl 2 rfl) ?_
            refine q_iast X hP hj hA hS (by decide) h_31 (by unfold vp_in; decide) dX12_row_48 (fun H locs hP hS => ?_)
            generalize eg_33 : va_up g_27 215 _ = g_33 at hP
            have h_35 : g_33 197 = .inr (12, [.int 0, .ref (ad 198), .ref (ad 199), .ref (ad 200), .ref (ad 201), .int 0, .ref (ad 202), .int 0, .int 0, .int 0, .int 0, .int 0, .int 0, .int (-1), .ref (ad 203), .ref (ad 204), .ref (ad 205), .int 0, .int 0, .ref (ad 206), .ref (ad 207), .ref (ad 208), .int 0, .int 0, .int 0, .int 0, .int 0, .ref (ad 209), .ref (ad 210), .ref (ad 211), .long 0, .long 0, .ref (ad 212), .ref (ad 213), .int 0, .int 0, .ref (ad 214), .ref (ad 215), .ref (ad 216), .ref (ad 217)]) := by rw [← eg_33, va_up_ne _ _ (by decide)]; exact h_29
            have h_36 : g_33 214 = .inl (cs 1, 4, .inl f_28) := by rw [← eg_33, va_up_ne _ _ (by decide)]; exact h_30
            obtain ⟨f_34, h_37⟩ : ∃ f, g_33 215 = .inl (cs 1, 4, .inl f) := ⟨_, by rw [← eg_33]; exact va_up_self _ _ _⟩
            have h_38 : g_33 216 = .inl (cs 2, 240, .inr (.inl (fun _ => 0))) := by rw [← eg_33, va_up_ne _ _ (by decide)]; exact h_32
            refine lv_iconst (v := 0) hx hb dX12_row_49 (by decide) ?_
            refine lv_istore (lv' := [(4, .int 0), (0, .ref (ad 197)), (1, .int 1), (2, .int vw), (3, .int vn)]) hx hb dX12_row_50 hl (by decide) rfl (fun ls hl => ?_)
            have HL52 : ∀ (d52 k52 : Nat) (f52_216 : Nat → Int64) (G52 : Nat → va_E) (H : Heap) (locs : List Loc) (ls : Array Slot), k52 + d52 = 60 → G52 197 = .inr (12, [.int 0, .ref (ad 198), .ref (ad 199), .ref (ad 200), .ref (ad 201), .int 0, .ref (ad 202), .int 0, .int 0, .int 0, .int 0, .int 0, .int 0, .int (-1), .ref (ad 203), .ref (ad 204), .ref (ad 205), .int 0, .int 0, .ref (ad 206), .ref (ad 207), .ref (ad 208), .int 0, .int 0, .int 0, .int 0, .int 0, .ref (ad 209), .ref (ad 210), .ref (ad 211), .long 0, .long 0, .ref (ad 212), .ref (ad 213), .int 0, .int 0, .ref (ad 214), .ref (ad 215), .ref (ad 216), .ref (ad 217)]) → G52 214 = .inl (cs 1, 4, .inl f_28) → G52 215 = .inl (cs 1, 4, .inl f_34) → G52 216 = .inl (cs 2, 240, .inr (.inl f52_216)) → va_P D vwCl (wL ad G52 nW) H → va_S (wA ad nW) s.heap H locs → lv_has ls 5 [(4, .int (nI k52)), (0, .ref (ad 197)), (1, .int 1), (2, .int vw), (3, .int vn)] → W p l e ({ frames := 2, cells := 0, slots := 0, locals := 45 } : Room) s m ([.ref (ad 197), .int 1, .int vw, .int vn] : List Value).toArray below meth c H locs 0 0 (MQ below (qI D ad nW (fun r g2 => r = aRow 1 vw vn)) ([.ref (ad 197), .int 1, .int vw, .int vn] : List Value).toArray s 0 0 (wA ad nW)) (F0 m 52 ls []) := by
              intro d52
              induction d52 with
              | zero =>
                intro k52 f52_216 G52 H locs ls hk52 h52_197 h52_214 h52_215 h52_216 hP hS hl
                obtain rfl : k52 = 60 := by omega
                refine lv_iload hx hb dX12_row_52 (lv_at hl 0 rfl) ?_
                refine lv_bipush (v := 60) hx hb dX12_row_54 (by decide) ?_
                refine lv_icmp_ge (tgt := 78) hx hb dX12_row_56 (by decide) (fun _ => ?_) (fun h => absurd h (by decide))
                refine lv_iconst (v := 0) hx hb dX12_row_78 (by decide) ?_
                exact q_iret X hP hS (aRow_ok ⟨by decide, by decide⟩ ((in_S hw_4).elim (fun q => q.2) (fun q => absurd q.1 hc_16)) hc_22 hc_29) dX12_row_79
              | succ d52 ih52 =>
                intro k52 f52_216 G52 H locs ls hk52 h52_197 h52_214 h52_215 h52_216 hP hS hl
                refine lv_iload hx hb dX12_row_52 (lv_at hl 0 rfl) ?_
                refine lv_bipush (v := 60) hx hb dX12_row_54 (by decide) ?_
                refine lv_icmp_ge (tgt := 78) hx hb dX12_row_56 (by decide) (fun hc_56 => absurd hc_56 (nI_ge (a := k52) (b := 60) (by omega) (by decide))) (fun hc_56 => ?_)
                refine lv_aload_n hx hb dX12_row_59 rfl (lv_at hl 1 rfl) ?_
                refine q_get X iX12_row_12 hP (by decide) h52_197 rfl 38 (by decide) (List.mem_of_getElem? (i := 11) rfl) (v := .ref (ad 216)) rfl dX12_row_60 ?_
                refine lv_bipush (v := 60) hx hb dX12_row_63 (by decide) ?_
                refine lv_iload_n hx hb dX12_row_65 rfl (lv_at hl 2 rfl) ?_
                refine lv_imul hx hb dX12_row_66 ?_
                refine lv_topi (fun z_39 ez_39 => ?_)
                obtain rfl : z_39 = 60 := ez_39.trans (by decide)
                refine lv_iload hx hb dX12_row_67 (lv_at hl 0 rfl) ?_
                refine lv_iadd hx hb dX12_row_69 ?_
                refine lv_topi (fun z_40 ez_40 => ?_)
                obtain rfl : z_40 = nI (60 + k52) := ez_40.trans (nI_add 60 k52)
                refine lv_lconst (v := 0) hx hb dX12_row_70 (by decide) ?_
                refine q_last X hP hj hA hS (by decide) h52_216 (vp_in_nI (by omega) (by decide)) dX12_row_71 (fun H locs hP hS => ?_)
                generalize eg_41 : va_up G52 216 _ = g_41 at hP
                have h_43 : g_41 197 = .inr (12, [.int 0, .ref (ad 198), .ref (ad 199), .ref (ad 200), .ref (ad 201), .int 0, .ref (ad 202), .int 0, .int 0, .int 0, .int 0, .int 0, .int 0, .int (-1), .ref (ad 203), .ref (ad 204), .ref (ad 205), .int 0, .int 0, .ref (ad 206), .ref (ad 207), .ref (ad 208), .int 0, .int 0, .int 0, .int 0, .int 0, .ref (ad 209), .ref (ad 210), .ref (ad 211), .long 0, .long 0, .ref (ad 212), .ref (ad 213), .int 0, .int 0, .ref (ad 214), .ref (ad 215), .ref (ad 216), .ref (ad 217)]) := by rw [← eg_41, va_up_ne _ _ (by decide)]; exact h52_197
                have h_44 : g_41 214 = .inl (cs 1, 4, .inl f_28) := by rw [← eg_41, va_up_ne _ _ (by decide)]; exact h52_214
                have h_45 : g_41 215 = .inl (cs 1, 4, .inl f_34) := by rw [← eg_41, va_up_ne _ _ (by decide)]; exact h52_215
                obtain ⟨f_42, h_46⟩ : ∃ f, g_41 216 = .inl (cs 2, 240, .inr (.inl f)) := ⟨_, by rw [← eg_41]; exact va_up_self _ _ _⟩
                refine lv_iinc (v := (nI (k52 + 1))) (lv' := [(4, .int (nI (k52 + 1))), (0, .ref (ad 197)), (1, .int 1), (2, .int vw), (3, .int vn)]) hx hb dX12_row_72 hl (k := 0) rfl (nI_add k52 1) (by decide) rfl (fun ls hl => ?_)
                refine lv_goto (tgt := 52) hx hb dX12_row_75 (by decide) ?_
                exact ih52 (k52 + 1) _ g_41 _ _ ls (by omega) h_43 h_44 h_45 h_46 hP hS (lv_sub hl [0, 1, 2, 3, 4] rfl)
            exact HL52 60 0 _ g_33 _ _ ls (by omega) h_35 h_36 h_37 h_38 hP hS (lv_sub hl [0, 1, 2, 3, 4] rfl)
          · refine lv_aload_n hx hb dX12_row_35 rfl (lv_at hl 0 rfl) ?_
            refine q_get X iX12_row_12 hP (by decide) h197 rfl 36 (by decide) (List.mem_of_getElem? (i := 9) rfl) (v := .ref (ad 214)) rfl dX12_row_36 ?_
            refine lv_iload_n hx hb dX12_row_39 rfl (lv_at hl 1 rfl) ?_
            refine lv_iload_n hx hb dX12_row_40 rfl (lv_at hl 3 rfl) ?_
            refine q_iast X hP hj hA hS (by decide) h214 (by unfold vp_in; decide) dX12_row_41 (fun H locs hP hS => ?_)
            generalize eg_47 : va_up g 214 _ = g_47 at hP
            have h_49 : g_47 197 = .inr (12, [.int 0, .ref (ad 198), .ref (ad 199), .ref (ad 200), .ref (ad 201), .int 0, .ref (ad 202), .int 0, .int 0, .int 0, .int 0, .int 0, .int 0, .int (-1), .ref (ad 203), .ref (ad 204), .ref (ad 205), .int 0, .int 0, .ref (ad 206), .ref (ad 207), .ref (ad 208), .int 0, .int 0, .int 0, .int 0, .int 0, .ref (ad 209), .ref (ad 210), .ref (ad 211), .long 0, .long 0, .ref (ad 212), .ref (ad 213), .int 0, .int 0, .ref (ad 214), .ref (ad 215), .ref (ad 216), .ref (ad 217)]) := by rw [← eg_47, va_up_ne _ _ (by decide)]; exact h197
            obtain ⟨f_48, h_50⟩ : ∃ f, g_47 214 = .inl (cs 1, 4, .inl f) := ⟨_, by rw [← eg_47]; exact va_up_self _ _ _⟩
            have h_51 : g_47 215 = .inl (cs 1, 4, .inl (fun _ => 0)) := by rw [← eg_47, va_up_ne _ _ (by decide)]; exact h215
            have h_52 : g_47 216 = .inl (cs 2, 240, .inr (.inl (fun _ => 0))) := by rw [← eg_47, va_up_ne _ _ (by decide)]; exact h216
            refine lv_aload_n hx hb dX12_row_42 rfl (lv_at hl 0 rfl) ?_
            refine q_get X iX12_row_12 hP (by decide) h_49 rfl 37 (by decide) (List.mem_of_getElem? (i := 10) rfl) (v := .ref (ad 215)) rfl dX12_row_43 ?_
            refine lv_iload_n hx hb dX12_row_46 rfl (lv_at hl 1 rfl) ?_
            refine lv_iload_n hx hb dX12_row_47 rfl (lv_at hl 2 rfl) ?_
            refine q_iast X hP hj hA hS (by decide) h_51 (by unfold vp_in; decide) dX12_row_48 (fun H locs hP hS => ?_)
            generalize eg_53 : va_up g_47 215 _ = g_53 at hP
            have h_55 : g_53 197 = .inr (12, [.int 0, .ref (ad 198), .ref (ad 199), .ref (ad 200), .ref (ad 201), .int 0, .ref (ad 202), .int 0, .int 0, .int 0, .int 0, .int 0, .int 0, .int (-1), .ref (ad 203), .ref (ad 204), .ref (ad 205), .int 0, .int 0, .ref (ad 206), .ref (ad 207), .ref (ad 208), .int 0, .int 0, .int 0, .int 0, .int 0, .ref (ad 209), .ref (ad 210), .ref (ad 211), .long 0, .long 0, .ref (ad 212), .ref (ad 213), .int 0, .int 0, .ref (ad 214), .ref (ad 215), .ref (ad 216), .ref (ad 217)]) := by rw [← eg_53, va_up_ne _ _ (by decide)]; exact h_49
            have h_56 : g_53 214 = .inl (cs 1, 4, .inl f_48) := by rw [← eg_53, va_up_ne _ _ (by decide)]; exact h_50
            obtain ⟨f_54, h_57⟩ : ∃ f, g_53 215 = .inl (cs 1, 4, .inl f) := ⟨_, by rw [← eg_53]; exact va_up_self _ _ _⟩
            have h_58 : g_53 216 = .inl (cs 2, 240, .inr (.inl (fun _ => 0))) := by rw [← eg_53, va_up_ne _ _ (by decide)]; exact h_52
            refine lv_iconst (v := 0) hx hb dX12_row_49 (by decide) ?_
            refine lv_istore (lv' := [(4, .int 0), (0, .ref (ad 197)), (1, .int 2), (2, .int vw), (3, .int vn)]) hx hb dX12_row_50 hl (by decide) rfl (fun ls hl => ?_)
            have HL52 : ∀ (d52 k52 : Nat) (f52_216 : Nat → Int64) (G52 : Nat → va_E) (H : Heap) (locs : List Loc) (ls : Array Slot), k52 + d52 = 60 → G52 197 = .inr (12, [.int 0, .ref (ad 198), .ref (ad 199), .ref (ad 200), .ref (ad 201), .int 0, .ref (ad 202), .int 0, .int 0, .int 0, .int 0, .int 0, .int 0, .int (-1), .ref (ad 203), .ref (ad 204), .ref (ad 205), .int 0, .int 0, .ref (ad 206), .ref (ad 207), .ref (ad 208), .int 0, .int 0, .int 0, .int 0, .int 0, .ref (ad 209), .ref (ad 210), .ref (ad 211), .long 0, .long 0, .ref (ad 212), .ref (ad 213), .int 0, .int 0, .ref (ad 214), .ref (ad 215), .ref (ad 216), .ref (ad 217)]) → G52 214 = .inl (cs 1, 4, .inl f_48) → G52 215 = .inl (cs 1, 4, .inl f_54) → G52 216 = .inl (cs 2, 240, .inr (.inl f52_216)) → va_P D vwCl (wL ad G52 nW) H → va_S (wA ad nW) s.heap H locs → lv_has ls 5 [(4, .int (nI k52)), (0, .ref (ad 197)), (1, .int 2), (2, .int vw), (3, .int vn)] → W p l e ({ frames := 2, cells := 0, slots := 0, locals := 45 } : Room) s m ([.ref (ad 197), .int 2, .int vw, .int vn] : List Value).toArray below meth c H locs 0 0 (MQ below (qI D ad nW (fun r g2 => r = aRow 2 vw vn)) ([.ref (ad 197), .int 2, .int vw, .int vn] : List Value).toArray s 0 0 (wA ad nW)) (F0 m 52 ls []) := by
              intro d52
              induction d52 with
              | zero =>
                intro k52 f52_216 G52 H locs ls hk52 h52_197 h52_214 h52_215 h52_216 hP hS hl
                obtain rfl : k52 = 60 := by omega
                refine lv_iload hx hb dX12_row_52 (lv_at hl 0 rfl) ?_
                refine lv_bipush (v := 60) hx hb dX12_row_54 (by decide) ?_
                refine lv_icmp_ge (tgt := 78) hx hb dX12_row_56 (by decide) (fun _ => ?_) (fun h => absurd h (by decide))
                refine lv_iconst (v := 0) hx hb dX12_row_78 (by decide) ?_
                exact q_iret X hP hS (aRow_ok ⟨by decide, by decide⟩ ((in_S hw_4).elim (fun q => q.2) (fun q => absurd q.1 hc_16)) hc_22 hc_29) dX12_row_79
              | succ d52 ih52 =>
                intro k52 f52_216 G52 H locs ls hk52 h52_197 h52_214 h52_215 h52_216 hP hS hl
                refine lv_iload hx hb dX12_row_52 (lv_at hl 0 rfl) ?_
                refine lv_bipush (v := 60) hx hb dX12_row_54 (by decide) ?_
                refine lv_icmp_ge (tgt := 78) hx hb dX12_row_56 (by decide) (fun hc_56 => absurd hc_56 (nI_ge (a := k52) (b := 60) (by omega) (by decide))) (fun hc_56 => ?_)
                refine lv_aload_n hx hb dX12_row_59 rfl (lv_at hl 1 rfl) ?_
                refine q_get X iX12_row_12 hP (by decide) h52_197 rfl 38 (by decide) (List.mem_of_getElem? (i := 11) rfl) (v := .ref (ad 216)) rfl dX12_row_60 ?_
                refine lv_bipush (v := 60) hx hb dX12_row_63 (by decide) ?_
                refine lv_iload_n hx hb dX12_row_65 rfl (lv_at hl 2 rfl) ?_
                refine lv_imul hx hb dX12_row_66 ?_
                refine lv_topi (fun z_59 ez_59 => ?_)
                obtain rfl : z_59 = 120 := ez_59.trans (by decide)
                refine lv_iload hx hb dX12_row_67 (lv_at hl 0 rfl) ?_
                refine lv_iadd hx hb dX12_row_69 ?_
                refine lv_topi (fun z_60 ez_60 => ?_)
                obtain rfl : z_60 = nI (120 + k52) := ez_60.trans (nI_add 120 k52)
                refine lv_lconst (v := 0) hx hb dX12_row_70 (by decide) ?_
                refine q_last X hP hj hA hS (by decide) h52_216 (vp_in_nI (by omega) (by decide)) dX12_row_71 (fun H locs hP hS => ?_)
                generalize eg_61 : va_up G52 216 _ = g_61 at hP
                have h_63 : g_61 197 = .inr (12, [.int 0, .ref (ad 198), .ref (ad 199), .ref (ad 200), .ref (ad 201), .int 0, .ref (ad 202), .int 0, .int 0, .int 0, .int 0, .int 0, .int 0, .int (-1), .ref (ad 203), .ref (ad 204), .ref (ad 205), .int 0, .int 0, .ref (ad 206), .ref (ad 207), .ref (ad 208), .int 0, .int 0, .int 0, .int 0, .int 0, .ref (ad 209), .ref (ad 210), .ref (ad 211), .long 0, .long 0, .ref (ad 212), .ref (ad 213), .int 0, .int 0, .ref (ad 214), .ref (ad 215), .ref (ad 216), .ref (ad 217)]) := by rw [← eg_61, va_up_ne _ _ (by decide)]; exact h52_197
                have h_64 : g_61 214 = .inl (cs 1, 4, .inl f_48) := by rw [← eg_61, va_up_ne _ _ (by decide)]; exact h52_214
                have h_65 : g_61 215 = .inl (cs 1, 4, .inl f_54) := by rw [← eg_61, va_up_ne _ _ (by decide)]; exact h52_215
                obtain ⟨f_62, h_66⟩ : ∃ f, g_61 216 = .inl (cs 2, 240, .inr (.inl f)) := ⟨_, by rw [← eg_61]; exact va_up_self _ _ _⟩
                refine lv_iinc (v := (nI (k52 + 1))) (lv' := [(4, .int (nI (k52 + 1))), (0, .ref (ad 197)), (1, .int 2), (2, .int vw), (3, .int vn)]) hx hb dX12_row_72 hl (k := 0) rfl (nI_add k52 1) (by decide) rfl (fun ls hl => ?_)
                refine lv_goto (tgt := 52) hx hb dX12_row_75 (by decide) ?_
                exact ih52 (k52 + 1) _ g_61 _ _ ls (by omega) h_63 h_64 h_65 h_66 hP hS (lv_sub hl [0, 1, 2, 3, 4] rfl)
            exact HL52 60 0 _ g_53 _ _ ls (by omega) h_55 h_56 h_57 h_58 hP hS (lv_sub hl [0, 1, 2, 3, 4] rfl)
          · refine lv_aload_n hx hb dX12_row_35 rfl (lv_at hl 0 rfl) ?_
            refine q_get X iX12_row_12 hP (by decide) h197 rfl 36 (by decide) (List.mem_of_getElem? (i := 9) rfl) (v := .ref (ad 214)) rfl dX12_row_36 ?_
            refine lv_iload_n hx hb dX12_row_39 rfl (lv_at hl 1 rfl) ?_
            refine lv_iload_n hx hb dX12_row_40 rfl (lv_at hl 3 rfl) ?_
            refine q_iast X hP hj hA hS (by decide) h214 (by unfold vp_in; decide) dX12_row_41 (fun H locs hP hS => ?_)
            generalize eg_67 : va_up g 214 _ = g_67 at hP
            have h_69 : g_67 197 = .inr (12, [.int 0, .ref (ad 198), .ref (ad 199), .ref (ad 200), .ref (ad 201), .int 0, .ref (ad 202), .int 0, .int 0, .int 0, .int 0, .int 0, .int 0, .int (-1), .ref (ad 203), .ref (ad 204), .ref (ad 205), .int 0, .int 0, .ref (ad 206), .ref (ad 207), .ref (ad 208), .int 0, .int 0, .int 0, .int 0, .int 0, .ref (ad 209), .ref (ad 210), .ref (ad 211), .long 0, .long 0, .ref (ad 212), .ref (ad 213), .int 0, .int 0, .ref (ad 214), .ref (ad 215), .ref (ad 216), .ref (ad 217)]) := by rw [← eg_67, va_up_ne _ _ (by decide)]; exact h197
            obtain ⟨f_68, h_70⟩ : ∃ f, g_67 214 = .inl (cs 1, 4, .inl f) := ⟨_, by rw [← eg_67]; exact va_up_self _ _ _⟩
            have h_71 : g_67 215 = .inl (cs 1, 4, .inl (fun _ => 0)) := by rw [← eg_67, va_up_ne _ _ (by decide)]; exact h215
            have h_72 : g_67 216 = .inl (cs 2, 240, .inr (.inl (fun _ => 0))) := by rw [← eg_67, va_up_ne _ _ (by decide)]; exact h216
            refine lv_aload_n hx hb dX12_row_42 rfl (lv_at hl 0 rfl) ?_
            refine q_get X iX12_row_12 hP (by decide) h_69 rfl 37 (by decide) (List.mem_of_getElem? (i := 10) rfl) (v := .ref (ad 215)) rfl dX12_row_43 ?_
            refine lv_iload_n hx hb dX12_row_46 rfl (lv_at hl 1 rfl) ?_
            refine lv_iload_n hx hb dX12_row_47 rfl (lv_at hl 2 rfl) ?_
            refine q_iast X hP hj hA hS (by decide) h_71 (by unfold vp_in; decide) dX12_row_48 (fun H locs hP hS => ?_)
            generalize eg_73 : va_up g_67 215 _ = g_73 at hP
            have h_75 : g_73 197 = .inr (12, [.int 0, .ref (ad 198), .ref (ad 199), .ref (ad 200), .ref (ad 201), .int 0, .ref (ad 202), .int 0, .int 0, .int 0, .int 0, .int 0, .int 0, .int (-1), .ref (ad 203), .ref (ad 204), .ref (ad 205), .int 0, .int 0, .ref (ad 206), .ref (ad 207), .ref (ad 208), .int 0, .int 0, .int 0, .int 0, .int 0, .ref (ad 209), .ref (ad 210), .ref (ad 211), .long 0, .long 0, .ref (ad 212), .ref (ad 213), .int 0, .int 0, .ref (ad 214), .ref (ad 215), .ref (ad 216), .ref (ad 217)]) := by rw [← eg_73, va_up_ne _ _ (by decide)]; exact h_69
            have h_76 : g_73 214 = .inl (cs 1, 4, .inl f_68) := by rw [← eg_73, va_up_ne _ _ (by decide)]; exact h_70
            obtain ⟨f_74, h_77⟩ : ∃ f, g_73 215 = .inl (cs 1, 4, .inl f) := ⟨_, by rw [← eg_73]; exact va_up_self _ _ _⟩
            have h_78 : g_73 216 = .inl (cs 2, 240, .inr (.inl (fun _ => 0))) := by rw [← eg_73, va_up_ne _ _ (by decide)]; exact h_72
            refine lv_iconst (v := 0) hx hb dX12_row_49 (by decide) ?_
            refine lv_istore (lv' := [(4, .int 0), (0, .ref (ad 197)), (1, .int 3), (2, .int vw), (3, .int vn)]) hx hb dX12_row_50 hl (by decide) rfl (fun ls hl => ?_)
            have HL52 : ∀ (d52 k52 : Nat) (f52_216 : Nat → Int64) (G52 : Nat → va_E) (H : Heap) (locs : List Loc) (ls : Array Slot), k52 + d52 = 60 → G52 197 = .inr (12, [.int 0, .ref (ad 198), .ref (ad 199), .ref (ad 200), .ref (ad 201), .int 0, .ref (ad 202), .int 0, .int 0, .int 0, .int 0, .int 0, .int 0, .int (-1), .ref (ad 203), .ref (ad 204), .ref (ad 205), .int 0, .int 0, .ref (ad 206), .ref (ad 207), .ref (ad 208), .int 0, .int 0, .int 0, .int 0, .int 0, .ref (ad 209), .ref (ad 210), .ref (ad 211), .long 0, .long 0, .ref (ad 212), .ref (ad 213), .int 0, .int 0, .ref (ad 214), .ref (ad 215), .ref (ad 216), .ref (ad 217)]) → G52 214 = .inl (cs 1, 4, .inl f_68) → G52 215 = .inl (cs 1, 4, .inl f_74) → G52 216 = .inl (cs 2, 240, .inr (.inl f52_216)) → va_P D vwCl (wL ad G52 nW) H → va_S (wA ad nW) s.heap H locs → lv_has ls 5 [(4, .int (nI k52)), (0, .ref (ad 197)), (1, .int 3), (2, .int vw), (3, .int vn)] → W p l e ({ frames := 2, cells := 0, slots := 0, locals := 45 } : Room) s m ([.ref (ad 197), .int 3, .int vw, .int vn] : List Value).toArray below meth c H locs 0 0 (MQ below (qI D ad nW (fun r g2 => r = aRow 3 vw vn)) ([.ref (ad 197), .int 3, .int vw, .int vn] : List Value).toArray s 0 0 (wA ad nW)) (F0 m 52 ls []) := by
              intro d52
              induction d52 with
              | zero =>
                intro k52 f52_216 G52 H locs ls hk52 h52_197 h52_214 h52_215 h52_216 hP hS hl
                obtain rfl : k52 = 60 := by omega
                refine lv_iload hx hb dX12_row_52 (lv_at hl 0 rfl) ?_
                refine lv_bipush (v := 60) hx hb dX12_row_54 (by decide) ?_
                refine lv_icmp_ge (tgt := 78) hx hb dX12_row_56 (by decide) (fun _ => ?_) (fun h => absurd h (by decide))
                refine lv_iconst (v := 0) hx hb dX12_row_78 (by decide) ?_
                exact q_iret X hP hS (aRow_ok ⟨by decide, by decide⟩ ((in_S hw_4).elim (fun q => q.2) (fun q => absurd q.1 hc_16)) hc_22 hc_29) dX12_row_79
              | succ d52 ih52 =>
                intro k52 f52_216 G52 H locs ls hk52 h52_197 h52_214 h52_215 h52_216 hP hS hl
                refine lv_iload hx hb dX12_row_52 (lv_at hl 0 rfl) ?_
                refine lv_bipush (v := 60) hx hb dX12_row_54 (by decide) ?_
                refine lv_icmp_ge (tgt := 78) hx hb dX12_row_56 (by decide) (fun hc_56 => absurd hc_56 (nI_ge (a := k52) (b := 60) (by omega) (by decide))) (fun hc_56 => ?_)
                refine lv_aload_n hx hb dX12_row_59 rfl (lv_at hl 1 rfl) ?_
                refine q_get X iX12_row_12 hP (by decide) h52_197 rfl 38 (by decide) (List.mem_of_getElem? (i := 11) rfl) (v := .ref (ad 216)) rfl dX12_row_60 ?_
                refine lv_bipush (v := 60) hx hb dX12_row_63 (by decide) ?_
                refine lv_iload_n hx hb dX12_row_65 rfl (lv_at hl 2 rfl) ?_
                refine lv_imul hx hb dX12_row_66 ?_
                refine lv_topi (fun z_79 ez_79 => ?_)
                obtain rfl : z_79 = 180 := ez_79.trans (by decide)
                refine lv_iload hx hb dX12_row_67 (lv_at hl 0 rfl) ?_
                refine lv_iadd hx hb dX12_row_69 ?_
                refine lv_topi (fun z_80 ez_80 => ?_)
                obtain rfl : z_80 = nI (180 + k52) := ez_80.trans (nI_add 180 k52)
                refine lv_lconst (v := 0) hx hb dX12_row_70 (by decide) ?_
                refine q_last X hP hj hA hS (by decide) h52_216 (vp_in_nI (by omega) (by decide)) dX12_row_71 (fun H locs hP hS => ?_)
                generalize eg_81 : va_up G52 216 _ = g_81 at hP
                have h_83 : g_81 197 = .inr (12, [.int 0, .ref (ad 198), .ref (ad 199), .ref (ad 200), .ref (ad 201), .int 0, .ref (ad 202), .int 0, .int 0, .int 0, .int 0, .int 0, .int 0, .int (-1), .ref (ad 203), .ref (ad 204), .ref (ad 205), .int 0, .int 0, .ref (ad 206), .ref (ad 207), .ref (ad 208), .int 0, .int 0, .int 0, .int 0, .int 0, .ref (ad 209), .ref (ad 210), .ref (ad 211), .long 0, .long 0, .ref (ad 212), .ref (ad 213), .int 0, .int 0, .ref (ad 214), .ref (ad 215), .ref (ad 216), .ref (ad 217)]) := by rw [← eg_81, va_up_ne _ _ (by decide)]; exact h52_197
                have h_84 : g_81 214 = .inl (cs 1, 4, .inl f_68) := by rw [← eg_81, va_up_ne _ _ (by decide)]; exact h52_214
                have h_85 : g_81 215 = .inl (cs 1, 4, .inl f_74) := by rw [← eg_81, va_up_ne _ _ (by decide)]; exact h52_215
                obtain ⟨f_82, h_86⟩ : ∃ f, g_81 216 = .inl (cs 2, 240, .inr (.inl f)) := ⟨_, by rw [← eg_81]; exact va_up_self _ _ _⟩
                refine lv_iinc (v := (nI (k52 + 1))) (lv' := [(4, .int (nI (k52 + 1))), (0, .ref (ad 197)), (1, .int 3), (2, .int vw), (3, .int vn)]) hx hb dX12_row_72 hl (k := 0) rfl (nI_add k52 1) (by decide) rfl (fun ls hl => ?_)
                refine lv_goto (tgt := 52) hx hb dX12_row_75 (by decide) ?_
                exact ih52 (k52 + 1) _ g_81 _ _ ls (by omega) h_83 h_84 h_85 h_86 hP hS (lv_sub hl [0, 1, 2, 3, 4] rfl)
            exact HL52 60 0 _ g_73 _ _ ls (by omega) h_75 h_76 h_77 h_78 hP hS (lv_sub hl [0, 1, 2, 3, 4] rfl)
        · refine lv_bipush (v := (-3)) hx hb dX12_row_32 (by decide) ?_
          exact q_iret X hP hS (aRow_neg (hw_1.elim (fun q => q.2) (fun q => absurd q.1 hc_4)) ((in_S hw_4).elim (fun q => q.2) (fun q => absurd q.1 hc_16)) hc_22 hc_29) dX12_row_34
      · refine lv_bipush (v := (-2)) hx hb dX12_row_25 (by decide) ?_
        exact q_iret X hP hS (by first | exact aRow_s (hw_1.elim (fun q => absurd (q.1.symm.trans hc_4) (by decide)) (fun q => q.2)) | exact aRow_w (hw_1.elim (fun q => q.2) (fun q => absurd q.1 hc_4)) ((in_S hw_4).elim (fun q => absurd (q.1.symm.trans hc_16) (by decide)) (fun q => q.2)) | exact aRow_n (hw_1.elim (fun q => q.2) (fun q => absurd q.1 hc_4)) ((in_S hw_4).elim (fun q => q.2) (fun q => absurd q.1 hc_16)) hc_22) dX12_row_27

theorem dX12_count_0 : decode cX12_count 0 = .ok (.iload_n 1, 1) := by decide +kernel
theorem dX12_count_1 : decode cX12_count 1 = .ok (.i2l, 1) := by decide +kernel
theorem dX12_count_2 : decode cX12_count 2 = .ok (.lconst 0, 1) := by decide +kernel
theorem dX12_count_3 : decode cX12_count 3 = .ok (.ldc2_w 429, 3) := by decide +kernel
theorem dX12_count_6 : decode cX12_count 6 = .ok (.invokestatic 82, 3) := by decide +kernel
theorem dX12_count_9 : decode cX12_count 9 = .ok (.ifCond .eq 10, 3) := by decide +kernel
theorem dX12_count_19 : decode cX12_count 19 = .ok (.iload_n 1, 1) := by decide +kernel
theorem dX12_count_20 : decode cX12_count 20 = .ok (.bipush 9, 2) := by decide +kernel
theorem dX12_count_22 : decode cX12_count 22 = .ok (.if_icmp .ne 8, 3) := by decide +kernel
theorem dX12_count_30 : decode cX12_count 30 = .ok (.iload_n 1, 1) := by decide +kernel
theorem dX12_count_31 : decode cX12_count 31 = .ok (.bipush 10, 2) := by decide +kernel
theorem dX12_count_33 : decode cX12_count 33 = .ok (.if_icmp .eq 5, 3) := by decide +kernel
theorem dX12_count_38 : decode cX12_count 38 = .ok (.iconst 0, 1) := by decide +kernel
theorem dX12_count_39 : decode cX12_count 39 = .ok (.istore_n 2, 1) := by decide +kernel
theorem dX12_count_40 : decode cX12_count 40 = .ok (.iconst 0, 1) := by decide +kernel
theorem dX12_count_41 : decode cX12_count 41 = .ok (.istore_n 3, 1) := by decide +kernel
theorem dX12_count_42 : decode cX12_count 42 = .ok (.iload_n 3, 1) := by decide +kernel
theorem dX12_count_43 : decode cX12_count 43 = .ok (.iconst 4, 1) := by decide +kernel
theorem dX12_count_44 : decode cX12_count 44 = .ok (.if_icmp .ge 27, 3) := by decide +kernel
theorem dX12_count_47 : decode cX12_count 47 = .ok (.iload_n 2, 1) := by decide +kernel
theorem dX12_count_48 : decode cX12_count 48 = .ok (.aload_n 0, 1) := by decide +kernel
theorem dX12_count_49 : decode cX12_count 49 = .ok (.getfield 65, 3) := by decide +kernel
theorem dX12_count_52 : decode cX12_count 52 = .ok (.iload_n 3, 1) := by decide +kernel
theorem dX12_count_53 : decode cX12_count 53 = .ok (.iaload, 1) := by decide +kernel
theorem dX12_count_54 : decode cX12_count 54 = .ok (.iconst (-1), 1) := by decide +kernel
theorem dX12_count_55 : decode cX12_count 55 = .ok (.if_icmp .ne 7, 3) := by decide +kernel
theorem dX12_count_58 : decode cX12_count 58 = .ok (.iconst 0, 1) := by decide +kernel
theorem dX12_count_59 : decode cX12_count 59 = .ok (.goto 4, 3) := by decide +kernel
theorem dX12_count_63 : decode cX12_count 63 = .ok (.iadd, 1) := by decide +kernel
theorem dX12_count_64 : decode cX12_count 64 = .ok (.istore_n 2, 1) := by decide +kernel
theorem dX12_count_65 : decode cX12_count 65 = .ok (.iinc 3 1, 3) := by decide +kernel
theorem dX12_count_68 : decode cX12_count 68 = .ok (.goto (-26), 3) := by decide +kernel
theorem dX12_count_71 : decode cX12_count 71 = .ok (.iload_n 2, 1) := by decide +kernel
theorem dX12_count_72 : decode cX12_count 72 = .ok (.ireturn, 1) := by decide +kernel
theorem dX12_count_36 : decode cX12_count 36 = .ok (.iconst (-1), 1) := by decide +kernel
theorem dX12_count_37 : decode cX12_count 37 = .ok (.ireturn, 1) := by decide +kernel
theorem dX12_count_25 : decode cX12_count 25 = .ok (.aload_n 0, 1) := by decide +kernel
theorem dX12_count_26 : decode cX12_count 26 = .ok (.getfield 86, 3) := by decide +kernel
theorem dX12_count_29 : decode cX12_count 29 = .ok (.ireturn, 1) := by decide +kernel
theorem dX12_count_12 : decode cX12_count 12 = .ok (.aload_n 0, 1) := by decide +kernel
theorem dX12_count_13 : decode cX12_count 13 = .ok (.getfield 9, 3) := by decide +kernel
theorem dX12_count_16 : decode cX12_count 16 = .ok (.iload_n 1, 1) := by decide +kernel
theorem dX12_count_17 : decode cX12_count 17 = .ok (.iaload, 1) := by decide +kernel
theorem dX12_count_18 : decode cX12_count 18 = .ok (.ireturn, 1) := by decide +kernel
def vX12_count : List Cond := .code yX12_count cX12_count 4 (some .int) :: ([.constantLong RX12 429 (8), .methodLink RX12 82 yX12_in, .static yX12_in, .initialized RX12, .code yX12_in cX12_in 6 (some .boolean), .fieldLink RX12 65 "IcicleClockModel" "many" "[I", .fieldLink RX12 86 "IcicleClockModel" "taped" "I", .fieldLink RX12 9 "IcicleClockModel" "world" "[I"] ++ wsX120)
theorem iX12_count_12 : ∀ w ∈ wsX120, w ∈ vX12_count := fun _ h => List.mem_cons_of_mem _ (List.mem_append_right _ h)
set_option maxRecDepth 20000 in
theorem gg_X12_count_X12_in : GoodIn vX12_count (wsS RX12 82 yX12_in vX12_in) := goodIn_r _ [2, 3, 4, 5] (by decide +kernel) (by decide +kernel)
set_option maxHeartbeats 4000000 in
set_option maxRecDepth 100000 in
theorem m_count (l : Launch) (D : va_G) (cs : Nat → ClassId) (ad : Nat → Nat) (hj : wJ ad nW) (g : Nat → va_E) (vw : Int32) (h197 : g 197 = .inr (12, [.int 0, .ref (ad 198), .ref (ad 199), .ref (ad 200), .ref (ad 201), .int 0, .ref (ad 202), .int 0, .int 0, .int 0, .int 0, .int 0, .int 0, .int (-1), .ref (ad 203), .ref (ad 204), .ref (ad 205), .int 0, .int 0, .ref (ad 206), .ref (ad 207), .ref (ad 208), .int 0, .int 0, .int 0, .int 0, .int 0, .ref (ad 209), .ref (ad 210), .ref (ad 211), .long 0, .long 0, .ref (ad 212), .ref (ad 213), .int 0, .int 0, .ref (ad 214), .ref (ad 215), .ref (ad 216), .ref (ad 217)])) (h198 : g 198 = .inl (cs 1, 118, .inl (fun _ => 0))) (h214 : g 214 = .inl (cs 1, 4, .inl mF)) : cI l yX12_count vX12_count { frames := 1, cells := 0, slots := 0, locals := 25 } D cs ad nW [.ref (ad 197), .int vw] g (fun r g2 => r = aCnt vw) := by
  refine Met.start (cc := cX12_count) (maxL := 4) (ret := (some .int)) RX12 rfl (by decide) rfl (Nat.le_of_ble_eq_true rfl) ?_
  intro p e s m below meth c ls X hP hl
  have hx := X.1
  have hb := X.2.1
  have hS : va_S (wA ad nW) s.heap s.heap [] := va_S.rf
  have hA : ∀ i, i < nW → wA ad nW (ad i) := fun i h => ⟨i, h, rfl⟩
  have hl : lv_has ls 4 [(0, .ref (ad 197)), (1, .int vw)] := hl
  refine lv_iload_n hx hb dX12_count_0 rfl (lv_at hl 1 rfl) ?_
  refine lv_i2l (v := vw.toInt64) hx hb dX12_count_1 rfl ?_
  refine lv_lconst (v := 0) hx hb dX12_count_2 (by decide) ?_
  refine lv_ldc2 (v := 8) hx hb X.2.2.2.2.2.1 (X.2.2.2.2.1 _ (List.mem_of_getElem? (i := 1) rfl)) dX12_count_3 ?_
  refine q_callSi (As := [.long (vw.toInt64), .long 0, .long 8]) (rest := []) X (m_in l D cs ad hj g (vw.toInt64) 0 8 ) (cwS 3 X.2.2.2.2.1 gg_X12_count_X12_in rfl rfl rfl (by decide +kernel) ⟨Nat.le_of_ble_eq_true rfl, Nat.le_of_ble_eq_true rfl⟩) hP hA hS rfl hl.1 rfl (Nat.le_of_ble_eq_true rfl) dX12_count_6 ⟨Nat.le_of_ble_eq_true rfl, Nat.le_of_ble_eq_true rfl⟩ (fun r_3 g_2 H locs hw_1 hP hS => ?_)
  obtain ⟨hw_1b, hw_1⟩ := hw_1
  rw [hw_1b] at hP
  refine lv_if_eq (tgt := 19) hx hb dX12_count_9 (by decide) (fun hc_9 => ?_) (fun hc_9 => ?_)
  · refine lv_iload_n hx hb dX12_count_19 rfl (lv_at hl 1 rfl) ?_
    refine lv_bipush (v := 9) hx hb dX12_count_20 (by decide) ?_
    refine lv_icmp_ne (tgt := 30) hx hb dX12_count_22 (by decide) (fun hc_22 => ?_) (fun hc_22 => ?_)
    · refine lv_iload_n hx hb dX12_count_30 rfl (lv_at hl 1 rfl) ?_
      refine lv_bipush (v := 10) hx hb dX12_count_31 (by decide) ?_
      refine lv_icmp_eq (tgt := 38) hx hb dX12_count_33 (by decide) (fun hc_33 => ?_) (fun hc_33 => ?_)
      · refine lv_iconst (v := 0) hx hb dX12_count_38 (by decide) ?_
        refine lv_istore_n (lv' := [(2, .int 0), (0, .ref (ad 197)), (1, .int vw)]) hx hb dX12_count_39 rfl hl (by decide) rfl (fun ls hl => ?_)
        refine lv_iconst (v := 0) hx hb dX12_count_40 (by decide) ?_
        refine lv_istore_n (lv' := [(3, .int 0), (2, .int 0), (0, .ref (ad 197)), (1, .int vw)]) hx hb dX12_count_41 rfl hl (by decide) rfl (fun ls hl => ?_)
        refine lv_iload_n hx hb dX12_count_42 rfl (lv_at hl 0 rfl) ?_
        refine lv_iconst (v := 4) hx hb dX12_count_43 (by decide) ?_
        refine lv_icmp_ge (tgt := 71) hx hb dX12_count_44 (by decide) (fun h => absurd h (by decide)) (fun _ => ?_)
        refine lv_iload_n hx hb dX12_count_47 rfl (lv_at hl 1 rfl) ?_
        refine lv_aload_n hx hb dX12_count_48 rfl (lv_at hl 2 rfl) ?_
        refine q_get X iX12_count_12 hP (by decide) h197 rfl 36 (by decide) (List.mem_of_getElem? (i := 6) rfl) (v := .ref (ad 214)) rfl dX12_count_49 ?_
        refine lv_iload_n hx hb dX12_count_52 rfl (lv_at hl 0 rfl) ?_
        refine q_iald X hP (by decide) h214 (by unfold vp_in; decide) dX12_count_53 ?_
        refine lv_iconst (v := (-1)) hx hb dX12_count_54 (by decide) ?_
        refine lv_icmp_ne (tgt := 62) hx hb dX12_count_55 (by decide) (fun h => absurd h (by decide)) (fun _ => ?_)
        refine lv_iconst (v := 0) hx hb dX12_count_58 (by decide) ?_
        refine lv_goto (tgt := 63) hx hb dX12_count_59 (by decide) ?_
        refine lv_iadd hx hb dX12_count_63 ?_
        refine lv_topi (fun z_4 ez_4 => ?_)
        obtain rfl : z_4 = 0 := ez_4.trans (by decide)
        refine lv_istore_n (lv' := [(2, .int 0), (3, .int 0), (0, .ref (ad 197)), (1, .int vw)]) hx hb dX12_count_64 rfl hl (by decide) rfl (fun ls hl => ?_)
        refine lv_iinc (v := 1) (lv' := [(3, .int 1), (2, .int 0), (0, .ref (ad 197)), (1, .int vw)]) hx hb dX12_count_65 hl (k := 1) rfl (by decide) (by decide) rfl (fun ls hl => ?_)
        refine lv_goto (tgt := 42) hx hb dX12_count_68 (by decide) ?_
        refine lv_iload_n hx hb dX12_count_42 rfl (lv_at hl 0 rfl) ?_
        refine lv_iconst (v := 4) hx hb dX12_count_43 (by decide) ?_
        refine lv_icmp_ge (tgt := 71) hx hb dX12_count_44 (by decide) (fun h => absurd h (by decide)) (fun _ => ?_)
        refine lv_iload_n hx hb dX12_count_47 rfl (lv_at hl 1 rfl) ?_
        refine lv_aload_n hx hb dX12_count_48 rfl (lv_at hl 2 rfl) ?_
        refine q_get X iX12_count_12 hP (by decide) h197 rfl 36 (by decide) (List.mem_of_getElem? (i := 6) rfl) (v := .ref (ad 214)) rfl dX12_count_49 ?_
        refine lv_iload_n hx hb dX12_count_52 rfl (lv_at hl 0 rfl) ?_
        refine q_iald X hP (by decide) h214 (by unfold vp_in; decide) dX12_count_53 ?_
        refine lv_iconst (v := (-1)) hx hb dX12_count_54 (by decide) ?_
        refine lv_icmp_ne (tgt := 62) hx hb dX12_count_55 (by decide) (fun h => absurd h (by decide)) (fun _ => ?_)
        refine lv_iconst (v := 0) hx hb dX12_count_58 (by decide) ?_
        refine lv_goto (tgt := 63) hx hb dX12_count_59 (by decide) ?_
        refine lv_iadd hx hb dX12_count_63 ?_
        refine lv_topi (fun z_5 ez_5 => ?_)
        obtain rfl : z_5 = 0 := ez_5.trans (by decide)
        refine lv_istore_n (lv' := [(2, .int 0), (3, .int 1), (0, .ref (ad 197)), (1, .int vw)]) hx hb dX12_count_64 rfl hl (by decide) rfl (fun ls hl => ?_)
        refine lv_iinc (v := 2) (lv' := [(3, .int 2), (2, .int 0), (0, .ref (ad 197)), (1, .int vw)]) hx hb dX12_count_65 hl (k := 1) rfl (by decide) (by decide) rfl (fun ls hl => ?_)
        refine lv_goto (tgt := 42) hx hb dX12_count_68 (by decide) ?_
        refine lv_iload_n hx hb dX12_count_42 rfl (lv_at hl 0 rfl) ?_
        refine lv_iconst (v := 4) hx hb dX12_count_43 (by decide) ?_
        refine lv_icmp_ge (tgt := 71) hx hb dX12_count_44 (by decide) (fun h => absurd h (by decide)) (fun _ => ?_)
        refine lv_iload_n hx hb dX12_count_47 rfl (lv_at hl 1 rfl) ?_
        refine lv_aload_n hx hb dX12_count_48 rfl (lv_at hl 2 rfl) ?_
        refine q_get X iX12_count_12 hP (by decide) h197 rfl 36 (by decide) (List.mem_of_getElem? (i := 6) rfl) (v := .ref (ad 214)) rfl dX12_count_49 ?_
        refine lv_iload_n hx hb dX12_count_52 rfl (lv_at hl 0 rfl) ?_
        refine q_iald X hP (by decide) h214 (by unfold vp_in; decide) dX12_count_53 ?_
        refine lv_iconst (v := (-1)) hx hb dX12_count_54 (by decide) ?_
        refine lv_icmp_ne (tgt := 62) hx hb dX12_count_55 (by decide) (fun h => absurd h (by decide)) (fun _ => ?_)
        refine lv_iconst (v := 0) hx hb dX12_count_58 (by decide) ?_
        refine lv_goto (tgt := 63) hx hb dX12_count_59 (by decide) ?_
        refine lv_iadd hx hb dX12_count_63 ?_
        refine lv_topi (fun z_6 ez_6 => ?_)
        obtain rfl : z_6 = 0 := ez_6.trans (by decide)
        refine lv_istore_n (lv' := [(2, .int 0), (3, .int 2), (0, .ref (ad 197)), (1, .int vw)]) hx hb dX12_count_64 rfl hl (by decide) rfl (fun ls hl => ?_)
        refine lv_iinc (v := 3) (lv' := [(3, .int 3), (2, .int 0), (0, .ref (ad 197)), (1, .int vw)]) hx hb dX12_count_65 hl (k := 1) rfl (by decide) (by decide) rfl (fun ls hl => ?_)
        refine lv_goto (tgt := 42) hx hb dX12_count_68 (by decide) ?_
        refine lv_iload_n hx hb dX12_count_42 rfl (lv_at hl 0 rfl) ?_
        refine lv_iconst (v := 4) hx hb dX12_count_43 (by decide) ?_
        refine lv_icmp_ge (tgt := 71) hx hb dX12_count_44 (by decide) (fun h => absurd h (by decide)) (fun _ => ?_)
        refine lv_iload_n hx hb dX12_count_47 rfl (lv_at hl 1 rfl) ?_
        refine lv_aload_n hx hb dX12_count_48 rfl (lv_at hl 2 rfl) ?_
        refine q_get X iX12_count_12 hP (by decide) h197 rfl 36 (by decide) (List.mem_of_getElem? (i := 6) rfl) (v := .ref (ad 214)) rfl dX12_count_49 ?_
        refine lv_iload_n hx hb dX12_count_52 rfl (lv_at hl 0 rfl) ?_
        refine q_iald X hP (by decide) h214 (by unfold vp_in; decide) dX12_count_53 ?_
        refine lv_iconst (v := (-1)) hx hb dX12_count_54 (by decide) ?_
        refine lv_icmp_ne (tgt := 62) hx hb dX12_count_55 (by decide) (fun h => absurd h (by decide)) (fun _ => ?_)
        refine lv_iconst (v := 0) hx hb dX12_count_58 (by decide) ?_
        refine lv_goto (tgt := 63) hx hb dX12_count_59 (by decide) ?_
        refine lv_iadd hx hb dX12_count_63 ?_
        refine lv_topi (fun z_7 ez_7 => ?_)
        obtain rfl : z_7 = 0 := ez_7.trans (by decide)
        refine lv_istore_n (lv' := [(2, .int 0), (3, .int 3), (0, .ref (ad 197)), (1, .int vw)]) hx hb dX12_count_64 rfl hl (by decide) rfl (fun ls hl => ?_)
        refine lv_iinc (v := 4) (lv' := [(3, .int 4), (2, .int 0), (0, .ref (ad 197)), (1, .int vw)]) hx hb dX12_count_65 hl (k := 1) rfl (by decide) (by decide) rfl (fun ls hl => ?_)
        refine lv_goto (tgt := 42) hx hb dX12_count_68 (by decide) ?_
        refine lv_iload_n hx hb dX12_count_42 rfl (lv_at hl 0 rfl) ?_
        refine lv_iconst (v := 4) hx hb dX12_count_43 (by decide) ?_
        refine lv_icmp_ge (tgt := 71) hx hb dX12_count_44 (by decide) (fun _ => ?_) (fun h => absurd h (by decide))
        refine lv_iload_n hx hb dX12_count_71 rfl (lv_at hl 1 rfl) ?_
        exact q_iret X hP hS (by rw [show vw = 10 from hc_33]; unfold aCnt; rfl) dX12_count_72
      · refine lv_iconst (v := (-1)) hx hb dX12_count_36 (by decide) ?_
        exact q_iret X hP hS (in_8n hw_1 hc_9 hc_22 hc_33).symm dX12_count_37
    · refine lv_aload_n hx hb dX12_count_25 rfl (lv_at hl 0 rfl) ?_
      refine q_get X iX12_count_12 hP (by decide) h197 rfl 5 (by decide) (List.mem_of_getElem? (i := 7) rfl) (v := .int 0) rfl dX12_count_26 ?_
      exact q_iret X hP hS (by rw [show vw = 9 from hc_22]; unfold aCnt; rfl) dX12_count_29
  · refine lv_aload_n hx hb dX12_count_12 rfl (lv_at hl 0 rfl) ?_
    refine q_get X iX12_count_12 hP (by decide) h197 rfl 1 (by decide) (List.mem_of_getElem? (i := 8) rfl) (v := .ref (ad 198)) rfl dX12_count_13 ?_
    refine lv_iload_n hx hb dX12_count_16 rfl (lv_at hl 1 rfl) ?_
    refine q_iald X hP (by decide) h198 (in_8v hw_1 hc_9) dX12_count_17 ?_
    exact q_iret X hP hS (in_8a hw_1 hc_9).symm dX12_count_18
