theorem dX11_refusal_0 : decode cX11_refusal 0 = .ok (.iload_n 1, 1) := by decide +kernel
theorem dX11_refusal_1 : decode cX11_refusal 1 = .ok (.invokestatic 377, 3) := by decide +kernel
theorem dX11_refusal_4 : decode cX11_refusal 4 = .ok (.ifCond .eq 14, 3) := by decide +kernel
theorem dX11_refusal_18 : decode cX11_refusal 18 = .ok (.bipush (-2), 2) := by decide +kernel
theorem dX11_refusal_20 : decode cX11_refusal 20 = .ok (.ireturn, 1) := by decide +kernel
theorem dX11_refusal_7 : decode cX11_refusal 7 = .ok (.aload_n 0, 1) := by decide +kernel
theorem dX11_refusal_8 : decode cX11_refusal 8 = .ok (.invokevirtual 195, 3) := by decide +kernel
theorem dX11_refusal_11 : decode cX11_refusal 11 = .ok (.ifCond .eq 7, 3) := by decide +kernel
def vX11_refusal : List Cond := .code yX11_refusal cX11_refusal 4 (some .int) :: ([.methodLink RX11 377 yX11_isSlot, .static yX11_isSlot, .initialized RX11, .code yX11_isSlot cX11_isSlot 1 (some .boolean), .methodLink RX11 195 yX11_isTold, .instanceMethod yX11_isTold, .selects RX11 yX11_isTold yX11_isTold, .code yX11_isTold cX11_isTold 1 (some .boolean), .fieldLink RX11 19 "IcicleClock" "now" "LIcicleClock$Street;", .fieldLink RX11 112 "IcicleClock$Street" "lines" "I"] ++ wsX110 ++ wsX60)
theorem iX11_refusal_11 : ∀ w ∈ wsX110, w ∈ vX11_refusal := fun _ h => List.mem_cons_of_mem _ (List.mem_append_left _ (List.mem_append_right _ h))
theorem iX11_refusal_6 : ∀ w ∈ wsX60, w ∈ vX11_refusal := fun _ h => List.mem_cons_of_mem _ (List.mem_append_right _ h)
set_option maxRecDepth 20000 in
theorem gg_X11_refusal_X11_isSlot : GoodIn vX11_refusal (wsS RX11 377 yX11_isSlot vX11_isSlot) := goodIn_r _ [1, 2, 3, 4] (by decide +kernel) (by decide +kernel)
set_option maxRecDepth 20000 in
theorem gg_X11_refusal_X11_isTold : GoodIn vX11_refusal (wsV RX11 195 RX11 yX11_isTold vX11_isTold) := goodIn_r _ [5, 6, 7, 3, 8, 9, 10, 11, 12, 13, 14, 15, 16, 17, 18, 19, 20, 21, 22, 23, 24, 25, 26, 27, 28, 29, 30, 31, 32, 33, 34, 35, 36, 37, 38, 39, 40, 41, 42] (by decide +kernel) (by decide +kernel)
set_option maxHeartbeats 4000000 in
set_option maxRecDepth 100000 in
theorem k_refusal (l : Launch) (D : va_G) (cs : Nat → ClassId) (ad : Nat → Nat) (hj : wJ ad nW) (g : Nat → va_E) (vs : Int32) (vo : Int32) (vd : Int32) (h0 : g 0 = .inr (11, [.ref (ad 1), .ref (ad 3), .ref (ad 23), .ref (ad 43), .ref (ad 104), .ref (ad 105), .ref (ad 114), .ref (ad 116), .ref (ad 118), .ref (ad 120), .ref (ad 130), .ref (ad 140), .ref (ad 144), .ref (ad 190)])) (h3 : g 3 = .inr (6, [.int 0, .int 0, .int 0, .int 0, .int 0, .int 0, .int 0, .int 0, .ref (ad 4), .ref (ad 5), .ref (ad 6), .ref (ad 7), .ref (ad 8), .ref (ad 9), .ref (ad 10), .ref (ad 11), .ref (ad 12), .ref (ad 13)])) : cI l yX11_refusal vX11_refusal { frames := 1, cells := 0, slots := 0, locals := 20 } D cs ad nW [.ref (ad 0), .int vs, .int vo, .int vd] g (fun r g2 => r = (-2) ∧ g2 = g) := by
  refine Met.start (cc := cX11_refusal) (maxL := 4) (ret := (some .int)) RX11 rfl (by decide) rfl (Nat.le_of_ble_eq_true rfl) ?_
  intro p e s m below meth c ls X hP hl
  have hx := X.1
  have hb := X.2.1
  have hS : va_S (wA ad nW) s.heap s.heap [] := va_S.rf
  have hA : ∀ i, i < nW → wA ad nW (ad i) := fun i h => ⟨i, h, rfl⟩
  have hl : lv_has ls 4 [(0, .ref (ad 0)), (1, .int vs), (2, .int vo), (3, .int vd)] := hl
  refine lv_iload_n hx hb dX11_refusal_0 rfl (lv_at hl 1 rfl) ?_
  refine q_callSi (As := [.int vs]) (rest := []) X (k_isSlot l D cs ad hj g vs ) (cwS 1 X.2.2.2.2.1 gg_X11_refusal_X11_isSlot rfl rfl rfl (by decide +kernel) ⟨Nat.le_of_ble_eq_true rfl, Nat.le_of_ble_eq_true rfl⟩) hP hA hS rfl hl.1 rfl (Nat.le_of_ble_eq_true rfl) dX11_refusal_1 ⟨Nat.le_of_ble_eq_true rfl, Nat.le_of_ble_eq_true rfl⟩ (fun r_3 g_2 H locs hw_1 hP hS => ?_)
  obtain ⟨hw_1b, hw_1⟩ := hw_1
  rw [hw_1b] at hP
  refine lv_if_eq (tgt := 18) hx hb dX11_refusal_4 (by decide) (fun hc_4 => ?_) (fun hc_4 => ?_)
  · refine lv_bipush (v := (-2)) hx hb dX11_refusal_18 (by decide) ?_
    exact q_iret X hP hS ⟨rfl, rfl⟩ dX11_refusal_20
  · refine lv_aload_n hx hb dX11_refusal_7 rfl (lv_at hl 0 rfl) ?_
    refine q_calli (q := (RX11, TX11, 14)) (As := []) (rest := []) X (k_isTold l D cs ad hj g  h0 h3) (cwV 0 X.2.2.2.2.1 gg_X11_refusal_X11_isTold rfl rfl rfl (by decide +kernel) ⟨Nat.le_of_ble_eq_true rfl, Nat.le_of_ble_eq_true rfl⟩) (by decide) h0 rfl hP hA hS rfl hl.1 rfl (Nat.le_of_ble_eq_true rfl) dX11_refusal_8 ⟨Nat.le_of_ble_eq_true rfl, Nat.le_of_ble_eq_true rfl⟩ (fun r_6 g_5 H locs hw_4 hP hS => ?_)
    obtain ⟨hw_4a, hw_4b⟩ := hw_4
    subst hw_4a
    rw [hw_4b] at hP
    refine lv_if_eq (tgt := 18) hx hb dX11_refusal_11 (by decide) (fun _ => ?_) (fun h => absurd h (by decide))
    refine lv_bipush (v := (-2)) hx hb dX11_refusal_18 (by decide) ?_
    exact q_iret X hP hS ⟨rfl, rfl⟩ dX11_refusal_20

theorem dX11_weatherRefusal_0 : decode cX11_weatherRefusal 0 = .ok (.iload_n 2, 1) := by decide +kernel
theorem dX11_weatherRefusal_1 : decode cX11_weatherRefusal 1 = .ok (.iconst 1, 1) := by decide +kernel
theorem dX11_weatherRefusal_2 : decode cX11_weatherRefusal 2 = .ok (.if_icmp .lt 12, 3) := by decide +kernel
theorem dX11_weatherRefusal_14 : decode cX11_weatherRefusal 14 = .ok (.iconst 0, 1) := by decide +kernel
theorem dX11_weatherRefusal_15 : decode cX11_weatherRefusal 15 = .ok (.istore 4, 2) := by decide +kernel
theorem dX11_weatherRefusal_17 : decode cX11_weatherRefusal 17 = .ok (.aload_n 0, 1) := by decide +kernel
theorem dX11_weatherRefusal_18 : decode cX11_weatherRefusal 18 = .ok (.iload_n 1, 1) := by decide +kernel
theorem dX11_weatherRefusal_19 : decode cX11_weatherRefusal 19 = .ok (.iload 4, 2) := by decide +kernel
theorem dX11_weatherRefusal_21 : decode cX11_weatherRefusal 21 = .ok (.ifCond .eq 11, 3) := by decide +kernel
theorem dX11_weatherRefusal_32 : decode cX11_weatherRefusal 32 = .ok (.iconst 0, 1) := by decide +kernel
theorem dX11_weatherRefusal_33 : decode cX11_weatherRefusal 33 = .ok (.iload_n 2, 1) := by decide +kernel
theorem dX11_weatherRefusal_34 : decode cX11_weatherRefusal 34 = .ok (.aload_n 0, 1) := by decide +kernel
theorem dX11_weatherRefusal_35 : decode cX11_weatherRefusal 35 = .ok (.getfield 19, 3) := by decide +kernel
theorem dX11_weatherRefusal_38 : decode cX11_weatherRefusal 38 = .ok (.getfield 177, 3) := by decide +kernel
theorem dX11_weatherRefusal_41 : decode cX11_weatherRefusal 41 = .ok (.invokestatic 220, 3) := by decide +kernel
theorem dX11_weatherRefusal_44 : decode cX11_weatherRefusal 44 = .ok (.invokevirtual 260, 3) := by decide +kernel
theorem dX11_weatherRefusal_47 : decode cX11_weatherRefusal 47 = .ok (.ireturn, 1) := by decide +kernel
theorem dX11_weatherRefusal_5 : decode cX11_weatherRefusal 5 = .ok (.iload_n 2, 1) := by decide +kernel
theorem dX11_weatherRefusal_6 : decode cX11_weatherRefusal 6 = .ok (.iconst 5, 1) := by decide +kernel
theorem dX11_weatherRefusal_7 : decode cX11_weatherRefusal 7 = .ok (.if_icmp .gt 7, 3) := by decide +kernel
theorem dX11_weatherRefusal_10 : decode cX11_weatherRefusal 10 = .ok (.iconst 1, 1) := by decide +kernel
theorem dX11_weatherRefusal_11 : decode cX11_weatherRefusal 11 = .ok (.goto 4, 3) := by decide +kernel
theorem dX11_weatherRefusal_24 : decode cX11_weatherRefusal 24 = .ok (.iload_n 3, 1) := by decide +kernel
theorem dX11_weatherRefusal_25 : decode cX11_weatherRefusal 25 = .ok (.ifCond .eq 7, 3) := by decide +kernel
theorem dX11_weatherRefusal_28 : decode cX11_weatherRefusal 28 = .ok (.iconst 1, 1) := by decide +kernel
theorem dX11_weatherRefusal_29 : decode cX11_weatherRefusal 29 = .ok (.goto 4, 3) := by decide +kernel
def vX11_weatherRefusal : List Cond := .code yX11_weatherRefusal cX11_weatherRefusal 5 (some .int) :: ([.fieldLink RX11 19 "IcicleClock" "now" "LIcicleClock$Street;", .fieldLink RX11 177 "IcicleClock$Street" "days" "I", .methodLink RX11 220 Lib.Math.min.name, .static Lib.Math.min.name, .initialized "java/lang/Math", .code Lib.Math.min.name Lib.Math.min.code 2 (some .int), .methodLink RX11 260 yX11_refusal, .instanceMethod yX11_refusal, .selects RX11 yX11_refusal yX11_refusal, .initialized RX11, .code yX11_refusal cX11_refusal 4 (some .int), .methodLink RX11 377 yX11_isSlot, .static yX11_isSlot, .code yX11_isSlot cX11_isSlot 1 (some .boolean), .methodLink RX11 195 yX11_isTold, .instanceMethod yX11_isTold, .selects RX11 yX11_isTold yX11_isTold, .code yX11_isTold cX11_isTold 1 (some .boolean), .fieldLink RX11 112 "IcicleClock$Street" "lines" "I"] ++ wsX110 ++ wsX60)
theorem iX11_weatherRefusal_11 : ∀ w ∈ wsX110, w ∈ vX11_weatherRefusal := fun _ h => List.mem_cons_of_mem _ (List.mem_append_left _ (List.mem_append_right _ h))
theorem iX11_weatherRefusal_6 : ∀ w ∈ wsX60, w ∈ vX11_weatherRefusal := fun _ h => List.mem_cons_of_mem _ (List.mem_append_right _ h)
set_option maxRecDepth 20000 in
theorem gg_X11_weatherRefusal_X11_refusal : GoodIn vX11_weatherRefusal (wsV RX11 260 RX11 yX11_refusal vX11_refusal) := goodIn_r _ [7, 8, 9, 10, 11, 12, 13, 10, 14, 15, 16, 17, 18, 1, 19, 20, 21, 22, 23, 24, 25, 26, 27, 28, 29, 30, 31, 32, 33, 34, 35, 36, 37, 38, 39, 40, 41, 42, 43, 44, 45, 46, 47, 48, 49, 50, 51] (by decide +kernel) (by decide +kernel)
set_option maxHeartbeats 4000000 in
set_option maxRecDepth 100000 in
theorem k_weatherRefusal (l : Launch) (D : va_G) (cs : Nat → ClassId) (ad : Nat → Nat) (hj : wJ ad nW) (g : Nat → va_E) (vs : Int32) (vn : Int32) (vo : Int32) (h0 : g 0 = .inr (11, [.ref (ad 1), .ref (ad 3), .ref (ad 23), .ref (ad 43), .ref (ad 104), .ref (ad 105), .ref (ad 114), .ref (ad 116), .ref (ad 118), .ref (ad 120), .ref (ad 130), .ref (ad 140), .ref (ad 144), .ref (ad 190)])) (h3 : g 3 = .inr (6, [.int 0, .int 0, .int 0, .int 0, .int 0, .int 0, .int 0, .int 0, .ref (ad 4), .ref (ad 5), .ref (ad 6), .ref (ad 7), .ref (ad 8), .ref (ad 9), .ref (ad 10), .ref (ad 11), .ref (ad 12), .ref (ad 13)])) : cI l yX11_weatherRefusal vX11_weatherRefusal { frames := 2, cells := 0, slots := 0, locals := 43 } D cs ad nW [.ref (ad 0), .int vs, .int vn, .int vo] g (fun r g2 => r = (-2) ∧ g2 = g) := by
  refine Met.start (cc := cX11_weatherRefusal) (maxL := 5) (ret := (some .int)) RX11 rfl (by decide) rfl (Nat.le_of_ble_eq_true rfl) ?_
  intro p e s m below meth c ls X hP hl
  have hx := X.1
  have hb := X.2.1
  have hS : va_S (wA ad nW) s.heap s.heap [] := va_S.rf
  have hA : ∀ i, i < nW → wA ad nW (ad i) := fun i h => ⟨i, h, rfl⟩
  have hl : lv_has ls 5 [(0, .ref (ad 0)), (1, .int vs), (2, .int vn), (3, .int vo)] := hl
  refine lv_iload_n hx hb dX11_weatherRefusal_0 rfl (lv_at hl 2 rfl) ?_
  refine lv_iconst (v := 1) hx hb dX11_weatherRefusal_1 (by decide) ?_
  refine lv_icmp_lt (tgt := 14) hx hb dX11_weatherRefusal_2 (by decide) (fun hc_2 => ?_) (fun hc_2 => ?_)
  · refine lv_iconst (v := 0) hx hb dX11_weatherRefusal_14 (by decide) ?_
    refine lv_istore (lv' := [(4, .int 0), (0, .ref (ad 0)), (1, .int vs), (2, .int vn), (3, .int vo)]) hx hb dX11_weatherRefusal_15 hl (by decide) rfl (fun ls hl => ?_)
    refine lv_aload_n hx hb dX11_weatherRefusal_17 rfl (lv_at hl 1 rfl) ?_
    refine lv_iload_n hx hb dX11_weatherRefusal_18 rfl (lv_at hl 2 rfl) ?_
    refine lv_iload hx hb dX11_weatherRefusal_19 (lv_at hl 0 rfl) ?_
    refine lv_if_eq (tgt := 32) hx hb dX11_weatherRefusal_21 (by decide) (fun _ => ?_) (fun h => absurd h (by decide))
    refine lv_iconst (v := 0) hx hb dX11_weatherRefusal_32 (by decide) ?_
    refine lv_iload_n hx hb dX11_weatherRefusal_33 rfl (lv_at hl 3 rfl) ?_
    refine lv_aload_n hx hb dX11_weatherRefusal_34 rfl (lv_at hl 1 rfl) ?_
    refine q_get X iX11_weatherRefusal_11 hP (by decide) h0 rfl 1 (by decide) (List.mem_of_getElem? (i := 1) rfl) (v := .ref (ad 3)) rfl dX11_weatherRefusal_35 ?_
    refine q_get X iX11_weatherRefusal_6 hP (by decide) h3 rfl 3 (by decide) (List.mem_of_getElem? (i := 2) rfl) (v := .int 0) rfl dX11_weatherRefusal_38 ?_
    refine va_mmin hx hb (X.2.2.2.1.trans hl.1.symm) X.2.2.2.2.2.1 (X.2.2.2.2.1 _ (List.mem_of_getElem? (i := 3) rfl)) (X.2.2.2.2.1 _ (List.mem_of_getElem? (i := 4) rfl)) (X.2.2.2.2.1 _ (List.mem_of_getElem? (i := 5) rfl)) (X.2.2.2.2.1 _ (List.mem_of_getElem? (i := 6) rfl)) (Nat.le_of_ble_eq_true rfl) (Nat.le_of_ble_eq_true rfl) (Nat.le_of_ble_eq_true rfl) (Nat.le_of_ble_eq_true rfl) dX11_weatherRefusal_41 ?_
    refine lv_topi (fun z_1 ez_1 => ?_)
    refine q_calli (q := (RX11, TX11, 14)) (As := [.int vs, .int 0, .int z_1]) (rest := []) X (k_refusal l D cs ad hj g vs 0 z_1 h0 h3) (cwV 3 X.2.2.2.2.1 gg_X11_weatherRefusal_X11_refusal rfl rfl rfl (by decide +kernel) ⟨Nat.le_of_ble_eq_true rfl, Nat.le_of_ble_eq_true rfl⟩) (by decide) h0 rfl hP hA hS rfl hl.1 rfl (Nat.le_of_ble_eq_true rfl) dX11_weatherRefusal_44 ⟨Nat.le_of_ble_eq_true rfl, Nat.le_of_ble_eq_true rfl⟩ (fun r_4 g_3 H locs hw_2 hP hS => ?_)
    obtain ⟨hw_2a, hw_2b⟩ := hw_2
    subst hw_2a
    rw [hw_2b] at hP
    exact q_iret X hP hS ⟨rfl, rfl⟩ dX11_weatherRefusal_47
  · refine lv_iload_n hx hb dX11_weatherRefusal_5 rfl (lv_at hl 2 rfl) ?_
    refine lv_iconst (v := 5) hx hb dX11_weatherRefusal_6 (by decide) ?_
    refine lv_icmp_gt (tgt := 14) hx hb dX11_weatherRefusal_7 (by decide) (fun hc_7 => ?_) (fun hc_7 => ?_)
    · refine lv_iconst (v := 0) hx hb dX11_weatherRefusal_14 (by decide) ?_
      refine lv_istore (lv' := [(4, .int 0), (0, .ref (ad 0)), (1, .int vs), (2, .int vn), (3, .int vo)]) hx hb dX11_weatherRefusal_15 hl (by decide) rfl (fun ls hl => ?_)
      refine lv_aload_n hx hb dX11_weatherRefusal_17 rfl (lv_at hl 1 rfl) ?_
      refine lv_iload_n hx hb dX11_weatherRefusal_18 rfl (lv_at hl 2 rfl) ?_
      refine lv_iload hx hb dX11_weatherRefusal_19 (lv_at hl 0 rfl) ?_
      refine lv_if_eq (tgt := 32) hx hb dX11_weatherRefusal_21 (by decide) (fun _ => ?_) (fun h => absurd h (by decide))
      refine lv_iconst (v := 0) hx hb dX11_weatherRefusal_32 (by decide) ?_
      refine lv_iload_n hx hb dX11_weatherRefusal_33 rfl (lv_at hl 3 rfl) ?_
      refine lv_aload_n hx hb dX11_weatherRefusal_34 rfl (lv_at hl 1 rfl) ?_
      refine q_get X iX11_weatherRefusal_11 hP (by decide) h0 rfl 1 (by decide) (List.mem_of_getElem? (i := 1) rfl) (v := .ref (ad 3)) rfl dX11_weatherRefusal_35 ?_
      refine q_get X iX11_weatherRefusal_6 hP (by decide) h3 rfl 3 (by decide) (List.mem_of_getElem? (i := 2) rfl) (v := .int 0) rfl dX11_weatherRefusal_38 ?_
      refine va_mmin hx hb (X.2.2.2.1.trans hl.1.symm) X.2.2.2.2.2.1 (X.2.2.2.2.1 _ (List.mem_of_getElem? (i := 3) rfl)) (X.2.2.2.2.1 _ (List.mem_of_getElem? (i := 4) rfl)) (X.2.2.2.2.1 _ (List.mem_of_getElem? (i := 5) rfl)) (X.2.2.2.2.1 _ (List.mem_of_getElem? (i := 6) rfl)) (Nat.le_of_ble_eq_true rfl) (Nat.le_of_ble_eq_true rfl) (Nat.le_of_ble_eq_true rfl) (Nat.le_of_ble_eq_true rfl) dX11_weatherRefusal_41 ?_
      refine lv_topi (fun z_5 ez_5 => ?_)
      refine q_calli (q := (RX11, TX11, 14)) (As := [.int vs, .int 0, .int z_5]) (rest := []) X (k_refusal l D cs ad hj g vs 0 z_5 h0 h3) (cwV 3 X.2.2.2.2.1 gg_X11_weatherRefusal_X11_refusal rfl rfl rfl (by decide +kernel) ⟨Nat.le_of_ble_eq_true rfl, Nat.le_of_ble_eq_true rfl⟩) (by decide) h0 rfl hP hA hS rfl hl.1 rfl (Nat.le_of_ble_eq_true rfl) dX11_weatherRefusal_44 ⟨Nat.le_of_ble_eq_true rfl, Nat.le_of_ble_eq_true rfl⟩ (fun r_8 g_7 H locs hw_6 hP hS => ?_)
      obtain ⟨hw_6a, hw_6b⟩ := hw_6
      subst hw_6a
      rw [hw_6b] at hP
      exact q_iret X hP hS ⟨rfl, rfl⟩ dX11_weatherRefusal_47
    · refine lv_iconst (v := 1) hx hb dX11_weatherRefusal_10 (by decide) ?_
      refine lv_goto (tgt := 15) hx hb dX11_weatherRefusal_11 (by decide) ?_
      refine lv_istore (lv' := [(4, .int 1), (0, .ref (ad 0)), (1, .int vs), (2, .int vn), (3, .int vo)]) hx hb dX11_weatherRefusal_15 hl (by decide) rfl (fun ls hl => ?_)
      refine lv_aload_n hx hb dX11_weatherRefusal_17 rfl (lv_at hl 1 rfl) ?_
      refine lv_iload_n hx hb dX11_weatherRefusal_18 rfl (lv_at hl 2 rfl) ?_
      refine lv_iload hx hb dX11_weatherRefusal_19 (lv_at hl 0 rfl) ?_
      refine lv_if_eq (tgt := 32) hx hb dX11_weatherRefusal_21 (by decide) (fun h => absurd h (by decide)) (fun _ => ?_)
      refine lv_iload_n hx hb dX11_weatherRefusal_24 rfl (lv_at hl 4 rfl) ?_
      refine lv_if_eq (tgt := 32) hx hb dX11_weatherRefusal_25 (by decide) (fun hc_25 => ?_) (fun hc_25 => ?_)
      · refine lv_iconst (v := 0) hx hb dX11_weatherRefusal_32 (by decide) ?_
        refine lv_iload_n hx hb dX11_weatherRefusal_33 rfl (lv_at hl 3 rfl) ?_
        refine lv_aload_n hx hb dX11_weatherRefusal_34 rfl (lv_at hl 1 rfl) ?_
        refine q_get X iX11_weatherRefusal_11 hP (by decide) h0 rfl 1 (by decide) (List.mem_of_getElem? (i := 1) rfl) (v := .ref (ad 3)) rfl dX11_weatherRefusal_35 ?_
        refine q_get X iX11_weatherRefusal_6 hP (by decide) h3 rfl 3 (by decide) (List.mem_of_getElem? (i := 2) rfl) (v := .int 0) rfl dX11_weatherRefusal_38 ?_
        refine va_mmin hx hb (X.2.2.2.1.trans hl.1.symm) X.2.2.2.2.2.1 (X.2.2.2.2.1 _ (List.mem_of_getElem? (i := 3) rfl)) (X.2.2.2.2.1 _ (List.mem_of_getElem? (i := 4) rfl)) (X.2.2.2.2.1 _ (List.mem_of_getElem? (i := 5) rfl)) (X.2.2.2.2.1 _ (List.mem_of_getElem? (i := 6) rfl)) (Nat.le_of_ble_eq_true rfl) (Nat.le_of_ble_eq_true rfl) (Nat.le_of_ble_eq_true rfl) (Nat.le_of_ble_eq_true rfl) dX11_weatherRefusal_41 ?_
        refine lv_topi (fun z_9 ez_9 => ?_)
        refine q_calli (q := (RX11, TX11, 14)) (As := [.int vs, .int 0, .int z_9]) (rest := []) X (k_refusal l D cs ad hj g vs 0 z_9 h0 h3) (cwV 3 X.2.2.2.2.1 gg_X11_weatherRefusal_X11_refusal rfl rfl rfl (by decide +kernel) ⟨Nat.le_of_ble_eq_true rfl, Nat.le_of_ble_eq_true rfl⟩) (by decide) h0 rfl hP hA hS rfl hl.1 rfl (Nat.le_of_ble_eq_true rfl) dX11_weatherRefusal_44 ⟨Nat.le_of_ble_eq_true rfl, Nat.le_of_ble_eq_true rfl⟩ (fun r_12 g_11 H locs hw_10 hP hS => ?_)
        obtain ⟨hw_10a, hw_10b⟩ := hw_10
        subst hw_10a
        rw [hw_10b] at hP
        exact q_iret X hP hS ⟨rfl, rfl⟩ dX11_weatherRefusal_47
      · refine lv_iconst (v := 1) hx hb dX11_weatherRefusal_28 (by decide) ?_
        refine lv_goto (tgt := 33) hx hb dX11_weatherRefusal_29 (by decide) ?_
        refine lv_iload_n hx hb dX11_weatherRefusal_33 rfl (lv_at hl 3 rfl) ?_
        refine lv_aload_n hx hb dX11_weatherRefusal_34 rfl (lv_at hl 1 rfl) ?_
        refine q_get X iX11_weatherRefusal_11 hP (by decide) h0 rfl 1 (by decide) (List.mem_of_getElem? (i := 1) rfl) (v := .ref (ad 3)) rfl dX11_weatherRefusal_35 ?_
        refine q_get X iX11_weatherRefusal_6 hP (by decide) h3 rfl 3 (by decide) (List.mem_of_getElem? (i := 2) rfl) (v := .int 0) rfl dX11_weatherRefusal_38 ?_
        refine va_mmin hx hb (X.2.2.2.1.trans hl.1.symm) X.2.2.2.2.2.1 (X.2.2.2.2.1 _ (List.mem_of_getElem? (i := 3) rfl)) (X.2.2.2.2.1 _ (List.mem_of_getElem? (i := 4) rfl)) (X.2.2.2.2.1 _ (List.mem_of_getElem? (i := 5) rfl)) (X.2.2.2.2.1 _ (List.mem_of_getElem? (i := 6) rfl)) (Nat.le_of_ble_eq_true rfl) (Nat.le_of_ble_eq_true rfl) (Nat.le_of_ble_eq_true rfl) (Nat.le_of_ble_eq_true rfl) dX11_weatherRefusal_41 ?_
        refine lv_topi (fun z_13 ez_13 => ?_)
        refine q_calli (q := (RX11, TX11, 14)) (As := [.int vs, .int 1, .int z_13]) (rest := []) X (k_refusal l D cs ad hj g vs 1 z_13 h0 h3) (cwV 3 X.2.2.2.2.1 gg_X11_weatherRefusal_X11_refusal rfl rfl rfl (by decide +kernel) ⟨Nat.le_of_ble_eq_true rfl, Nat.le_of_ble_eq_true rfl⟩) (by decide) h0 rfl hP hA hS rfl hl.1 rfl (Nat.le_of_ble_eq_true rfl) dX11_weatherRefusal_44 ⟨Nat.le_of_ble_eq_true rfl, Nat.le_of_ble_eq_true rfl⟩ (fun r_16 g_15 H locs hw_14 hP hS => ?_)
        obtain ⟨hw_14a, hw_14b⟩ := hw_14
        subst hw_14a
        rw [hw_14b] at hP
        exact q_iret X hP hS ⟨rfl, rfl⟩ dX11_weatherRefusal_47

theorem dX11_slams_0 : decode cX11_slams 0 = .ok (.aload_n 0, 1) := by decide +kernel
theorem dX11_slams_1 : decode cX11_slams 1 = .ok (.iload_n 1, 1) := by decide +kernel
theorem dX11_slams_2 : decode cX11_slams 2 = .ok (.iconst 1, 1) := by decide +kernel
theorem dX11_slams_3 : decode cX11_slams 3 = .ok (.aload_n 0, 1) := by decide +kernel
theorem dX11_slams_4 : decode cX11_slams 4 = .ok (.getfield 19, 3) := by decide +kernel
theorem dX11_slams_7 : decode cX11_slams 7 = .ok (.getfield 177, 3) := by decide +kernel
theorem dX11_slams_10 : decode cX11_slams 10 = .ok (.invokevirtual 260, 3) := by decide +kernel
theorem dX11_slams_13 : decode cX11_slams 13 = .ok (.istore_n 2, 1) := by decide +kernel
theorem dX11_slams_14 : decode cX11_slams 14 = .ok (.iload_n 2, 1) := by decide +kernel
theorem dX11_slams_15 : decode cX11_slams 15 = .ok (.ifCond .eq 5, 3) := by decide +kernel
theorem dX11_slams_18 : decode cX11_slams 18 = .ok (.iload_n 2, 1) := by decide +kernel
theorem dX11_slams_19 : decode cX11_slams 19 = .ok (.ireturn, 1) := by decide +kernel
def vX11_slams : List Cond := .code yX11_slams cX11_slams 3 (some .int) :: ([.fieldLink RX11 19 "IcicleClock" "now" "LIcicleClock$Street;", .fieldLink RX11 177 "IcicleClock$Street" "days" "I", .methodLink RX11 260 yX11_refusal, .instanceMethod yX11_refusal, .selects RX11 yX11_refusal yX11_refusal, .initialized RX11, .code yX11_refusal cX11_refusal 4 (some .int), .methodLink RX11 377 yX11_isSlot, .static yX11_isSlot, .code yX11_isSlot cX11_isSlot 1 (some .boolean), .methodLink RX11 195 yX11_isTold, .instanceMethod yX11_isTold, .selects RX11 yX11_isTold yX11_isTold, .code yX11_isTold cX11_isTold 1 (some .boolean), .fieldLink RX11 112 "IcicleClock$Street" "lines" "I"] ++ wsX110 ++ wsX60)
theorem iX11_slams_11 : ∀ w ∈ wsX110, w ∈ vX11_slams := fun _ h => List.mem_cons_of_mem _ (List.mem_append_left _ (List.mem_append_right _ h))
theorem iX11_slams_6 : ∀ w ∈ wsX60, w ∈ vX11_slams := fun _ h => List.mem_cons_of_mem _ (List.mem_append_right _ h)
set_option maxRecDepth 20000 in
theorem gg_X11_slams_X11_refusal : GoodIn vX11_slams (wsV RX11 260 RX11 yX11_refusal vX11_refusal) := goodIn_r _ [3, 4, 5, 6, 7, 8, 9, 6, 10, 11, 12, 13, 14, 1, 15, 16, 17, 18, 19, 20, 21, 22, 23, 24, 25, 26, 27, 28, 29, 30, 31, 32, 33, 34, 35, 36, 37, 38, 39, 40, 41, 42, 43, 44, 45, 46, 47] (by decide +kernel) (by decide +kernel)
set_option maxHeartbeats 4000000 in
set_option maxRecDepth 100000 in
theorem k_slams (l : Launch) (D : va_G) (cs : Nat → ClassId) (ad : Nat → Nat) (hj : wJ ad nW) (g : Nat → va_E) (vs : Int32) (h0 : g 0 = .inr (11, [.ref (ad 1), .ref (ad 3), .ref (ad 23), .ref (ad 43), .ref (ad 104), .ref (ad 105), .ref (ad 114), .ref (ad 116), .ref (ad 118), .ref (ad 120), .ref (ad 130), .ref (ad 140), .ref (ad 144), .ref (ad 190)])) (h3 : g 3 = .inr (6, [.int 0, .int 0, .int 0, .int 0, .int 0, .int 0, .int 0, .int 0, .ref (ad 4), .ref (ad 5), .ref (ad 6), .ref (ad 7), .ref (ad 8), .ref (ad 9), .ref (ad 10), .ref (ad 11), .ref (ad 12), .ref (ad 13)])) : cI l yX11_slams vX11_slams { frames := 2, cells := 0, slots := 0, locals := 43 } D cs ad nW [.ref (ad 0), .int vs] g (fun r g2 => r = (-2) ∧ g2 = g) := by
  refine Met.start (cc := cX11_slams) (maxL := 3) (ret := (some .int)) RX11 rfl (by decide) rfl (Nat.le_of_ble_eq_true rfl) ?_
  intro p e s m below meth c ls X hP hl
  have hx := X.1
  have hb := X.2.1
  have hS : va_S (wA ad nW) s.heap s.heap [] := va_S.rf
  have hA : ∀ i, i < nW → wA ad nW (ad i) := fun i h => ⟨i, h, rfl⟩
  have hl : lv_has ls 3 [(0, .ref (ad 0)), (1, .int vs)] := hl
  refine lv_aload_n hx hb dX11_slams_0 rfl (lv_at hl 0 rfl) ?_
  refine lv_iload_n hx hb dX11_slams_1 rfl (lv_at hl 1 rfl) ?_
  refine lv_iconst (v := 1) hx hb dX11_slams_2 (by decide) ?_
  refine lv_aload_n hx hb dX11_slams_3 rfl (lv_at hl 0 rfl) ?_
  refine q_get X iX11_slams_11 hP (by decide) h0 rfl 1 (by decide) (List.mem_of_getElem? (i := 1) rfl) (v := .ref (ad 3)) rfl dX11_slams_4 ?_
  refine q_get X iX11_slams_6 hP (by decide) h3 rfl 3 (by decide) (List.mem_of_getElem? (i := 2) rfl) (v := .int 0) rfl dX11_slams_7 ?_
  refine q_calli (q := (RX11, TX11, 14)) (As := [.int vs, .int 1, .int 0]) (rest := []) X (k_refusal l D cs ad hj g vs 1 0 h0 h3) (cwV 3 X.2.2.2.2.1 gg_X11_slams_X11_refusal rfl rfl rfl (by decide +kernel) ⟨Nat.le_of_ble_eq_true rfl, Nat.le_of_ble_eq_true rfl⟩) (by decide) h0 rfl hP hA hS rfl hl.1 rfl (Nat.le_of_ble_eq_true rfl) dX11_slams_10 ⟨Nat.le_of_ble_eq_true rfl, Nat.le_of_ble_eq_true rfl⟩ (fun r_3 g_2 H locs hw_1 hP hS => ?_)
  obtain ⟨hw_1a, hw_1b⟩ := hw_1
  subst hw_1a
  rw [hw_1b] at hP
  refine lv_istore_n (lv' := [(2, .int (-2)), (0, .ref (ad 0)), (1, .int vs)]) hx hb dX11_slams_13 rfl hl (by decide) rfl (fun ls hl => ?_)
  refine lv_iload_n hx hb dX11_slams_14 rfl (lv_at hl 0 rfl) ?_
  refine lv_if_eq (tgt := 20) hx hb dX11_slams_15 (by decide) (fun h => absurd h (by decide)) (fun _ => ?_)
  refine lv_iload_n hx hb dX11_slams_18 rfl (lv_at hl 0 rfl) ?_
  exact q_iret X hP hS ⟨rfl, rfl⟩ dX11_slams_19

theorem dX11_slam_0 : decode cX11_slam 0 = .ok (.aload_n 0, 1) := by decide +kernel
theorem dX11_slam_1 : decode cX11_slam 1 = .ok (.iload_n 1, 1) := by decide +kernel
theorem dX11_slam_2 : decode cX11_slam 2 = .ok (.iconst 1, 1) := by decide +kernel
theorem dX11_slam_3 : decode cX11_slam 3 = .ok (.aload_n 0, 1) := by decide +kernel
theorem dX11_slam_4 : decode cX11_slam 4 = .ok (.getfield 19, 3) := by decide +kernel
theorem dX11_slam_7 : decode cX11_slam 7 = .ok (.getfield 177, 3) := by decide +kernel
theorem dX11_slam_10 : decode cX11_slam 10 = .ok (.invokevirtual 260, 3) := by decide +kernel
theorem dX11_slam_13 : decode cX11_slam 13 = .ok (.istore_n 2, 1) := by decide +kernel
theorem dX11_slam_14 : decode cX11_slam 14 = .ok (.iload_n 2, 1) := by decide +kernel
theorem dX11_slam_15 : decode cX11_slam 15 = .ok (.ifCond .eq 5, 3) := by decide +kernel
theorem dX11_slam_18 : decode cX11_slam 18 = .ok (.iload_n 2, 1) := by decide +kernel
theorem dX11_slam_19 : decode cX11_slam 19 = .ok (.ireturn, 1) := by decide +kernel
def vX11_slam : List Cond := .code yX11_slam cX11_slam 3 (some .int) :: ([.fieldLink RX11 19 "IcicleClock" "now" "LIcicleClock$Street;", .fieldLink RX11 177 "IcicleClock$Street" "days" "I", .methodLink RX11 260 yX11_refusal, .instanceMethod yX11_refusal, .selects RX11 yX11_refusal yX11_refusal, .initialized RX11, .code yX11_refusal cX11_refusal 4 (some .int), .methodLink RX11 377 yX11_isSlot, .static yX11_isSlot, .code yX11_isSlot cX11_isSlot 1 (some .boolean), .methodLink RX11 195 yX11_isTold, .instanceMethod yX11_isTold, .selects RX11 yX11_isTold yX11_isTold, .code yX11_isTold cX11_isTold 1 (some .boolean), .fieldLink RX11 112 "IcicleClock$Street" "lines" "I"] ++ wsX110 ++ wsX60)
theorem iX11_slam_11 : ∀ w ∈ wsX110, w ∈ vX11_slam := fun _ h => List.mem_cons_of_mem _ (List.mem_append_left _ (List.mem_append_right _ h))
theorem iX11_slam_6 : ∀ w ∈ wsX60, w ∈ vX11_slam := fun _ h => List.mem_cons_of_mem _ (List.mem_append_right _ h)
set_option maxRecDepth 20000 in
theorem gg_X11_slam_X11_refusal : GoodIn vX11_slam (wsV RX11 260 RX11 yX11_refusal vX11_refusal) := goodIn_r _ [3, 4, 5, 6, 7, 8, 9, 6, 10, 11, 12, 13, 14, 1, 15, 16, 17, 18, 19, 20, 21, 22, 23, 24, 25, 26, 27, 28, 29, 30, 31, 32, 33, 34, 35, 36, 37, 38, 39, 40, 41, 42, 43, 44, 45, 46, 47] (by decide +kernel) (by decide +kernel)
set_option maxHeartbeats 4000000 in
set_option maxRecDepth 100000 in
theorem k_slam (l : Launch) (D : va_G) (cs : Nat → ClassId) (ad : Nat → Nat) (hj : wJ ad nW) (g : Nat → va_E) (vs : Int32) (h0 : g 0 = .inr (11, [.ref (ad 1), .ref (ad 3), .ref (ad 23), .ref (ad 43), .ref (ad 104), .ref (ad 105), .ref (ad 114), .ref (ad 116), .ref (ad 118), .ref (ad 120), .ref (ad 130), .ref (ad 140), .ref (ad 144), .ref (ad 190)])) (h3 : g 3 = .inr (6, [.int 0, .int 0, .int 0, .int 0, .int 0, .int 0, .int 0, .int 0, .ref (ad 4), .ref (ad 5), .ref (ad 6), .ref (ad 7), .ref (ad 8), .ref (ad 9), .ref (ad 10), .ref (ad 11), .ref (ad 12), .ref (ad 13)])) : cI l yX11_slam vX11_slam { frames := 2, cells := 0, slots := 0, locals := 43 } D cs ad nW [.ref (ad 0), .int vs] g (fun r g2 => r = (-2) ∧ g2 = g) := by
  refine Met.start (cc := cX11_slam) (maxL := 3) (ret := (some .int)) RX11 rfl (by decide) rfl (Nat.le_of_ble_eq_true rfl) ?_
  intro p e s m below meth c ls X hP hl
  have hx := X.1
  have hb := X.2.1
  have hS : va_S (wA ad nW) s.heap s.heap [] := va_S.rf
  have hA : ∀ i, i < nW → wA ad nW (ad i) := fun i h => ⟨i, h, rfl⟩
  have hl : lv_has ls 3 [(0, .ref (ad 0)), (1, .int vs)] := hl
  refine lv_aload_n hx hb dX11_slam_0 rfl (lv_at hl 0 rfl) ?_
  refine lv_iload_n hx hb dX11_slam_1 rfl (lv_at hl 1 rfl) ?_
  refine lv_iconst (v := 1) hx hb dX11_slam_2 (by decide) ?_
  refine lv_aload_n hx hb dX11_slam_3 rfl (lv_at hl 0 rfl) ?_
  refine q_get X iX11_slam_11 hP (by decide) h0 rfl 1 (by decide) (List.mem_of_getElem? (i := 1) rfl) (v := .ref (ad 3)) rfl dX11_slam_4 ?_
  refine q_get X iX11_slam_6 hP (by decide) h3 rfl 3 (by decide) (List.mem_of_getElem? (i := 2) rfl) (v := .int 0) rfl dX11_slam_7 ?_
  refine q_calli (q := (RX11, TX11, 14)) (As := [.int vs, .int 1, .int 0]) (rest := []) X (k_refusal l D cs ad hj g vs 1 0 h0 h3) (cwV 3 X.2.2.2.2.1 gg_X11_slam_X11_refusal rfl rfl rfl (by decide +kernel) ⟨Nat.le_of_ble_eq_true rfl, Nat.le_of_ble_eq_true rfl⟩) (by decide) h0 rfl hP hA hS rfl hl.1 rfl (Nat.le_of_ble_eq_true rfl) dX11_slam_10 ⟨Nat.le_of_ble_eq_true rfl, Nat.le_of_ble_eq_true rfl⟩ (fun r_3 g_2 H locs hw_1 hP hS => ?_)
  obtain ⟨hw_1a, hw_1b⟩ := hw_1
  subst hw_1a
  rw [hw_1b] at hP
  refine lv_istore_n (lv' := [(2, .int (-2)), (0, .ref (ad 0)), (1, .int vs)]) hx hb dX11_slam_13 rfl hl (by decide) rfl (fun ls hl => ?_)
  refine lv_iload_n hx hb dX11_slam_14 rfl (lv_at hl 0 rfl) ?_
  refine lv_if_eq (tgt := 20) hx hb dX11_slam_15 (by decide) (fun h => absurd h (by decide)) (fun _ => ?_)
  refine lv_iload_n hx hb dX11_slam_18 rfl (lv_at hl 0 rfl) ?_
  exact q_iret X hP hS ⟨rfl, rfl⟩ dX11_slam_19

theorem dX11_calm_0 : decode cX11_calm 0 = .ok (.aload_n 0, 1) := by decide +kernel
theorem dX11_calm_1 : decode cX11_calm 1 = .ok (.iload_n 1, 1) := by decide +kernel
theorem dX11_calm_2 : decode cX11_calm 2 = .ok (.iconst 1, 1) := by decide +kernel
theorem dX11_calm_3 : decode cX11_calm 3 = .ok (.aload_n 0, 1) := by decide +kernel
theorem dX11_calm_4 : decode cX11_calm 4 = .ok (.getfield 19, 3) := by decide +kernel
theorem dX11_calm_7 : decode cX11_calm 7 = .ok (.getfield 177, 3) := by decide +kernel
theorem dX11_calm_10 : decode cX11_calm 10 = .ok (.invokevirtual 260, 3) := by decide +kernel
theorem dX11_calm_13 : decode cX11_calm 13 = .ok (.istore_n 2, 1) := by decide +kernel
theorem dX11_calm_14 : decode cX11_calm 14 = .ok (.iload_n 2, 1) := by decide +kernel
theorem dX11_calm_15 : decode cX11_calm 15 = .ok (.ifCond .eq 5, 3) := by decide +kernel
theorem dX11_calm_18 : decode cX11_calm 18 = .ok (.iload_n 2, 1) := by decide +kernel
theorem dX11_calm_19 : decode cX11_calm 19 = .ok (.ireturn, 1) := by decide +kernel
def vX11_calm : List Cond := .code yX11_calm cX11_calm 3 (some .int) :: ([.fieldLink RX11 19 "IcicleClock" "now" "LIcicleClock$Street;", .fieldLink RX11 177 "IcicleClock$Street" "days" "I", .methodLink RX11 260 yX11_refusal, .instanceMethod yX11_refusal, .selects RX11 yX11_refusal yX11_refusal, .initialized RX11, .code yX11_refusal cX11_refusal 4 (some .int), .methodLink RX11 377 yX11_isSlot, .static yX11_isSlot, .code yX11_isSlot cX11_isSlot 1 (some .boolean), .methodLink RX11 195 yX11_isTold, .instanceMethod yX11_isTold, .selects RX11 yX11_isTold yX11_isTold, .code yX11_isTold cX11_isTold 1 (some .boolean), .fieldLink RX11 112 "IcicleClock$Street" "lines" "I"] ++ wsX110 ++ wsX60)
theorem iX11_calm_11 : ∀ w ∈ wsX110, w ∈ vX11_calm := fun _ h => List.mem_cons_of_mem _ (List.mem_append_left _ (List.mem_append_right _ h))
theorem iX11_calm_6 : ∀ w ∈ wsX60, w ∈ vX11_calm := fun _ h => List.mem_cons_of_mem _ (List.mem_append_right _ h)
set_option maxRecDepth 20000 in
theorem gg_X11_calm_X11_refusal : GoodIn vX11_calm (wsV RX11 260 RX11 yX11_refusal vX11_refusal) := goodIn_r _ [3, 4, 5, 6, 7, 8, 9, 6, 10, 11, 12, 13, 14, 1, 15, 16, 17, 18, 19, 20, 21, 22, 23, 24, 25, 26, 27, 28, 29, 30, 31, 32, 33, 34, 35, 36, 37, 38, 39, 40, 41, 42, 43, 44, 45, 46, 47] (by decide +kernel) (by decide +kernel)
set_option maxHeartbeats 4000000 in
set_option maxRecDepth 100000 in
theorem k_calm (l : Launch) (D : va_G) (cs : Nat → ClassId) (ad : Nat → Nat) (hj : wJ ad nW) (g : Nat → va_E) (vs : Int32) (h0 : g 0 = .inr (11, [.ref (ad 1), .ref (ad 3), .ref (ad 23), .ref (ad 43), .ref (ad 104), .ref (ad 105), .ref (ad 114), .ref (ad 116), .ref (ad 118), .ref (ad 120), .ref (ad 130), .ref (ad 140), .ref (ad 144), .ref (ad 190)])) (h3 : g 3 = .inr (6, [.int 0, .int 0, .int 0, .int 0, .int 0, .int 0, .int 0, .int 0, .ref (ad 4), .ref (ad 5), .ref (ad 6), .ref (ad 7), .ref (ad 8), .ref (ad 9), .ref (ad 10), .ref (ad 11), .ref (ad 12), .ref (ad 13)])) : cI l yX11_calm vX11_calm { frames := 2, cells := 0, slots := 0, locals := 43 } D cs ad nW [.ref (ad 0), .int vs] g (fun r g2 => r = (-2) ∧ g2 = g) := by
  refine Met.start (cc := cX11_calm) (maxL := 3) (ret := (some .int)) RX11 rfl (by decide) rfl (Nat.le_of_ble_eq_true rfl) ?_
  intro p e s m below meth c ls X hP hl
  have hx := X.1
  have hb := X.2.1
  have hS : va_S (wA ad nW) s.heap s.heap [] := va_S.rf
  have hA : ∀ i, i < nW → wA ad nW (ad i) := fun i h => ⟨i, h, rfl⟩
  have hl : lv_has ls 3 [(0, .ref (ad 0)), (1, .int vs)] := hl
  refine lv_aload_n hx hb dX11_calm_0 rfl (lv_at hl 0 rfl) ?_
  refine lv_iload_n hx hb dX11_calm_1 rfl (lv_at hl 1 rfl) ?_
  refine lv_iconst (v := 1) hx hb dX11_calm_2 (by decide) ?_
  refine lv_aload_n hx hb dX11_calm_3 rfl (lv_at hl 0 rfl) ?_
  refine q_get X iX11_calm_11 hP (by decide) h0 rfl 1 (by decide) (List.mem_of_getElem? (i := 1) rfl) (v := .ref (ad 3)) rfl dX11_calm_4 ?_
  refine q_get X iX11_calm_6 hP (by decide) h3 rfl 3 (by decide) (List.mem_of_getElem? (i := 2) rfl) (v := .int 0) rfl dX11_calm_7 ?_
  refine q_calli (q := (RX11, TX11, 14)) (As := [.int vs, .int 1, .int 0]) (rest := []) X (k_refusal l D cs ad hj g vs 1 0 h0 h3) (cwV 3 X.2.2.2.2.1 gg_X11_calm_X11_refusal rfl rfl rfl (by decide +kernel) ⟨Nat.le_of_ble_eq_true rfl, Nat.le_of_ble_eq_true rfl⟩) (by decide) h0 rfl hP hA hS rfl hl.1 rfl (Nat.le_of_ble_eq_true rfl) dX11_calm_10 ⟨Nat.le_of_ble_eq_true rfl, Nat.le_of_ble_eq_true rfl⟩ (fun r_3 g_2 H locs hw_1 hP hS => ?_)
  obtain ⟨hw_1a, hw_1b⟩ := hw_1
  subst hw_1a
  rw [hw_1b] at hP
  refine lv_istore_n (lv' := [(2, .int (-2)), (0, .ref (ad 0)), (1, .int vs)]) hx hb dX11_calm_13 rfl hl (by decide) rfl (fun ls hl => ?_)
  refine lv_iload_n hx hb dX11_calm_14 rfl (lv_at hl 0 rfl) ?_
  refine lv_if_eq (tgt := 20) hx hb dX11_calm_15 (by decide) (fun h => absurd h (by decide)) (fun _ => ?_)
  refine lv_iload_n hx hb dX11_calm_18 rfl (lv_at hl 0 rfl) ?_
  exact q_iret X hP hS ⟨rfl, rfl⟩ dX11_calm_19

theorem dX11_ask_0 : decode cX11_ask 0 = .ok (.aload_n 0, 1) := by decide +kernel
theorem dX11_ask_1 : decode cX11_ask 1 = .ok (.iload_n 1, 1) := by decide +kernel
theorem dX11_ask_2 : decode cX11_ask 2 = .ok (.iconst 1, 1) := by decide +kernel
theorem dX11_ask_3 : decode cX11_ask 3 = .ok (.aload_n 0, 1) := by decide +kernel
theorem dX11_ask_4 : decode cX11_ask 4 = .ok (.getfield 19, 3) := by decide +kernel
theorem dX11_ask_7 : decode cX11_ask 7 = .ok (.getfield 177, 3) := by decide +kernel
theorem dX11_ask_10 : decode cX11_ask 10 = .ok (.invokevirtual 260, 3) := by decide +kernel
theorem dX11_ask_13 : decode cX11_ask 13 = .ok (.istore_n 2, 1) := by decide +kernel
theorem dX11_ask_14 : decode cX11_ask 14 = .ok (.iload_n 2, 1) := by decide +kernel
theorem dX11_ask_15 : decode cX11_ask 15 = .ok (.ifCond .eq 5, 3) := by decide +kernel
theorem dX11_ask_18 : decode cX11_ask 18 = .ok (.iload_n 2, 1) := by decide +kernel
theorem dX11_ask_19 : decode cX11_ask 19 = .ok (.ireturn, 1) := by decide +kernel
def vX11_ask : List Cond := .code yX11_ask cX11_ask 3 (some .int) :: ([.fieldLink RX11 19 "IcicleClock" "now" "LIcicleClock$Street;", .fieldLink RX11 177 "IcicleClock$Street" "days" "I", .methodLink RX11 260 yX11_refusal, .instanceMethod yX11_refusal, .selects RX11 yX11_refusal yX11_refusal, .initialized RX11, .code yX11_refusal cX11_refusal 4 (some .int), .methodLink RX11 377 yX11_isSlot, .static yX11_isSlot, .code yX11_isSlot cX11_isSlot 1 (some .boolean), .methodLink RX11 195 yX11_isTold, .instanceMethod yX11_isTold, .selects RX11 yX11_isTold yX11_isTold, .code yX11_isTold cX11_isTold 1 (some .boolean), .fieldLink RX11 112 "IcicleClock$Street" "lines" "I"] ++ wsX110 ++ wsX60)
theorem iX11_ask_11 : ∀ w ∈ wsX110, w ∈ vX11_ask := fun _ h => List.mem_cons_of_mem _ (List.mem_append_left _ (List.mem_append_right _ h))
theorem iX11_ask_6 : ∀ w ∈ wsX60, w ∈ vX11_ask := fun _ h => List.mem_cons_of_mem _ (List.mem_append_right _ h)
set_option maxRecDepth 20000 in
theorem gg_X11_ask_X11_refusal : GoodIn vX11_ask (wsV RX11 260 RX11 yX11_refusal vX11_refusal) := goodIn_r _ [3, 4, 5, 6, 7, 8, 9, 6, 10, 11, 12, 13, 14, 1, 15, 16, 17, 18, 19, 20, 21, 22, 23, 24, 25, 26, 27, 28, 29, 30, 31, 32, 33, 34, 35, 36, 37, 38, 39, 40, 41, 42, 43, 44, 45, 46, 47] (by decide +kernel) (by decide +kernel)
set_option maxHeartbeats 4000000 in
set_option maxRecDepth 100000 in
theorem k_ask (l : Launch) (D : va_G) (cs : Nat → ClassId) (ad : Nat → Nat) (hj : wJ ad nW) (g : Nat → va_E) (vs : Int32) (h0 : g 0 = .inr (11, [.ref (ad 1), .ref (ad 3), .ref (ad 23), .ref (ad 43), .ref (ad 104), .ref (ad 105), .ref (ad 114), .ref (ad 116), .ref (ad 118), .ref (ad 120), .ref (ad 130), .ref (ad 140), .ref (ad 144), .ref (ad 190)])) (h3 : g 3 = .inr (6, [.int 0, .int 0, .int 0, .int 0, .int 0, .int 0, .int 0, .int 0, .ref (ad 4), .ref (ad 5), .ref (ad 6), .ref (ad 7), .ref (ad 8), .ref (ad 9), .ref (ad 10), .ref (ad 11), .ref (ad 12), .ref (ad 13)])) : cI l yX11_ask vX11_ask { frames := 2, cells := 0, slots := 0, locals := 43 } D cs ad nW [.ref (ad 0), .int vs] g (fun r g2 => r = (-2) ∧ g2 = g) := by
  refine Met.start (cc := cX11_ask) (maxL := 3) (ret := (some .int)) RX11 rfl (by decide) rfl (Nat.le_of_ble_eq_true rfl) ?_
  intro p e s m below meth c ls X hP hl
  have hx := X.1
  have hb := X.2.1
  have hS : va_S (wA ad nW) s.heap s.heap [] := va_S.rf
  have hA : ∀ i, i < nW → wA ad nW (ad i) := fun i h => ⟨i, h, rfl⟩
  have hl : lv_has ls 3 [(0, .ref (ad 0)), (1, .int vs)] := hl
  refine lv_aload_n hx hb dX11_ask_0 rfl (lv_at hl 0 rfl) ?_
  refine lv_iload_n hx hb dX11_ask_1 rfl (lv_at hl 1 rfl) ?_
  refine lv_iconst (v := 1) hx hb dX11_ask_2 (by decide) ?_
  refine lv_aload_n hx hb dX11_ask_3 rfl (lv_at hl 0 rfl) ?_
  refine q_get X iX11_ask_11 hP (by decide) h0 rfl 1 (by decide) (List.mem_of_getElem? (i := 1) rfl) (v := .ref (ad 3)) rfl dX11_ask_4 ?_
  refine q_get X iX11_ask_6 hP (by decide) h3 rfl 3 (by decide) (List.mem_of_getElem? (i := 2) rfl) (v := .int 0) rfl dX11_ask_7 ?_
  refine q_calli (q := (RX11, TX11, 14)) (As := [.int vs, .int 1, .int 0]) (rest := []) X (k_refusal l D cs ad hj g vs 1 0 h0 h3) (cwV 3 X.2.2.2.2.1 gg_X11_ask_X11_refusal rfl rfl rfl (by decide +kernel) ⟨Nat.le_of_ble_eq_true rfl, Nat.le_of_ble_eq_true rfl⟩) (by decide) h0 rfl hP hA hS rfl hl.1 rfl (Nat.le_of_ble_eq_true rfl) dX11_ask_10 ⟨Nat.le_of_ble_eq_true rfl, Nat.le_of_ble_eq_true rfl⟩ (fun r_3 g_2 H locs hw_1 hP hS => ?_)
  obtain ⟨hw_1a, hw_1b⟩ := hw_1
  subst hw_1a
  rw [hw_1b] at hP
  refine lv_istore_n (lv' := [(2, .int (-2)), (0, .ref (ad 0)), (1, .int vs)]) hx hb dX11_ask_13 rfl hl (by decide) rfl (fun ls hl => ?_)
  refine lv_iload_n hx hb dX11_ask_14 rfl (lv_at hl 0 rfl) ?_
  refine lv_if_eq (tgt := 20) hx hb dX11_ask_15 (by decide) (fun h => absurd h (by decide)) (fun _ => ?_)
  refine lv_iload_n hx hb dX11_ask_18 rfl (lv_at hl 0 rfl) ?_
  exact q_iret X hP hS ⟨rfl, rfl⟩ dX11_ask_19

theorem dX11_weathers_0 : decode cX11_weathers 0 = .ok (.aload_n 0, 1) := by decide +kernel
theorem dX11_weathers_1 : decode cX11_weathers 1 = .ok (.iload_n 1, 1) := by decide +kernel
theorem dX11_weathers_2 : decode cX11_weathers 2 = .ok (.iload_n 2, 1) := by decide +kernel
theorem dX11_weathers_3 : decode cX11_weathers 3 = .ok (.iconst 1, 1) := by decide +kernel
theorem dX11_weathers_4 : decode cX11_weathers 4 = .ok (.invokevirtual 281, 3) := by decide +kernel
theorem dX11_weathers_7 : decode cX11_weathers 7 = .ok (.istore_n 3, 1) := by decide +kernel
theorem dX11_weathers_8 : decode cX11_weathers 8 = .ok (.iload_n 3, 1) := by decide +kernel
theorem dX11_weathers_9 : decode cX11_weathers 9 = .ok (.ifCond .eq 5, 3) := by decide +kernel
theorem dX11_weathers_12 : decode cX11_weathers 12 = .ok (.iload_n 3, 1) := by decide +kernel
theorem dX11_weathers_13 : decode cX11_weathers 13 = .ok (.ireturn, 1) := by decide +kernel
def vX11_weathers : List Cond := .code yX11_weathers cX11_weathers 4 (some .int) :: ([.methodLink RX11 281 yX11_weatherRefusal, .instanceMethod yX11_weatherRefusal, .selects RX11 yX11_weatherRefusal yX11_weatherRefusal, .initialized RX11, .code yX11_weatherRefusal cX11_weatherRefusal 5 (some .int), .fieldLink RX11 19 "IcicleClock" "now" "LIcicleClock$Street;", .fieldLink RX11 177 "IcicleClock$Street" "days" "I", .methodLink RX11 220 Lib.Math.min.name, .static Lib.Math.min.name, .initialized "java/lang/Math", .code Lib.Math.min.name Lib.Math.min.code 2 (some .int), .methodLink RX11 260 yX11_refusal, .instanceMethod yX11_refusal, .selects RX11 yX11_refusal yX11_refusal, .code yX11_refusal cX11_refusal 4 (some .int), .methodLink RX11 377 yX11_isSlot, .static yX11_isSlot, .code yX11_isSlot cX11_isSlot 1 (some .boolean), .methodLink RX11 195 yX11_isTold, .instanceMethod yX11_isTold, .selects RX11 yX11_isTold yX11_isTold, .code yX11_isTold cX11_isTold 1 (some .boolean), .fieldLink RX11 112 "IcicleClock$Street" "lines" "I"] ++ wsX110 ++ wsX60)
theorem iX11_weathers_11 : ∀ w ∈ wsX110, w ∈ vX11_weathers := fun _ h => List.mem_cons_of_mem _ (List.mem_append_left _ (List.mem_append_right _ h))
theorem iX11_weathers_6 : ∀ w ∈ wsX60, w ∈ vX11_weathers := fun _ h => List.mem_cons_of_mem _ (List.mem_append_right _ h)
set_option maxRecDepth 20000 in
theorem gg_X11_weathers_X11_weatherRefusal : GoodIn vX11_weathers (wsV RX11 281 RX11 yX11_weatherRefusal vX11_weatherRefusal) := goodIn_r _ [1, 2, 3, 4, 5, 6, 7, 8, 9, 10, 11, 12, 13, 14, 4, 15, 16, 17, 18, 19, 20, 21, 22, 23, 24, 25, 26, 27, 28, 29, 30, 31, 32, 33, 34, 35, 36, 37, 38, 39, 40, 41, 42, 43, 44, 45, 46, 47, 48, 49, 50, 51, 52, 53, 54, 55] (by decide +kernel) (by decide +kernel)
set_option maxHeartbeats 4000000 in
set_option maxRecDepth 100000 in
theorem k_weathers (l : Launch) (D : va_G) (cs : Nat → ClassId) (ad : Nat → Nat) (hj : wJ ad nW) (g : Nat → va_E) (vs : Int32) (vn : Int32) (h0 : g 0 = .inr (11, [.ref (ad 1), .ref (ad 3), .ref (ad 23), .ref (ad 43), .ref (ad 104), .ref (ad 105), .ref (ad 114), .ref (ad 116), .ref (ad 118), .ref (ad 120), .ref (ad 130), .ref (ad 140), .ref (ad 144), .ref (ad 190)])) (h3 : g 3 = .inr (6, [.int 0, .int 0, .int 0, .int 0, .int 0, .int 0, .int 0, .int 0, .ref (ad 4), .ref (ad 5), .ref (ad 6), .ref (ad 7), .ref (ad 8), .ref (ad 9), .ref (ad 10), .ref (ad 11), .ref (ad 12), .ref (ad 13)])) : cI l yX11_weathers vX11_weathers { frames := 3, cells := 0, slots := 0, locals := 67 } D cs ad nW [.ref (ad 0), .int vs, .int vn] g (fun r g2 => r = (-2) ∧ g2 = g) := by
  refine Met.start (cc := cX11_weathers) (maxL := 4) (ret := (some .int)) RX11 rfl (by decide) rfl (Nat.le_of_ble_eq_true rfl) ?_
  intro p e s m below meth c ls X hP hl
  have hx := X.1
  have hb := X.2.1
  have hS : va_S (wA ad nW) s.heap s.heap [] := va_S.rf
  have hA : ∀ i, i < nW → wA ad nW (ad i) := fun i h => ⟨i, h, rfl⟩
  have hl : lv_has ls 4 [(0, .ref (ad 0)), (1, .int vs), (2, .int vn)] := hl
  refine lv_aload_n hx hb dX11_weathers_0 rfl (lv_at hl 0 rfl) ?_
  refine lv_iload_n hx hb dX11_weathers_1 rfl (lv_at hl 1 rfl) ?_
  refine lv_iload_n hx hb dX11_weathers_2 rfl (lv_at hl 2 rfl) ?_
  refine lv_iconst (v := 1) hx hb dX11_weathers_3 (by decide) ?_
  refine q_calli (q := (RX11, TX11, 14)) (As := [.int vs, .int vn, .int 1]) (rest := []) X (k_weatherRefusal l D cs ad hj g vs vn 1 h0 h3) (cwV 3 X.2.2.2.2.1 gg_X11_weathers_X11_weatherRefusal rfl rfl rfl (by decide +kernel) ⟨Nat.le_of_ble_eq_true rfl, Nat.le_of_ble_eq_true rfl⟩) (by decide) h0 rfl hP hA hS rfl hl.1 rfl (Nat.le_of_ble_eq_true rfl) dX11_weathers_4 ⟨Nat.le_of_ble_eq_true rfl, Nat.le_of_ble_eq_true rfl⟩ (fun r_3 g_2 H locs hw_1 hP hS => ?_)
  obtain ⟨hw_1a, hw_1b⟩ := hw_1
  subst hw_1a
  rw [hw_1b] at hP
  refine lv_istore_n (lv' := [(3, .int (-2)), (0, .ref (ad 0)), (1, .int vs), (2, .int vn)]) hx hb dX11_weathers_7 rfl hl (by decide) rfl (fun ls hl => ?_)
  refine lv_iload_n hx hb dX11_weathers_8 rfl (lv_at hl 0 rfl) ?_
  refine lv_if_eq (tgt := 14) hx hb dX11_weathers_9 (by decide) (fun h => absurd h (by decide)) (fun _ => ?_)
  refine lv_iload_n hx hb dX11_weathers_12 rfl (lv_at hl 0 rfl) ?_
  exact q_iret X hP hS ⟨rfl, rfl⟩ dX11_weathers_13

theorem dX11_weather_0 : decode cX11_weather 0 = .ok (.aload_n 0, 1) := by decide +kernel
theorem dX11_weather_1 : decode cX11_weather 1 = .ok (.iload_n 1, 1) := by decide +kernel
theorem dX11_weather_2 : decode cX11_weather 2 = .ok (.iload_n 2, 1) := by decide +kernel
theorem dX11_weather_3 : decode cX11_weather 3 = .ok (.iload_n 3, 1) := by decide +kernel
theorem dX11_weather_4 : decode cX11_weather 4 = .ok (.ifCond .lt 12, 3) := by decide +kernel
theorem dX11_weather_16 : decode cX11_weather 16 = .ok (.iconst 0, 1) := by decide +kernel
theorem dX11_weather_17 : decode cX11_weather 17 = .ok (.invokevirtual 281, 3) := by decide +kernel
theorem dX11_weather_20 : decode cX11_weather 20 = .ok (.istore 4, 2) := by decide +kernel
theorem dX11_weather_22 : decode cX11_weather 22 = .ok (.iload 4, 2) := by decide +kernel
theorem dX11_weather_24 : decode cX11_weather 24 = .ok (.ifCond .eq 6, 3) := by decide +kernel
theorem dX11_weather_27 : decode cX11_weather 27 = .ok (.iload 4, 2) := by decide +kernel
theorem dX11_weather_29 : decode cX11_weather 29 = .ok (.ireturn, 1) := by decide +kernel
theorem dX11_weather_7 : decode cX11_weather 7 = .ok (.iload_n 3, 1) := by decide +kernel
theorem dX11_weather_8 : decode cX11_weather 8 = .ok (.iload_n 2, 1) := by decide +kernel
theorem dX11_weather_9 : decode cX11_weather 9 = .ok (.if_icmp .ge 7, 3) := by decide +kernel
theorem dX11_weather_12 : decode cX11_weather 12 = .ok (.iconst 1, 1) := by decide +kernel
theorem dX11_weather_13 : decode cX11_weather 13 = .ok (.goto 4, 3) := by decide +kernel
def vX11_weather : List Cond := .code yX11_weather cX11_weather 5 (some .int) :: ([.methodLink RX11 281 yX11_weatherRefusal, .instanceMethod yX11_weatherRefusal, .selects RX11 yX11_weatherRefusal yX11_weatherRefusal, .initialized RX11, .code yX11_weatherRefusal cX11_weatherRefusal 5 (some .int), .fieldLink RX11 19 "IcicleClock" "now" "LIcicleClock$Street;", .fieldLink RX11 177 "IcicleClock$Street" "days" "I", .methodLink RX11 220 Lib.Math.min.name, .static Lib.Math.min.name, .initialized "java/lang/Math", .code Lib.Math.min.name Lib.Math.min.code 2 (some .int), .methodLink RX11 260 yX11_refusal, .instanceMethod yX11_refusal, .selects RX11 yX11_refusal yX11_refusal, .code yX11_refusal cX11_refusal 4 (some .int), .methodLink RX11 377 yX11_isSlot, .static yX11_isSlot, .code yX11_isSlot cX11_isSlot 1 (some .boolean), .methodLink RX11 195 yX11_isTold, .instanceMethod yX11_isTold, .selects RX11 yX11_isTold yX11_isTold, .code yX11_isTold cX11_isTold 1 (some .boolean), .fieldLink RX11 112 "IcicleClock$Street" "lines" "I"] ++ wsX110 ++ wsX60)
theorem iX11_weather_11 : ∀ w ∈ wsX110, w ∈ vX11_weather := fun _ h => List.mem_cons_of_mem _ (List.mem_append_left _ (List.mem_append_right _ h))
theorem iX11_weather_6 : ∀ w ∈ wsX60, w ∈ vX11_weather := fun _ h => List.mem_cons_of_mem _ (List.mem_append_right _ h)
set_option maxRecDepth 20000 in
theorem gg_X11_weather_X11_weatherRefusal : GoodIn vX11_weather (wsV RX11 281 RX11 yX11_weatherRefusal vX11_weatherRefusal) := goodIn_r _ [1, 2, 3, 4, 5, 6, 7, 8, 9, 10, 11, 12, 13, 14, 4, 15, 16, 17, 18, 19, 20, 21, 22, 23, 24, 25, 26, 27, 28, 29, 30, 31, 32, 33, 34, 35, 36, 37, 38, 39, 40, 41, 42, 43, 44, 45, 46, 47, 48, 49, 50, 51, 52, 53, 54, 55] (by decide +kernel) (by decide +kernel)
set_option maxHeartbeats 4000000 in
set_option maxRecDepth 100000 in
theorem k_weather (l : Launch) (D : va_G) (cs : Nat → ClassId) (ad : Nat → Nat) (hj : wJ ad nW) (g : Nat → va_E) (vs : Int32) (vn : Int32) (vd : Int32) (h0 : g 0 = .inr (11, [.ref (ad 1), .ref (ad 3), .ref (ad 23), .ref (ad 43), .ref (ad 104), .ref (ad 105), .ref (ad 114), .ref (ad 116), .ref (ad 118), .ref (ad 120), .ref (ad 130), .ref (ad 140), .ref (ad 144), .ref (ad 190)])) (h3 : g 3 = .inr (6, [.int 0, .int 0, .int 0, .int 0, .int 0, .int 0, .int 0, .int 0, .ref (ad 4), .ref (ad 5), .ref (ad 6), .ref (ad 7), .ref (ad 8), .ref (ad 9), .ref (ad 10), .ref (ad 11), .ref (ad 12), .ref (ad 13)])) : cI l yX11_weather vX11_weather { frames := 3, cells := 0, slots := 0, locals := 67 } D cs ad nW [.ref (ad 0), .int vs, .int vn, .int vd] g (fun r g2 => r = (-2) ∧ g2 = g) := by
  refine Met.start (cc := cX11_weather) (maxL := 5) (ret := (some .int)) RX11 rfl (by decide) rfl (Nat.le_of_ble_eq_true rfl) ?_
  intro p e s m below meth c ls X hP hl
  have hx := X.1
  have hb := X.2.1
  have hS : va_S (wA ad nW) s.heap s.heap [] := va_S.rf
  have hA : ∀ i, i < nW → wA ad nW (ad i) := fun i h => ⟨i, h, rfl⟩
  have hl : lv_has ls 5 [(0, .ref (ad 0)), (1, .int vs), (2, .int vn), (3, .int vd)] := hl
  refine lv_aload_n hx hb dX11_weather_0 rfl (lv_at hl 0 rfl) ?_
  refine lv_iload_n hx hb dX11_weather_1 rfl (lv_at hl 1 rfl) ?_
  refine lv_iload_n hx hb dX11_weather_2 rfl (lv_at hl 2 rfl) ?_
  refine lv_iload_n hx hb dX11_weather_3 rfl (lv_at hl 3 rfl) ?_
  refine lv_if_lt (tgt := 16) hx hb dX11_weather_4 (by decide) (fun hc_4 => ?_) (fun hc_4 => ?_)
  · refine lv_iconst (v := 0) hx hb dX11_weather_16 (by decide) ?_
    refine q_calli (q := (RX11, TX11, 14)) (As := [.int vs, .int vn, .int 0]) (rest := []) X (k_weatherRefusal l D cs ad hj g vs vn 0 h0 h3) (cwV 3 X.2.2.2.2.1 gg_X11_weather_X11_weatherRefusal rfl rfl rfl (by decide +kernel) ⟨Nat.le_of_ble_eq_true rfl, Nat.le_of_ble_eq_true rfl⟩) (by decide) h0 rfl hP hA hS rfl hl.1 rfl (Nat.le_of_ble_eq_true rfl) dX11_weather_17 ⟨Nat.le_of_ble_eq_true rfl, Nat.le_of_ble_eq_true rfl⟩ (fun r_3 g_2 H locs hw_1 hP hS => ?_)
    obtain ⟨hw_1a, hw_1b⟩ := hw_1
    subst hw_1a
    rw [hw_1b] at hP
    refine lv_istore (lv' := [(4, .int (-2)), (0, .ref (ad 0)), (1, .int vs), (2, .int vn), (3, .int vd)]) hx hb dX11_weather_20 hl (by decide) rfl (fun ls hl => ?_)
    refine lv_iload hx hb dX11_weather_22 (lv_at hl 0 rfl) ?_
    refine lv_if_eq (tgt := 30) hx hb dX11_weather_24 (by decide) (fun h => absurd h (by decide)) (fun _ => ?_)
    refine lv_iload hx hb dX11_weather_27 (lv_at hl 0 rfl) ?_
    exact q_iret X hP hS ⟨rfl, rfl⟩ dX11_weather_29
  · refine lv_iload_n hx hb dX11_weather_7 rfl (lv_at hl 3 rfl) ?_
    refine lv_iload_n hx hb dX11_weather_8 rfl (lv_at hl 2 rfl) ?_
    refine lv_icmp_ge (tgt := 16) hx hb dX11_weather_9 (by decide) (fun hc_9 => ?_) (fun hc_9 => ?_)
    · refine lv_iconst (v := 0) hx hb dX11_weather_16 (by decide) ?_
      refine q_calli (q := (RX11, TX11, 14)) (As := [.int vs, .int vn, .int 0]) (rest := []) X (k_weatherRefusal l D cs ad hj g vs vn 0 h0 h3) (cwV 3 X.2.2.2.2.1 gg_X11_weather_X11_weatherRefusal rfl rfl rfl (by decide +kernel) ⟨Nat.le_of_ble_eq_true rfl, Nat.le_of_ble_eq_true rfl⟩) (by decide) h0 rfl hP hA hS rfl hl.1 rfl (Nat.le_of_ble_eq_true rfl) dX11_weather_17 ⟨Nat.le_of_ble_eq_true rfl, Nat.le_of_ble_eq_true rfl⟩ (fun r_6 g_5 H locs hw_4 hP hS => ?_)
      obtain ⟨hw_4a, hw_4b⟩ := hw_4
      subst hw_4a
      rw [hw_4b] at hP
      refine lv_istore (lv' := [(4, .int (-2)), (0, .ref (ad 0)), (1, .int vs), (2, .int vn), (3, .int vd)]) hx hb dX11_weather_20 hl (by decide) rfl (fun ls hl => ?_)
      refine lv_iload hx hb dX11_weather_22 (lv_at hl 0 rfl) ?_
      refine lv_if_eq (tgt := 30) hx hb dX11_weather_24 (by decide) (fun h => absurd h (by decide)) (fun _ => ?_)
      refine lv_iload hx hb dX11_weather_27 (lv_at hl 0 rfl) ?_
      exact q_iret X hP hS ⟨rfl, rfl⟩ dX11_weather_29
    · refine lv_iconst (v := 1) hx hb dX11_weather_12 (by decide) ?_
      refine lv_goto (tgt := 17) hx hb dX11_weather_13 (by decide) ?_
      refine q_calli (q := (RX11, TX11, 14)) (As := [.int vs, .int vn, .int 1]) (rest := []) X (k_weatherRefusal l D cs ad hj g vs vn 1 h0 h3) (cwV 3 X.2.2.2.2.1 gg_X11_weather_X11_weatherRefusal rfl rfl rfl (by decide +kernel) ⟨Nat.le_of_ble_eq_true rfl, Nat.le_of_ble_eq_true rfl⟩) (by decide) h0 rfl hP hA hS rfl hl.1 rfl (Nat.le_of_ble_eq_true rfl) dX11_weather_17 ⟨Nat.le_of_ble_eq_true rfl, Nat.le_of_ble_eq_true rfl⟩ (fun r_9 g_8 H locs hw_7 hP hS => ?_)
      obtain ⟨hw_7a, hw_7b⟩ := hw_7
      subst hw_7a
      rw [hw_7b] at hP
      refine lv_istore (lv' := [(4, .int (-2)), (0, .ref (ad 0)), (1, .int vs), (2, .int vn), (3, .int vd)]) hx hb dX11_weather_20 hl (by decide) rfl (fun ls hl => ?_)
      refine lv_iload hx hb dX11_weather_22 (lv_at hl 0 rfl) ?_
      refine lv_if_eq (tgt := 30) hx hb dX11_weather_24 (by decide) (fun h => absurd h (by decide)) (fun _ => ?_)
      refine lv_iload hx hb dX11_weather_27 (lv_at hl 0 rfl) ?_
      exact q_iret X hP hS ⟨rfl, rfl⟩ dX11_weather_29

theorem dX11_warmth_0 : decode cX11_warmth 0 = .ok (.aload_n 0, 1) := by decide +kernel
theorem dX11_warmth_1 : decode cX11_warmth 1 = .ok (.iload_n 1, 1) := by decide +kernel
theorem dX11_warmth_2 : decode cX11_warmth 2 = .ok (.iload_n 2, 1) := by decide +kernel
theorem dX11_warmth_3 : decode cX11_warmth 3 = .ok (.iload_n 3, 1) := by decide +kernel
theorem dX11_warmth_4 : decode cX11_warmth 4 = .ok (.invokestatic 151, 3) := by decide +kernel
theorem dX11_warmth_7 : decode cX11_warmth 7 = .ok (.invokevirtual 281, 3) := by decide +kernel
theorem dX11_warmth_10 : decode cX11_warmth 10 = .ok (.istore 4, 2) := by decide +kernel
theorem dX11_warmth_12 : decode cX11_warmth 12 = .ok (.iload 4, 2) := by decide +kernel
theorem dX11_warmth_14 : decode cX11_warmth 14 = .ok (.ifCond .eq 6, 3) := by decide +kernel
theorem dX11_warmth_17 : decode cX11_warmth 17 = .ok (.iload 4, 2) := by decide +kernel
theorem dX11_warmth_19 : decode cX11_warmth 19 = .ok (.ireturn, 1) := by decide +kernel
def vX11_warmth : List Cond := .code yX11_warmth cX11_warmth 5 (some .int) :: ([.methodLink RX11 151 yX11_isEither, .static yX11_isEither, .initialized RX11, .code yX11_isEither cX11_isEither 1 (some .boolean), .methodLink RX11 281 yX11_weatherRefusal, .instanceMethod yX11_weatherRefusal, .selects RX11 yX11_weatherRefusal yX11_weatherRefusal, .code yX11_weatherRefusal cX11_weatherRefusal 5 (some .int), .fieldLink RX11 19 "IcicleClock" "now" "LIcicleClock$Street;", .fieldLink RX11 177 "IcicleClock$Street" "days" "I", .methodLink RX11 220 Lib.Math.min.name, .static Lib.Math.min.name, .initialized "java/lang/Math", .code Lib.Math.min.name Lib.Math.min.code 2 (some .int), .methodLink RX11 260 yX11_refusal, .instanceMethod yX11_refusal, .selects RX11 yX11_refusal yX11_refusal, .code yX11_refusal cX11_refusal 4 (some .int), .methodLink RX11 377 yX11_isSlot, .static yX11_isSlot, .code yX11_isSlot cX11_isSlot 1 (some .boolean), .methodLink RX11 195 yX11_isTold, .instanceMethod yX11_isTold, .selects RX11 yX11_isTold yX11_isTold, .code yX11_isTold cX11_isTold 1 (some .boolean), .fieldLink RX11 112 "IcicleClock$Street" "lines" "I"] ++ wsX110 ++ wsX60)
theorem iX11_warmth_11 : ∀ w ∈ wsX110, w ∈ vX11_warmth := fun _ h => List.mem_cons_of_mem _ (List.mem_append_left _ (List.mem_append_right _ h))
theorem iX11_warmth_6 : ∀ w ∈ wsX60, w ∈ vX11_warmth := fun _ h => List.mem_cons_of_mem _ (List.mem_append_right _ h)
set_option maxRecDepth 20000 in
theorem gg_X11_warmth_X11_isEither : GoodIn vX11_warmth (wsS RX11 151 yX11_isEither vX11_isEither) := goodIn_r _ [1, 2, 3, 4] (by decide +kernel) (by decide +kernel)
set_option maxRecDepth 20000 in
theorem gg_X11_warmth_X11_weatherRefusal : GoodIn vX11_warmth (wsV RX11 281 RX11 yX11_weatherRefusal vX11_weatherRefusal) := goodIn_r _ [5, 6, 7, 3, 8, 9, 10, 11, 12, 13, 14, 15, 16, 17, 3, 18, 19, 20, 21, 22, 23, 24, 25, 26, 27, 28, 29, 30, 31, 32, 33, 34, 35, 36, 37, 38, 39, 40, 41, 42, 43, 44, 45, 46, 47, 48, 49, 50, 51, 52, 53, 54, 55, 56, 57, 58] (by decide +kernel) (by decide +kernel)
set_option maxHeartbeats 4000000 in
set_option maxRecDepth 100000 in
theorem k_warmth (l : Launch) (D : va_G) (cs : Nat → ClassId) (ad : Nat → Nat) (hj : wJ ad nW) (g : Nat → va_E) (vs : Int32) (vn : Int32) (vw : Int32) (h0 : g 0 = .inr (11, [.ref (ad 1), .ref (ad 3), .ref (ad 23), .ref (ad 43), .ref (ad 104), .ref (ad 105), .ref (ad 114), .ref (ad 116), .ref (ad 118), .ref (ad 120), .ref (ad 130), .ref (ad 140), .ref (ad 144), .ref (ad 190)])) (h3 : g 3 = .inr (6, [.int 0, .int 0, .int 0, .int 0, .int 0, .int 0, .int 0, .int 0, .ref (ad 4), .ref (ad 5), .ref (ad 6), .ref (ad 7), .ref (ad 8), .ref (ad 9), .ref (ad 10), .ref (ad 11), .ref (ad 12), .ref (ad 13)])) : cI l yX11_warmth vX11_warmth { frames := 3, cells := 0, slots := 0, locals := 67 } D cs ad nW [.ref (ad 0), .int vs, .int vn, .int vw] g (fun r g2 => r = (-2) ∧ g2 = g) := by
  refine Met.start (cc := cX11_warmth) (maxL := 5) (ret := (some .int)) RX11 rfl (by decide) rfl (Nat.le_of_ble_eq_true rfl) ?_
  intro p e s m below meth c ls X hP hl
  have hx := X.1
  have hb := X.2.1
  have hS : va_S (wA ad nW) s.heap s.heap [] := va_S.rf
  have hA : ∀ i, i < nW → wA ad nW (ad i) := fun i h => ⟨i, h, rfl⟩
  have hl : lv_has ls 5 [(0, .ref (ad 0)), (1, .int vs), (2, .int vn), (3, .int vw)] := hl
  refine lv_aload_n hx hb dX11_warmth_0 rfl (lv_at hl 0 rfl) ?_
  refine lv_iload_n hx hb dX11_warmth_1 rfl (lv_at hl 1 rfl) ?_
  refine lv_iload_n hx hb dX11_warmth_2 rfl (lv_at hl 2 rfl) ?_
  refine lv_iload_n hx hb dX11_warmth_3 rfl (lv_at hl 3 rfl) ?_
  refine q_callSi (As := [.int vw]) (rest := [.int vn, .int vs, .ref (ad 0)]) X (k_isEither l D cs ad hj g vw ) (cwS 1 X.2.2.2.2.1 gg_X11_warmth_X11_isEither rfl rfl rfl (by decide +kernel) ⟨Nat.le_of_ble_eq_true rfl, Nat.le_of_ble_eq_true rfl⟩) hP hA hS rfl hl.1 rfl (Nat.le_of_ble_eq_true rfl) dX11_warmth_4 ⟨Nat.le_of_ble_eq_true rfl, Nat.le_of_ble_eq_true rfl⟩ (fun r_3 g_2 H locs hw_1 hP hS => ?_)
  obtain ⟨hw_1b, hw_1⟩ := hw_1
  rw [hw_1b] at hP
  refine q_calli (q := (RX11, TX11, 14)) (As := [.int vs, .int vn, .int r_3]) (rest := []) X (k_weatherRefusal l D cs ad hj g vs vn r_3 h0 h3) (cwV 3 X.2.2.2.2.1 gg_X11_warmth_X11_weatherRefusal rfl rfl rfl (by decide +kernel) ⟨Nat.le_of_ble_eq_true rfl, Nat.le_of_ble_eq_true rfl⟩) (by decide) h0 rfl hP hA hS rfl hl.1 rfl (Nat.le_of_ble_eq_true rfl) dX11_warmth_7 ⟨Nat.le_of_ble_eq_true rfl, Nat.le_of_ble_eq_true rfl⟩ (fun r_6 g_5 H locs hw_4 hP hS => ?_)
  obtain ⟨hw_4a, hw_4b⟩ := hw_4
  subst hw_4a
  rw [hw_4b] at hP
  refine lv_istore (lv' := [(4, .int (-2)), (0, .ref (ad 0)), (1, .int vs), (2, .int vn), (3, .int vw)]) hx hb dX11_warmth_10 hl (by decide) rfl (fun ls hl => ?_)
  refine lv_iload hx hb dX11_warmth_12 (lv_at hl 0 rfl) ?_
  refine lv_if_eq (tgt := 20) hx hb dX11_warmth_14 (by decide) (fun h => absurd h (by decide)) (fun _ => ?_)
  refine lv_iload hx hb dX11_warmth_17 (lv_at hl 0 rfl) ?_
  exact q_iret X hP hS ⟨rfl, rfl⟩ dX11_warmth_19

theorem dX11_chance_0 : decode cX11_chance 0 = .ok (.aload_n 0, 1) := by decide +kernel
theorem dX11_chance_1 : decode cX11_chance 1 = .ok (.iload_n 1, 1) := by decide +kernel
theorem dX11_chance_2 : decode cX11_chance 2 = .ok (.invokevirtual 136, 3) := by decide +kernel
theorem dX11_chance_5 : decode cX11_chance 5 = .ok (.ifCond .eq 18, 3) := by decide +kernel
theorem dX11_chance_23 : decode cX11_chance 23 = .ok (.ldc2_w 300, 3) := by decide +kernel
theorem dX11_chance_26 : decode cX11_chance 26 = .ok (.lreturn, 1) := by decide +kernel
def vX11_chance : List Cond := .code yX11_chance cX11_chance 10 (some .long) :: ([.methodLink RX11 136 yX11_isIcicle, .instanceMethod yX11_isIcicle, .selects RX11 yX11_isIcicle yX11_isIcicle, .initialized RX11, .code yX11_isIcicle cX11_isIcicle 2 (some .boolean), .fieldLink RX11 19 "IcicleClock" "now" "LIcicleClock$Street;", .fieldLink RX11 160 "IcicleClock$Street" "icicles" "I", .constantLong RX11 300 (-2)] ++ wsX110 ++ wsX60)
theorem iX11_chance_11 : ∀ w ∈ wsX110, w ∈ vX11_chance := fun _ h => List.mem_cons_of_mem _ (List.mem_append_left _ (List.mem_append_right _ h))
theorem iX11_chance_6 : ∀ w ∈ wsX60, w ∈ vX11_chance := fun _ h => List.mem_cons_of_mem _ (List.mem_append_right _ h)
set_option maxRecDepth 20000 in
theorem gg_X11_chance_X11_isIcicle : GoodIn vX11_chance (wsV RX11 136 RX11 yX11_isIcicle vX11_isIcicle) := goodIn_r _ [1, 2, 3, 4, 5, 6, 7, 9, 10, 11, 12, 13, 14, 15, 16, 17, 18, 19, 20, 21, 22, 23, 24, 25, 26, 27, 28, 29, 30, 31, 32, 33, 34, 35, 36, 37, 38, 39, 40] (by decide +kernel) (by decide +kernel)
set_option maxHeartbeats 4000000 in
set_option maxRecDepth 100000 in
theorem k_chance (l : Launch) (D : va_G) (cs : Nat → ClassId) (ad : Nat → Nat) (hj : wJ ad nW) (g : Nat → va_E) (vi : Int32) (vd : Int32) (vw : Int32) (h0 : g 0 = .inr (11, [.ref (ad 1), .ref (ad 3), .ref (ad 23), .ref (ad 43), .ref (ad 104), .ref (ad 105), .ref (ad 114), .ref (ad 116), .ref (ad 118), .ref (ad 120), .ref (ad 130), .ref (ad 140), .ref (ad 144), .ref (ad 190)])) (h3 : g 3 = .inr (6, [.int 0, .int 0, .int 0, .int 0, .int 0, .int 0, .int 0, .int 0, .ref (ad 4), .ref (ad 5), .ref (ad 6), .ref (ad 7), .ref (ad 8), .ref (ad 9), .ref (ad 10), .ref (ad 11), .ref (ad 12), .ref (ad 13)])) : cJ l yX11_chance vX11_chance { frames := 1, cells := 0, slots := 0, locals := 21 } D cs ad nW [.ref (ad 0), .int vi, .int vd, .int vw] g (fun r g2 => r = (-2) ∧ g2 = g) := by
  refine Met.start (cc := cX11_chance) (maxL := 10) (ret := (some .long)) RX11 rfl (by decide) rfl (Nat.le_of_ble_eq_true rfl) ?_
  intro p e s m below meth c ls X hP hl
  have hx := X.1
  have hb := X.2.1
  have hS : va_S (wA ad nW) s.heap s.heap [] := va_S.rf
  have hA : ∀ i, i < nW → wA ad nW (ad i) := fun i h => ⟨i, h, rfl⟩
  have hl : lv_has ls 10 [(0, .ref (ad 0)), (1, .int vi), (2, .int vd), (3, .int vw)] := hl
  refine lv_aload_n hx hb dX11_chance_0 rfl (lv_at hl 0 rfl) ?_
  refine lv_iload_n hx hb dX11_chance_1 rfl (lv_at hl 1 rfl) ?_
  refine q_calli (q := (RX11, TX11, 14)) (As := [.int vi]) (rest := []) X (k_isIcicle l D cs ad hj g vi h0 h3) (cwV 1 X.2.2.2.2.1 gg_X11_chance_X11_isIcicle rfl rfl rfl (by decide +kernel) ⟨Nat.le_of_ble_eq_true rfl, Nat.le_of_ble_eq_true rfl⟩) (by decide) h0 rfl hP hA hS rfl hl.1 rfl (Nat.le_of_ble_eq_true rfl) dX11_chance_2 ⟨Nat.le_of_ble_eq_true rfl, Nat.le_of_ble_eq_true rfl⟩ (fun r_3 g_2 H locs hw_1 hP hS => ?_)
  obtain ⟨hw_1a, hw_1b⟩ := hw_1
  subst hw_1a
  rw [hw_1b] at hP
  refine lv_if_eq (tgt := 23) hx hb dX11_chance_5 (by decide) (fun _ => ?_) (fun h => absurd h (by decide))
  refine lv_ldc2 (v := (-2)) hx hb X.2.2.2.2.2.1 (X.2.2.2.2.1 _ (List.mem_of_getElem? (i := 8) rfl)) dX11_chance_23 ?_
  exact q_lret X hP hS ⟨rfl, rfl⟩ dX11_chance_26

theorem dX11_likely_0 : decode cX11_likely 0 = .ok (.aload_n 0, 1) := by decide +kernel
theorem dX11_likely_1 : decode cX11_likely 1 = .ok (.iload_n 1, 1) := by decide +kernel
theorem dX11_likely_2 : decode cX11_likely 2 = .ok (.invokevirtual 136, 3) := by decide +kernel
theorem dX11_likely_5 : decode cX11_likely 5 = .ok (.ifCond .ne 6, 3) := by decide +kernel
theorem dX11_likely_8 : decode cX11_likely 8 = .ok (.bipush (-2), 2) := by decide +kernel
theorem dX11_likely_10 : decode cX11_likely 10 = .ok (.ireturn, 1) := by decide +kernel
def vX11_likely : List Cond := .code yX11_likely cX11_likely 2 (some .int) :: ([.methodLink RX11 136 yX11_isIcicle, .instanceMethod yX11_isIcicle, .selects RX11 yX11_isIcicle yX11_isIcicle, .initialized RX11, .code yX11_isIcicle cX11_isIcicle 2 (some .boolean), .fieldLink RX11 19 "IcicleClock" "now" "LIcicleClock$Street;", .fieldLink RX11 160 "IcicleClock$Street" "icicles" "I"] ++ wsX110 ++ wsX60)
theorem iX11_likely_11 : ∀ w ∈ wsX110, w ∈ vX11_likely := fun _ h => List.mem_cons_of_mem _ (List.mem_append_left _ (List.mem_append_right _ h))
theorem iX11_likely_6 : ∀ w ∈ wsX60, w ∈ vX11_likely := fun _ h => List.mem_cons_of_mem _ (List.mem_append_right _ h)
set_option maxRecDepth 20000 in
theorem gg_X11_likely_X11_isIcicle : GoodIn vX11_likely (wsV RX11 136 RX11 yX11_isIcicle vX11_isIcicle) := goodIn_r _ [1, 2, 3, 4, 5, 6, 7, 8, 9, 10, 11, 12, 13, 14, 15, 16, 17, 18, 19, 20, 21, 22, 23, 24, 25, 26, 27, 28, 29, 30, 31, 32, 33, 34, 35, 36, 37, 38, 39] (by decide +kernel) (by decide +kernel)
set_option maxHeartbeats 4000000 in
set_option maxRecDepth 100000 in
theorem k_likely (l : Launch) (D : va_G) (cs : Nat → ClassId) (ad : Nat → Nat) (hj : wJ ad nW) (g : Nat → va_E) (vi : Int32) (h0 : g 0 = .inr (11, [.ref (ad 1), .ref (ad 3), .ref (ad 23), .ref (ad 43), .ref (ad 104), .ref (ad 105), .ref (ad 114), .ref (ad 116), .ref (ad 118), .ref (ad 120), .ref (ad 130), .ref (ad 140), .ref (ad 144), .ref (ad 190)])) (h3 : g 3 = .inr (6, [.int 0, .int 0, .int 0, .int 0, .int 0, .int 0, .int 0, .int 0, .ref (ad 4), .ref (ad 5), .ref (ad 6), .ref (ad 7), .ref (ad 8), .ref (ad 9), .ref (ad 10), .ref (ad 11), .ref (ad 12), .ref (ad 13)])) : cI l yX11_likely vX11_likely { frames := 1, cells := 0, slots := 0, locals := 21 } D cs ad nW [.ref (ad 0), .int vi] g (fun r g2 => r = (-2) ∧ g2 = g) := by
  refine Met.start (cc := cX11_likely) (maxL := 2) (ret := (some .int)) RX11 rfl (by decide) rfl (Nat.le_of_ble_eq_true rfl) ?_
  intro p e s m below meth c ls X hP hl
  have hx := X.1
  have hb := X.2.1
  have hS : va_S (wA ad nW) s.heap s.heap [] := va_S.rf
  have hA : ∀ i, i < nW → wA ad nW (ad i) := fun i h => ⟨i, h, rfl⟩
  have hl : lv_has ls 2 [(0, .ref (ad 0)), (1, .int vi)] := hl
  refine lv_aload_n hx hb dX11_likely_0 rfl (lv_at hl 0 rfl) ?_
  refine lv_iload_n hx hb dX11_likely_1 rfl (lv_at hl 1 rfl) ?_
  refine q_calli (q := (RX11, TX11, 14)) (As := [.int vi]) (rest := []) X (k_isIcicle l D cs ad hj g vi h0 h3) (cwV 1 X.2.2.2.2.1 gg_X11_likely_X11_isIcicle rfl rfl rfl (by decide +kernel) ⟨Nat.le_of_ble_eq_true rfl, Nat.le_of_ble_eq_true rfl⟩) (by decide) h0 rfl hP hA hS rfl hl.1 rfl (Nat.le_of_ble_eq_true rfl) dX11_likely_2 ⟨Nat.le_of_ble_eq_true rfl, Nat.le_of_ble_eq_true rfl⟩ (fun r_3 g_2 H locs hw_1 hP hS => ?_)
  obtain ⟨hw_1a, hw_1b⟩ := hw_1
  subst hw_1a
  rw [hw_1b] at hP
  refine lv_if_ne (tgt := 11) hx hb dX11_likely_5 (by decide) (fun h => absurd h (by decide)) (fun _ => ?_)
  refine lv_bipush (v := (-2)) hx hb dX11_likely_8 (by decide) ?_
  exact q_iret X hP hS ⟨rfl, rfl⟩ dX11_likely_10

theorem dX11_surest_0 : decode cX11_surest 0 = .ok (.aload_n 0, 1) := by decide +kernel
theorem dX11_surest_1 : decode cX11_surest 1 = .ok (.iload_n 1, 1) := by decide +kernel
theorem dX11_surest_2 : decode cX11_surest 2 = .ok (.invokevirtual 136, 3) := by decide +kernel
theorem dX11_surest_5 : decode cX11_surest 5 = .ok (.ifCond .eq 11, 3) := by decide +kernel
theorem dX11_surest_16 : decode cX11_surest 16 = .ok (.bipush (-2), 2) := by decide +kernel
theorem dX11_surest_18 : decode cX11_surest 18 = .ok (.ireturn, 1) := by decide +kernel
def vX11_surest : List Cond := .code yX11_surest cX11_surest 7 (some .int) :: ([.methodLink RX11 136 yX11_isIcicle, .instanceMethod yX11_isIcicle, .selects RX11 yX11_isIcicle yX11_isIcicle, .initialized RX11, .code yX11_isIcicle cX11_isIcicle 2 (some .boolean), .fieldLink RX11 19 "IcicleClock" "now" "LIcicleClock$Street;", .fieldLink RX11 160 "IcicleClock$Street" "icicles" "I"] ++ wsX110 ++ wsX60)
theorem iX11_surest_11 : ∀ w ∈ wsX110, w ∈ vX11_surest := fun _ h => List.mem_cons_of_mem _ (List.mem_append_left _ (List.mem_append_right _ h))
theorem iX11_surest_6 : ∀ w ∈ wsX60, w ∈ vX11_surest := fun _ h => List.mem_cons_of_mem _ (List.mem_append_right _ h)
set_option maxRecDepth 20000 in
theorem gg_X11_surest_X11_isIcicle : GoodIn vX11_surest (wsV RX11 136 RX11 yX11_isIcicle vX11_isIcicle) := goodIn_r _ [1, 2, 3, 4, 5, 6, 7, 8, 9, 10, 11, 12, 13, 14, 15, 16, 17, 18, 19, 20, 21, 22, 23, 24, 25, 26, 27, 28, 29, 30, 31, 32, 33, 34, 35, 36, 37, 38, 39] (by decide +kernel) (by decide +kernel)
set_option maxHeartbeats 4000000 in
set_option maxRecDepth 100000 in
theorem k_surest (l : Launch) (D : va_G) (cs : Nat → ClassId) (ad : Nat → Nat) (hj : wJ ad nW) (g : Nat → va_E) (vi : Int32) (vd : Int32) (h0 : g 0 = .inr (11, [.ref (ad 1), .ref (ad 3), .ref (ad 23), .ref (ad 43), .ref (ad 104), .ref (ad 105), .ref (ad 114), .ref (ad 116), .ref (ad 118), .ref (ad 120), .ref (ad 130), .ref (ad 140), .ref (ad 144), .ref (ad 190)])) (h3 : g 3 = .inr (6, [.int 0, .int 0, .int 0, .int 0, .int 0, .int 0, .int 0, .int 0, .ref (ad 4), .ref (ad 5), .ref (ad 6), .ref (ad 7), .ref (ad 8), .ref (ad 9), .ref (ad 10), .ref (ad 11), .ref (ad 12), .ref (ad 13)])) : cI l yX11_surest vX11_surest { frames := 1, cells := 0, slots := 0, locals := 21 } D cs ad nW [.ref (ad 0), .int vi, .int vd] g (fun r g2 => r = (-2) ∧ g2 = g) := by
  refine Met.start (cc := cX11_surest) (maxL := 7) (ret := (some .int)) RX11 rfl (by decide) rfl (Nat.le_of_ble_eq_true rfl) ?_
  intro p e s m below meth c ls X hP hl
  have hx := X.1
  have hb := X.2.1
  have hS : va_S (wA ad nW) s.heap s.heap [] := va_S.rf
  have hA : ∀ i, i < nW → wA ad nW (ad i) := fun i h => ⟨i, h, rfl⟩
  have hl : lv_has ls 7 [(0, .ref (ad 0)), (1, .int vi), (2, .int vd)] := hl
  refine lv_aload_n hx hb dX11_surest_0 rfl (lv_at hl 0 rfl) ?_
  refine lv_iload_n hx hb dX11_surest_1 rfl (lv_at hl 1 rfl) ?_
  refine q_calli (q := (RX11, TX11, 14)) (As := [.int vi]) (rest := []) X (k_isIcicle l D cs ad hj g vi h0 h3) (cwV 1 X.2.2.2.2.1 gg_X11_surest_X11_isIcicle rfl rfl rfl (by decide +kernel) ⟨Nat.le_of_ble_eq_true rfl, Nat.le_of_ble_eq_true rfl⟩) (by decide) h0 rfl hP hA hS rfl hl.1 rfl (Nat.le_of_ble_eq_true rfl) dX11_surest_2 ⟨Nat.le_of_ble_eq_true rfl, Nat.le_of_ble_eq_true rfl⟩ (fun r_3 g_2 H locs hw_1 hP hS => ?_)
  obtain ⟨hw_1a, hw_1b⟩ := hw_1
  subst hw_1a
  rw [hw_1b] at hP
  refine lv_if_eq (tgt := 16) hx hb dX11_surest_5 (by decide) (fun _ => ?_) (fun h => absurd h (by decide))
  refine lv_bipush (v := (-2)) hx hb dX11_surest_16 (by decide) ?_
  exact q_iret X hP hS ⟨rfl, rfl⟩ dX11_surest_18

theorem dX11_walk_0 : decode cX11_walk 0 = .ok (.aload_n 0, 1) := by decide +kernel
theorem dX11_walk_1 : decode cX11_walk 1 = .ok (.getfield 19, 3) := by decide +kernel
theorem dX11_walk_4 : decode cX11_walk 4 = .ok (.getfield 177, 3) := by decide +kernel
theorem dX11_walk_7 : decode cX11_walk 7 = .ok (.ifCond .eq 13, 3) := by decide +kernel
theorem dX11_walk_20 : decode cX11_walk 20 = .ok (.bipush (-2), 2) := by decide +kernel
theorem dX11_walk_22 : decode cX11_walk 22 = .ok (.ireturn, 1) := by decide +kernel
def vX11_walk : List Cond := .code yX11_walk cX11_walk 1 (some .int) :: ([.fieldLink RX11 19 "IcicleClock" "now" "LIcicleClock$Street;", .fieldLink RX11 177 "IcicleClock$Street" "days" "I"] ++ wsX110 ++ wsX60)
theorem iX11_walk_11 : ∀ w ∈ wsX110, w ∈ vX11_walk := fun _ h => List.mem_cons_of_mem _ (List.mem_append_left _ (List.mem_append_right _ h))
theorem iX11_walk_6 : ∀ w ∈ wsX60, w ∈ vX11_walk := fun _ h => List.mem_cons_of_mem _ (List.mem_append_right _ h)
set_option maxHeartbeats 4000000 in
set_option maxRecDepth 100000 in
theorem k_walk (l : Launch) (D : va_G) (cs : Nat → ClassId) (ad : Nat → Nat) (hj : wJ ad nW) (g : Nat → va_E) (h0 : g 0 = .inr (11, [.ref (ad 1), .ref (ad 3), .ref (ad 23), .ref (ad 43), .ref (ad 104), .ref (ad 105), .ref (ad 114), .ref (ad 116), .ref (ad 118), .ref (ad 120), .ref (ad 130), .ref (ad 140), .ref (ad 144), .ref (ad 190)])) (h3 : g 3 = .inr (6, [.int 0, .int 0, .int 0, .int 0, .int 0, .int 0, .int 0, .int 0, .ref (ad 4), .ref (ad 5), .ref (ad 6), .ref (ad 7), .ref (ad 8), .ref (ad 9), .ref (ad 10), .ref (ad 11), .ref (ad 12), .ref (ad 13)])) : cI l yX11_walk vX11_walk { frames := 0, cells := 0, slots := 0, locals := 0 } D cs ad nW [.ref (ad 0)] g (fun r g2 => r = (-2) ∧ g2 = g) := by
  refine Met.start (cc := cX11_walk) (maxL := 1) (ret := (some .int)) RX11 rfl (by decide) rfl (Nat.le_of_ble_eq_true rfl) ?_
  intro p e s m below meth c ls X hP hl
  have hx := X.1
  have hb := X.2.1
  have hS : va_S (wA ad nW) s.heap s.heap [] := va_S.rf
  have hA : ∀ i, i < nW → wA ad nW (ad i) := fun i h => ⟨i, h, rfl⟩
  have hl : lv_has ls 1 [(0, .ref (ad 0))] := hl
  refine lv_aload_n hx hb dX11_walk_0 rfl (lv_at hl 0 rfl) ?_
  refine q_get X iX11_walk_11 hP (by decide) h0 rfl 1 (by decide) (List.mem_of_getElem? (i := 1) rfl) (v := .ref (ad 3)) rfl dX11_walk_1 ?_
  refine q_get X iX11_walk_6 hP (by decide) h3 rfl 3 (by decide) (List.mem_of_getElem? (i := 2) rfl) (v := .int 0) rfl dX11_walk_4 ?_
  refine lv_if_eq (tgt := 20) hx hb dX11_walk_7 (by decide) (fun _ => ?_) (fun h => absurd h (by decide))
  refine lv_bipush (v := (-2)) hx hb dX11_walk_20 (by decide) ?_
  exact q_iret X hP hS ⟨rfl, rfl⟩ dX11_walk_22

theorem dX11_walks_0 : decode cX11_walks 0 = .ok (.aload_n 0, 1) := by decide +kernel
theorem dX11_walks_1 : decode cX11_walks 1 = .ok (.iload_n 1, 1) := by decide +kernel
theorem dX11_walks_2 : decode cX11_walks 2 = .ok (.invokevirtual 121, 3) := by decide +kernel
theorem dX11_walks_5 : decode cX11_walks 5 = .ok (.ifCond .eq 13, 3) := by decide +kernel
theorem dX11_walks_18 : decode cX11_walks 18 = .ok (.bipush (-2), 2) := by decide +kernel
theorem dX11_walks_20 : decode cX11_walks 20 = .ok (.ireturn, 1) := by decide +kernel
def vX11_walks : List Cond := .code yX11_walks cX11_walks 2 (some .int) :: ([.methodLink RX11 121 yX11_isDay, .instanceMethod yX11_isDay, .selects RX11 yX11_isDay yX11_isDay, .initialized RX11, .code yX11_isDay cX11_isDay 2 (some .boolean), .fieldLink RX11 19 "IcicleClock" "now" "LIcicleClock$Street;", .fieldLink RX11 177 "IcicleClock$Street" "days" "I"] ++ wsX110 ++ wsX60)
theorem iX11_walks_11 : ∀ w ∈ wsX110, w ∈ vX11_walks := fun _ h => List.mem_cons_of_mem _ (List.mem_append_left _ (List.mem_append_right _ h))
theorem iX11_walks_6 : ∀ w ∈ wsX60, w ∈ vX11_walks := fun _ h => List.mem_cons_of_mem _ (List.mem_append_right _ h)
set_option maxRecDepth 20000 in
theorem gg_X11_walks_X11_isDay : GoodIn vX11_walks (wsV RX11 121 RX11 yX11_isDay vX11_isDay) := goodIn_r _ [1, 2, 3, 4, 5, 6, 7, 8, 9, 10, 11, 12, 13, 14, 15, 16, 17, 18, 19, 20, 21, 22, 23, 24, 25, 26, 27, 28, 29, 30, 31, 32, 33, 34, 35, 36, 37, 38, 39] (by decide +kernel) (by decide +kernel)
set_option maxHeartbeats 4000000 in
set_option maxRecDepth 100000 in
theorem k_walks (l : Launch) (D : va_G) (cs : Nat → ClassId) (ad : Nat → Nat) (hj : wJ ad nW) (g : Nat → va_E) (vd : Int32) (h0 : g 0 = .inr (11, [.ref (ad 1), .ref (ad 3), .ref (ad 23), .ref (ad 43), .ref (ad 104), .ref (ad 105), .ref (ad 114), .ref (ad 116), .ref (ad 118), .ref (ad 120), .ref (ad 130), .ref (ad 140), .ref (ad 144), .ref (ad 190)])) (h3 : g 3 = .inr (6, [.int 0, .int 0, .int 0, .int 0, .int 0, .int 0, .int 0, .int 0, .ref (ad 4), .ref (ad 5), .ref (ad 6), .ref (ad 7), .ref (ad 8), .ref (ad 9), .ref (ad 10), .ref (ad 11), .ref (ad 12), .ref (ad 13)])) : cI l yX11_walks vX11_walks { frames := 1, cells := 0, slots := 0, locals := 21 } D cs ad nW [.ref (ad 0), .int vd] g (fun r g2 => r = (-2) ∧ g2 = g) := by
  refine Met.start (cc := cX11_walks) (maxL := 2) (ret := (some .int)) RX11 rfl (by decide) rfl (Nat.le_of_ble_eq_true rfl) ?_
  intro p e s m below meth c ls X hP hl
  have hx := X.1
  have hb := X.2.1
  have hS : va_S (wA ad nW) s.heap s.heap [] := va_S.rf
  have hA : ∀ i, i < nW → wA ad nW (ad i) := fun i h => ⟨i, h, rfl⟩
  have hl : lv_has ls 2 [(0, .ref (ad 0)), (1, .int vd)] := hl
  refine lv_aload_n hx hb dX11_walks_0 rfl (lv_at hl 0 rfl) ?_
  refine lv_iload_n hx hb dX11_walks_1 rfl (lv_at hl 1 rfl) ?_
  refine q_calli (q := (RX11, TX11, 14)) (As := [.int vd]) (rest := []) X (k_isDay l D cs ad hj g vd h0 h3) (cwV 1 X.2.2.2.2.1 gg_X11_walks_X11_isDay rfl rfl rfl (by decide +kernel) ⟨Nat.le_of_ble_eq_true rfl, Nat.le_of_ble_eq_true rfl⟩) (by decide) h0 rfl hP hA hS rfl hl.1 rfl (Nat.le_of_ble_eq_true rfl) dX11_walks_2 ⟨Nat.le_of_ble_eq_true rfl, Nat.le_of_ble_eq_true rfl⟩ (fun r_3 g_2 H locs hw_1 hP hS => ?_)
  obtain ⟨hw_1a, hw_1b⟩ := hw_1
  subst hw_1a
  rw [hw_1b] at hP
  refine lv_if_eq (tgt := 18) hx hb dX11_walks_5 (by decide) (fun _ => ?_) (fun h => absurd h (by decide))
  refine lv_bipush (v := (-2)) hx hb dX11_walks_18 (by decide) ?_
  exact q_iret X hP hS ⟨rfl, rfl⟩ dX11_walks_20

theorem dX11_ways_0 : decode cX11_ways 0 = .ok (.aload_n 0, 1) := by decide +kernel
theorem dX11_ways_1 : decode cX11_ways 1 = .ok (.getfield 19, 3) := by decide +kernel
theorem dX11_ways_4 : decode cX11_ways 4 = .ok (.getfield 177, 3) := by decide +kernel
theorem dX11_ways_7 : decode cX11_ways 7 = .ok (.ifCond .eq 13, 3) := by decide +kernel
theorem dX11_ways_20 : decode cX11_ways 20 = .ok (.bipush (-2), 2) := by decide +kernel
theorem dX11_ways_22 : decode cX11_ways 22 = .ok (.ireturn, 1) := by decide +kernel
def vX11_ways : List Cond := .code yX11_ways cX11_ways 1 (some .int) :: ([.fieldLink RX11 19 "IcicleClock" "now" "LIcicleClock$Street;", .fieldLink RX11 177 "IcicleClock$Street" "days" "I"] ++ wsX110 ++ wsX60)
theorem iX11_ways_11 : ∀ w ∈ wsX110, w ∈ vX11_ways := fun _ h => List.mem_cons_of_mem _ (List.mem_append_left _ (List.mem_append_right _ h))
theorem iX11_ways_6 : ∀ w ∈ wsX60, w ∈ vX11_ways := fun _ h => List.mem_cons_of_mem _ (List.mem_append_right _ h)
set_option maxHeartbeats 4000000 in
set_option maxRecDepth 100000 in
theorem k_ways (l : Launch) (D : va_G) (cs : Nat → ClassId) (ad : Nat → Nat) (hj : wJ ad nW) (g : Nat → va_E) (h0 : g 0 = .inr (11, [.ref (ad 1), .ref (ad 3), .ref (ad 23), .ref (ad 43), .ref (ad 104), .ref (ad 105), .ref (ad 114), .ref (ad 116), .ref (ad 118), .ref (ad 120), .ref (ad 130), .ref (ad 140), .ref (ad 144), .ref (ad 190)])) (h3 : g 3 = .inr (6, [.int 0, .int 0, .int 0, .int 0, .int 0, .int 0, .int 0, .int 0, .ref (ad 4), .ref (ad 5), .ref (ad 6), .ref (ad 7), .ref (ad 8), .ref (ad 9), .ref (ad 10), .ref (ad 11), .ref (ad 12), .ref (ad 13)])) : cI l yX11_ways vX11_ways { frames := 0, cells := 0, slots := 0, locals := 0 } D cs ad nW [.ref (ad 0)] g (fun r g2 => r = (-2) ∧ g2 = g) := by
  refine Met.start (cc := cX11_ways) (maxL := 1) (ret := (some .int)) RX11 rfl (by decide) rfl (Nat.le_of_ble_eq_true rfl) ?_
  intro p e s m below meth c ls X hP hl
  have hx := X.1
  have hb := X.2.1
  have hS : va_S (wA ad nW) s.heap s.heap [] := va_S.rf
  have hA : ∀ i, i < nW → wA ad nW (ad i) := fun i h => ⟨i, h, rfl⟩
  have hl : lv_has ls 1 [(0, .ref (ad 0))] := hl
  refine lv_aload_n hx hb dX11_ways_0 rfl (lv_at hl 0 rfl) ?_
  refine q_get X iX11_ways_11 hP (by decide) h0 rfl 1 (by decide) (List.mem_of_getElem? (i := 1) rfl) (v := .ref (ad 3)) rfl dX11_ways_1 ?_
  refine q_get X iX11_ways_6 hP (by decide) h3 rfl 3 (by decide) (List.mem_of_getElem? (i := 2) rfl) (v := .int 0) rfl dX11_ways_4 ?_
  refine lv_if_eq (tgt := 20) hx hb dX11_ways_7 (by decide) (fun _ => ?_) (fun h => absurd h (by decide))
  refine lv_bipush (v := (-2)) hx hb dX11_ways_20 (by decide) ?_
  exact q_iret X hP hS ⟨rfl, rfl⟩ dX11_ways_22

theorem dX11_rests_0 : decode cX11_rests 0 = .ok (.aload_n 0, 1) := by decide +kernel
theorem dX11_rests_1 : decode cX11_rests 1 = .ok (.invokevirtual 195, 3) := by decide +kernel
theorem dX11_rests_4 : decode cX11_rests 4 = .ok (.ifCond .ne 6, 3) := by decide +kernel
theorem dX11_rests_7 : decode cX11_rests 7 = .ok (.bipush (-2), 2) := by decide +kernel
theorem dX11_rests_9 : decode cX11_rests 9 = .ok (.ireturn, 1) := by decide +kernel
def vX11_rests : List Cond := .code yX11_rests cX11_rests 1 (some .int) :: ([.methodLink RX11 195 yX11_isTold, .instanceMethod yX11_isTold, .selects RX11 yX11_isTold yX11_isTold, .initialized RX11, .code yX11_isTold cX11_isTold 1 (some .boolean), .fieldLink RX11 19 "IcicleClock" "now" "LIcicleClock$Street;", .fieldLink RX11 112 "IcicleClock$Street" "lines" "I"] ++ wsX110 ++ wsX60)
theorem iX11_rests_11 : ∀ w ∈ wsX110, w ∈ vX11_rests := fun _ h => List.mem_cons_of_mem _ (List.mem_append_left _ (List.mem_append_right _ h))
theorem iX11_rests_6 : ∀ w ∈ wsX60, w ∈ vX11_rests := fun _ h => List.mem_cons_of_mem _ (List.mem_append_right _ h)
set_option maxRecDepth 20000 in
theorem gg_X11_rests_X11_isTold : GoodIn vX11_rests (wsV RX11 195 RX11 yX11_isTold vX11_isTold) := goodIn_r _ [1, 2, 3, 4, 5, 6, 7, 8, 9, 10, 11, 12, 13, 14, 15, 16, 17, 18, 19, 20, 21, 22, 23, 24, 25, 26, 27, 28, 29, 30, 31, 32, 33, 34, 35, 36, 37, 38, 39] (by decide +kernel) (by decide +kernel)
set_option maxHeartbeats 4000000 in
set_option maxRecDepth 100000 in
theorem k_rests (l : Launch) (D : va_G) (cs : Nat → ClassId) (ad : Nat → Nat) (hj : wJ ad nW) (g : Nat → va_E) (h0 : g 0 = .inr (11, [.ref (ad 1), .ref (ad 3), .ref (ad 23), .ref (ad 43), .ref (ad 104), .ref (ad 105), .ref (ad 114), .ref (ad 116), .ref (ad 118), .ref (ad 120), .ref (ad 130), .ref (ad 140), .ref (ad 144), .ref (ad 190)])) (h3 : g 3 = .inr (6, [.int 0, .int 0, .int 0, .int 0, .int 0, .int 0, .int 0, .int 0, .ref (ad 4), .ref (ad 5), .ref (ad 6), .ref (ad 7), .ref (ad 8), .ref (ad 9), .ref (ad 10), .ref (ad 11), .ref (ad 12), .ref (ad 13)])) : cI l yX11_rests vX11_rests { frames := 1, cells := 0, slots := 0, locals := 20 } D cs ad nW [.ref (ad 0)] g (fun r g2 => r = (-2) ∧ g2 = g) := by
  refine Met.start (cc := cX11_rests) (maxL := 1) (ret := (some .int)) RX11 rfl (by decide) rfl (Nat.le_of_ble_eq_true rfl) ?_
  intro p e s m below meth c ls X hP hl
  have hx := X.1
  have hb := X.2.1
  have hS : va_S (wA ad nW) s.heap s.heap [] := va_S.rf
  have hA : ∀ i, i < nW → wA ad nW (ad i) := fun i h => ⟨i, h, rfl⟩
  have hl : lv_has ls 1 [(0, .ref (ad 0))] := hl
  refine lv_aload_n hx hb dX11_rests_0 rfl (lv_at hl 0 rfl) ?_
  refine q_calli (q := (RX11, TX11, 14)) (As := []) (rest := []) X (k_isTold l D cs ad hj g  h0 h3) (cwV 0 X.2.2.2.2.1 gg_X11_rests_X11_isTold rfl rfl rfl (by decide +kernel) ⟨Nat.le_of_ble_eq_true rfl, Nat.le_of_ble_eq_true rfl⟩) (by decide) h0 rfl hP hA hS rfl hl.1 rfl (Nat.le_of_ble_eq_true rfl) dX11_rests_1 ⟨Nat.le_of_ble_eq_true rfl, Nat.le_of_ble_eq_true rfl⟩ (fun r_3 g_2 H locs hw_1 hP hS => ?_)
  obtain ⟨hw_1a, hw_1b⟩ := hw_1
  subst hw_1a
  rw [hw_1b] at hP
  refine lv_if_ne (tgt := 10) hx hb dX11_rests_4 (by decide) (fun h => absurd h (by decide)) (fun _ => ?_)
  refine lv_bipush (v := (-2)) hx hb dX11_rests_7 (by decide) ?_
  exact q_iret X hP hS ⟨rfl, rfl⟩ dX11_rests_9

theorem dX11_rest_0 : decode cX11_rest 0 = .ok (.aload_n 0, 1) := by decide +kernel
theorem dX11_rest_1 : decode cX11_rest 1 = .ok (.invokevirtual 195, 3) := by decide +kernel
theorem dX11_rest_4 : decode cX11_rest 4 = .ok (.ifCond .ne 6, 3) := by decide +kernel
theorem dX11_rest_7 : decode cX11_rest 7 = .ok (.bipush (-2), 2) := by decide +kernel
theorem dX11_rest_9 : decode cX11_rest 9 = .ok (.ireturn, 1) := by decide +kernel
def vX11_rest : List Cond := .code yX11_rest cX11_rest 1 (some .int) :: ([.methodLink RX11 195 yX11_isTold, .instanceMethod yX11_isTold, .selects RX11 yX11_isTold yX11_isTold, .initialized RX11, .code yX11_isTold cX11_isTold 1 (some .boolean), .fieldLink RX11 19 "IcicleClock" "now" "LIcicleClock$Street;", .fieldLink RX11 112 "IcicleClock$Street" "lines" "I"] ++ wsX110 ++ wsX60)
theorem iX11_rest_11 : ∀ w ∈ wsX110, w ∈ vX11_rest := fun _ h => List.mem_cons_of_mem _ (List.mem_append_left _ (List.mem_append_right _ h))
theorem iX11_rest_6 : ∀ w ∈ wsX60, w ∈ vX11_rest := fun _ h => List.mem_cons_of_mem _ (List.mem_append_right _ h)
set_option maxRecDepth 20000 in
theorem gg_X11_rest_X11_isTold : GoodIn vX11_rest (wsV RX11 195 RX11 yX11_isTold vX11_isTold) := goodIn_r _ [1, 2, 3, 4, 5, 6, 7, 8, 9, 10, 11, 12, 13, 14, 15, 16, 17, 18, 19, 20, 21, 22, 23, 24, 25, 26, 27, 28, 29, 30, 31, 32, 33, 34, 35, 36, 37, 38, 39] (by decide +kernel) (by decide +kernel)
set_option maxHeartbeats 4000000 in
set_option maxRecDepth 100000 in
theorem k_rest (l : Launch) (D : va_G) (cs : Nat → ClassId) (ad : Nat → Nat) (hj : wJ ad nW) (g : Nat → va_E) (h0 : g 0 = .inr (11, [.ref (ad 1), .ref (ad 3), .ref (ad 23), .ref (ad 43), .ref (ad 104), .ref (ad 105), .ref (ad 114), .ref (ad 116), .ref (ad 118), .ref (ad 120), .ref (ad 130), .ref (ad 140), .ref (ad 144), .ref (ad 190)])) (h3 : g 3 = .inr (6, [.int 0, .int 0, .int 0, .int 0, .int 0, .int 0, .int 0, .int 0, .ref (ad 4), .ref (ad 5), .ref (ad 6), .ref (ad 7), .ref (ad 8), .ref (ad 9), .ref (ad 10), .ref (ad 11), .ref (ad 12), .ref (ad 13)])) : cI l yX11_rest vX11_rest { frames := 1, cells := 0, slots := 0, locals := 20 } D cs ad nW [.ref (ad 0)] g (fun r g2 => r = (-2) ∧ g2 = g) := by
  refine Met.start (cc := cX11_rest) (maxL := 1) (ret := (some .int)) RX11 rfl (by decide) rfl (Nat.le_of_ble_eq_true rfl) ?_
  intro p e s m below meth c ls X hP hl
  have hx := X.1
  have hb := X.2.1
  have hS : va_S (wA ad nW) s.heap s.heap [] := va_S.rf
  have hA : ∀ i, i < nW → wA ad nW (ad i) := fun i h => ⟨i, h, rfl⟩
  have hl : lv_has ls 1 [(0, .ref (ad 0))] := hl
  refine lv_aload_n hx hb dX11_rest_0 rfl (lv_at hl 0 rfl) ?_
  refine q_calli (q := (RX11, TX11, 14)) (As := []) (rest := []) X (k_isTold l D cs ad hj g  h0 h3) (cwV 0 X.2.2.2.2.1 gg_X11_rest_X11_isTold rfl rfl rfl (by decide +kernel) ⟨Nat.le_of_ble_eq_true rfl, Nat.le_of_ble_eq_true rfl⟩) (by decide) h0 rfl hP hA hS rfl hl.1 rfl (Nat.le_of_ble_eq_true rfl) dX11_rest_1 ⟨Nat.le_of_ble_eq_true rfl, Nat.le_of_ble_eq_true rfl⟩ (fun r_3 g_2 H locs hw_1 hP hS => ?_)
  obtain ⟨hw_1a, hw_1b⟩ := hw_1
  subst hw_1a
  rw [hw_1b] at hP
  refine lv_if_ne (tgt := 10) hx hb dX11_rest_4 (by decide) (fun h => absurd h (by decide)) (fun _ => ?_)
  refine lv_bipush (v := (-2)) hx hb dX11_rest_7 (by decide) ?_
  exact q_iret X hP hS ⟨rfl, rfl⟩ dX11_rest_9

theorem dX11_door_0 : decode cX11_door 0 = .ok (.aload_n 0, 1) := by decide +kernel
theorem dX11_door_1 : decode cX11_door 1 = .ok (.iload_n 1, 1) := by decide +kernel
theorem dX11_door_2 : decode cX11_door 2 = .ok (.invokevirtual 129, 3) := by decide +kernel
theorem dX11_door_5 : decode cX11_door 5 = .ok (.ifCond .eq 11, 3) := by decide +kernel
theorem dX11_door_16 : decode cX11_door 16 = .ok (.bipush (-2), 2) := by decide +kernel
theorem dX11_door_18 : decode cX11_door 18 = .ok (.ireturn, 1) := by decide +kernel
def vX11_door : List Cond := .code yX11_door cX11_door 3 (some .int) :: ([.methodLink RX11 129 yX11_isEave, .instanceMethod yX11_isEave, .selects RX11 yX11_isEave yX11_isEave, .initialized RX11, .code yX11_isEave cX11_isEave 2 (some .boolean), .fieldLink RX11 19 "IcicleClock" "now" "LIcicleClock$Street;", .fieldLink RX11 208 "IcicleClock$Street" "eaves" "I"] ++ wsX110 ++ wsX60)
theorem iX11_door_11 : ∀ w ∈ wsX110, w ∈ vX11_door := fun _ h => List.mem_cons_of_mem _ (List.mem_append_left _ (List.mem_append_right _ h))
theorem iX11_door_6 : ∀ w ∈ wsX60, w ∈ vX11_door := fun _ h => List.mem_cons_of_mem _ (List.mem_append_right _ h)
set_option maxRecDepth 20000 in
theorem gg_X11_door_X11_isEave : GoodIn vX11_door (wsV RX11 129 RX11 yX11_isEave vX11_isEave) := goodIn_r _ [1, 2, 3, 4, 5, 6, 7, 8, 9, 10, 11, 12, 13, 14, 15, 16, 17, 18, 19, 20, 21, 22, 23, 24, 25, 26, 27, 28, 29, 30, 31, 32, 33, 34, 35, 36, 37, 38, 39] (by decide +kernel) (by decide +kernel)
set_option maxHeartbeats 4000000 in
set_option maxRecDepth 100000 in
theorem k_door (l : Launch) (D : va_G) (cs : Nat → ClassId) (ad : Nat → Nat) (hj : wJ ad nW) (g : Nat → va_E) (va : Int32) (vd : Int32) (h0 : g 0 = .inr (11, [.ref (ad 1), .ref (ad 3), .ref (ad 23), .ref (ad 43), .ref (ad 104), .ref (ad 105), .ref (ad 114), .ref (ad 116), .ref (ad 118), .ref (ad 120), .ref (ad 130), .ref (ad 140), .ref (ad 144), .ref (ad 190)])) (h3 : g 3 = .inr (6, [.int 0, .int 0, .int 0, .int 0, .int 0, .int 0, .int 0, .int 0, .ref (ad 4), .ref (ad 5), .ref (ad 6), .ref (ad 7), .ref (ad 8), .ref (ad 9), .ref (ad 10), .ref (ad 11), .ref (ad 12), .ref (ad 13)])) : cI l yX11_door vX11_door { frames := 1, cells := 0, slots := 0, locals := 21 } D cs ad nW [.ref (ad 0), .int va, .int vd] g (fun r g2 => r = (-2) ∧ g2 = g) := by
  refine Met.start (cc := cX11_door) (maxL := 3) (ret := (some .int)) RX11 rfl (by decide) rfl (Nat.le_of_ble_eq_true rfl) ?_
  intro p e s m below meth c ls X hP hl
  have hx := X.1
  have hb := X.2.1
  have hS : va_S (wA ad nW) s.heap s.heap [] := va_S.rf
  have hA : ∀ i, i < nW → wA ad nW (ad i) := fun i h => ⟨i, h, rfl⟩
  have hl : lv_has ls 3 [(0, .ref (ad 0)), (1, .int va), (2, .int vd)] := hl
  refine lv_aload_n hx hb dX11_door_0 rfl (lv_at hl 0 rfl) ?_
  refine lv_iload_n hx hb dX11_door_1 rfl (lv_at hl 1 rfl) ?_
  refine q_calli (q := (RX11, TX11, 14)) (As := [.int va]) (rest := []) X (k_isEave l D cs ad hj g va h0 h3) (cwV 1 X.2.2.2.2.1 gg_X11_door_X11_isEave rfl rfl rfl (by decide +kernel) ⟨Nat.le_of_ble_eq_true rfl, Nat.le_of_ble_eq_true rfl⟩) (by decide) h0 rfl hP hA hS rfl hl.1 rfl (Nat.le_of_ble_eq_true rfl) dX11_door_2 ⟨Nat.le_of_ble_eq_true rfl, Nat.le_of_ble_eq_true rfl⟩ (fun r_3 g_2 H locs hw_1 hP hS => ?_)
  obtain ⟨hw_1a, hw_1b⟩ := hw_1
  subst hw_1a
  rw [hw_1b] at hP
  refine lv_if_eq (tgt := 16) hx hb dX11_door_5 (by decide) (fun _ => ?_) (fun h => absurd h (by decide))
  refine lv_bipush (v := (-2)) hx hb dX11_door_16 (by decide) ?_
  exact q_iret X hP hS ⟨rfl, rfl⟩ dX11_door_18

theorem dX11_ring_0 : decode cX11_ring 0 = .ok (.aload_n 0, 1) := by decide +kernel
theorem dX11_ring_1 : decode cX11_ring 1 = .ok (.iload_n 1, 1) := by decide +kernel
theorem dX11_ring_2 : decode cX11_ring 2 = .ok (.invokevirtual 121, 3) := by decide +kernel
theorem dX11_ring_5 : decode cX11_ring 5 = .ok (.ifCond .ne 6, 3) := by decide +kernel
theorem dX11_ring_8 : decode cX11_ring 8 = .ok (.bipush (-2), 2) := by decide +kernel
theorem dX11_ring_10 : decode cX11_ring 10 = .ok (.ireturn, 1) := by decide +kernel
def vX11_ring : List Cond := .code yX11_ring cX11_ring 2 (some .int) :: ([.methodLink RX11 121 yX11_isDay, .instanceMethod yX11_isDay, .selects RX11 yX11_isDay yX11_isDay, .initialized RX11, .code yX11_isDay cX11_isDay 2 (some .boolean), .fieldLink RX11 19 "IcicleClock" "now" "LIcicleClock$Street;", .fieldLink RX11 177 "IcicleClock$Street" "days" "I"] ++ wsX110 ++ wsX60)
theorem iX11_ring_11 : ∀ w ∈ wsX110, w ∈ vX11_ring := fun _ h => List.mem_cons_of_mem _ (List.mem_append_left _ (List.mem_append_right _ h))
theorem iX11_ring_6 : ∀ w ∈ wsX60, w ∈ vX11_ring := fun _ h => List.mem_cons_of_mem _ (List.mem_append_right _ h)
set_option maxRecDepth 20000 in
theorem gg_X11_ring_X11_isDay : GoodIn vX11_ring (wsV RX11 121 RX11 yX11_isDay vX11_isDay) := goodIn_r _ [1, 2, 3, 4, 5, 6, 7, 8, 9, 10, 11, 12, 13, 14, 15, 16, 17, 18, 19, 20, 21, 22, 23, 24, 25, 26, 27, 28, 29, 30, 31, 32, 33, 34, 35, 36, 37, 38, 39] (by decide +kernel) (by decide +kernel)
set_option maxHeartbeats 4000000 in
set_option maxRecDepth 100000 in
theorem k_ring (l : Launch) (D : va_G) (cs : Nat → ClassId) (ad : Nat → Nat) (hj : wJ ad nW) (g : Nat → va_E) (vd : Int32) (h0 : g 0 = .inr (11, [.ref (ad 1), .ref (ad 3), .ref (ad 23), .ref (ad 43), .ref (ad 104), .ref (ad 105), .ref (ad 114), .ref (ad 116), .ref (ad 118), .ref (ad 120), .ref (ad 130), .ref (ad 140), .ref (ad 144), .ref (ad 190)])) (h3 : g 3 = .inr (6, [.int 0, .int 0, .int 0, .int 0, .int 0, .int 0, .int 0, .int 0, .ref (ad 4), .ref (ad 5), .ref (ad 6), .ref (ad 7), .ref (ad 8), .ref (ad 9), .ref (ad 10), .ref (ad 11), .ref (ad 12), .ref (ad 13)])) : cI l yX11_ring vX11_ring { frames := 1, cells := 0, slots := 0, locals := 21 } D cs ad nW [.ref (ad 0), .int vd] g (fun r g2 => r = (-2) ∧ g2 = g) := by
  refine Met.start (cc := cX11_ring) (maxL := 2) (ret := (some .int)) RX11 rfl (by decide) rfl (Nat.le_of_ble_eq_true rfl) ?_
  intro p e s m below meth c ls X hP hl
  have hx := X.1
  have hb := X.2.1
  have hS : va_S (wA ad nW) s.heap s.heap [] := va_S.rf
  have hA : ∀ i, i < nW → wA ad nW (ad i) := fun i h => ⟨i, h, rfl⟩
  have hl : lv_has ls 2 [(0, .ref (ad 0)), (1, .int vd)] := hl
  refine lv_aload_n hx hb dX11_ring_0 rfl (lv_at hl 0 rfl) ?_
  refine lv_iload_n hx hb dX11_ring_1 rfl (lv_at hl 1 rfl) ?_
  refine q_calli (q := (RX11, TX11, 14)) (As := [.int vd]) (rest := []) X (k_isDay l D cs ad hj g vd h0 h3) (cwV 1 X.2.2.2.2.1 gg_X11_ring_X11_isDay rfl rfl rfl (by decide +kernel) ⟨Nat.le_of_ble_eq_true rfl, Nat.le_of_ble_eq_true rfl⟩) (by decide) h0 rfl hP hA hS rfl hl.1 rfl (Nat.le_of_ble_eq_true rfl) dX11_ring_2 ⟨Nat.le_of_ble_eq_true rfl, Nat.le_of_ble_eq_true rfl⟩ (fun r_3 g_2 H locs hw_1 hP hS => ?_)
  obtain ⟨hw_1a, hw_1b⟩ := hw_1
  subst hw_1a
  rw [hw_1b] at hP
  refine lv_if_ne (tgt := 11) hx hb dX11_ring_5 (by decide) (fun h => absurd h (by decide)) (fun _ => ?_)
  refine lv_bipush (v := (-2)) hx hb dX11_ring_8 (by decide) ?_
  exact q_iret X hP hS ⟨rfl, rfl⟩ dX11_ring_10

theorem dX11_undo_0 : decode cX11_undo 0 = .ok (.aload_n 0, 1) := by decide +kernel
theorem dX11_undo_1 : decode cX11_undo 1 = .ok (.invokevirtual 195, 3) := by decide +kernel
theorem dX11_undo_4 : decode cX11_undo 4 = .ok (.ifCond .ne 6, 3) := by decide +kernel
theorem dX11_undo_7 : decode cX11_undo 7 = .ok (.bipush (-2), 2) := by decide +kernel
theorem dX11_undo_9 : decode cX11_undo 9 = .ok (.ireturn, 1) := by decide +kernel
def vX11_undo : List Cond := .code yX11_undo cX11_undo 1 (some .int) :: ([.methodLink RX11 195 yX11_isTold, .instanceMethod yX11_isTold, .selects RX11 yX11_isTold yX11_isTold, .initialized RX11, .code yX11_isTold cX11_isTold 1 (some .boolean), .fieldLink RX11 19 "IcicleClock" "now" "LIcicleClock$Street;", .fieldLink RX11 112 "IcicleClock$Street" "lines" "I"] ++ wsX110 ++ wsX60)
theorem iX11_undo_11 : ∀ w ∈ wsX110, w ∈ vX11_undo := fun _ h => List.mem_cons_of_mem _ (List.mem_append_left _ (List.mem_append_right _ h))
theorem iX11_undo_6 : ∀ w ∈ wsX60, w ∈ vX11_undo := fun _ h => List.mem_cons_of_mem _ (List.mem_append_right _ h)
set_option maxRecDepth 20000 in
theorem gg_X11_undo_X11_isTold : GoodIn vX11_undo (wsV RX11 195 RX11 yX11_isTold vX11_isTold) := goodIn_r _ [1, 2, 3, 4, 5, 6, 7, 8, 9, 10, 11, 12, 13, 14, 15, 16, 17, 18, 19, 20, 21, 22, 23, 24, 25, 26, 27, 28, 29, 30, 31, 32, 33, 34, 35, 36, 37, 38, 39] (by decide +kernel) (by decide +kernel)
set_option maxHeartbeats 4000000 in
set_option maxRecDepth 100000 in
theorem k_undo (l : Launch) (D : va_G) (cs : Nat → ClassId) (ad : Nat → Nat) (hj : wJ ad nW) (g : Nat → va_E) (h0 : g 0 = .inr (11, [.ref (ad 1), .ref (ad 3), .ref (ad 23), .ref (ad 43), .ref (ad 104), .ref (ad 105), .ref (ad 114), .ref (ad 116), .ref (ad 118), .ref (ad 120), .ref (ad 130), .ref (ad 140), .ref (ad 144), .ref (ad 190)])) (h3 : g 3 = .inr (6, [.int 0, .int 0, .int 0, .int 0, .int 0, .int 0, .int 0, .int 0, .ref (ad 4), .ref (ad 5), .ref (ad 6), .ref (ad 7), .ref (ad 8), .ref (ad 9), .ref (ad 10), .ref (ad 11), .ref (ad 12), .ref (ad 13)])) : cI l yX11_undo vX11_undo { frames := 1, cells := 0, slots := 0, locals := 20 } D cs ad nW [.ref (ad 0)] g (fun r g2 => r = (-2) ∧ g2 = g) := by
  refine Met.start (cc := cX11_undo) (maxL := 1) (ret := (some .int)) RX11 rfl (by decide) rfl (Nat.le_of_ble_eq_true rfl) ?_
  intro p e s m below meth c ls X hP hl
  have hx := X.1
  have hb := X.2.1
  have hS : va_S (wA ad nW) s.heap s.heap [] := va_S.rf
  have hA : ∀ i, i < nW → wA ad nW (ad i) := fun i h => ⟨i, h, rfl⟩
  have hl : lv_has ls 1 [(0, .ref (ad 0))] := hl
  refine lv_aload_n hx hb dX11_undo_0 rfl (lv_at hl 0 rfl) ?_
  refine q_calli (q := (RX11, TX11, 14)) (As := []) (rest := []) X (k_isTold l D cs ad hj g  h0 h3) (cwV 0 X.2.2.2.2.1 gg_X11_undo_X11_isTold rfl rfl rfl (by decide +kernel) ⟨Nat.le_of_ble_eq_true rfl, Nat.le_of_ble_eq_true rfl⟩) (by decide) h0 rfl hP hA hS rfl hl.1 rfl (Nat.le_of_ble_eq_true rfl) dX11_undo_1 ⟨Nat.le_of_ble_eq_true rfl, Nat.le_of_ble_eq_true rfl⟩ (fun r_3 g_2 H locs hw_1 hP hS => ?_)
  obtain ⟨hw_1a, hw_1b⟩ := hw_1
  subst hw_1a
  rw [hw_1b] at hP
  refine lv_if_ne (tgt := 10) hx hb dX11_undo_4 (by decide) (fun h => absurd h (by decide)) (fun _ => ?_)
  refine lv_bipush (v := (-2)) hx hb dX11_undo_7 (by decide) ?_
  exact q_iret X hP hS ⟨rfl, rfl⟩ dX11_undo_9

theorem dX11_anew_0 : decode cX11_anew 0 = .ok (.aload_n 0, 1) := by decide +kernel
theorem dX11_anew_1 : decode cX11_anew 1 = .ok (.invokevirtual 195, 3) := by decide +kernel
theorem dX11_anew_4 : decode cX11_anew 4 = .ok (.ifCond .ne 6, 3) := by decide +kernel
theorem dX11_anew_7 : decode cX11_anew 7 = .ok (.bipush (-2), 2) := by decide +kernel
theorem dX11_anew_9 : decode cX11_anew 9 = .ok (.ireturn, 1) := by decide +kernel
def vX11_anew : List Cond := .code yX11_anew cX11_anew 2 (some .int) :: ([.methodLink RX11 195 yX11_isTold, .instanceMethod yX11_isTold, .selects RX11 yX11_isTold yX11_isTold, .initialized RX11, .code yX11_isTold cX11_isTold 1 (some .boolean), .fieldLink RX11 19 "IcicleClock" "now" "LIcicleClock$Street;", .fieldLink RX11 112 "IcicleClock$Street" "lines" "I"] ++ wsX110 ++ wsX60)
theorem iX11_anew_11 : ∀ w ∈ wsX110, w ∈ vX11_anew := fun _ h => List.mem_cons_of_mem _ (List.mem_append_left _ (List.mem_append_right _ h))
theorem iX11_anew_6 : ∀ w ∈ wsX60, w ∈ vX11_anew := fun _ h => List.mem_cons_of_mem _ (List.mem_append_right _ h)
set_option maxRecDepth 20000 in
theorem gg_X11_anew_X11_isTold : GoodIn vX11_anew (wsV RX11 195 RX11 yX11_isTold vX11_isTold) := goodIn_r _ [1, 2, 3, 4, 5, 6, 7, 8, 9, 10, 11, 12, 13, 14, 15, 16, 17, 18, 19, 20, 21, 22, 23, 24, 25, 26, 27, 28, 29, 30, 31, 32, 33, 34, 35, 36, 37, 38, 39] (by decide +kernel) (by decide +kernel)
set_option maxHeartbeats 4000000 in
set_option maxRecDepth 100000 in
theorem k_anew (l : Launch) (D : va_G) (cs : Nat → ClassId) (ad : Nat → Nat) (hj : wJ ad nW) (g : Nat → va_E) (h0 : g 0 = .inr (11, [.ref (ad 1), .ref (ad 3), .ref (ad 23), .ref (ad 43), .ref (ad 104), .ref (ad 105), .ref (ad 114), .ref (ad 116), .ref (ad 118), .ref (ad 120), .ref (ad 130), .ref (ad 140), .ref (ad 144), .ref (ad 190)])) (h3 : g 3 = .inr (6, [.int 0, .int 0, .int 0, .int 0, .int 0, .int 0, .int 0, .int 0, .ref (ad 4), .ref (ad 5), .ref (ad 6), .ref (ad 7), .ref (ad 8), .ref (ad 9), .ref (ad 10), .ref (ad 11), .ref (ad 12), .ref (ad 13)])) : cI l yX11_anew vX11_anew { frames := 1, cells := 0, slots := 0, locals := 20 } D cs ad nW [.ref (ad 0)] g (fun r g2 => r = (-2) ∧ g2 = g) := by
  refine Met.start (cc := cX11_anew) (maxL := 2) (ret := (some .int)) RX11 rfl (by decide) rfl (Nat.le_of_ble_eq_true rfl) ?_
  intro p e s m below meth c ls X hP hl
  have hx := X.1
  have hb := X.2.1
  have hS : va_S (wA ad nW) s.heap s.heap [] := va_S.rf
  have hA : ∀ i, i < nW → wA ad nW (ad i) := fun i h => ⟨i, h, rfl⟩
  have hl : lv_has ls 2 [(0, .ref (ad 0))] := hl
  refine lv_aload_n hx hb dX11_anew_0 rfl (lv_at hl 0 rfl) ?_
  refine q_calli (q := (RX11, TX11, 14)) (As := []) (rest := []) X (k_isTold l D cs ad hj g  h0 h3) (cwV 0 X.2.2.2.2.1 gg_X11_anew_X11_isTold rfl rfl rfl (by decide +kernel) ⟨Nat.le_of_ble_eq_true rfl, Nat.le_of_ble_eq_true rfl⟩) (by decide) h0 rfl hP hA hS rfl hl.1 rfl (Nat.le_of_ble_eq_true rfl) dX11_anew_1 ⟨Nat.le_of_ble_eq_true rfl, Nat.le_of_ble_eq_true rfl⟩ (fun r_3 g_2 H locs hw_1 hP hS => ?_)
  obtain ⟨hw_1a, hw_1b⟩ := hw_1
  subst hw_1a
  rw [hw_1b] at hP
  refine lv_if_ne (tgt := 10) hx hb dX11_anew_4 (by decide) (fun h => absurd h (by decide)) (fun _ => ?_)
  refine lv_bipush (v := (-2)) hx hb dX11_anew_7 (by decide) ?_
  exact q_iret X hP hS ⟨rfl, rfl⟩ dX11_anew_9

theorem dX11_drawn_0 : decode cX11_drawn 0 = .ok (.aload_n 0, 1) := by decide +kernel
theorem dX11_drawn_1 : decode cX11_drawn 1 = .ok (.invokevirtual 195, 3) := by decide +kernel
theorem dX11_drawn_4 : decode cX11_drawn 4 = .ok (.ifCond .eq 19, 3) := by decide +kernel
theorem dX11_drawn_23 : decode cX11_drawn 23 = .ok (.bipush (-2), 2) := by decide +kernel
theorem dX11_drawn_25 : decode cX11_drawn 25 = .ok (.ireturn, 1) := by decide +kernel
def vX11_drawn : List Cond := .code yX11_drawn cX11_drawn 4 (some .int) :: ([.methodLink RX11 195 yX11_isTold, .instanceMethod yX11_isTold, .selects RX11 yX11_isTold yX11_isTold, .initialized RX11, .code yX11_isTold cX11_isTold 1 (some .boolean), .fieldLink RX11 19 "IcicleClock" "now" "LIcicleClock$Street;", .fieldLink RX11 112 "IcicleClock$Street" "lines" "I"] ++ wsX110 ++ wsX60)
theorem iX11_drawn_11 : ∀ w ∈ wsX110, w ∈ vX11_drawn := fun _ h => List.mem_cons_of_mem _ (List.mem_append_left _ (List.mem_append_right _ h))
theorem iX11_drawn_6 : ∀ w ∈ wsX60, w ∈ vX11_drawn := fun _ h => List.mem_cons_of_mem _ (List.mem_append_right _ h)
set_option maxRecDepth 20000 in
theorem gg_X11_drawn_X11_isTold : GoodIn vX11_drawn (wsV RX11 195 RX11 yX11_isTold vX11_isTold) := goodIn_r _ [1, 2, 3, 4, 5, 6, 7, 8, 9, 10, 11, 12, 13, 14, 15, 16, 17, 18, 19, 20, 21, 22, 23, 24, 25, 26, 27, 28, 29, 30, 31, 32, 33, 34, 35, 36, 37, 38, 39] (by decide +kernel) (by decide +kernel)
set_option maxHeartbeats 4000000 in
set_option maxRecDepth 100000 in
theorem k_drawn (l : Launch) (D : va_G) (cs : Nat → ClassId) (ad : Nat → Nat) (hj : wJ ad nW) (g : Nat → va_E) (vs : Int32) (vw : Int32) (h0 : g 0 = .inr (11, [.ref (ad 1), .ref (ad 3), .ref (ad 23), .ref (ad 43), .ref (ad 104), .ref (ad 105), .ref (ad 114), .ref (ad 116), .ref (ad 118), .ref (ad 120), .ref (ad 130), .ref (ad 140), .ref (ad 144), .ref (ad 190)])) (h3 : g 3 = .inr (6, [.int 0, .int 0, .int 0, .int 0, .int 0, .int 0, .int 0, .int 0, .ref (ad 4), .ref (ad 5), .ref (ad 6), .ref (ad 7), .ref (ad 8), .ref (ad 9), .ref (ad 10), .ref (ad 11), .ref (ad 12), .ref (ad 13)])) : cI l yX11_drawn vX11_drawn { frames := 1, cells := 0, slots := 0, locals := 20 } D cs ad nW [.ref (ad 0), .int vs, .int vw] g (fun r g2 => r = (-2) ∧ g2 = g) := by
  refine Met.start (cc := cX11_drawn) (maxL := 4) (ret := (some .int)) RX11 rfl (by decide) rfl (Nat.le_of_ble_eq_true rfl) ?_
  intro p e s m below meth c ls X hP hl
  have hx := X.1
  have hb := X.2.1
  have hS : va_S (wA ad nW) s.heap s.heap [] := va_S.rf
  have hA : ∀ i, i < nW → wA ad nW (ad i) := fun i h => ⟨i, h, rfl⟩
  have hl : lv_has ls 4 [(0, .ref (ad 0)), (1, .int vs), (2, .int vw)] := hl
  refine lv_aload_n hx hb dX11_drawn_0 rfl (lv_at hl 0 rfl) ?_
  refine q_calli (q := (RX11, TX11, 14)) (As := []) (rest := []) X (k_isTold l D cs ad hj g  h0 h3) (cwV 0 X.2.2.2.2.1 gg_X11_drawn_X11_isTold rfl rfl rfl (by decide +kernel) ⟨Nat.le_of_ble_eq_true rfl, Nat.le_of_ble_eq_true rfl⟩) (by decide) h0 rfl hP hA hS rfl hl.1 rfl (Nat.le_of_ble_eq_true rfl) dX11_drawn_1 ⟨Nat.le_of_ble_eq_true rfl, Nat.le_of_ble_eq_true rfl⟩ (fun r_3 g_2 H locs hw_1 hP hS => ?_)
  obtain ⟨hw_1a, hw_1b⟩ := hw_1
  subst hw_1a
  rw [hw_1b] at hP
  refine lv_if_eq (tgt := 23) hx hb dX11_drawn_4 (by decide) (fun _ => ?_) (fun h => absurd h (by decide))
  refine lv_bipush (v := (-2)) hx hb dX11_drawn_23 (by decide) ?_
  exact q_iret X hP hS ⟨rfl, rfl⟩ dX11_drawn_25

theorem dX11_luck_0 : decode cX11_luck 0 = .ok (.aload_n 0, 1) := by decide +kernel
theorem dX11_luck_1 : decode cX11_luck 1 = .ok (.iload_n 3, 1) := by decide +kernel
theorem dX11_luck_2 : decode cX11_luck 2 = .ok (.invokevirtual 136, 3) := by decide +kernel
theorem dX11_luck_5 : decode cX11_luck 5 = .ok (.ifCond .eq 30, 3) := by decide +kernel
theorem dX11_luck_35 : decode cX11_luck 35 = .ok (.bipush (-2), 2) := by decide +kernel
theorem dX11_luck_37 : decode cX11_luck 37 = .ok (.ireturn, 1) := by decide +kernel
def vX11_luck : List Cond := .code yX11_luck cX11_luck 7 (some .int) :: ([.methodLink RX11 136 yX11_isIcicle, .instanceMethod yX11_isIcicle, .selects RX11 yX11_isIcicle yX11_isIcicle, .initialized RX11, .code yX11_isIcicle cX11_isIcicle 2 (some .boolean), .fieldLink RX11 19 "IcicleClock" "now" "LIcicleClock$Street;", .fieldLink RX11 160 "IcicleClock$Street" "icicles" "I"] ++ wsX110 ++ wsX60)
theorem iX11_luck_11 : ∀ w ∈ wsX110, w ∈ vX11_luck := fun _ h => List.mem_cons_of_mem _ (List.mem_append_left _ (List.mem_append_right _ h))
theorem iX11_luck_6 : ∀ w ∈ wsX60, w ∈ vX11_luck := fun _ h => List.mem_cons_of_mem _ (List.mem_append_right _ h)
set_option maxRecDepth 20000 in
theorem gg_X11_luck_X11_isIcicle : GoodIn vX11_luck (wsV RX11 136 RX11 yX11_isIcicle vX11_isIcicle) := goodIn_r _ [1, 2, 3, 4, 5, 6, 7, 8, 9, 10, 11, 12, 13, 14, 15, 16, 17, 18, 19, 20, 21, 22, 23, 24, 25, 26, 27, 28, 29, 30, 31, 32, 33, 34, 35, 36, 37, 38, 39] (by decide +kernel) (by decide +kernel)
set_option maxHeartbeats 4000000 in
set_option maxRecDepth 100000 in
theorem k_luck (l : Launch) (D : va_G) (cs : Nat → ClassId) (ad : Nat → Nat) (hj : wJ ad nW) (g : Nat → va_E) (vs : Int32) (vn : Int32) (vi : Int32) (vd : Int32) (h0 : g 0 = .inr (11, [.ref (ad 1), .ref (ad 3), .ref (ad 23), .ref (ad 43), .ref (ad 104), .ref (ad 105), .ref (ad 114), .ref (ad 116), .ref (ad 118), .ref (ad 120), .ref (ad 130), .ref (ad 140), .ref (ad 144), .ref (ad 190)])) (h3 : g 3 = .inr (6, [.int 0, .int 0, .int 0, .int 0, .int 0, .int 0, .int 0, .int 0, .ref (ad 4), .ref (ad 5), .ref (ad 6), .ref (ad 7), .ref (ad 8), .ref (ad 9), .ref (ad 10), .ref (ad 11), .ref (ad 12), .ref (ad 13)])) : cI l yX11_luck vX11_luck { frames := 1, cells := 0, slots := 0, locals := 21 } D cs ad nW [.ref (ad 0), .int vs, .int vn, .int vi, .int vd] g (fun r g2 => r = (-2) ∧ g2 = g) := by
  refine Met.start (cc := cX11_luck) (maxL := 7) (ret := (some .int)) RX11 rfl (by decide) rfl (Nat.le_of_ble_eq_true rfl) ?_
  intro p e s m below meth c ls X hP hl
  have hx := X.1
  have hb := X.2.1
  have hS : va_S (wA ad nW) s.heap s.heap [] := va_S.rf
  have hA : ∀ i, i < nW → wA ad nW (ad i) := fun i h => ⟨i, h, rfl⟩
  have hl : lv_has ls 7 [(0, .ref (ad 0)), (1, .int vs), (2, .int vn), (3, .int vi), (4, .int vd)] := hl
  refine lv_aload_n hx hb dX11_luck_0 rfl (lv_at hl 0 rfl) ?_
  refine lv_iload_n hx hb dX11_luck_1 rfl (lv_at hl 3 rfl) ?_
  refine q_calli (q := (RX11, TX11, 14)) (As := [.int vi]) (rest := []) X (k_isIcicle l D cs ad hj g vi h0 h3) (cwV 1 X.2.2.2.2.1 gg_X11_luck_X11_isIcicle rfl rfl rfl (by decide +kernel) ⟨Nat.le_of_ble_eq_true rfl, Nat.le_of_ble_eq_true rfl⟩) (by decide) h0 rfl hP hA hS rfl hl.1 rfl (Nat.le_of_ble_eq_true rfl) dX11_luck_2 ⟨Nat.le_of_ble_eq_true rfl, Nat.le_of_ble_eq_true rfl⟩ (fun r_3 g_2 H locs hw_1 hP hS => ?_)
  obtain ⟨hw_1a, hw_1b⟩ := hw_1
  subst hw_1a
  rw [hw_1b] at hP
  refine lv_if_eq (tgt := 35) hx hb dX11_luck_5 (by decide) (fun _ => ?_) (fun h => absurd h (by decide))
  refine lv_bipush (v := (-2)) hx hb dX11_luck_35 (by decide) ?_
  exact q_iret X hP hS ⟨rfl, rfl⟩ dX11_luck_37

theorem dX11_hung_0 : decode cX11_hung 0 = .ok (.aload_n 0, 1) := by decide +kernel
theorem dX11_hung_1 : decode cX11_hung 1 = .ok (.iload_n 1, 1) := by decide +kernel
theorem dX11_hung_2 : decode cX11_hung 2 = .ok (.invokevirtual 136, 3) := by decide +kernel
theorem dX11_hung_5 : decode cX11_hung 5 = .ok (.ifCond .eq 14, 3) := by decide +kernel
theorem dX11_hung_19 : decode cX11_hung 19 = .ok (.bipush (-2), 2) := by decide +kernel
theorem dX11_hung_21 : decode cX11_hung 21 = .ok (.ireturn, 1) := by decide +kernel
def vX11_hung : List Cond := .code yX11_hung cX11_hung 4 (some .int) :: ([.methodLink RX11 136 yX11_isIcicle, .instanceMethod yX11_isIcicle, .selects RX11 yX11_isIcicle yX11_isIcicle, .initialized RX11, .code yX11_isIcicle cX11_isIcicle 2 (some .boolean), .fieldLink RX11 19 "IcicleClock" "now" "LIcicleClock$Street;", .fieldLink RX11 160 "IcicleClock$Street" "icicles" "I"] ++ wsX110 ++ wsX60)
theorem iX11_hung_11 : ∀ w ∈ wsX110, w ∈ vX11_hung := fun _ h => List.mem_cons_of_mem _ (List.mem_append_left _ (List.mem_append_right _ h))
theorem iX11_hung_6 : ∀ w ∈ wsX60, w ∈ vX11_hung := fun _ h => List.mem_cons_of_mem _ (List.mem_append_right _ h)
set_option maxRecDepth 20000 in
theorem gg_X11_hung_X11_isIcicle : GoodIn vX11_hung (wsV RX11 136 RX11 yX11_isIcicle vX11_isIcicle) := goodIn_r _ [1, 2, 3, 4, 5, 6, 7, 8, 9, 10, 11, 12, 13, 14, 15, 16, 17, 18, 19, 20, 21, 22, 23, 24, 25, 26, 27, 28, 29, 30, 31, 32, 33, 34, 35, 36, 37, 38, 39] (by decide +kernel) (by decide +kernel)
set_option maxHeartbeats 4000000 in
set_option maxRecDepth 100000 in
theorem k_hung (l : Launch) (D : va_G) (cs : Nat → ClassId) (ad : Nat → Nat) (hj : wJ ad nW) (g : Nat → va_E) (vi : Int32) (vn : Int32) (h0 : g 0 = .inr (11, [.ref (ad 1), .ref (ad 3), .ref (ad 23), .ref (ad 43), .ref (ad 104), .ref (ad 105), .ref (ad 114), .ref (ad 116), .ref (ad 118), .ref (ad 120), .ref (ad 130), .ref (ad 140), .ref (ad 144), .ref (ad 190)])) (h3 : g 3 = .inr (6, [.int 0, .int 0, .int 0, .int 0, .int 0, .int 0, .int 0, .int 0, .ref (ad 4), .ref (ad 5), .ref (ad 6), .ref (ad 7), .ref (ad 8), .ref (ad 9), .ref (ad 10), .ref (ad 11), .ref (ad 12), .ref (ad 13)])) : cI l yX11_hung vX11_hung { frames := 1, cells := 0, slots := 0, locals := 21 } D cs ad nW [.ref (ad 0), .int vi, .int vn] g (fun r g2 => r = (-2) ∧ g2 = g) := by
  refine Met.start (cc := cX11_hung) (maxL := 4) (ret := (some .int)) RX11 rfl (by decide) rfl (Nat.le_of_ble_eq_true rfl) ?_
  intro p e s m below meth c ls X hP hl
  have hx := X.1
  have hb := X.2.1
  have hS : va_S (wA ad nW) s.heap s.heap [] := va_S.rf
  have hA : ∀ i, i < nW → wA ad nW (ad i) := fun i h => ⟨i, h, rfl⟩
  have hl : lv_has ls 4 [(0, .ref (ad 0)), (1, .int vi), (2, .int vn)] := hl
  refine lv_aload_n hx hb dX11_hung_0 rfl (lv_at hl 0 rfl) ?_
  refine lv_iload_n hx hb dX11_hung_1 rfl (lv_at hl 1 rfl) ?_
  refine q_calli (q := (RX11, TX11, 14)) (As := [.int vi]) (rest := []) X (k_isIcicle l D cs ad hj g vi h0 h3) (cwV 1 X.2.2.2.2.1 gg_X11_hung_X11_isIcicle rfl rfl rfl (by decide +kernel) ⟨Nat.le_of_ble_eq_true rfl, Nat.le_of_ble_eq_true rfl⟩) (by decide) h0 rfl hP hA hS rfl hl.1 rfl (Nat.le_of_ble_eq_true rfl) dX11_hung_2 ⟨Nat.le_of_ble_eq_true rfl, Nat.le_of_ble_eq_true rfl⟩ (fun r_3 g_2 H locs hw_1 hP hS => ?_)
  obtain ⟨hw_1a, hw_1b⟩ := hw_1
  subst hw_1a
  rw [hw_1b] at hP
  refine lv_if_eq (tgt := 19) hx hb dX11_hung_5 (by decide) (fun _ => ?_) (fun h => absurd h (by decide))
  refine lv_bipush (v := (-2)) hx hb dX11_hung_19 (by decide) ?_
  exact q_iret X hP hS ⟨rfl, rfl⟩ dX11_hung_21
