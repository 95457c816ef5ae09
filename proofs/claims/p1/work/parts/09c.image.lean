theorem dX11_street_0 : decode cX11_street 0 = .ok (.aload_n 0, 1) := by decide +kernel
theorem dX11_street_1 : decode cX11_street 1 = .ok (.getfield 12, 3) := by decide +kernel
theorem dX11_street_4 : decode cX11_street 4 = .ok (.aload_n 0, 1) := by decide +kernel
theorem dX11_street_5 : decode cX11_street 5 = .ok (.getfield 23, 3) := by decide +kernel
theorem dX11_street_8 : decode cX11_street 8 = .ok (.invokevirtual 101, 3) := by decide +kernel
theorem dX11_street_11 : decode cX11_street 11 = .ok (.ifCond .ne 6, 3) := by decide +kernel
theorem dX11_street_17 : decode cX11_street 17 = .ok (.aload_n 0, 1) := by decide +kernel
theorem dX11_street_18 : decode cX11_street 18 = .ok (.getfield 12, 3) := by decide +kernel
theorem dX11_street_21 : decode cX11_street 21 = .ok (.iconst 0, 1) := by decide +kernel
theorem dX11_street_22 : decode cX11_street 22 = .ok (.putfield 93, 3) := by decide +kernel
theorem dX11_street_25 : decode cX11_street 25 = .ok (.aload_n 0, 1) := by decide +kernel
theorem dX11_street_26 : decode cX11_street 26 = .ok (.getfield 19, 3) := by decide +kernel
theorem dX11_street_29 : decode cX11_street 29 = .ok (.aload_n 0, 1) := by decide +kernel
theorem dX11_street_30 : decode cX11_street 30 = .ok (.getfield 23, 3) := by decide +kernel
theorem dX11_street_33 : decode cX11_street 33 = .ok (.invokevirtual 105, 3) := by decide +kernel
theorem dX11_street_36 : decode cX11_street 36 = .ok (.aload_n 0, 1) := by decide +kernel
theorem dX11_street_37 : decode cX11_street 37 = .ok (.getfield 44, 3) := by decide +kernel
theorem dX11_street_40 : decode cX11_street 40 = .ok (.aload_n 0, 1) := by decide +kernel
theorem dX11_street_41 : decode cX11_street 41 = .ok (.getfield 19, 3) := by decide +kernel
theorem dX11_street_44 : decode cX11_street 44 = .ok (.invokevirtual 109, 3) := by decide +kernel
theorem dX11_street_47 : decode cX11_street 47 = .ok (.aload_n 0, 1) := by decide +kernel
theorem dX11_street_48 : decode cX11_street 48 = .ok (.getfield 19, 3) := by decide +kernel
theorem dX11_street_51 : decode cX11_street 51 = .ok (.getfield 112, 3) := by decide +kernel
theorem dX11_street_54 : decode cX11_street 54 = .ok (.ireturn, 1) := by decide +kernel
def vX11_street : List Cond := .code yX11_street cX11_street 1 (some .int) :: ([.fieldLink RX11 12 "IcicleClock" "tape" "LIcicleClock$Tape;", .fieldLink RX11 23 "IcicleClock" "draft" "LIcicleClock$Street;", .methodLink RX11 101 yX7_readInto, .instanceMethod yX7_readInto, .selects RX7 yX7_readInto yX7_readInto, .initialized RX7, .code yX7_readInto cX7_readInto 3 (some .boolean), .methodLink RX7 22 yX6_clear, .instanceMethod yX6_clear, .selects RX6 yX6_clear yX6_clear, .initialized RX6, .code yX6_clear cX6_clear 1 none, .fieldLink RX6 47 "IcicleClock$Street" "slamTakes" "I", .fieldLink RX6 51 "IcicleClock$Street" "bellTakes" "I", .fieldLink RX6 54 "IcicleClock$Street" "odds" "I", .fieldLink RX6 57 "IcicleClock$Street" "days" "I", .fieldLink RX6 60 "IcicleClock$Street" "eaves" "I", .fieldLink RX6 63 "IcicleClock$Street" "icicles" "I", .fieldLink RX6 66 "IcicleClock$Street" "works" "I", .fieldLink RX6 69 "IcicleClock$Street" "lines" "I", .fieldLink RX6 43 "IcicleClock$Street" "acts" "LIcicleClock$Acts;", .methodLink RX6 72 yX0_clear, .instanceMethod yX0_clear, .selects RX0 yX0_clear yX0_clear, .initialized RX0, .code yX0_clear cX0_clear 2 none, .fieldLink RX0 26 "IcicleClock$Acts" "done" "I", .fieldLink RX7 27 "IcicleClock$Tape" "fault" "I", .fieldLink RX7 15 "IcicleClock$Tape" "faultPlace" "I", .fieldLink RX7 30 "IcicleClock$Tape" "stop" "I", .methodLink RX7 33 yX7_advance, .instanceMethod yX7_advance, .selects RX7 yX7_advance yX7_advance, .code yX7_advance cX7_advance 2 none, .fieldLink RX7 159 "IcicleClock$Tape" "start" "I", .fieldLink RX7 19 "IcicleClock$Tape" "filled" "I", .fieldLink RX7 36 "IcicleClock$Tape" "kind" "I", .fieldLink RX11 93 "IcicleClock$Tape" "filled" "I", .fieldLink RX11 19 "IcicleClock" "now" "LIcicleClock$Street;", .methodLink RX11 105 yX6_copyFrom, .instanceMethod yX6_copyFrom, .selects RX6 yX6_copyFrom yX6_copyFrom, .code yX6_copyFrom cX6_copyFrom 3 none, .fieldLink RX6 9 "IcicleClock$Street" "thaw" "[I", .methodLink RX6 75 arraycopyName, .native arraycopyName, .static arraycopyName, .initialized "java/lang/System", .fieldLink RX6 19 "IcicleClock$Street" "sun" "[I", .fieldLink RX6 22 "IcicleClock$Street" "eaveOf" "[I", .fieldLink RX6 25 "IcicleClock$Street" "lengthTold" "[I", .fieldLink RX6 28 "IcicleClock$Street" "lengthHung" "[I", .fieldLink RX6 31 "IcicleClock$Street" "hourOf" "[I", .fieldLink RX6 34 "IcicleClock$Street" "dueHour" "[I", .fieldLink RX6 37 "IcicleClock$Street" "dueDay" "[I", .methodLink RX6 81 yX0_copyFrom, .instanceMethod yX0_copyFrom, .selects RX0 yX0_copyFrom yX0_copyFrom, .code yX0_copyFrom cX0_copyFrom 3 none, .methodLink RX0 38 yX0_clear, .fieldLink RX6 15 "IcicleClock$Street" "isThaw" "[Z", .fieldLink RX11 44 "IcicleClock" "winter" "LIcicleClock$Winter;", .methodLink RX11 109 yX10_passOver, .instanceMethod yX10_passOver, .selects RX10 yX10_passOver yX10_passOver, .initialized RX10, .code yX10_passOver cX10_passOver 3 none, .fieldLink RX10 22 "IcicleClock$Street" "icicles" "I", .fieldLink RX11 112 "IcicleClock$Street" "lines" "I"] ++ wsX110 ++ wsX60 ++ wsX00 ++ wsX70)
theorem iX11_street_11 : ∀ w ∈ wsX110, w ∈ vX11_street := fun _ h => List.mem_cons_of_mem _ (List.mem_append_left _ (List.mem_append_left _ (List.mem_append_left _ (List.mem_append_right _ h))))
theorem iX11_street_6 : ∀ w ∈ wsX60, w ∈ vX11_street := fun _ h => List.mem_cons_of_mem _ (List.mem_append_left _ (List.mem_append_left _ (List.mem_append_right _ h)))
theorem iX11_street_0 : ∀ w ∈ wsX00, w ∈ vX11_street := fun _ h => List.mem_cons_of_mem _ (List.mem_append_left _ (List.mem_append_right _ h))
theorem iX11_street_7 : ∀ w ∈ wsX70, w ∈ vX11_street := fun _ h => List.mem_cons_of_mem _ (List.mem_append_right _ h)
set_option maxRecDepth 20000 in
theorem gg_X11_street_X7_readInto : GoodIn vX11_street (wsV RX11 101 RX7 yX7_readInto vX7_readInto) := goodIn_r _ [3, 4, 5, 6, 7, 8, 9, 10, 11, 12, 13, 14, 15, 16, 17, 18, 19, 20, 21, 22, 23, 24, 25, 26, 27, 28, 29, 30, 31, 32, 33, 6, 34, 35, 36, 37, 84, 85, 86, 87, 88, 89, 90, 91, 92, 93, 94, 95, 96, 97, 98, 99, 100, 101, 102, 103, 104, 105, 106, 107, 108, 109, 110, 111, 112, 113] (by decide +kernel) (by decide +kernel)
set_option maxRecDepth 20000 in
theorem gg_X11_street_X6_copyFrom : GoodIn vX11_street (wsV RX11 105 RX6 yX6_copyFrom vX6_copyFrom) := goodIn_r _ [40, 41, 42, 11, 43, 13, 14, 15, 16, 17, 18, 19, 20, 44, 45, 46, 47, 48, 49, 50, 51, 52, 53, 54, 55, 21, 56, 57, 58, 25, 59, 60, 23, 24, 26, 27, 61, 84, 85, 86, 87, 88, 89, 90, 91, 92, 93, 94, 95, 96, 97, 98, 99, 100, 101, 102, 103, 104, 105, 106] (by decide +kernel) (by decide +kernel)
set_option maxRecDepth 20000 in
theorem gg_X11_street_X10_passOver : GoodIn vX11_street (wsV RX11 109 RX10 yX10_passOver vX10_passOver) := goodIn_r _ [63, 64, 65, 66, 67, 68, 84, 85, 86, 87, 88, 89, 90, 91, 92, 93, 94, 95, 96, 97, 98, 99, 100, 101] (by decide +kernel) (by decide +kernel)
set_option maxHeartbeats 4000000 in
set_option maxRecDepth 100000 in
theorem k_street (l : Launch) (D : va_G) (cs : Nat → ClassId) (ad : Nat → Nat) (hj : wJ ad nW) (g : Nat → va_E) (h0 : g 0 = .inr (11, [.ref (ad 1), .ref (ad 3), .ref (ad 23), .ref (ad 43), .ref (ad 104), .ref (ad 105), .ref (ad 114), .ref (ad 116), .ref (ad 118), .ref (ad 120), .ref (ad 130), .ref (ad 140), .ref (ad 144), .ref (ad 190)])) (h1 : g 1 = .inr (7, [.ref (ad 2), .int 0, .int 0, .int (-1), .int 0, .int 0, .int 0])) (h3 : g 3 = .inr (6, [.int 0, .int 0, .int 0, .int 0, .int 0, .int 0, .int 0, .int 0, .ref (ad 4), .ref (ad 5), .ref (ad 6), .ref (ad 7), .ref (ad 8), .ref (ad 9), .ref (ad 10), .ref (ad 11), .ref (ad 12), .ref (ad 13)])) (h13 : g 13 = .inr (0, [.int 0, .ref (ad 14), .ref (ad 15), .ref (ad 16), .ref (ad 22)])) (h23 : g 23 = .inr (6, [.int 0, .int 0, .int 0, .int 0, .int 0, .int 0, .int 0, .int 0, .ref (ad 24), .ref (ad 25), .ref (ad 26), .ref (ad 27), .ref (ad 28), .ref (ad 29), .ref (ad 30), .ref (ad 31), .ref (ad 32), .ref (ad 33)])) (h33 : g 33 = .inr (0, [.int 0, .ref (ad 34), .ref (ad 35), .ref (ad 36), .ref (ad 42)])) (h4 : g 4 = .inl (cs 1, 14, .inl (fun _ => 0))) (h5 : g 5 = .inl (cs 3, 14, .inl (fun _ => 0))) (h6 : g 6 = .inl (cs 1, 5, .inl (fun _ => 0))) (h7 : g 7 = .inl (cs 1, 8, .inl (fun _ => 0))) (h8 : g 8 = .inl (cs 1, 8, .inl (fun _ => 0))) (h9 : g 9 = .inl (cs 1, 8, .inl (fun _ => 0))) (h10 : g 10 = .inl (cs 1, 8, .inl (fun _ => 0))) (h11 : g 11 = .inl (cs 1, 6, .inl (fun _ => 0))) (h12 : g 12 = .inl (cs 1, 6, .inl (fun _ => 0))) (h24 : g 24 = .inl (cs 1, 14, .inl (fun _ => 0))) (h25 : g 25 = .inl (cs 3, 14, .inl (fun _ => 0))) (h26 : g 26 = .inl (cs 1, 5, .inl (fun _ => 0))) (h27 : g 27 = .inl (cs 1, 8, .inl (fun _ => 0))) (h28 : g 28 = .inl (cs 1, 8, .inl (fun _ => 0))) (h29 : g 29 = .inl (cs 1, 8, .inl (fun _ => 0))) (h30 : g 30 = .inl (cs 1, 8, .inl (fun _ => 0))) (h31 : g 31 = .inl (cs 1, 6, .inl (fun _ => 0))) (h32 : g 32 = .inl (cs 1, 6, .inl (fun _ => 0))) (h114 : g 114 = .inr (10, [.int 0, .int (-1), .int (-1), .ref (ad 115)])) : cI l yX11_street vX11_street { frames := 3, cells := 0, slots := 0, locals := 65 } D cs ad nW [.ref (ad 0)] g (fun r g2 => r = 0) := by
  refine Met.start (cc := cX11_street) (maxL := 1) (ret := (some .int)) RX11 rfl (by decide) rfl (Nat.le_of_ble_eq_true rfl) ?_
  intro p e s m below meth c ls X hP hl
  have hx := X.1
  have hb := X.2.1
  have hS : va_S (wA ad nW) s.heap s.heap [] := va_S.rf
  have hA : ∀ i, i < nW → wA ad nW (ad i) := fun i h => ⟨i, h, rfl⟩
  have hl : lv_has ls 1 [(0, .ref (ad 0))] := hl
  refine lv_aload_n hx hb dX11_street_0 rfl (lv_at hl 0 rfl) ?_
  refine q_get X iX11_street_11 hP (by decide) h0 rfl 0 (by decide) (List.mem_of_getElem? (i := 1) rfl) (v := .ref (ad 1)) rfl dX11_street_1 ?_
  refine lv_aload_n hx hb dX11_street_4 rfl (lv_at hl 0 rfl) ?_
  refine q_get X iX11_street_11 hP (by decide) h0 rfl 2 (by decide) (List.mem_of_getElem? (i := 2) rfl) (v := .ref (ad 23)) rfl dX11_street_5 ?_
  refine q_calli (q := (RX7, TX7, 7)) (As := [.ref (ad 23)]) (rest := []) X (k_readInto l D cs ad hj g  h1 h23 h33) (cwV 1 X.2.2.2.2.1 gg_X11_street_X7_readInto rfl rfl rfl (by decide +kernel) ⟨Nat.le_of_ble_eq_true rfl, Nat.le_of_ble_eq_true rfl⟩) (by decide) h1 rfl hP hA hS rfl hl.1 rfl (Nat.le_of_ble_eq_true rfl) dX11_street_8 ⟨Nat.le_of_ble_eq_true rfl, Nat.le_of_ble_eq_true rfl⟩ (fun r_3 g_2 H locs hw_1 hP hS => ?_)
  obtain ⟨hw_1r, h_4, h_5, hf_6⟩ := hw_1
  subst hw_1r
  have h_7 : g_2 0 = .inr (11, [.ref (ad 1), .ref (ad 3), .ref (ad 23), .ref (ad 43), .ref (ad 104), .ref (ad 105), .ref (ad 114), .ref (ad 116), .ref (ad 118), .ref (ad 120), .ref (ad 130), .ref (ad 140), .ref (ad 144), .ref (ad 190)]) := (hf_6 0 (by decide)).trans h0
  have h_8 : g_2 3 = .inr (6, [.int 0, .int 0, .int 0, .int 0, .int 0, .int 0, .int 0, .int 0, .ref (ad 4), .ref (ad 5), .ref (ad 6), .ref (ad 7), .ref (ad 8), .ref (ad 9), .ref (ad 10), .ref (ad 11), .ref (ad 12), .ref (ad 13)]) := (hf_6 3 (by decide)).trans h3
  have h_9 : g_2 13 = .inr (0, [.int 0, .ref (ad 14), .ref (ad 15), .ref (ad 16), .ref (ad 22)]) := (hf_6 13 (by decide)).trans h13
  have h_10 : g_2 33 = .inr (0, [.int 0, .ref (ad 34), .ref (ad 35), .ref (ad 36), .ref (ad 42)]) := (hf_6 33 (by decide)).trans h33
  have h_11 : g_2 4 = .inl (cs 1, 14, .inl (fun _ => 0)) := (hf_6 4 (by decide)).trans h4
  have h_12 : g_2 5 = .inl (cs 3, 14, .inl (fun _ => 0)) := (hf_6 5 (by decide)).trans h5
  have h_13 : g_2 6 = .inl (cs 1, 5, .inl (fun _ => 0)) := (hf_6 6 (by decide)).trans h6
  have h_14 : g_2 7 = .inl (cs 1, 8, .inl (fun _ => 0)) := (hf_6 7 (by decide)).trans h7
  have h_15 : g_2 8 = .inl (cs 1, 8, .inl (fun _ => 0)) := (hf_6 8 (by decide)).trans h8
  have h_16 : g_2 9 = .inl (cs 1, 8, .inl (fun _ => 0)) := (hf_6 9 (by decide)).trans h9
  have h_17 : g_2 10 = .inl (cs 1, 8, .inl (fun _ => 0)) := (hf_6 10 (by decide)).trans h10
  have h_18 : g_2 11 = .inl (cs 1, 6, .inl (fun _ => 0)) := (hf_6 11 (by decide)).trans h11
  have h_19 : g_2 12 = .inl (cs 1, 6, .inl (fun _ => 0)) := (hf_6 12 (by decide)).trans h12
  have h_20 : g_2 24 = .inl (cs 1, 14, .inl (fun _ => 0)) := (hf_6 24 (by decide)).trans h24
  have h_21 : g_2 25 = .inl (cs 3, 14, .inl (fun _ => 0)) := (hf_6 25 (by decide)).trans h25
  have h_22 : g_2 26 = .inl (cs 1, 5, .inl (fun _ => 0)) := (hf_6 26 (by decide)).trans h26
  have h_23 : g_2 27 = .inl (cs 1, 8, .inl (fun _ => 0)) := (hf_6 27 (by decide)).trans h27
  have h_24 : g_2 28 = .inl (cs 1, 8, .inl (fun _ => 0)) := (hf_6 28 (by decide)).trans h28
  have h_25 : g_2 29 = .inl (cs 1, 8, .inl (fun _ => 0)) := (hf_6 29 (by decide)).trans h29
  have h_26 : g_2 30 = .inl (cs 1, 8, .inl (fun _ => 0)) := (hf_6 30 (by decide)).trans h30
  have h_27 : g_2 31 = .inl (cs 1, 6, .inl (fun _ => 0)) := (hf_6 31 (by decide)).trans h31
  have h_28 : g_2 32 = .inl (cs 1, 6, .inl (fun _ => 0)) := (hf_6 32 (by decide)).trans h32
  have h_29 : g_2 114 = .inr (10, [.int 0, .int (-1), .int (-1), .ref (ad 115)]) := (hf_6 114 (by decide)).trans h114
  refine lv_if_ne (tgt := 17) hx hb dX11_street_11 (by decide) (fun _ => ?_) (fun h => absurd h (by decide))
  refine lv_aload_n hx hb dX11_street_17 rfl (lv_at hl 0 rfl) ?_
  refine q_get X iX11_street_11 hP (by decide) h_7 rfl 0 (by decide) (List.mem_of_getElem? (i := 1) rfl) (v := .ref (ad 1)) rfl dX11_street_18 ?_
  refine lv_iconst (v := 0) hx hb dX11_street_21 (by decide) ?_
  refine q_put X iX11_street_7 tyX7 tyX7_ok nmX7 hP hj hA hS (by decide) h_4 rfl 1 (by decide) (List.mem_of_getElem? (i := 38) rfl) rfl (ty := .int) (v := .int 0) (by decide +kernel) rfl rfl (Nat.le_of_ble_eq_true rfl) dX11_street_22 (fun H locs hP hS => ?_)
  generalize eg_30 : va_up g_2 1 _ = g_30 at hP
  have h_31 : g_30 0 = .inr (11, [.ref (ad 1), .ref (ad 3), .ref (ad 23), .ref (ad 43), .ref (ad 104), .ref (ad 105), .ref (ad 114), .ref (ad 116), .ref (ad 118), .ref (ad 120), .ref (ad 130), .ref (ad 140), .ref (ad 144), .ref (ad 190)]) := by rw [← eg_30, va_up_ne _ _ (by decide)]; exact h_7
  have h_32 : g_30 1 = .inr (7, [.ref (ad 2), .int 0, .int 0, .int (-1), .int 0, .int 0, .int 0]) := by rw [← eg_30]; exact va_up_self _ _ _
  have h_33 : g_30 3 = .inr (6, [.int 0, .int 0, .int 0, .int 0, .int 0, .int 0, .int 0, .int 0, .ref (ad 4), .ref (ad 5), .ref (ad 6), .ref (ad 7), .ref (ad 8), .ref (ad 9), .ref (ad 10), .ref (ad 11), .ref (ad 12), .ref (ad 13)]) := by rw [← eg_30, va_up_ne _ _ (by decide)]; exact h_8
  have h_34 : g_30 13 = .inr (0, [.int 0, .ref (ad 14), .ref (ad 15), .ref (ad 16), .ref (ad 22)]) := by rw [← eg_30, va_up_ne _ _ (by decide)]; exact h_9
  have h_35 : g_30 23 = .inr (6, [.int 0, .int 0, .int 0, .int 0, .int 0, .int 0, .int 0, .int 0, .ref (ad 24), .ref (ad 25), .ref (ad 26), .ref (ad 27), .ref (ad 28), .ref (ad 29), .ref (ad 30), .ref (ad 31), .ref (ad 32), .ref (ad 33)]) := by rw [← eg_30, va_up_ne _ _ (by decide)]; exact h_5
  have h_36 : g_30 33 = .inr (0, [.int 0, .ref (ad 34), .ref (ad 35), .ref (ad 36), .ref (ad 42)]) := by rw [← eg_30, va_up_ne _ _ (by decide)]; exact h_10
  have h_37 : g_30 4 = .inl (cs 1, 14, .inl (fun _ => 0)) := by rw [← eg_30, va_up_ne _ _ (by decide)]; exact h_11
  have h_38 : g_30 5 = .inl (cs 3, 14, .inl (fun _ => 0)) := by rw [← eg_30, va_up_ne _ _ (by decide)]; exact h_12
  have h_39 : g_30 6 = .inl (cs 1, 5, .inl (fun _ => 0)) := by rw [← eg_30, va_up_ne _ _ (by decide)]; exact h_13
  have h_40 : g_30 7 = .inl (cs 1, 8, .inl (fun _ => 0)) := by rw [← eg_30, va_up_ne _ _ (by decide)]; exact h_14
  have h_41 : g_30 8 = .inl (cs 1, 8, .inl (fun _ => 0)) := by rw [← eg_30, va_up_ne _ _ (by decide)]; exact h_15
  have h_42 : g_30 9 = .inl (cs 1, 8, .inl (fun _ => 0)) := by rw [← eg_30, va_up_ne _ _ (by decide)]; exact h_16
  have h_43 : g_30 10 = .inl (cs 1, 8, .inl (fun _ => 0)) := by rw [← eg_30, va_up_ne _ _ (by decide)]; exact h_17
  have h_44 : g_30 11 = .inl (cs 1, 6, .inl (fun _ => 0)) := by rw [← eg_30, va_up_ne _ _ (by decide)]; exact h_18
  have h_45 : g_30 12 = .inl (cs 1, 6, .inl (fun _ => 0)) := by rw [← eg_30, va_up_ne _ _ (by decide)]; exact h_19
  have h_46 : g_30 24 = .inl (cs 1, 14, .inl (fun _ => 0)) := by rw [← eg_30, va_up_ne _ _ (by decide)]; exact h_20
  have h_47 : g_30 25 = .inl (cs 3, 14, .inl (fun _ => 0)) := by rw [← eg_30, va_up_ne _ _ (by decide)]; exact h_21
  have h_48 : g_30 26 = .inl (cs 1, 5, .inl (fun _ => 0)) := by rw [← eg_30, va_up_ne _ _ (by decide)]; exact h_22
  have h_49 : g_30 27 = .inl (cs 1, 8, .inl (fun _ => 0)) := by rw [← eg_30, va_up_ne _ _ (by decide)]; exact h_23
  have h_50 : g_30 28 = .inl (cs 1, 8, .inl (fun _ => 0)) := by rw [← eg_30, va_up_ne _ _ (by decide)]; exact h_24
  have h_51 : g_30 29 = .inl (cs 1, 8, .inl (fun _ => 0)) := by rw [← eg_30, va_up_ne _ _ (by decide)]; exact h_25
  have h_52 : g_30 30 = .inl (cs 1, 8, .inl (fun _ => 0)) := by rw [← eg_30, va_up_ne _ _ (by decide)]; exact h_26
  have h_53 : g_30 31 = .inl (cs 1, 6, .inl (fun _ => 0)) := by rw [← eg_30, va_up_ne _ _ (by decide)]; exact h_27
  have h_54 : g_30 32 = .inl (cs 1, 6, .inl (fun _ => 0)) := by rw [← eg_30, va_up_ne _ _ (by decide)]; exact h_28
  have h_55 : g_30 114 = .inr (10, [.int 0, .int (-1), .int (-1), .ref (ad 115)]) := by rw [← eg_30, va_up_ne _ _ (by decide)]; exact h_29
  refine lv_aload_n hx hb dX11_street_25 rfl (lv_at hl 0 rfl) ?_
  refine q_get X iX11_street_11 hP (by decide) h_31 rfl 1 (by decide) (List.mem_of_getElem? (i := 39) rfl) (v := .ref (ad 3)) rfl dX11_street_26 ?_
  refine lv_aload_n hx hb dX11_street_29 rfl (lv_at hl 0 rfl) ?_
  refine q_get X iX11_street_11 hP (by decide) h_31 rfl 2 (by decide) (List.mem_of_getElem? (i := 2) rfl) (v := .ref (ad 23)) rfl dX11_street_30 ?_
  refine q_callv (q := (RX6, TX6, 18)) (As := [.ref (ad 23)]) (rest := []) X (k_copy3 l D cs ad hj g_30  h_33 h_35 h_37 h_38 h_39 h_40 h_41 h_42 h_43 h_44 h_45 h_46 h_47 h_48 h_49 h_50 h_51 h_52 h_53 h_54 h_34 h_36) (cwV 1 X.2.2.2.2.1 gg_X11_street_X6_copyFrom rfl rfl rfl (by decide +kernel) ⟨Nat.le_of_ble_eq_true rfl, Nat.le_of_ble_eq_true rfl⟩) (by decide) h_33 rfl hP hA hS rfl hl.1 rfl (Nat.le_of_ble_eq_true rfl) dX11_street_33 ⟨Nat.le_of_ble_eq_true rfl, Nat.le_of_ble_eq_true rfl⟩ (fun g_57 H locs hw_56 hP hS => ?_)
  obtain ⟨h_59, hf_60⟩ := hw_56
  have h_61 : g_57 0 = .inr (11, [.ref (ad 1), .ref (ad 3), .ref (ad 23), .ref (ad 43), .ref (ad 104), .ref (ad 105), .ref (ad 114), .ref (ad 116), .ref (ad 118), .ref (ad 120), .ref (ad 130), .ref (ad 140), .ref (ad 144), .ref (ad 190)]) := (hf_60 0 (by decide)).trans h_31
  have h_62 : g_57 1 = .inr (7, [.ref (ad 2), .int 0, .int 0, .int (-1), .int 0, .int 0, .int 0]) := (hf_60 1 (by decide)).trans h_32
  have h_63 : g_57 23 = .inr (6, [.int 0, .int 0, .int 0, .int 0, .int 0, .int 0, .int 0, .int 0, .ref (ad 24), .ref (ad 25), .ref (ad 26), .ref (ad 27), .ref (ad 28), .ref (ad 29), .ref (ad 30), .ref (ad 31), .ref (ad 32), .ref (ad 33)]) := (hf_60 23 (by decide)).trans h_35
  have h_64 : g_57 33 = .inr (0, [.int 0, .ref (ad 34), .ref (ad 35), .ref (ad 36), .ref (ad 42)]) := (hf_60 33 (by decide)).trans h_36
  have h_65 : g_57 24 = .inl (cs 1, 14, .inl (fun _ => 0)) := (hf_60 24 (by decide)).trans h_46
  have h_66 : g_57 25 = .inl (cs 3, 14, .inl (fun _ => 0)) := (hf_60 25 (by decide)).trans h_47
  have h_67 : g_57 26 = .inl (cs 1, 5, .inl (fun _ => 0)) := (hf_60 26 (by decide)).trans h_48
  have h_68 : g_57 27 = .inl (cs 1, 8, .inl (fun _ => 0)) := (hf_60 27 (by decide)).trans h_49
  have h_69 : g_57 28 = .inl (cs 1, 8, .inl (fun _ => 0)) := (hf_60 28 (by decide)).trans h_50
  have h_70 : g_57 29 = .inl (cs 1, 8, .inl (fun _ => 0)) := (hf_60 29 (by decide)).trans h_51
  have h_71 : g_57 30 = .inl (cs 1, 8, .inl (fun _ => 0)) := (hf_60 30 (by decide)).trans h_52
  have h_72 : g_57 31 = .inl (cs 1, 6, .inl (fun _ => 0)) := (hf_60 31 (by decide)).trans h_53
  have h_73 : g_57 32 = .inl (cs 1, 6, .inl (fun _ => 0)) := (hf_60 32 (by decide)).trans h_54
  have h_74 : g_57 114 = .inr (10, [.int 0, .int (-1), .int (-1), .ref (ad 115)]) := (hf_60 114 (by decide)).trans h_55
  refine lv_aload_n hx hb dX11_street_36 rfl (lv_at hl 0 rfl) ?_
  refine q_get X iX11_street_11 hP (by decide) h_61 rfl 6 (by decide) (List.mem_of_getElem? (i := 62) rfl) (v := .ref (ad 114)) rfl dX11_street_37 ?_
  refine lv_aload_n hx hb dX11_street_40 rfl (lv_at hl 0 rfl) ?_
  refine q_get X iX11_street_11 hP (by decide) h_61 rfl 1 (by decide) (List.mem_of_getElem? (i := 39) rfl) (v := .ref (ad 3)) rfl dX11_street_41 ?_
  refine q_callv (q := (RX10, TX10, 4)) (As := [.ref (ad 3)]) (rest := []) X (k_passOver l D cs ad hj g_57  h_74 h_59) (cwV 1 X.2.2.2.2.1 gg_X11_street_X10_passOver rfl rfl rfl (by decide +kernel) ⟨Nat.le_of_ble_eq_true rfl, Nat.le_of_ble_eq_true rfl⟩) (by decide) h_74 rfl hP hA hS rfl hl.1 rfl (Nat.le_of_ble_eq_true rfl) dX11_street_44 ⟨Nat.le_of_ble_eq_true rfl, Nat.le_of_ble_eq_true rfl⟩ (fun g_76 H locs hw_75 hP hS => ?_)
  rw [hw_75] at hP
  refine lv_aload_n hx hb dX11_street_47 rfl (lv_at hl 0 rfl) ?_
  refine q_get X iX11_street_11 hP (by decide) h_61 rfl 1 (by decide) (List.mem_of_getElem? (i := 39) rfl) (v := .ref (ad 3)) rfl dX11_street_48 ?_
  refine q_get X iX11_street_6 hP (by decide) h_59 rfl 7 (by decide) (List.mem_of_getElem? (i := 69) rfl) (v := .int 0) rfl dX11_street_51 ?_
  exact q_iret X hP hS rfl dX11_street_54

theorem dX11_image_0 : decode cX11_image 0 = .ok (.iload_n 1, 1) := by decide +kernel
theorem dX11_image_1 : decode cX11_image 1 = .ok (.ifCond .lt 8, 3) := by decide +kernel
theorem dX11_image_9 : decode cX11_image 9 = .ok (.bipush (-2), 2) := by decide +kernel
theorem dX11_image_11 : decode cX11_image 11 = .ok (.ireturn, 1) := by decide +kernel
theorem dX11_image_4 : decode cX11_image 4 = .ok (.iload_n 1, 1) := by decide +kernel
theorem dX11_image_5 : decode cX11_image 5 = .ok (.iconst 3, 1) := by decide +kernel
theorem dX11_image_6 : decode cX11_image 6 = .ok (.if_icmp .lt 6, 3) := by decide +kernel
theorem dX11_image_12 : decode cX11_image 12 = .ok (.aload_n 0, 1) := by decide +kernel
theorem dX11_image_13 : decode cX11_image 13 = .ok (.getfield 26, 3) := by decide +kernel
theorem dX11_image_16 : decode cX11_image 16 = .ok (.iload_n 1, 1) := by decide +kernel
theorem dX11_image_17 : decode cX11_image 17 = .ok (.aaload, 1) := by decide +kernel
theorem dX11_image_18 : decode cX11_image 18 = .ok (.aload_n 0, 1) := by decide +kernel
theorem dX11_image_19 : decode cX11_image 19 = .ok (.getfield 19, 3) := by decide +kernel
theorem dX11_image_22 : decode cX11_image 22 = .ok (.invokevirtual 105, 3) := by decide +kernel
theorem dX11_image_25 : decode cX11_image 25 = .ok (.aload_n 0, 1) := by decide +kernel
theorem dX11_image_26 : decode cX11_image 26 = .ok (.getfield 30, 3) := by decide +kernel
theorem dX11_image_29 : decode cX11_image 29 = .ok (.iload_n 1, 1) := by decide +kernel
theorem dX11_image_30 : decode cX11_image 30 = .ok (.iconst 1, 1) := by decide +kernel
theorem dX11_image_31 : decode cX11_image 31 = .ok (.bastore, 1) := by decide +kernel
theorem dX11_image_32 : decode cX11_image 32 = .ok (.iconst 0, 1) := by decide +kernel
theorem dX11_image_33 : decode cX11_image 33 = .ok (.ireturn, 1) := by decide +kernel
def vX11_image : List Cond := .code yX11_image cX11_image 2 (some .int) :: ([.fieldLink RX11 26 "IcicleClock" "images" "[LIcicleClock$Street;", .fieldLink RX11 19 "IcicleClock" "now" "LIcicleClock$Street;", .methodLink RX11 105 yX6_copyFrom, .instanceMethod yX6_copyFrom, .selects RX6 yX6_copyFrom yX6_copyFrom, .initialized RX6, .code yX6_copyFrom cX6_copyFrom 3 none, .fieldLink RX6 47 "IcicleClock$Street" "slamTakes" "I", .fieldLink RX6 51 "IcicleClock$Street" "bellTakes" "I", .fieldLink RX6 54 "IcicleClock$Street" "odds" "I", .fieldLink RX6 57 "IcicleClock$Street" "days" "I", .fieldLink RX6 60 "IcicleClock$Street" "eaves" "I", .fieldLink RX6 63 "IcicleClock$Street" "icicles" "I", .fieldLink RX6 66 "IcicleClock$Street" "works" "I", .fieldLink RX6 69 "IcicleClock$Street" "lines" "I", .fieldLink RX6 9 "IcicleClock$Street" "thaw" "[I", .methodLink RX6 75 arraycopyName, .native arraycopyName, .static arraycopyName, .initialized "java/lang/System", .fieldLink RX6 19 "IcicleClock$Street" "sun" "[I", .fieldLink RX6 22 "IcicleClock$Street" "eaveOf" "[I", .fieldLink RX6 25 "IcicleClock$Street" "lengthTold" "[I", .fieldLink RX6 28 "IcicleClock$Street" "lengthHung" "[I", .fieldLink RX6 31 "IcicleClock$Street" "hourOf" "[I", .fieldLink RX6 34 "IcicleClock$Street" "dueHour" "[I", .fieldLink RX6 37 "IcicleClock$Street" "dueDay" "[I", .fieldLink RX6 43 "IcicleClock$Street" "acts" "LIcicleClock$Acts;", .methodLink RX6 81 yX0_copyFrom, .instanceMethod yX0_copyFrom, .selects RX0 yX0_copyFrom yX0_copyFrom, .initialized RX0, .code yX0_copyFrom cX0_copyFrom 3 none, .methodLink RX0 38 yX0_clear, .instanceMethod yX0_clear, .selects RX0 yX0_clear yX0_clear, .code yX0_clear cX0_clear 2 none, .fieldLink RX0 26 "IcicleClock$Acts" "done" "I", .fieldLink RX6 15 "IcicleClock$Street" "isThaw" "[Z", .fieldLink RX11 30 "IcicleClock" "kept" "[Z"] ++ wsX110 ++ wsX60 ++ wsX00)
theorem iX11_image_11 : ∀ w ∈ wsX110, w ∈ vX11_image := fun _ h => List.mem_cons_of_mem _ (List.mem_append_left _ (List.mem_append_left _ (List.mem_append_right _ h)))
theorem iX11_image_6 : ∀ w ∈ wsX60, w ∈ vX11_image := fun _ h => List.mem_cons_of_mem _ (List.mem_append_left _ (List.mem_append_right _ h))
theorem iX11_image_0 : ∀ w ∈ wsX00, w ∈ vX11_image := fun _ h => List.mem_cons_of_mem _ (List.mem_append_right _ h)
set_option maxRecDepth 20000 in
theorem gg_X11_image_X6_copyFrom : GoodIn vX11_image (wsV RX11 105 RX6 yX6_copyFrom vX6_copyFrom) := goodIn_r _ [3, 4, 5, 6, 7, 8, 9, 10, 11, 12, 13, 14, 15, 16, 17, 18, 19, 20, 21, 22, 23, 24, 25, 26, 27, 28, 29, 30, 31, 32, 33, 34, 35, 36, 37, 38, 39, 55, 56, 57, 58, 59, 60, 61, 62, 63, 64, 65, 66, 67, 68, 69, 70, 71, 72, 73, 74, 75, 76, 77] (by decide +kernel) (by decide +kernel)
set_option maxHeartbeats 4000000 in
set_option maxRecDepth 100000 in
theorem k_image (l : Launch) (D : va_G) (cs : Nat → ClassId) (ad : Nat → Nat) (hj : wJ ad nW) (g : Nat → va_E) (vk : Int32) (h0 : g 0 = .inr (11, [.ref (ad 1), .ref (ad 3), .ref (ad 23), .ref (ad 43), .ref (ad 104), .ref (ad 105), .ref (ad 114), .ref (ad 116), .ref (ad 118), .ref (ad 120), .ref (ad 130), .ref (ad 140), .ref (ad 144), .ref (ad 190)])) (h3 : g 3 = .inr (6, [.int 0, .int 0, .int 0, .int 0, .int 0, .int 0, .int 0, .int 0, .ref (ad 4), .ref (ad 5), .ref (ad 6), .ref (ad 7), .ref (ad 8), .ref (ad 9), .ref (ad 10), .ref (ad 11), .ref (ad 12), .ref (ad 13)])) (h13 : g 13 = .inr (0, [.int 0, .ref (ad 14), .ref (ad 15), .ref (ad 16), .ref (ad 22)])) (h4 : g 4 = .inl (cs 1, 14, .inl (fun _ => 0))) (h5 : g 5 = .inl (cs 3, 14, .inl (fun _ => 0))) (h6 : g 6 = .inl (cs 1, 5, .inl (fun _ => 0))) (h7 : g 7 = .inl (cs 1, 8, .inl (fun _ => 0))) (h8 : g 8 = .inl (cs 1, 8, .inl (fun _ => 0))) (h9 : g 9 = .inl (cs 1, 8, .inl (fun _ => 0))) (h10 : g 10 = .inl (cs 1, 8, .inl (fun _ => 0))) (h11 : g 11 = .inl (cs 1, 6, .inl (fun _ => 0))) (h12 : g 12 = .inl (cs 1, 6, .inl (fun _ => 0))) (h43 : g 43 = .inl (cs 5, 3, .inr (.inr (.inr (.inr (fun k => if k < 3 then some (ad (44 + 20 * k)) else none)))))) (h104 : g 104 = .inl (cs 3, 3, .inl (fun _ => 0))) (h44 : g 44 = .inr (6, [.int 0, .int 0, .int 0, .int 0, .int 0, .int 0, .int 0, .int 0, .ref (ad 45), .ref (ad 46), .ref (ad 47), .ref (ad 48), .ref (ad 49), .ref (ad 50), .ref (ad 51), .ref (ad 52), .ref (ad 53), .ref (ad 54)])) (h54 : g 54 = .inr (0, [.int 0, .ref (ad 55), .ref (ad 56), .ref (ad 57), .ref (ad 63)])) (h45 : g 45 = .inl (cs 1, 14, .inl (fun _ => 0))) (h46 : g 46 = .inl (cs 3, 14, .inl (fun _ => 0))) (h47 : g 47 = .inl (cs 1, 5, .inl (fun _ => 0))) (h48 : g 48 = .inl (cs 1, 8, .inl (fun _ => 0))) (h49 : g 49 = .inl (cs 1, 8, .inl (fun _ => 0))) (h50 : g 50 = .inl (cs 1, 8, .inl (fun _ => 0))) (h51 : g 51 = .inl (cs 1, 8, .inl (fun _ => 0))) (h52 : g 52 = .inl (cs 1, 6, .inl (fun _ => 0))) (h53 : g 53 = .inl (cs 1, 6, .inl (fun _ => 0))) (h64 : g 64 = .inr (6, [.int 0, .int 0, .int 0, .int 0, .int 0, .int 0, .int 0, .int 0, .ref (ad 65), .ref (ad 66), .ref (ad 67), .ref (ad 68), .ref (ad 69), .ref (ad 70), .ref (ad 71), .ref (ad 72), .ref (ad 73), .ref (ad 74)])) (h74 : g 74 = .inr (0, [.int 0, .ref (ad 75), .ref (ad 76), .ref (ad 77), .ref (ad 83)])) (h65 : g 65 = .inl (cs 1, 14, .inl (fun _ => 0))) (h66 : g 66 = .inl (cs 3, 14, .inl (fun _ => 0))) (h67 : g 67 = .inl (cs 1, 5, .inl (fun _ => 0))) (h68 : g 68 = .inl (cs 1, 8, .inl (fun _ => 0))) (h69 : g 69 = .inl (cs 1, 8, .inl (fun _ => 0))) (h70 : g 70 = .inl (cs 1, 8, .inl (fun _ => 0))) (h71 : g 71 = .inl (cs 1, 8, .inl (fun _ => 0))) (h72 : g 72 = .inl (cs 1, 6, .inl (fun _ => 0))) (h73 : g 73 = .inl (cs 1, 6, .inl (fun _ => 0))) (h84 : g 84 = .inr (6, [.int 0, .int 0, .int 0, .int 0, .int 0, .int 0, .int 0, .int 0, .ref (ad 85), .ref (ad 86), .ref (ad 87), .ref (ad 88), .ref (ad 89), .ref (ad 90), .ref (ad 91), .ref (ad 92), .ref (ad 93), .ref (ad 94)])) (h94 : g 94 = .inr (0, [.int 0, .ref (ad 95), .ref (ad 96), .ref (ad 97), .ref (ad 103)])) (h85 : g 85 = .inl (cs 1, 14, .inl (fun _ => 0))) (h86 : g 86 = .inl (cs 3, 14, .inl (fun _ => 0))) (h87 : g 87 = .inl (cs 1, 5, .inl (fun _ => 0))) (h88 : g 88 = .inl (cs 1, 8, .inl (fun _ => 0))) (h89 : g 89 = .inl (cs 1, 8, .inl (fun _ => 0))) (h90 : g 90 = .inl (cs 1, 8, .inl (fun _ => 0))) (h91 : g 91 = .inl (cs 1, 8, .inl (fun _ => 0))) (h92 : g 92 = .inl (cs 1, 6, .inl (fun _ => 0))) (h93 : g 93 = .inl (cs 1, 6, .inl (fun _ => 0))) : cI l yX11_image vX11_image { frames := 3, cells := 0, slots := 0, locals := 65 } D cs ad nW [.ref (ad 0), .int vk] g (fun r g2 => r = aImg vk) := by
  refine Met.start (cc := cX11_image) (maxL := 2) (ret := (some .int)) RX11 rfl (by decide) rfl (Nat.le_of_ble_eq_true rfl) ?_
  intro p e s m below meth c ls X hP hl
  have hx := X.1
  have hb := X.2.1
  have hS : va_S (wA ad nW) s.heap s.heap [] := va_S.rf
  have hA : ∀ i, i < nW → wA ad nW (ad i) := fun i h => ⟨i, h, rfl⟩
  have hl : lv_has ls 2 [(0, .ref (ad 0)), (1, .int vk)] := hl
  refine lv_iload_n hx hb dX11_image_0 rfl (lv_at hl 1 rfl) ?_
  refine lv_if_lt (tgt := 9) hx hb dX11_image_1 (by decide) (fun hc_1 => ?_) (fun hc_1 => ?_)
  · refine lv_bipush (v := (-2)) hx hb dX11_image_9 (by decide) ?_
    exact q_iret X hP hS (by unfold aImg; first | rw [if_pos hc_1] | rw [if_neg hc_1, if_neg hc_6]) dX11_image_11
  · refine lv_iload_n hx hb dX11_image_4 rfl (lv_at hl 1 rfl) ?_
    refine lv_iconst (v := 3) hx hb dX11_image_5 (by decide) ?_
    refine lv_icmp_lt (tgt := 12) hx hb dX11_image_6 (by decide) (fun hc_6 => ?_) (fun hc_6 => ?_)
    · rcases in3 hc_1 hc_6 with rfl | rfl | rfl
      · refine lv_aload_n hx hb dX11_image_12 rfl (lv_at hl 0 rfl) ?_
        refine q_get X iX11_image_11 hP (by decide) h0 rfl 3 (by decide) (List.mem_of_getElem? (i := 1) rfl) (v := .ref (ad 43)) rfl dX11_image_13 ?_
        refine lv_iload_n hx hb dX11_image_16 rfl (lv_at hl 1 rfl) ?_
        refine q_aald X hP 5 rfl (by decide) h43 (by unfold vp_in; decide) (v := ad 44) rfl dX11_image_17 ?_
        refine lv_aload_n hx hb dX11_image_18 rfl (lv_at hl 0 rfl) ?_
        refine q_get X iX11_image_11 hP (by decide) h0 rfl 1 (by decide) (List.mem_of_getElem? (i := 2) rfl) (v := .ref (ad 3)) rfl dX11_image_19 ?_
        refine q_callv (q := (RX6, TX6, 18)) (As := [.ref (ad 3)]) (rest := []) X (k_copy44 l D cs ad hj g  h44 h3 h45 h46 h47 h48 h49 h50 h51 h52 h53 h4 h5 h6 h7 h8 h9 h10 h11 h12 h54 h13) (cwV 1 X.2.2.2.2.1 gg_X11_image_X6_copyFrom rfl rfl rfl (by decide +kernel) ⟨Nat.le_of_ble_eq_true rfl, Nat.le_of_ble_eq_true rfl⟩) (by decide) h44 rfl hP hA hS rfl hl.1 rfl (Nat.le_of_ble_eq_true rfl) dX11_image_22 ⟨Nat.le_of_ble_eq_true rfl, Nat.le_of_ble_eq_true rfl⟩ (fun g_2 H locs hw_1 hP hS => ?_)
        obtain ⟨h_4, hf_5⟩ := hw_1
        have h_6 : g_2 0 = .inr (11, [.ref (ad 1), .ref (ad 3), .ref (ad 23), .ref (ad 43), .ref (ad 104), .ref (ad 105), .ref (ad 114), .ref (ad 116), .ref (ad 118), .ref (ad 120), .ref (ad 130), .ref (ad 140), .ref (ad 144), .ref (ad 190)]) := (hf_5 0 (by decide)).trans h0
        have h_7 : g_2 3 = .inr (6, [.int 0, .int 0, .int 0, .int 0, .int 0, .int 0, .int 0, .int 0, .ref (ad 4), .ref (ad 5), .ref (ad 6), .ref (ad 7), .ref (ad 8), .ref (ad 9), .ref (ad 10), .ref (ad 11), .ref (ad 12), .ref (ad 13)]) := (hf_5 3 (by decide)).trans h3
        have h_8 : g_2 13 = .inr (0, [.int 0, .ref (ad 14), .ref (ad 15), .ref (ad 16), .ref (ad 22)]) := (hf_5 13 (by decide)).trans h13
        have h_9 : g_2 4 = .inl (cs 1, 14, .inl (fun _ => 0)) := (hf_5 4 (by decide)).trans h4
        have h_10 : g_2 5 = .inl (cs 3, 14, .inl (fun _ => 0)) := (hf_5 5 (by decide)).trans h5
        have h_11 : g_2 6 = .inl (cs 1, 5, .inl (fun _ => 0)) := (hf_5 6 (by decide)).trans h6
        have h_12 : g_2 7 = .inl (cs 1, 8, .inl (fun _ => 0)) := (hf_5 7 (by decide)).trans h7
        have h_13 : g_2 8 = .inl (cs 1, 8, .inl (fun _ => 0)) := (hf_5 8 (by decide)).trans h8
        have h_14 : g_2 9 = .inl (cs 1, 8, .inl (fun _ => 0)) := (hf_5 9 (by decide)).trans h9
        have h_15 : g_2 10 = .inl (cs 1, 8, .inl (fun _ => 0)) := (hf_5 10 (by decide)).trans h10
        have h_16 : g_2 11 = .inl (cs 1, 6, .inl (fun _ => 0)) := (hf_5 11 (by decide)).trans h11
        have h_17 : g_2 12 = .inl (cs 1, 6, .inl (fun _ => 0)) := (hf_5 12 (by decide)).trans h12
        have h_18 : g_2 43 = .inl (cs 5, 3, .inr (.inr (.inr (.inr (fun k => if k < 3 then some (ad (44 + 20 * k)) else none))))) := (hf_5 43 (by decide)).trans h43
        have h_19 : g_2 104 = .inl (cs 3, 3, .inl (fun _ => 0)) := (hf_5 104 (by decide)).trans h104
        have h_20 : g_2 64 = .inr (6, [.int 0, .int 0, .int 0, .int 0, .int 0, .int 0, .int 0, .int 0, .ref (ad 65), .ref (ad 66), .ref (ad 67), .ref (ad 68), .ref (ad 69), .ref (ad 70), .ref (ad 71), .ref (ad 72), .ref (ad 73), .ref (ad 74)]) := (hf_5 64 (by decide)).trans h64
        have h_21 : g_2 74 = .inr (0, [.int 0, .ref (ad 75), .ref (ad 76), .ref (ad 77), .ref (ad 83)]) := (hf_5 74 (by decide)).trans h74
        have h_22 : g_2 65 = .inl (cs 1, 14, .inl (fun _ => 0)) := (hf_5 65 (by decide)).trans h65
        have h_23 : g_2 66 = .inl (cs 3, 14, .inl (fun _ => 0)) := (hf_5 66 (by decide)).trans h66
        have h_24 : g_2 67 = .inl (cs 1, 5, .inl (fun _ => 0)) := (hf_5 67 (by decide)).trans h67
        have h_25 : g_2 68 = .inl (cs 1, 8, .inl (fun _ => 0)) := (hf_5 68 (by decide)).trans h68
        have h_26 : g_2 69 = .inl (cs 1, 8, .inl (fun _ => 0)) := (hf_5 69 (by decide)).trans h69
        have h_27 : g_2 70 = .inl (cs 1, 8, .inl (fun _ => 0)) := (hf_5 70 (by decide)).trans h70
        have h_28 : g_2 71 = .inl (cs 1, 8, .inl (fun _ => 0)) := (hf_5 71 (by decide)).trans h71
        have h_29 : g_2 72 = .inl (cs 1, 6, .inl (fun _ => 0)) := (hf_5 72 (by decide)).trans h72
        have h_30 : g_2 73 = .inl (cs 1, 6, .inl (fun _ => 0)) := (hf_5 73 (by decide)).trans h73
        have h_31 : g_2 84 = .inr (6, [.int 0, .int 0, .int 0, .int 0, .int 0, .int 0, .int 0, .int 0, .ref (ad 85), .ref (ad 86), .ref (ad 87), .ref (ad 88), .ref (ad 89), .ref (ad 90), .ref (ad 91), .ref (ad 92), .ref (ad 93), .ref (ad 94)]) := (hf_5 84 (by decide)).trans h84
        have h_32 : g_2 94 = .inr (0, [.int 0, .ref (ad 95), .ref (ad 96), .ref (ad 97), .ref (ad 103)]) := (hf_5 94 (by decide)).trans h94
        have h_33 : g_2 85 = .inl (cs 1, 14, .inl (fun _ => 0)) := (hf_5 85 (by decide)).trans h85
        have h_34 : g_2 86 = .inl (cs 3, 14, .inl (fun _ => 0)) := (hf_5 86 (by decide)).trans h86
        have h_35 : g_2 87 = .inl (cs 1, 5, .inl (fun _ => 0)) := (hf_5 87 (by decide)).trans h87
        have h_36 : g_2 88 = .inl (cs 1, 8, .inl (fun _ => 0)) := (hf_5 88 (by decide)).trans h88
        have h_37 : g_2 89 = .inl (cs 1, 8, .inl (fun _ => 0)) := (hf_5 89 (by decide)).trans h89
        have h_38 : g_2 90 = .inl (cs 1, 8, .inl (fun _ => 0)) := (hf_5 90 (by decide)).trans h90
        have h_39 : g_2 91 = .inl (cs 1, 8, .inl (fun _ => 0)) := (hf_5 91 (by decide)).trans h91
        have h_40 : g_2 92 = .inl (cs 1, 6, .inl (fun _ => 0)) := (hf_5 92 (by decide)).trans h92
        have h_41 : g_2 93 = .inl (cs 1, 6, .inl (fun _ => 0)) := (hf_5 93 (by decide)).trans h93
        refine lv_aload_n hx hb dX11_image_25 rfl (lv_at hl 0 rfl) ?_
        refine q_get X iX11_image_11 hP (by decide) h_6 rfl 4 (by decide) (List.mem_of_getElem? (i := 40) rfl) (v := .ref (ad 104)) rfl dX11_image_26 ?_
        refine lv_iload_n hx hb dX11_image_29 rfl (lv_at hl 1 rfl) ?_
        refine lv_iconst (v := 1) hx hb dX11_image_30 (by decide) ?_
        refine q_zast X hP hj hA hS (by decide) h_19 (by unfold vp_in; decide) dX11_image_31 (fun H locs hP hS => ?_)
        generalize eg_42 : va_up g_2 104 _ = g_42 at hP
        have h_44 : g_42 0 = .inr (11, [.ref (ad 1), .ref (ad 3), .ref (ad 23), .ref (ad 43), .ref (ad 104), .ref (ad 105), .ref (ad 114), .ref (ad 116), .ref (ad 118), .ref (ad 120), .ref (ad 130), .ref (ad 140), .ref (ad 144), .ref (ad 190)]) := by rw [← eg_42, va_up_ne _ _ (by decide)]; exact h_6
        have h_45 : g_42 3 = .inr (6, [.int 0, .int 0, .int 0, .int 0, .int 0, .int 0, .int 0, .int 0, .ref (ad 4), .ref (ad 5), .ref (ad 6), .ref (ad 7), .ref (ad 8), .ref (ad 9), .ref (ad 10), .ref (ad 11), .ref (ad 12), .ref (ad 13)]) := by rw [← eg_42, va_up_ne _ _ (by decide)]; exact h_7
        have h_46 : g_42 13 = .inr (0, [.int 0, .ref (ad 14), .ref (ad 15), .ref (ad 16), .ref (ad 22)]) := by rw [← eg_42, va_up_ne _ _ (by decide)]; exact h_8
        have h_47 : g_42 4 = .inl (cs 1, 14, .inl (fun _ => 0)) := by rw [← eg_42, va_up_ne _ _ (by decide)]; exact h_9
        have h_48 : g_42 5 = .inl (cs 3, 14, .inl (fun _ => 0)) := by rw [← eg_42, va_up_ne _ _ (by decide)]; exact h_10
        have h_49 : g_42 6 = .inl (cs 1, 5, .inl (fun _ => 0)) := by rw [← eg_42, va_up_ne _ _ (by decide)]; exact h_11
        have h_50 : g_42 7 = .inl (cs 1, 8, .inl (fun _ => 0)) := by rw [← eg_42, va_up_ne _ _ (by decide)]; exact h_12
        have h_51 : g_42 8 = .inl (cs 1, 8, .inl (fun _ => 0)) := by rw [← eg_42, va_up_ne _ _ (by decide)]; exact h_13
        have h_52 : g_42 9 = .inl (cs 1, 8, .inl (fun _ => 0)) := by rw [← eg_42, va_up_ne _ _ (by decide)]; exact h_14
        have h_53 : g_42 10 = .inl (cs 1, 8, .inl (fun _ => 0)) := by rw [← eg_42, va_up_ne _ _ (by decide)]; exact h_15
        have h_54 : g_42 11 = .inl (cs 1, 6, .inl (fun _ => 0)) := by rw [← eg_42, va_up_ne _ _ (by decide)]; exact h_16
        have h_55 : g_42 12 = .inl (cs 1, 6, .inl (fun _ => 0)) := by rw [← eg_42, va_up_ne _ _ (by decide)]; exact h_17
        have h_56 : g_42 43 = .inl (cs 5, 3, .inr (.inr (.inr (.inr (fun k => if k < 3 then some (ad (44 + 20 * k)) else none))))) := by rw [← eg_42, va_up_ne _ _ (by decide)]; exact h_18
        obtain ⟨f_43, h_57⟩ : ∃ f, g_42 104 = .inl (cs 3, 3, .inl f) := ⟨_, by rw [← eg_42]; exact va_up_self _ _ _⟩
        have h_58 : g_42 44 = .inr (6, [.int 0, .int 0, .int 0, .int 0, .int 0, .int 0, .int 0, .int 0, .ref (ad 45), .ref (ad 46), .ref (ad 47), .ref (ad 48), .ref (ad 49), .ref (ad 50), .ref (ad 51), .ref (ad 52), .ref (ad 53), .ref (ad 54)]) := by rw [← eg_42, va_up_ne _ _ (by decide)]; exact h_4
        have h_59 : g_42 64 = .inr (6, [.int 0, .int 0, .int 0, .int 0, .int 0, .int 0, .int 0, .int 0, .ref (ad 65), .ref (ad 66), .ref (ad 67), .ref (ad 68), .ref (ad 69), .ref (ad 70), .ref (ad 71), .ref (ad 72), .ref (ad 73), .ref (ad 74)]) := by rw [← eg_42, va_up_ne _ _ (by decide)]; exact h_20
        have h_60 : g_42 74 = .inr (0, [.int 0, .ref (ad 75), .ref (ad 76), .ref (ad 77), .ref (ad 83)]) := by rw [← eg_42, va_up_ne _ _ (by decide)]; exact h_21
        have h_61 : g_42 65 = .inl (cs 1, 14, .inl (fun _ => 0)) := by rw [← eg_42, va_up_ne _ _ (by decide)]; exact h_22
        have h_62 : g_42 66 = .inl (cs 3, 14, .inl (fun _ => 0)) := by rw [← eg_42, va_up_ne _ _ (by decide)]; exact h_23
        have h_63 : g_42 67 = .inl (cs 1, 5, .inl (fun _ => 0)) := by rw [← eg_42, va_up_ne _ _ (by decide)]; exact h_24
        have h_64 : g_42 68 = .inl (cs 1, 8, .inl (fun _ => 0)) := by rw [← eg_42, va_up_ne _ _ (by decide)]; exact h_25
        have h_65 : g_42 69 = .inl (cs 1, 8, .inl (fun _ => 0)) := by rw [← eg_42, va_up_ne _ _ (by decide)]; exact h_26
        have h_66 : g_42 70 = .inl (cs 1, 8, .inl (fun _ => 0)) := by rw [← eg_42, va_up_ne _ _ (by decide)]; exact h_27
        have h_67 : g_42 71 = .inl (cs 1, 8, .inl (fun _ => 0)) := by rw [← eg_42, va_up_ne _ _ (by decide)]; exact h_28
        have h_68 : g_42 72 = .inl (cs 1, 6, .inl (fun _ => 0)) := by rw [← eg_42, va_up_ne _ _ (by decide)]; exact h_29
        have h_69 : g_42 73 = .inl (cs 1, 6, .inl (fun _ => 0)) := by rw [← eg_42, va_up_ne _ _ (by decide)]; exact h_30
        have h_70 : g_42 84 = .inr (6, [.int 0, .int 0, .int 0, .int 0, .int 0, .int 0, .int 0, .int 0, .ref (ad 85), .ref (ad 86), .ref (ad 87), .ref (ad 88), .ref (ad 89), .ref (ad 90), .ref (ad 91), .ref (ad 92), .ref (ad 93), .ref (ad 94)]) := by rw [← eg_42, va_up_ne _ _ (by decide)]; exact h_31
        have h_71 : g_42 94 = .inr (0, [.int 0, .ref (ad 95), .ref (ad 96), .ref (ad 97), .ref (ad 103)]) := by rw [← eg_42, va_up_ne _ _ (by decide)]; exact h_32
        have h_72 : g_42 85 = .inl (cs 1, 14, .inl (fun _ => 0)) := by rw [← eg_42, va_up_ne _ _ (by decide)]; exact h_33
        have h_73 : g_42 86 = .inl (cs 3, 14, .inl (fun _ => 0)) := by rw [← eg_42, va_up_ne _ _ (by decide)]; exact h_34
        have h_74 : g_42 87 = .inl (cs 1, 5, .inl (fun _ => 0)) := by rw [← eg_42, va_up_ne _ _ (by decide)]; exact h_35
        have h_75 : g_42 88 = .inl (cs 1, 8, .inl (fun _ => 0)) := by rw [← eg_42, va_up_ne _ _ (by decide)]; exact h_36
        have h_76 : g_42 89 = .inl (cs 1, 8, .inl (fun _ => 0)) := by rw [← eg_42, va_up_ne _ _ (by decide)]; exact h_37
        have h_77 : g_42 90 = .inl (cs 1, 8, .inl (fun _ => 0)) := by rw [← eg_42, va_up_ne _ _ (by decide)]; exact h_38
        have h_78 : g_42 91 = .inl (cs 1, 8, .inl (fun _ => 0)) := by rw [← eg_42, va_up_ne _ _ (by decide)]; exact h_39
        have h_79 : g_42 92 = .inl (cs 1, 6, .inl (fun _ => 0)) := by rw [← eg_42, va_up_ne _ _ (by decide)]; exact h_40
        have h_80 : g_42 93 = .inl (cs 1, 6, .inl (fun _ => 0)) := by rw [← eg_42, va_up_ne _ _ (by decide)]; exact h_41
        refine lv_iconst (v := 0) hx hb dX11_image_32 (by decide) ?_
        exact q_iret X hP hS (by unfold aImg; rfl) dX11_image_33
      · refine lv_aload_n hx hb dX11_image_12 rfl (lv_at hl 0 rfl) ?_
        refine q_get X iX11_image_11 hP (by decide) h0 rfl 3 (by decide) (List.mem_of_getElem? (i := 1) rfl) (v := .ref (ad 43)) rfl dX11_image_13 ?_
        refine lv_iload_n hx hb dX11_image_16 rfl (lv_at hl 1 rfl) ?_
        refine q_aald X hP 5 rfl (by decide) h43 (by unfold vp_in; decide) (v := ad 64) rfl dX11_image_17 ?_
        refine lv_aload_n hx hb dX11_image_18 rfl (lv_at hl 0 rfl) ?_
        refine q_get X iX11_image_11 hP (by decide) h0 rfl 1 (by decide) (List.mem_of_getElem? (i := 2) rfl) (v := .ref (ad 3)) rfl dX11_image_19 ?_
        refine q_callv (q := (RX6, TX6, 18)) (As := [.ref (ad 3)]) (rest := []) X (k_copy64 l D cs ad hj g  h64 h3 h65 h66 h67 h68 h69 h70 h71 h72 h73 h4 h5 h6 h7 h8 h9 h10 h11 h12 h74 h13) (cwV 1 X.2.2.2.2.1 gg_X11_image_X6_copyFrom rfl rfl rfl (by decide +kernel) ⟨Nat.le_of_ble_eq_true rfl, Nat.le_of_ble_eq_true rfl⟩) (by decide) h64 rfl hP hA hS rfl hl.1 rfl (Nat.le_of_ble_eq_true rfl) dX11_image_22 ⟨Nat.le_of_ble_eq_true rfl, Nat.le_of_ble_eq_true rfl⟩ (fun g_82 H locs hw_81 hP hS => ?_)
        obtain ⟨h_84, hf_85⟩ := hw_81
        have h_86 : g_82 0 = .inr (11, [.ref (ad 1), .ref (ad 3), .ref (ad 23), .ref (ad 43), .ref (ad 104), .ref (ad 105), .ref (ad 114), .ref (ad 116), .ref (ad 118), .ref (ad 120), .ref (ad 130), .ref (ad 140), .ref (ad 144), .ref (ad 190)]) := (hf_85 0 (by decide)).trans h0
        have h_87 : g_82 3 = .inr (6, [.int 0, .int 0, .int 0, .int 0, .int 0, .int 0, .int 0, .int 0, .ref (ad 4), .ref (ad 5), .ref (ad 6), .ref (ad 7), .ref (ad 8), .ref (ad 9), .ref (ad 10), .ref (ad 11), .ref (ad 12), .ref (ad 13)]) := (hf_85 3 (by decide)).trans h3
        have h_88 : g_82 13 = .inr (0, [.int 0, .ref (ad 14), .ref (ad 15), .ref (ad 16), .ref (ad 22)]) := (hf_85 13 (by decide)).trans h13
        have h_89 : g_82 4 = .inl (cs 1, 14, .inl (fun _ => 0)) := (hf_85 4 (by decide)).trans h4
        have h_90 : g_82 5 = .inl (cs 3, 14, .inl (fun _ => 0)) := (hf_85 5 (by decide)).trans h5
        have h_91 : g_82 6 = .inl (cs 1, 5, .inl (fun _ => 0)) := (hf_85 6 (by decide)).trans h6
        have h_92 : g_82 7 = .inl (cs 1, 8, .inl (fun _ => 0)) := (hf_85 7 (by decide)).trans h7
        have h_93 : g_82 8 = .inl (cs 1, 8, .inl (fun _ => 0)) := (hf_85 8 (by decide)).trans h8
        have h_94 : g_82 9 = .inl (cs 1, 8, .inl (fun _ => 0)) := (hf_85 9 (by decide)).trans h9
        have h_95 : g_82 10 = .inl (cs 1, 8, .inl (fun _ => 0)) := (hf_85 10 (by decide)).trans h10
        have h_96 : g_82 11 = .inl (cs 1, 6, .inl (fun _ => 0)) := (hf_85 11 (by decide)).trans h11
        have h_97 : g_82 12 = .inl (cs 1, 6, .inl (fun _ => 0)) := (hf_85 12 (by decide)).trans h12
        have h_98 : g_82 43 = .inl (cs 5, 3, .inr (.inr (.inr (.inr (fun k => if k < 3 then some (ad (44 + 20 * k)) else none))))) := (hf_85 43 (by decide)).trans h43
        have h_99 : g_82 104 = .inl (cs 3, 3, .inl (fun _ => 0)) := (hf_85 104 (by decide)).trans h104
        have h_100 : g_82 44 = .inr (6, [.int 0, .int 0, .int 0, .int 0, .int 0, .int 0, .int 0, .int 0, .ref (ad 45), .ref (ad 46), .ref (ad 47), .ref (ad 48), .ref (ad 49), .ref (ad 50), .ref (ad 51), .ref (ad 52), .ref (ad 53), .ref (ad 54)]) := (hf_85 44 (by decide)).trans h44
        have h_101 : g_82 54 = .inr (0, [.int 0, .ref (ad 55), .ref (ad 56), .ref (ad 57), .ref (ad 63)]) := (hf_85 54 (by decide)).trans h54
        have h_102 : g_82 45 = .inl (cs 1, 14, .inl (fun _ => 0)) := (hf_85 45 (by decide)).trans h45
        have h_103 : g_82 46 = .inl (cs 3, 14, .inl (fun _ => 0)) := (hf_85 46 (by decide)).trans h46
        have h_104 : g_82 47 = .inl (cs 1, 5, .inl (fun _ => 0)) := (hf_85 47 (by decide)).trans h47
        have h_105 : g_82 48 = .inl (cs 1, 8, .inl (fun _ => 0)) := (hf_85 48 (by decide)).trans h48
        have h_106 : g_82 49 = .inl (cs 1, 8, .inl (fun _ => 0)) := (hf_85 49 (by decide)).trans h49
        have h_107 : g_82 50 = .inl (cs 1, 8, .inl (fun _ => 0)) := (hf_85 50 (by decide)).trans h50
        have h_108 : g_82 51 = .inl (cs 1, 8, .inl (fun _ => 0)) := (hf_85 51 (by decide)).trans h51
        have h_109 : g_82 52 = .inl (cs 1, 6, .inl (fun _ => 0)) := (hf_85 52 (by decide)).trans h52
        have h_110 : g_82 53 = .inl (cs 1, 6, .inl (fun _ => 0)) := (hf_85 53 (by decide)).trans h53
        have h_111 : g_82 84 = .inr (6, [.int 0, .int 0, .int 0, .int 0, .int 0, .int 0, .int 0, .int 0, .ref (ad 85), .ref (ad 86), .ref (ad 87), .ref (ad 88), .ref (ad 89), .ref (ad 90), .ref (ad 91), .ref (ad 92), .ref (ad 93), .ref (ad 94)]) := (hf_85 84 (by decide)).trans h84
        have h_112 : g_82 94 = .inr (0, [.int 0, .ref (ad 95), .ref (ad 96), .ref (ad 97), .ref (ad 103)]) := (hf_85 94 (by decide)).trans h94
        have h_113 : g_82 85 = .inl (cs 1, 14, .inl (fun _ => 0)) := (hf_85 85 (by decide)).trans h85
        have h_114 : g_82 86 = .inl (cs 3, 14, .inl (fun _ => 0)) := (hf_85 86 (by decide)).trans h86
        have h_115 : g_82 87 = .inl (cs 1, 5, .inl (fun _ => 0)) := (hf_85 87 (by decide)).trans h87
        have h_116 : g_82 88 = .inl (cs 1, 8, .inl (fun _ => 0)) := (hf_85 88 (by decide)).trans h88
        have h_117 : g_82 89 = .inl (cs 1, 8, .inl (fun _ => 0)) := (hf_85 89 (by decide)).trans h89
        have h_118 : g_82 90 = .inl (cs 1, 8, .inl (fun _ => 0)) := (hf_85 90 (by decide)).trans h90
        have h_119 : g_82 91 = .inl (cs 1, 8, .inl (fun _ => 0)) := (hf_85 91 (by decide)).trans h91
        have h_120 : g_82 92 = .inl (cs 1, 6, .inl (fun _ => 0)) := (hf_85 92 (by decide)).trans h92
        have h_121 : g_82 93 = .inl (cs 1, 6, .inl (fun _ => 0)) := (hf_85 93 (by decide)).trans h93
        refine lv_aload_n hx hb dX11_image_25 rfl (lv_at hl 0 rfl) ?_
        refine q_get X iX11_image_11 hP (by decide) h_86 rfl 4 (by decide) (List.mem_of_getElem? (i := 40) rfl) (v := .ref (ad 104)) rfl dX11_image_26 ?_
        refine lv_iload_n hx hb dX11_image_29 rfl (lv_at hl 1 rfl) ?_
        refine lv_iconst (v := 1) hx hb dX11_image_30 (by decide) ?_
        refine q_zast X hP hj hA hS (by decide) h_99 (by unfold vp_in; decide) dX11_image_31 (fun H locs hP hS => ?_)
        generalize eg_122 : va_up g_82 104 _ = g_122 at hP
        have h_124 : g_122 0 = .inr (11, [.ref (ad 1), .ref (ad 3), .ref (ad 23), .ref (ad 43), .ref (ad 104), .ref (ad 105), .ref (ad 114), .ref (ad 116), .ref (ad 118), .ref (ad 120), .ref (ad 130), .ref (ad 140), .ref (ad 144), .ref (ad 190)]) := by rw [← eg_122, va_up_ne _ _ (by decide)]; exact h_86
        have h_125 : g_122 3 = .inr (6, [.int 0, .int 0, .int 0, .int 0, .int 0, .int 0, .int 0, .int 0, .ref (ad 4), .ref (ad 5), .ref (ad 6), .ref (ad 7), .ref (ad 8), .ref (ad 9), .ref (ad 10), .ref (ad 11), .ref (ad 12), .ref (ad 13)]) := by rw [← eg_122, va_up_ne _ _ (by decide)]; exact h_87
        have h_126 : g_122 13 = .inr (0, [.int 0, .ref (ad 14), .ref (ad 15), .ref (ad 16), .ref (ad 22)]) := by rw [← eg_122, va_up_ne _ _ (by decide)]; exact h_88
        have h_127 : g_122 4 = .inl (cs 1, 14, .inl (fun _ => 0)) := by rw [← eg_122, va_up_ne _ _ (by decide)]; exact h_89
        have h_128 : g_122 5 = .inl (cs 3, 14, .inl (fun _ => 0)) := by rw [← eg_122, va_up_ne _ _ (by decide)]; exact h_90
        have h_129 : g_122 6 = .inl (cs 1, 5, .inl (fun _ => 0)) := by rw [← eg_122, va_up_ne _ _ (by decide)]; exact h_91
        have h_130 : g_122 7 = .inl (cs 1, 8, .inl (fun _ => 0)) := by rw [← eg_122, va_up_ne _ _ (by decide)]; exact h_92
        have h_131 : g_122 8 = .inl (cs 1, 8, .inl (fun _ => 0)) := by rw [← eg_122, va_up_ne _ _ (by decide)]; exact h_93
        have h_132 : g_122 9 = .inl (cs 1, 8, .inl (fun _ => 0)) := by rw [← eg_122, va_up_ne _ _ (by decide)]; exact h_94
        have h_133 : g_122 10 = .inl (cs 1, 8, .inl (fun _ => 0)) := by rw [← eg_122, va_up_ne _ _ (by decide)]; exact h_95
        have h_134 : g_122 11 = .inl (cs 1, 6, .inl (fun _ => 0)) := by rw [← eg_122, va_up_ne _ _ (by decide)]; exact h_96
        have h_135 : g_122 12 = .inl (cs 1, 6, .inl (fun _ => 0)) := by rw [← eg_122, va_up_ne _ _ (by decide)]; exact h_97
        have h_136 : g_122 43 = .inl (cs 5, 3, .inr (.inr (.inr (.inr (fun k => if k < 3 then some (ad (44 + 20 * k)) else none))))) := by rw [← eg_122, va_up_ne _ _ (by decide)]; exact h_98
        obtain ⟨f_123, h_137⟩ : ∃ f, g_122 104 = .inl (cs 3, 3, .inl f) := ⟨_, by rw [← eg_122]; exact va_up_self _ _ _⟩
        have h_138 : g_122 44 = .inr (6, [.int 0, .int 0, .int 0, .int 0, .int 0, .int 0, .int 0, .int 0, .ref (ad 45), .ref (ad 46), .ref (ad 47), .ref (ad 48), .ref (ad 49), .ref (ad 50), .ref (ad 51), .ref (ad 52), .ref (ad 53), .ref (ad 54)]) := by rw [← eg_122, va_up_ne _ _ (by decide)]; exact h_100
        have h_139 : g_122 54 = .inr (0, [.int 0, .ref (ad 55), .ref (ad 56), .ref (ad 57), .ref (ad 63)]) := by rw [← eg_122, va_up_ne _ _ (by decide)]; exact h_101
        have h_140 : g_122 45 = .inl (cs 1, 14, .inl (fun _ => 0)) := by rw [← eg_122, va_up_ne _ _ (by decide)]; exact h_102
        have h_141 : g_122 46 = .inl (cs 3, 14, .inl (fun _ => 0)) := by rw [← eg_122, va_up_ne _ _ (by decide)]; exact h_103
        have h_142 : g_122 47 = .inl (cs 1, 5, .inl (fun _ => 0)) := by rw [← eg_122, va_up_ne _ _ (by decide)]; exact h_104
        have h_143 : g_122 48 = .inl (cs 1, 8, .inl (fun _ => 0)) := by rw [← eg_122, va_up_ne _ _ (by decide)]; exact h_105
        have h_144 : g_122 49 = .inl (cs 1, 8, .inl (fun _ => 0)) := by rw [← eg_122, va_up_ne _ _ (by decide)]; exact h_106
        have h_145 : g_122 50 = .inl (cs 1, 8, .inl (fun _ => 0)) := by rw [← eg_122, va_up_ne _ _ (by decide)]; exact h_107
        have h_146 : g_122 51 = .inl (cs 1, 8, .inl (fun _ => 0)) := by rw [← eg_122, va_up_ne _ _ (by decide)]; exact h_108
        have h_147 : g_122 52 = .inl (cs 1, 6, .inl (fun _ => 0)) := by rw [← eg_122, va_up_ne _ _ (by decide)]; exact h_109
        have h_148 : g_122 53 = .inl (cs 1, 6, .inl (fun _ => 0)) := by rw [← eg_122, va_up_ne _ _ (by decide)]; exact h_110
        have h_149 : g_122 64 = .inr (6, [.int 0, .int 0, .int 0, .int 0, .int 0, .int 0, .int 0, .int 0, .ref (ad 65), .ref (ad 66), .ref (ad 67), .ref (ad 68), .ref (ad 69), .ref (ad 70), .ref (ad 71), .ref (ad 72), .ref (ad 73), .ref (ad 74)]) := by rw [← eg_122, va_up_ne _ _ (by decide)]; exact h_84
        have h_150 : g_122 84 = .inr (6, [.int 0, .int 0, .int 0, .int 0, .int 0, .int 0, .int 0, .int 0, .ref (ad 85), .ref (ad 86), .ref (ad 87), .ref (ad 88), .ref (ad 89), .ref (ad 90), .ref (ad 91), .ref (ad 92), .ref (ad 93), .ref (ad 94)]) := by rw [← eg_122, va_up_ne _ _ (by decide)]; exact h_111
        have h_151 : g_122 94 = .inr (0, [.int 0, .ref (ad 95), .ref (ad 96), .ref (ad 97), .ref (ad 103)]) := by rw [← eg_122, va_up_ne _ _ (by decide)]; exact h_112
        have h_152 : g_122 85 = .inl (cs 1, 14, .inl (fun _ => 0)) := by rw [← eg_122, va_up_ne _ _ (by decide)]; exact h_113
        have h_153 : g_122 86 = .inl (cs 3, 14, .inl (fun _ => 0)) := by rw [← eg_122, va_up_ne _ _ (by decide)]; exact h_114
        have h_154 : g_122 87 = .inl (cs 1, 5, .inl (fun _ => 0)) := by rw [← eg_122, va_up_ne _ _ (by decide)]; exact h_115
        have h_155 : g_122 88 = .inl (cs 1, 8, .inl (fun _ => 0)) := by rw [← eg_122, va_up_ne _ _ (by decide)]; exact h_116
        have h_156 : g_122 89 = .inl (cs 1, 8, .inl (fun _ => 0)) := by rw [← eg_122, va_up_ne _ _ (by decide)]; exact h_117
        have h_157 : g_122 90 = .inl (cs 1, 8, .inl (fun _ => 0)) := by rw [← eg_122, va_up_ne _ _ (by decide)]; exact h_118
        have h_158 : g_122 91 = .inl (cs 1, 8, .inl (fun _ => 0)) := by rw [← eg_122, va_up_ne _ _ (by decide)]; exact h_119
        have h_159 : g_122 92 = .inl (cs 1, 6, .inl (fun _ => 0)) := by rw [← eg_122, va_up_ne _ _ (by decide)]; exact h_120
        have h_160 : g_122 93 = .inl (cs 1, 6, .inl (fun _ => 0)) := by rw [← eg_122, va_up_ne _ _ (by decide)]; exact h_121
        refine lv_iconst (v := 0) hx hb dX11_image_32 (by decide) ?_
        exact q_iret X hP hS (by unfold aImg; rfl) dX11_image_33
      · refine lv_aload_n hx hb dX11_image_12 rfl (lv_at hl 0 rfl) ?_
        refine q_get X iX11_image_11 hP (by decide) h0 rfl 3 (by decide) (List.mem_of_getElem? (i := 1) rfl) (v := .ref (ad 43)) rfl dX11_image_13 ?_
        refine lv_iload_n hx hb dX11_image_16 rfl (lv_at hl 1 rfl) ?_
        refine q_aald X hP 5 rfl (by decide) h43 (by unfold vp_in; decide) (v := ad 84) rfl dX11_image_17 ?_
        refine lv_aload_n hx hb dX11_image_18 rfl (lv_at hl 0 rfl) ?_
        refine q_get X iX11_image_11 hP (by decide) h0 rfl 1 (by decide) (List.mem_of_getElem? (i := 2) rfl) (v := .ref (ad 3)) rfl dX11_image_19 ?_
        refine q_callv (q := (RX6, TX6, 18)) (As := [.ref (ad 3)]) (rest := []) X (k_copy84 l D cs ad hj g  h84 h3 h85 h86 h87 h88 h89 h90 h91 h92 h93 h4 h5 h6 h7 h8 h9 h10 h11 h12 h94 h13) (cwV 1 X.2.2.2.2.1 gg_X11_image_X6_copyFrom rfl rfl rfl (by decide +kernel) ⟨Nat.le_of_ble_eq_true rfl, Nat.le_of_ble_eq_true rfl⟩) (by decide) h84 rfl hP hA hS rfl hl.1 rfl (Nat.le_of_ble_eq_true rfl) dX11_image_22 ⟨Nat.le_of_ble_eq_true rfl, Nat.le_of_ble_eq_true rfl⟩ (fun g_162 H locs hw_161 hP hS => ?_)
        obtain ⟨h_164, hf_165⟩ := hw_161
        have h_166 : g_162 0 = .inr (11, [.ref (ad 1), .ref (ad 3), .ref (ad 23), .ref (ad 43), .ref (ad 104), .ref (ad 105), .ref (ad 114), .ref (ad 116), .ref (ad 118), .ref (ad 120), .ref (ad 130), .ref (ad 140), .ref (ad 144), .ref (ad 190)]) := (hf_165 0 (by decide)).trans h0
        have h_167 : g_162 3 = .inr (6, [.int 0, .int 0, .int 0, .int 0, .int 0, .int 0, .int 0, .int 0, .ref (ad 4), .ref (ad 5), .ref (ad 6), .ref (ad 7), .ref (ad 8), .ref (ad 9), .ref (ad 10), .ref (ad 11), .ref (ad 12), .ref (ad 13)]) := (hf_165 3 (by decide)).trans h3
        have h_168 : g_162 13 = .inr (0, [.int 0, .ref (ad 14), .ref (ad 15), .ref (ad 16), .ref (ad 22)]) := (hf_165 13 (by decide)).trans h13
        have h_169 : g_162 4 = .inl (cs 1, 14, .inl (fun _ => 0)) := (hf_165 4 (by decide)).trans h4
        have h_170 : g_162 5 = .inl (cs 3, 14, .inl (fun _ => 0)) := (hf_165 5 (by decide)).trans h5
        have h_171 : g_162 6 = .inl (cs 1, 5, .inl (fun _ => 0)) := (hf_165 6 (by decide)).trans h6
        have h_172 : g_162 7 = .inl (cs 1, 8, .inl (fun _ => 0)) := (hf_165 7 (by decide)).trans h7
        have h_173 : g_162 8 = .inl (cs 1, 8, .inl (fun _ => 0)) := (hf_165 8 (by decide)).trans h8
        have h_174 : g_162 9 = .inl (cs 1, 8, .inl (fun _ => 0)) := (hf_165 9 (by decide)).trans h9
        have h_175 : g_162 10 = .inl (cs 1, 8, .inl (fun _ => 0)) := (hf_165 10 (by decide)).trans h10
        have h_176 : g_162 11 = .inl (cs 1, 6, .inl (fun _ => 0)) := (hf_165 11 (by decide)).trans h11
        have h_177 : g_162 12 = .inl (cs 1, 6, .inl (fun _ => 0)) := (hf_165 12 (by decide)).trans h12
        have h_178 : g_162 43 = .inl (cs 5, 3, .inr (.inr (.inr (.inr (fun k => if k < 3 then some (ad (44 + 20 * k)) else none))))) := (hf_165 43 (by decide)).trans h43
        have h_179 : g_162 104 = .inl (cs 3, 3, .inl (fun _ => 0)) := (hf_165 104 (by decide)).trans h104
        have h_180 : g_162 44 = .inr (6, [.int 0, .int 0, .int 0, .int 0, .int 0, .int 0, .int 0, .int 0, .ref (ad 45), .ref (ad 46), .ref (ad 47), .ref (ad 48), .ref (ad 49), .ref (ad 50), .ref (ad 51), .ref (ad 52), .ref (ad 53), .ref (ad 54)]) := (hf_165 44 (by decide)).trans h44
        have h_181 : g_162 54 = .inr (0, [.int 0, .ref (ad 55), .ref (ad 56), .ref (ad 57), .ref (ad 63)]) := (hf_165 54 (by decide)).trans h54
        have h_182 : g_162 45 = .inl (cs 1, 14, .inl (fun _ => 0)) := (hf_165 45 (by decide)).trans h45
        have h_183 : g_162 46 = .inl (cs 3, 14, .inl (fun _ => 0)) := (hf_165 46 (by decide)).trans h46
        have h_184 : g_162 47 = .inl (cs 1, 5, .inl (fun _ => 0)) := (hf_165 47 (by decide)).trans h47
        have h_185 : g_162 48 = .inl (cs 1, 8, .inl (fun _ => 0)) := (hf_165 48 (by decide)).trans h48
        have h_186 : g_162 49 = .inl (cs 1, 8, .inl (fun _ => 0)) := (hf_165 49 (by decide)).trans h49
        have h_187 : g_162 50 = .inl (cs 1, 8, .inl (fun _ => 0)) := (hf_165 50 (by decide)).trans h50
        have h_188 : g_162 51 = .inl (cs 1, 8, .inl (fun _ => 0)) := (hf_165 51 (by decide)).trans h51
        have h_189 : g_162 52 = .inl (cs 1, 6, .inl (fun _ => 0)) := (hf_165 52 (by decide)).trans h52
        have h_190 : g_162 53 = .inl (cs 1, 6, .inl (fun _ => 0)) := (hf_165 53 (by decide)).trans h53
        have h_191 : g_162 64 = .inr (6, [.int 0, .int 0, .int 0, .int 0, .int 0, .int 0, .int 0, .int 0, .ref (ad 65), .ref (ad 66), .ref (ad 67), .ref (ad 68), .ref (ad 69), .ref (ad 70), .ref (ad 71), .ref (ad 72), .ref (ad 73), .ref (ad 74)]) := (hf_165 64 (by decide)).trans h64
        have h_192 : g_162 74 = .inr (0, [.int 0, .ref (ad 75), .ref (ad 76), .ref (ad 77), .ref (ad 83)]) := (hf_165 74 (by decide)).trans h74
        have h_193 : g_162 65 = .inl (cs 1, 14, .inl (fun _ => 0)) := (hf_165 65 (by decide)).trans h65
        have h_194 : g_162 66 = .inl (cs 3, 14, .inl (fun _ => 0)) := (hf_165 66 (by decide)).trans h66
        have h_195 : g_162 67 = .inl (cs 1, 5, .inl (fun _ => 0)) := (hf_165 67 (by decide)).trans h67
        have h_196 : g_162 68 = .inl (cs 1, 8, .inl (fun _ => 0)) := (hf_165 68 (by decide)).trans h68
        have h_197 : g_162 69 = .inl (cs 1, 8, .inl (fun _ => 0)) := (hf_165 69 (by decide)).trans h69
        have h_198 : g_162 70 = .inl (cs 1, 8, .inl (fun _ => 0)) := (hf_165 70 (by decide)).trans h70
        have h_199 : g_162 71 = .inl (cs 1, 8, .inl (fun _ => 0)) := (hf_165 71 (by decide)).trans h71
        have h_200 : g_162 72 = .inl (cs 1, 6, .inl (fun _ => 0)) := (hf_165 72 (by decide)).trans h72
        have h_201 : g_162 73 = .inl (cs 1, 6, .inl (fun _ => 0)) := (hf_165 73 (by decide)).trans h73
        refine lv_aload_n hx hb dX11_image_25 rfl (lv_at hl 0 rfl) ?_
        refine q_get X iX11_image_11 hP (by decide) h_166 rfl 4 (by decide) (List.mem_of_getElem? (i := 40) rfl) (v := .ref (ad 104)) rfl dX11_image_26 ?_
        refine lv_iload_n hx hb dX11_image_29 rfl (lv_at hl 1 rfl) ?_
        refine lv_iconst (v := 1) hx hb dX11_image_30 (by decide) ?_
        refine q_zast X hP hj hA hS (by decide) h_179 (by unfold vp_in; decide) dX11_image_31 (fun H locs hP hS => ?_)
        generalize eg_202 : va_up g_162 104 _ = g_202 at hP
        have h_204 : g_202 0 = .inr (11, [.ref (ad 1), .ref (ad 3), .ref (ad 23), .ref (ad 43), .ref (ad 104), .ref (ad 105), .ref (ad 114), .ref (ad 116), .ref (ad 118), .ref (ad 120), .ref (ad 130), .ref (ad 140), .ref (ad 144), .ref (ad 190)]) := by rw [← eg_202, va_up_ne _ _ (by decide)]; exact h_166
        have h_205 : g_202 3 = .inr (6, [.int 0, .int 0, .int 0, .int 0, .int 0, .int 0, .int 0, .int 0, .ref (ad 4), .ref (ad 5), .ref (ad 6), .ref (ad 7), .ref (ad 8), .ref (ad 9), .ref (ad 10), .ref (ad 11), .ref (ad 12), .ref (ad 13)]) := by rw [← eg_202, va_up_ne _ _ (by decide)]; exact h_167
        have h_206 : g_202 13 = .inr (0, [.int 0, .ref (ad 14), .ref (ad 15), .ref (ad 16), .ref (ad 22)]) := by rw [← eg_202, va_up_ne _ _ (by decide)]; exact h_168
        have h_207 : g_202 4 = .inl (cs 1, 14, .inl (fun _ => 0)) := by rw [← eg_202, va_up_ne _ _ (by decide)]; exact h_169
        have h_208 : g_202 5 = .inl (cs 3, 14, .inl (fun _ => 0)) := by rw [← eg_202, va_up_ne _ _ (by decide)]; exact h_170
        have h_209 : g_202 6 = .inl (cs 1, 5, .inl (fun _ => 0)) := by rw [← eg_202, va_up_ne _ _ (by decide)]; exact h_171
        have h_210 : g_202 7 = .inl (cs 1, 8, .inl (fun _ => 0)) := by rw [← eg_202, va_up_ne _ _ (by decide)]; exact h_172
        have h_211 : g_202 8 = .inl (cs 1, 8, .inl (fun _ => 0)) := by rw [← eg_202, va_up_ne _ _ (by decide)]; exact h_173
        have h_212 : g_202 9 = .inl (cs 1, 8, .inl (fun _ => 0)) := by rw [← eg_202, va_up_ne _ _ (by decide)]; exact h_174
        have h_213 : g_202 10 = .inl (cs 1, 8, .inl (fun _ => 0)) := by rw [← eg_202, va_up_ne _ _ (by decide)]; exact h_175
        have h_214 : g_202 11 = .inl (cs 1, 6, .inl (fun _ => 0)) := by rw [← eg_202, va_up_ne _ _ (by decide)]; exact h_176
        have h_215 : g_202 12 = .inl (cs 1, 6, .inl (fun _ => 0)) := by rw [← eg_202, va_up_ne _ _ (by decide)]; exact h_177
        have h_216 : g_202 43 = .inl (cs 5, 3, .inr (.inr (.inr (.inr (fun k => if k < 3 then some (ad (44 + 20 * k)) else none))))) := by rw [← eg_202, va_up_ne _ _ (by decide)]; exact h_178
        obtain ⟨f_203, h_217⟩ : ∃ f, g_202 104 = .inl (cs 3, 3, .inl f) := ⟨_, by rw [← eg_202]; exact va_up_self _ _ _⟩
        have h_218 : g_202 44 = .inr (6, [.int 0, .int 0, .int 0, .int 0, .int 0, .int 0, .int 0, .int 0, .ref (ad 45), .ref (ad 46), .ref (ad 47), .ref (ad 48), .ref (ad 49), .ref (ad 50), .ref (ad 51), .ref (ad 52), .ref (ad 53), .ref (ad 54)]) := by rw [← eg_202, va_up_ne _ _ (by decide)]; exact h_180
        have h_219 : g_202 54 = .inr (0, [.int 0, .ref (ad 55), .ref (ad 56), .ref (ad 57), .ref (ad 63)]) := by rw [← eg_202, va_up_ne _ _ (by decide)]; exact h_181
        have h_220 : g_202 45 = .inl (cs 1, 14, .inl (fun _ => 0)) := by rw [← eg_202, va_up_ne _ _ (by decide)]; exact h_182
        have h_221 : g_202 46 = .inl (cs 3, 14, .inl (fun _ => 0)) := by rw [← eg_202, va_up_ne _ _ (by decide)]; exact h_183
        have h_222 : g_202 47 = .inl (cs 1, 5, .inl (fun _ => 0)) := by rw [← eg_202, va_up_ne _ _ (by decide)]; exact h_184
        have h_223 : g_202 48 = .inl (cs 1, 8, .inl (fun _ => 0)) := by rw [← eg_202, va_up_ne _ _ (by decide)]; exact h_185
        have h_224 : g_202 49 = .inl (cs 1, 8, .inl (fun _ => 0)) := by rw [← eg_202, va_up_ne _ _ (by decide)]; exact h_186
        have h_225 : g_202 50 = .inl (cs 1, 8, .inl (fun _ => 0)) := by rw [← eg_202, va_up_ne _ _ (by decide)]; exact h_187
        have h_226 : g_202 51 = .inl (cs 1, 8, .inl (fun _ => 0)) := by rw [← eg_202, va_up_ne _ _ (by decide)]; exact h_188
        have h_227 : g_202 52 = .inl (cs 1, 6, .inl (fun _ => 0)) := by rw [← eg_202, va_up_ne _ _ (by decide)]; exact h_189
        have h_228 : g_202 53 = .inl (cs 1, 6, .inl (fun _ => 0)) := by rw [← eg_202, va_up_ne _ _ (by decide)]; exact h_190
        have h_229 : g_202 64 = .inr (6, [.int 0, .int 0, .int 0, .int 0, .int 0, .int 0, .int 0, .int 0, .ref (ad 65), .ref (ad 66), .ref (ad 67), .ref (ad 68), .ref (ad 69), .ref (ad 70), .ref (ad 71), .ref (ad 72), .ref (ad 73), .ref (ad 74)]) := by rw [← eg_202, va_up_ne _ _ (by decide)]; exact h_191
        have h_230 : g_202 74 = .inr (0, [.int 0, .ref (ad 75), .ref (ad 76), .ref (ad 77), .ref (ad 83)]) := by rw [← eg_202, va_up_ne _ _ (by decide)]; exact h_192
        have h_231 : g_202 65 = .inl (cs 1, 14, .inl (fun _ => 0)) := by rw [← eg_202, va_up_ne _ _ (by decide)]; exact h_193
        have h_232 : g_202 66 = .inl (cs 3, 14, .inl (fun _ => 0)) := by rw [← eg_202, va_up_ne _ _ (by decide)]; exact h_194
        have h_233 : g_202 67 = .inl (cs 1, 5, .inl (fun _ => 0)) := by rw [← eg_202, va_up_ne _ _ (by decide)]; exact h_195
        have h_234 : g_202 68 = .inl (cs 1, 8, .inl (fun _ => 0)) := by rw [← eg_202, va_up_ne _ _ (by decide)]; exact h_196
        have h_235 : g_202 69 = .inl (cs 1, 8, .inl (fun _ => 0)) := by rw [← eg_202, va_up_ne _ _ (by decide)]; exact h_197
        have h_236 : g_202 70 = .inl (cs 1, 8, .inl (fun _ => 0)) := by rw [← eg_202, va_up_ne _ _ (by decide)]; exact h_198
        have h_237 : g_202 71 = .inl (cs 1, 8, .inl (fun _ => 0)) := by rw [← eg_202, va_up_ne _ _ (by decide)]; exact h_199
        have h_238 : g_202 72 = .inl (cs 1, 6, .inl (fun _ => 0)) := by rw [← eg_202, va_up_ne _ _ (by decide)]; exact h_200
        have h_239 : g_202 73 = .inl (cs 1, 6, .inl (fun _ => 0)) := by rw [← eg_202, va_up_ne _ _ (by decide)]; exact h_201
        have h_240 : g_202 84 = .inr (6, [.int 0, .int 0, .int 0, .int 0, .int 0, .int 0, .int 0, .int 0, .ref (ad 85), .ref (ad 86), .ref (ad 87), .ref (ad 88), .ref (ad 89), .ref (ad 90), .ref (ad 91), .ref (ad 92), .ref (ad 93), .ref (ad 94)]) := by rw [← eg_202, va_up_ne _ _ (by decide)]; exact h_164
        refine lv_iconst (v := 0) hx hb dX11_image_32 (by decide) ?_
        exact q_iret X hP hS (by unfold aImg; rfl) dX11_image_33
    · refine lv_bipush (v := (-2)) hx hb dX11_image_9 (by decide) ?_
      exact q_iret X hP hS (by unfold aImg; first | rw [if_pos hc_1] | rw [if_neg hc_1, if_neg hc_6]) dX11_image_11
