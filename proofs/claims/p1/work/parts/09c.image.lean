theorem dX11_street_0 : decode cX11_street 0 = .ok (.aload_n 0, 1) := by decide +kernel
theorem dX11_street_1 : decode cX11_street 1 = .ok (.getfield 12, 3) := by decide +kernel
theorem dX11_street_4 : decode cX11_street 4 = .ok (.aload_n 0, 1) := by decide +kernel
theorem dX11_street_5 : decode cX11_street 5 = .ok (.getfield 23, 3) := by decide +kernel
theorem dX11_street_8 : decode cX11_street 8 = .ok (.invokevirtual 101, 3) := by decide +kernel
theorem dX11_street_11 : decode cX11_street 11 = .ok (.ifCond .ne 6, 3) := by decide +kernel
theorem dX11_street_17 : decode cX11_street 17 = .ok (.aload_n 0, 1) := by decide +kernel
theorem dX11_street_18 : decode cX11_street 18 = .ok (.getfield 12, 3) := by decide +kernel
theorem dX11_street_21 : decode cX11_street 21 = .ok (.iconst 0, 1) := by decide +kernel
theorem dX11_street_22 : decode cX11_street 22 = .ok (.putfield 93, 3) := by decide +kernel
theorem dX11_street_25 : decode cX11_street 25 = .ok (.aload_n 0, 1) := by decide +kernel
theorem dX11_street_26 : decode cX11_street 26 = .ok (.getfield 19, 3) := by decide +kernel
theorem dX11_street_29 : decode cX11_street 29 = .ok (.aload_n 0, 1) := by decide +kernel
theorem dX11_street_30 : decode cX11_street 30 = .ok (.getfield 23, 3) := by decide +kernel
theorem dX11_street_33 : decode cX11_street 33 = .ok (.invokevirtual 105, 3) := by decide +kernel
theorem dX11_street_36 : decode cX11_street 36 = .ok (.aload_n 0, 1) := by decide +kernel
theorem dX11_street_37 : decode cX11_street 37 = .ok (.getfield 44, 3) := by decide +kernel
theorem dX11_street_40 : decode cX11_street 40 = .ok (.aload_n 0, 1) := by decide +kernel
theorem dX11_street_41 : decode cX11_street 41 = .ok (.getfield 19, 3) := by decide +kernel
theorem dX11_street_44 : decode cX11_street 44 = .ok (.invokevirtual 109, 3) := by decide +kernel
theorem dX11_street_47 : decode cX11_street 47 = .ok (.aload_n 0, 1) := by decide +kernel
theorem dX11_street_48 : decode cX11_street 48 = .ok (.getfield 19, 3) := by decide +kernel
theorem dX11_street_51 : decode cX11_street 51 = .ok (.getfield 112, 3) := by decide +kernel
theorem dX11_street_54 : decode cX11_street 54 = .ok (.ireturn, 1) := by decide +kernel
def vX11_street : List Cond := .code yX11_street cX11_street 1 (some .int) :: ([.fieldLink RX11 12 "IcicleClock" "tape" "LIcicleClock$Tape;", .fieldLink RX11 23 "IcicleClock" "draft" "LIcicleClock$Street;", .methodLink RX11 101 yX7_readInto, .instanceMethod yX7_readInto, .selects RX7 yX7_readInto yX7_readInto, .initialized RX7, .code yX7_readInto cX7_readInto 3 (some .boolean), .methodLink RX7 22 yX6_clear, .instanceMethod yX6_clear, .selects RX6 yX6_clear yX6_clear, .initialized RX6, .code yX6_clear cX6_clear 1 none, .fieldLink RX6 47 "IcicleClock$Street" "slamTakes" "I", .fieldLink RX6 51 "IcicleClock$Street" "bellTakes" "I", .fieldLink RX6 54 "IcicleClock$Street" "odds" "I", .fieldLink RX6 57 "IcicleClock$Street" "days" "I", .fieldLink RX6 60 "IcicleClock$Street" "eaves" "I", .fieldLink RX6 63 "IcicleClock$Street" "icicles" "I", .fieldLink RX6 66 "IcicleClock$Street" "works" "I", .fieldLink RX6 69 "IcicleClock$Street" "lines" "I", .fieldLink RX6 43 "IcicleClock$Street" "acts" "LIcicleClock$Acts;", .methodLink RX6 72 yX0_clear, .instanceMethod yX0_clear, .selects RX0 yX0_clear yX0_clear, .initialized RX0, .code yX0_clear cX0_clear 2 none, .fieldLink RX0 26 "IcicleClock$Acts" "done" "I", .fieldLink RX7 27 "IcicleClock$Tape" "fault" "I", .fieldLink RX7 15 "IcicleClock$Tape" "faultPlace" "I", .fieldLink RX7 30 "IcicleClock$Tape" "stop" "I", .methodLink RX7 33 yX7_advance, .instanceMethod yX7_advance, .selects RX7 yX7_advance yX7_advance, .code yX7_advance cX7_advance 2 none, .fieldLink RX7 159 "IcicleClock$Tape" "start" "I", .fieldLink RX7 19 "IcicleClock$Tape" "filled" "I", .fieldLink RX7 36 "IcicleClock$Tape" "kind" "I", .fieldLink RX11 93 "IcicleClock$Tape" "filled" "I", .fieldLink RX11 19 "IcicleClock" "now" "LIcicleClock$Street;", .methodLink RX11 105 yX6_copyFrom, .instanceMethod yX6_copyFrom, .selects RX6 yX6_copyFrom yX6_copyFrom, .code yX6_copyFrom cX6_copyFrom 3 none, .fieldLink RX6 9 "IcicleClock$Street" "thaw" "[I", .methodLink RX6 75 arraycopyName, .native arraycopyName, .static arraycopyName, .initialized "java/lang/System", .fieldLink RX6 19 "IcicleClock$Street" "sun" "[I", .fieldLink RX6 22 "IcicleClock$Street" "eaveOf" "[I", .fieldLink RX6 25 "IcicleClock$Street" "lengthTold" "[I", .fieldLink RX6 28 "IcicleClock$Street" "lengthHung" "[I", .fieldLink RX6 31 "IcicleClock$Street" "hourOf" "[I", .fieldLink RX6 34 "IcicleClock$Street" "dueHour" "[I", .fieldLink RX6 37 "IcicleClock$Street" "dueDay" "[I", .methodLink RX6 81 yX0_copyFrom, .instanceMethod yX0_copyFrom, .selects RX0 yX0_copyFrom yX0_copyFrom, .code yX0_copyFrom cX0_copyFrom 3 none, .methodLink RX0 38 yX0_clear, .fieldLink RX6 15 "IcicleClock$Street" "isThaw" "[Z", .fieldLink RX11 44 "IcicleClock" "winter" "LIcicleClock$Winter;", .methodLink RX11 109 yX10_passOver, .instanceMethod yX10_passOver, .selects RX10 yX10_passOver yX10_passOver, .initialized RX10, .code yX10_passOver cX10_passOver 3 none, .fieldLink RX10 22 "IcicleClock$Street" "icicles" "I", .fieldLink RX11 112 "IcicleClock$Street" "lines" "I"] ++ wsX110 ++ wsX60 ++ wsX00 ++ wsX70)
theorem iX11_street_11 : ∀ w ∈ wsX110, w ∈ vX11_street := fun _ h => List.mem_cons_of_mem _ (List.mem_append_left _ (List.mem_append_left _ (List.mem_append_left _ (List.mem_append_right _ h))))
theorem iX11_street_6 : ∀ w ∈ wsX60, w ∈ vX11_street := fun _ h => List.mem_cons_of_mem _ (List.mem_append_left _ (List.mem_append_left _ (List.mem_append_right _ h)))
theorem iX11_street_0 : ∀ w ∈ wsX00, w ∈ vX11_street := fun _ h => List.mem_cons_of_mem _ (List.mem_append_left _ (List.mem_append_right _ h))
theorem iX11_street_7 : ∀ w ∈ wsX70, w ∈ vX11_street := fun _ h => List.mem_cons_of_mem _ (List.mem_append_right _ h)
set_option maxRecDepth 20000 in
theorem gg_X11_street_X7_readInto : GoodIn vX11_street (wsV RX11 101 RX7 yX7_readInto vX7_readInto) := goodIn_r _ [3, 4, 5, 6, 7, 8, 9, 10, 11, 12, 13, 14, 15, 16, 17, 18, 19, 20, 21, 22, 23, 24, 25, 26, 27, 28, 29, 30, 31, 32, 33, 6, 34, 35, 36, 37, 84, 85, 86, 87, 88, 89, 90, 91, 92, 93, 94, 95, 96, 97, 98, 99, 100, 101, 102, 103, 104, 105, 106, 107, 108, 109, 110, 111, 112, 113] (by decide +kernel) (by decide +kernel)
set_option maxRecDepth 20000 in
theorem gg_X11_street_X6_copyFrom : GoodIn vX11_street (wsV RX11 105 RX6 yX6_copyFrom vX6_copyFrom) := goodIn_r _ [40, 41, 42, 11, 43, 13, 14, 15, 16, 17, 18, 19, 20, 44, 45, 46, 47, 48, 49, 50, 51, 52, 53, 54, 55, 21, 56, 57, 58, 25, 59, 60, 23, 24, 26, 27, 61, 84, 85, 86, 87, 88, 89, 90, 91, 92, 93, 94, 95, 96, 97, 98, 99, 100, 101, 102, 103, 104, 105, 106] (by decide +kernel) (by decide +kernel)
set_option maxRecDepth 20000 in
theorem gg_X11_street_X10_passOver : GoodIn vX11_street (wsV RX11 109 RX10 yX10_passOver vX10_passOver) := goodIn_r _ [63, 64, 65, 66, 67, 68, 84, 85, 86, 87, 88, 89, 90, 91, 92, 93, 94, 95, 96, 97, 98, 99, 100, 101] (by decide +kernel) (by decide +kernel)
set_option maxHeartbeats 4000000 in
set_option maxRecDepth 100000 in
theorem k_street (l : Launch) (D : va_G) (cs : Nat → ClassId) (ad : Nat → Nat) (hj : wJ ad nW) (g : Nat → va_E) (h0 : g 0 = .inr (11, [.ref (ad 1), .ref (ad 3), .ref (ad 23), .ref (ad 43), .ref (ad 104), .ref (ad 105), .ref (ad 114), .ref (ad 116), .ref (ad 118), .ref (ad 120), .ref (ad 130), .ref (ad 140), .ref (ad 144), .ref (ad 190)])) (h1 : g 1 = .inr (7, [.ref (ad 2), .int 0, .int 0, .int (-1), .int 0, .int 0, .int 0])) (h3 : g 3 = .inr (6, [.int 0, .int 0, .int 0, .int 0, .int 0, .int 0, .int 0, .int 0, .ref (ad 4), .ref (ad 5), .ref (ad 6), .ref (ad 7), .ref (ad 8), .ref (ad 9), .ref (ad 10), .ref (ad 11), .ref (ad 12), .ref (ad 13)])) (h13 : g 13 = .inr (0, [.int 0, .ref (ad 14), .ref (ad 15), .ref (ad 16), .ref (ad 22)])) (h23 : g 23 = .inr (6, [.int 0, .int 0, .int 0, .int 0, .int 0, .int 0, .int 0, .int 0, .ref (ad 24), .ref (ad 25), .ref (ad 26), .ref (ad 27), .ref (ad 28), .ref (ad 29), .ref (ad 30), .ref (ad 31), .ref (ad 32), .ref (ad 33)])) (h33 : g 33 = .inr (0, [.int 0, .ref (ad 34), .ref (ad 35), .ref (ad 36), .ref (ad 42)])) (h4 : g 4 = .inl (cs 1, 14, .inl (fun _ => 0))) (h5 : g 5 = .inl (cs 3, 14, .inl (fun _ => 0))) (h6 : g 6 = .inl (cs 1, 5, .inl (fun _ => 0))) (h7 : g 7 = .inl (cs 1, 8, .inl (fun _ => 0))) (h8 : g 8 = .inl (cs 1, 8, .inl (fun _ => 0))) (h9 : g 9 = .inl (cs 1, 8, .inl (fun _ => 0))) (h10 : g 10 = .inl (cs 1, 8, .inl (fun _ => 0))) (h11 : g 11 = .inl (cs 1, 6, .inl (fun _ => 0))) (h12 : g 12 = .inl (cs 1, 6, .inl (fun _ => 0))) (h24 : g 24 = .inl (cs 1, 14, .inl (fun _ => 0))) (h25 : g 25 = .inl (cs 3, 14, .inl (fun _ => 0))) (h26 : g 26 = .inl (cs 1, 5, .inl (fun _ => 0))) (h27 : g 27 = .inl (cs 1, 8, .inl (fun _ => 0))) (h28 : g 28 = .inl (cs 1, 8, .inl (fun _ => 0))) (h29 : g 29 = .inl (cs 1, 8, .inl (fun _ => 0))) (h30 : g 30 = .inl (cs 1, 8, .inl (fun _ => 0))) (h31 : g 31 = .inl (cs 1, 6, .inl (fun _ => 0))) (h32 : g 32 = .inl (cs 1, 6, .inl (fun _ => 0))) (h114 : g 114 = .inr (10, [.int 0, .int (-1), .int (-1), .ref (ad 115)])) : cI l yX11_street vX11_street { frames := 3, cells := 0, slots := 0, locals := 65 } D cs ad nW [.ref (ad 0)] g (fun r g2 => r = 0 ∧ ∀ j, 197 ≤ j → g2 j = g j) := by
  refine Met.start (cc := cX11_street) (maxL := 1) (ret := (some .int)) RX11 rfl (by decide) rfl (Nat.le_of_ble_eq_true rfl) ?_
  intro p e s m below meth c ls X hP hl
  have hx := X.1
  have hb := X.2.1
  have hS : va_S (wA ad nW) s.heap s.heap [] := va_S.rf
  have hA : ∀ i, i < nW → wA ad nW (ad i) := fun i h => ⟨i, h, rfl⟩
  have hfr : ∀ j, 197 ≤ j → g j = g j := fun _ _ => rfl
  have hl : lv_has ls 1 [(0, .ref (ad 0))] := hl
  refine lv_aload_n hx hb dX11_street_0 rfl (lv_at hl 0 rfl) ?_
  refine q_get X iX11_street_11 hP (by decide) h0 rfl 0 (by decide) (List.mem_of_getElem? (i := 1) rfl) (v := .ref (ad 1)) rfl dX11_street_1 ?_
  refine lv_aload_n hx hb dX11_street_4 rfl (lv_at hl 0 rfl) ?_
  refine q_get X iX11_street_11 hP (by decide) h0 rfl 2 (by decide) (List.mem_of_getElem? (i := 2) rfl) (v := .ref (ad 23)) rfl dX11_street_5 ?_
  refine q_calli (q := (RX7, TX7, 7)) (As := [.ref (ad 23)]) (rest := []) X (k_readInto l D cs ad hj g  h1 h23 h33) (cwV 1 X.2.2.2.2.1 gg_X11_street_X7_readInto rfl rfl rfl (by decide +kernel) ⟨Nat.le_of_ble_eq_true rfl, Nat.le_of_ble_eq_true rfl⟩) (by decide) h1 rfl hP hA hS rfl hl.1 rfl (Nat.le_of_ble_eq_true rfl) dX11_street_8 ⟨Nat.le_of_ble_eq_true rfl, Nat.le_of_ble_eq_true rfl⟩ (fun r_3 g_2 H locs hw_1 hP hS => ?_)
  obtain ⟨hw_1r, h_4, h_5, hf_6⟩ := hw_1
  subst hw_1r
  have hfr_7 : ∀ j, 197 ≤ j → g_2 j = g j := fun j hj => (hf_6 j (by omega)).trans (hfr j hj)
  have h_8 : g_2 0 = .inr (11, [.ref (ad 1), .ref (ad 3), .ref (ad 23), .ref (ad 43), .ref (ad 104), .ref (ad 105), .ref (ad 114), .ref (ad 116), .ref (ad 118), .ref (ad 120), .ref (ad 130), .ref (ad 140), .ref (ad 144), .ref (ad 190)]) := (hf_6 0 (by decide)).trans h0
  have h_9 : g_2 3 = .inr (6, [.int 0, .int 0, .int 0, .int 0, .int 0, .int 0, .int 0, .int 0, .ref (ad 4), .ref (ad 5), .ref (ad 6), .ref (ad 7), .ref (ad 8), .ref (ad 9), .ref (ad 10), .ref (ad 11), .ref (ad 12), .ref (ad 13)]) := (hf_6 3 (by decide)).trans h3
  have h_10 : g_2 13 = .inr (0, [.int 0, .ref (ad 14), .ref (ad 15), .ref (ad 16), .ref (ad 22)]) := (hf_6 13 (by decide)).trans h13
  have h_11 : g_2 33 = .inr (0, [.int 0, .ref (ad 34), .ref (ad 35), .ref (ad 36), .ref (ad 42)]) := (hf_6 33 (by decide)).trans h33
  have h_12 : g_2 4 = .inl (cs 1, 14, .inl (fun _ => 0)) := (hf_6 4 (by decide)).trans h4
  have h_13 : g_2 5 = .inl (cs 3, 14, .inl (fun _ => 0)) := (hf_6 5 (by decide)).trans h5
  have h_14 : g_2 6 = .inl (cs 1, 5, .inl (fun _ => 0)) := (hf_6 6 (by decide)).trans h6
  have h_15 : g_2 7 = .inl (cs 1, 8, .inl (fun _ => 0)) := (hf_6 7 (by decide)).trans h7
  have h_16 : g_2 8 = .inl (cs 1, 8, .inl (fun _ => 0)) := (hf_6 8 (by decide)).trans h8
  have h_17 : g_2 9 = .inl (cs 1, 8, .inl (fun _ => 0)) := (hf_6 9 (by decide)).trans h9
  have h_18 : g_2 10 = .inl (cs 1, 8, .inl (fun _ => 0)) := (hf_6 10 (by decide)).trans h10
  have h_19 : g_2 11 = .inl (cs 1, 6, .inl (fun _ => 0)) := (hf_6 11 (by decide)).trans h11
  have h_20 : g_2 12 = .inl (cs 1, 6, .inl (fun _ => 0)) := (hf_6 12 (by decide)).trans h12
  have h_21 : g_2 24 = .inl (cs 1, 14, .inl (fun _ => 0)) := (hf_6 24 (by decide)).trans h24
  have h_22 : g_2 25 = .inl (cs 3, 14, .inl (fun _ => 0)) := (hf_6 25 (by decide)).trans h25
  have h_23 : g_2 26 = .inl (cs 1, 5, .inl (fun _ => 0)) := (hf_6 26 (by decide)).trans h26
  have h_24 : g_2 27 = .inl (cs 1, 8, .inl (fun _ => 0)) := (hf_6 27 (by decide)).trans h27
  have h_25 : g_2 28 = .inl (cs 1, 8, .inl (fun _ => 0)) := (hf_6 28 (by decide)).trans h28
  have h_26 : g_2 29 = .inl (cs 1, 8, .inl (fun _ => 0)) := (hf_6 29 (by decide)).trans h29
  have h_27 : g_2 30 = .inl (cs 1, 8, .inl (fun _ => 0)) := (hf_6 30 (by decide)).trans h30
  have h_28 : g_2 31 = .inl (cs 1, 6, .inl (fun _ => 0)) := (hf_6 31 (by decide)).trans h31
  have h_29 : g_2 32 = .inl (cs 1, 6, .inl (fun _ => 0)) := (hf_6 32 (by decide)).trans h32
  have h_30 : g_2 114 = .inr (10, [.int 0, .int (-1), .int (-1), .ref (ad 115)]) := (hf_6 114 (by decide)).trans h114
  refine lv_if_ne (tgt := 17) hx hb dX11_street_11 (by decide) (fun _ => ?_) (fun h => absurd h (by decide))
  refine lv_aload_n hx hb dX11_street_17 rfl (lv_at hl 0 rfl) ?_
  refine q_get X iX11_street_11 hP (by decide) h_8 rfl 0 (by decide) (List.mem_of_getElem? (i := 1) rfl) (v := .ref (ad 1)) rfl dX11_street_18 ?_
  refine lv_iconst (v := 0) hx hb dX11_street_21 (by decide) ?_
  refine q_put X iX11_street_7 tyX7 tyX7_ok nmX7 hP hj hA hS (by decide) h_4 rfl 1 (by decide) (List.mem_of_getElem? (i := 38) rfl) rfl (ty := .int) (v := .int 0) (by decide +kernel) rfl rfl (Nat.le_of_ble_eq_true rfl) dX11_street_22 (fun H locs hP hS => ?_)
  generalize eg_31 : va_up g_2 1 _ = g_31 at hP
  have hfr_32 : ∀ j, 197 ≤ j → g_31 j = g j := fun j hj => by rw [← eg_31]; exact (va_up_ne _ _ (by omega)).trans (hfr_7 j hj)
  have h_33 : g_31 0 = .inr (11, [.ref (ad 1), .ref (ad 3), .ref (ad 23), .ref (ad 43), .ref (ad 104), .ref (ad 105), .ref (ad 114), .ref (ad 116), .ref (ad 118), .ref (ad 120), .ref (ad 130), .ref (ad 140), .ref (ad 144), .ref (ad 190)]) := by rw [← eg_31, va_up_ne _ _ (by decide)]; exact h_8
  have h_34 : g_31 1 = .inr (7, [.ref (ad 2), .int 0, .int 0, .int (-1), .int 0, .int 0, .int 0]) := by rw [← eg_31]; exact va_up_self _ _ _
  have h_35 : g_31 3 = .inr (6, [.int 0, .int 0, .int 0, .int 0, .int 0, .int 0, .int 0, .int 0, .ref (ad 4), .ref (ad 5), .ref (ad 6), .ref (ad 7), .ref (ad 8), .ref (ad 9), .ref (ad 10), .ref (ad 11), .ref (ad 12), .ref (ad 13)]) := by rw [← eg_31, va_up_ne _ _ (by decide)]; exact h_9
  have h_36 : g_31 13 = .inr (0, [.int 0, .ref (ad 14), .ref (ad 15), .ref (ad 16), .ref (ad 22)]) := by rw [← eg_31, va_up_ne _ _ (by decide)]; exact h_10
  have h_37 : g_31 23 = .inr (6, [.int 0, .int 0, .int 0, .int 0, .int 0, .int 0, .int 0, .int 0, .ref (ad 24), .ref (ad 25), .ref (ad 26), .ref (ad 27), .ref (ad 28), .ref (ad 29), .ref (ad 30), .ref (ad 31), .ref (ad 32), .ref (ad 33)]) := by rw [← eg_31, va_up_ne _ _ (by decide)]; exact h_5
  have h_38 : g_31 33 = .inr (0, [.int 0, .ref (ad 34), .ref (ad 35), .ref (ad 36), .ref (ad 42)]) := by rw [← eg_31, va_up_ne _ _ (by decide)]; exact h_11
  have h_39 : g_31 4 = .inl (cs 1, 14, .inl (fun _ => 0)) := by rw [← eg_31, va_up_ne _ _ (by decide)]; exact h_12
  have h_40 : g_31 5 = .inl (cs 3, 14, .inl (fun _ => 0)) := by rw [← eg_31, va_up_ne _ _ (by decide)]; exact h_13
  have h_41 : g_31 6 = .inl (cs 1, 5, .inl (fun _ => 0)) := by rw [← eg_31, va_up_ne _ _ (by decide)]; exact h_14
  have h_42 : g_31 7 = .inl (cs 1, 8, .inl (fun _ => 0)) := by rw [← eg_31, va_up_ne _ _ (by decide)]; exact h_15
  have h_43 : g_31 8 = .inl (cs 1, 8, .inl (fun _ => 0)) := by rw [← eg_31, va_up_ne _ _ (by decide)]; exact h_16
  have h_44 : g_31 9 = .inl (cs 1, 8, .inl (fun _ => 0)) := by rw [← eg_31, va_up_ne _ _ (by decide)]; exact h_17
  have h_45 : g_31 10 = .inl (cs 1, 8, .inl (fun _ => 0)) := by rw [← eg_31, va_up_ne _ _ (by decide)]; exact h_18
  have h_46 : g_31 11 = .inl (cs 1, 6, .inl (fun _ => 0)) := by rw [← eg_31, va_up_ne _ _ (by decide)]; exact h_19
  have h_47 : g_31 12 = .inl (cs 1, 6, .inl (fun _ => 0)) := by rw [← eg_31, va_up_ne _ _ (by decide)]; exact h_20
  have h_48 : g_31 24 = .inl (cs 1, 14, .inl (fun _ => 0)) := by rw [← eg_31, va_up_ne _ _ (by decide)]; exact h_21
  have h_49 : g_31 25 = .inl (cs 3, 14, .inl (fun _ => 0)) := by rw [← eg_31, va_up_ne _ _ (by decide)]; exact h_22
  have h_50 : g_31 26 = .inl (cs 1, 5, .inl (fun _ => 0)) := by rw [← eg_31, va_up_ne _ _ (by decide)]; exact h_23
  have h_51 : g_31 27 = .inl (cs 1, 8, .inl (fun _ => 0)) := by rw [← eg_31, va_up_ne _ _ (by decide)]; exact h_24
  have h_52 : g_31 28 = .inl (cs 1, 8, .inl (fun _ => 0)) := by rw [← eg_31, va_up_ne _ _ (by decide)]; exact h_25
  have h_53 : g_31 29 = .inl (cs 1, 8, .inl (fun _ => 0)) := by rw [← eg_31, va_up_ne _ _ (by decide)]; exact h_26
  have h_54 : g_31 30 = .inl (cs 1, 8, .inl (fun _ => 0)) := by rw [← eg_31, va_up_ne _ _ (by decide)]; exact h_27
  have h_55 : g_31 31 = .inl (cs 1, 6, .inl (fun _ => 0)) := by rw [← eg_31, va_up_ne _ _ (by decide)]; exact h_28
  have h_56 : g_31 32 = .inl (cs 1, 6, .inl (fun _ => 0)) := by rw [← eg_31, va_up_ne _ _ (by decide)]; exact h_29
  have h_57 : g_31 114 = .inr (10, [.int 0, .int (-1), .int (-1), .ref (ad 115)]) := by rw [← eg_31, va_up_ne _ _ (by decide)]; exact h_30
  refine lv_aload_n hx hb dX11_street_25 rfl (lv_at hl 0 rfl) ?_
  refine q_get X iX11_street_11 hP (by decide) h_33 rfl 1 (by decide) (List.mem_of_getElem? (i := 39) rfl) (v := .ref (ad 3)) rfl dX11_street_26 ?_
  refine lv_aload_n hx hb dX11_street_29 rfl (lv_at hl 0 rfl) ?_
  refine q_get X iX11_street_11 hP (by decide) h_33 rfl 2 (by decide) (List.mem_of_getElem? (i := 2) rfl) (v := .ref (ad 23)) rfl dX11_street_30 ?_
  refine q_callv (q := (RX6, TX6, 18)) (As := [.ref (ad 23)]) (rest := []) X (k_copy3 l D cs ad hj g_31  h_35 h_37 h_39 h_40 h_41 h_42 h_43 h_44 h_45 h_46 h_47 h_48 h_49 h_50 h_51 h_52 h_53 h_54 h_55 h_56 h_36 h_38) (cwV 1 X.2.2.2.2.1 gg_X11_street_X6_copyFrom rfl rfl rfl (by decide +kernel) ⟨Nat.le_of_ble_eq_true rfl, Nat.le_of_ble_eq_true rfl⟩) (by decide) h_35 rfl hP hA hS rfl hl.1 rfl (Nat.le_of_ble_eq_true rfl) dX11_street_33 ⟨Nat.le_of_ble_eq_true rfl, Nat.le_of_ble_eq_true rfl⟩ (fun g_59 H locs hw_58 hP hS => ?_)
  obtain ⟨h_61, hf_62⟩ := hw_58
  have hfr_63 : ∀ j, 197 ≤ j → g_59 j = g j := fun j hj => (hf_62 j (by omega)).trans (hfr_32 j hj)
  have h_64 : g_59 0 = .inr (11, [.ref (ad 1), .ref (ad 3), .ref (ad 23), .ref (ad 43), .ref (ad 104), .ref (ad 105), .ref (ad 114), .ref (ad 116), .ref (ad 118), .ref (ad 120), .ref (ad 130), .ref (ad 140), .ref (ad 144), .ref (ad 190)]) := (hf_62 0 (by decide)).trans h_33
  have h_65 : g_59 1 = .inr (7, [.ref (ad 2), .int 0, .int 0, .int (-1), .int 0, .int 0, .int 0]) := (hf_62 1 (by decide)).trans h_34
  have h_66 : g_59 23 = .inr (6, [.int 0, .int 0, .int 0, .int 0, .int 0, .int 0, .int 0, .int 0, .ref (ad 24), .ref (ad 25), .ref (ad 26), .ref (ad 27), .ref (ad 28), .ref (ad 29), .ref (ad 30), .ref (ad 31), .ref (ad 32), .ref (ad 33)]) := (hf_62 23 (by decide)).trans h_37
  have h_67 : g_59 33 = .inr (0, [.int 0, .ref (ad 34), .ref (ad 35), .ref (ad 36), .ref (ad 42)]) := (hf_62 33 (by decide)).trans h_38
  have h_68 : g_59 24 = .inl (cs 1, 14, .inl (fun _ => 0)) := (hf_62 24 (by decide)).trans h_48
  have h_69 : g_59 25 = .inl (cs 3, 14, .inl (fun _ => 0)) := (hf_62 25 (by decide)).trans h_49
  have h_70 : g_59 26 = .inl (cs 1, 5, .inl (fun _ => 0)) := (hf_62 26 (by decide)).trans h_50
  have h_71 : g_59 27 = .inl (cs 1, 8, .inl (fun _ => 0)) := (hf_62 27 (by decide)).trans h_51
  have h_72 : g_59 28 = .inl (cs 1, 8, .inl (fun _ => 0)) := (hf_62 28 (by decide)).trans h_52
  have h_73 : g_59 29 = .inl (cs 1, 8, .inl (fun _ => 0)) := (hf_62 29 (by decide)).trans h_53
  have h_74 : g_59 30 = .inl (cs 1, 8, .inl (fun _ => 0)) := (hf_62 30 (by decide)).trans h_54
  have h_75 : g_59 31 = .inl (cs 1, 6, .inl (fun _ => 0)) := (hf_62 31 (by decide)).trans h_55
  have h_76 : g_59 32 = .inl (cs 1, 6, .inl (fun _ => 0)) := (hf_62 32 (by decide)).trans h_56
  have h_77 : g_59 114 = .inr (10, [.int 0, .int (-1), .int (-1), .ref (ad 115)]) := (hf_62 114 (by decide)).trans h_57
  refine lv_aload_n hx hb dX11_street_36 rfl (lv_at hl 0 rfl) ?_
  refine q_get X iX11_street_11 hP (by decide) h_64 rfl 6 (by decide) (List.mem_of_getElem? (i := 62) rfl) (v := .ref (ad 114)) rfl dX11_street_37 ?_
  refine lv_aload_n hx hb dX11_street_40 rfl (lv_at hl 0 rfl) ?_
  refine q_get X iX11_street_11 hP (by decide) h_64 rfl 1 (by decide) (List.mem_of_getElem? (i := 39) rfl) (v := .ref (ad 3)) rfl dX11_street_41 ?_
  refine q_callv (q := (RX10, TX10, 4)) (As := [.ref (ad 3)]) (rest := []) X (k_passOver l D cs ad hj g_59  h_77 h_61) (cwV 1 X.2.2.2.2.1 gg_X11_street_X10_passOver rfl rfl rfl (by decide +kernel) ⟨Nat.le_of_ble_eq_true rfl, Nat.le_of_ble_eq_true rfl⟩) (by decide) h_77 rfl hP hA hS rfl hl.1 rfl (Nat.le_of_ble_eq_true rfl) dX11_street_44 ⟨Nat.le_of_ble_eq_true rfl, Nat.le_of_ble_eq_true rfl⟩ (fun g_79 H locs hw_78 hP hS => ?_)
  rw [hw_78] at hP
  refine lv_aload_n hx hb dX11_street_47 rfl (lv_at hl 0 rfl) ?_
  refine q_get X iX11_street_11 hP (by decide) h_64 rfl 1 (by decide) (List.mem_of_getElem? (i := 39) rfl) (v := .ref (ad 3)) rfl dX11_street_48 ?_
  refine q_get X iX11_street_6 hP (by decide) h_61 rfl 7 (by decide) (List.mem_of_getElem? (i := 69) rfl) (v := .int 0) rfl dX11_street_51 ?_
  exact q_iret X hP hS ⟨rfl, hfr_63⟩ dX11_street_54

theorem dX11_image_0 : decode cX11_image 0 = .ok (.iload_n 1, 1) := by decide +kernel
theorem dX11_image_1 : decode cX11_image 1 = .ok (.ifCond .lt 8, 3) := by decide +kernel
theorem dX11_image_9 : decode cX11_image 9 = .ok (.bipush (-2), 2) := by decide +kernel
theorem dX11_image_11 : decode cX11_image 11 = .ok (.ireturn, 1) := by decide +kernel
theorem dX11_image_4 : decode cX11_image 4 = .ok (.iload_n 1, 1) := by decide +kernel
theorem dX11_image_5 : decode cX11_image 5 = .ok (.iconst 3, 1) := by decide +kernel
theorem dX11_image_6 : decode cX11_image 6 = .ok (.if_icmp .lt 6, 3) := by decide +kernel
theorem dX11_image_12 : decode cX11_image 12 = .ok (.aload_n 0, 1) := by decide +kernel
theorem dX11_image_13 : decode cX11_image 13 = .ok (.getfield 26, 3) := by decide +kernel
theorem dX11_image_16 : decode cX11_image 16 = .ok (.iload_n 1, 1) := by decide +kernel
theorem dX11_image_17 : decode cX11_image 17 = .ok (.aaload, 1) := by decide +kernel
theorem dX11_image_18 : decode cX11_image 18 = .ok (.aload_n 0, 1) := by decide +kernel
theorem dX11_image_19 : decode cX11_image 19 = .ok (.getfield 19, 3) := by decide +kernel
theorem dX11_image_22 : decode cX11_image 22 = .ok (.invokevirtual 105, 3) := by decide +kernel
theorem dX11_image_25 : decode cX11_image 25 = .ok (.aload_n 0, 1) := by decide +kernel
theorem dX11_image_26 : decode cX11_image 26 = .ok (.getfield 30, 3) := by decide +kernel
theorem dX11_image_29 : decode cX11_image 29 = .ok (.iload_n 1, 1) := by decide +kernel
theorem dX11_image_30 : decode cX11_image 30 = .ok (.iconst 1, 1) := by decide +kernel
theorem dX11_image_31 : decode cX11_image 31 = .ok (.bastore, 1) := by decide +kernel
theorem dX11_image_32 : decode cX11_image 32 = .ok (.iconst 0, 1) := by decide +kernel
theorem dX11_image_33 : decode cX11_image 33 = .ok (.ireturn, 1) := by decide +kernel
def vX11_image : List Cond := .code yX11_image cX11_image 2 (some .int) :: ([.fieldLink RX11 26 "IcicleClock" "images" "[LIcicleClock$Street;", .fieldLink RX11 19 "IcicleClock" "now" "LIcicleClock$Street;", .methodLink RX11 105 yX6_copyFrom, .instanceMethod yX6_copyFrom, .selects RX6 yX6_copyFrom yX6_copyFrom, .initialized RX6, .code yX6_copyFrom cX6_copyFrom 3 none, .fieldLink RX6 47 "IcicleClock$Street" "slamTakes" "I", .fieldLink RX6 51 "IcicleClock$Street" "bellTakes" "I", .fieldLink RX6 54 "IcicleClock$Street" "odds" "I", .fieldLink RX6 57 "IcicleClock$Street" "days" "I", .fieldLink RX6 60 "IcicleClock$Street" "eaves" "I", .fieldLink RX6 63 "IcicleClock$Street" "icicles" "I", .fieldLink RX6 66 "IcicleClock$Street" "works" "I", .fieldLink RX6 69 "IcicleClock$Street" "lines" "I", .fieldLink RX6 9 "IcicleClock$Street" "thaw" "[I", .methodLink RX6 75 arraycopyName, .native arraycopyName, .static arraycopyName, .initialized "java/lang/System", .fieldLink RX6 19 "IcicleClock$Street" "sun" "[I", .fieldLink RX6 22 "IcicleClock$Street" "eaveOf" "[I", .fieldLink RX6 25 "IcicleClock$Street" "lengthTold" "[I", .fieldLink RX6 28 "IcicleClock$Street" "lengthHung" "[I", .fieldLink RX6 31 "IcicleClock$Street" "hourOf" "[I", .fieldLink RX6 34 "IcicleClock$Street" "dueHour" "[I", .fieldLink RX6 37 "IcicleClock$Street" "dueDay" "[I", .fieldLink RX6 43 "IcicleClock$Street" "acts" "LIcicleClock$Acts;", .methodLink RX6 81 yX0_copyFrom, .instanceMethod yX0_copyFrom, .selects RX0 yX0_copyFrom yX0_copyFrom, .initialized RX0, .code yX0_copyFrom cX0_copyFrom 3 none, .methodLink RX0 38 yX0_clear, .instanceMethod yX0_clear, .selects RX0 yX0_clear yX0_clear, .code yX0_clear cX0_clear 2 none, .fieldLink RX0 26 "IcicleClock$Acts" "done" "I", .fieldLink RX6 15 "IcicleClock$Street" "isThaw" "[Z", .fieldLink RX11 30 "IcicleClock" "kept" "[Z"] ++ wsX110 ++ wsX60 ++ wsX00)
theorem iX11_image_11 : ∀ w ∈ wsX110, w ∈ vX11_image := fun _ h => List.mem_cons_of_mem _ (List.mem_append_left _ (List.mem_append_left _ (List.mem_append_right _ h)))
theorem iX11_image_6 : ∀ w ∈ wsX60, w ∈ vX11_image := fun _ h => List.mem_cons_of_mem _ (List.mem_append_left _ (List.mem_append_right _ h))
theorem iX11_image_0 : ∀ w ∈ wsX00, w ∈ vX11_image := fun _ h => List.mem_cons_of_mem _ (List.mem_append_right _ h)
set_option maxRecDepth 20000 in
theorem gg_X11_image_X6_copyFrom : GoodIn vX11_image (wsV RX11 105 RX6 yX6_copyFrom vX6_copyFrom) := goodIn_r _ [3, 4, 5, 6, 7, 8, 9, 10, 11, 12, 13, 14, 15, 16, 17, 18, 19, 20, 21, 22, 23, 24, 25, 26, 27, 28, 29, 30, 31, 32, 33, 34, 35, 36, 37, 38, 39, 55, 56, 57, 58, 59, 60, 61, 62, 63, 64, 65, 66, 67, 68, 69, 70, 71, 72, 73, 74, 75, 76, 77] (by decide +kernel) (by decide +kernel)
set_option maxHeartbeats 4000000 in
set_option maxRecDepth 100000 in
theorem k_image (l : Launch) (D : va_G) (cs : Nat → ClassId) (ad : Nat → Nat) (hj : wJ ad nW) (g : Nat → va_E) (vk : Int32) (h0 : g 0 = .inr (11, [.ref (ad 1), .ref (ad 3), .ref (ad 23), .ref (ad 43), .ref (ad 104), .ref (ad 105), .ref (ad 114), .ref (ad 116), .ref (ad 118), .ref (ad 120), .ref (ad 130), .ref (ad 140), .ref (ad 144), .ref (ad 190)])) (h3 : g 3 = .inr (6, [.int 0, .int 0, .int 0, .int 0, .int 0, .int 0, .int 0, .int 0, .ref (ad 4), .ref (ad 5), .ref (ad 6), .ref (ad 7), .ref (ad 8), .ref (ad 9), .ref (ad 10), .ref (ad 11), .ref (ad 12), .ref (ad 13)])) (h13 : g 13 = .inr (0, [.int 0, .ref (ad 14), .ref (ad 15), .ref (ad 16), .ref (ad 22)])) (h4 : g 4 = .inl (cs 1, 14, .inl (fun _ => 0))) (h5 : g 5 = .inl (cs 3, 14, .inl (fun _ => 0))) (h6 : g 6 = .inl (cs 1, 5, .inl (fun _ => 0))) (h7 : g 7 = .inl (cs 1, 8, .inl (fun _ => 0))) (h8 : g 8 = .inl (cs 1, 8, .inl (fun _ => 0))) (h9 : g 9 = .inl (cs 1, 8, .inl (fun _ => 0))) (h10 : g 10 = .inl (cs 1, 8, .inl (fun _ => 0))) (h11 : g 11 = .inl (cs 1, 6, .inl (fun _ => 0))) (h12 : g 12 = .inl (cs 1, 6, .inl (fun _ => 0))) (h43 : g 43 = .inl (cs 5, 3, .inr (.inr (.inr (.inr (va_up (va_up (va_up (fun _ => none) 0 (some (ad 44))) 1 (some (ad 64))) 2 (some (ad 84)))))))) (h104 : g 104 = .inl (cs 3, 3, .inl (fun _ => 0))) (h44 : g 44 = .inr (6, [.int 0, .int 0, .int 0, .int 0, .int 0, .int 0, .int 0, .int 0, .ref (ad 45), .ref (ad 46), .ref (ad 47), .ref (ad 48), .ref (ad 49), .ref (ad 50), .ref (ad 51), .ref (ad 52), .ref (ad 53), .ref (ad 54)])) (h54 : g 54 = .inr (0, [.int 0, .ref (ad 55), .ref (ad 56), .ref (ad 57), .ref (ad 63)])) (h45 : g 45 = .inl (cs 1, 14, .inl (fun _ => 0))) (h46 : g 46 = .inl (cs 3, 14, .inl (fun _ => 0))) (h47 : g 47 = .inl (cs 1, 5, .inl (fun _ => 0))) (h48 : g 48 = .inl (cs 1, 8, .inl (fun _ => 0))) (h49 : g 49 = .inl (cs 1, 8, .inl (fun _ => 0))) (h50 : g 50 = .inl (cs 1, 8, .inl (fun _ => 0))) (h51 : g 51 = .inl (cs 1, 8, .inl (fun _ => 0))) (h52 : g 52 = .inl (cs 1, 6, .inl (fun _ => 0))) (h53 : g 53 = .inl (cs 1, 6, .inl (fun _ => 0))) (h64 : g 64 = .inr (6, [.int 0, .int 0, .int 0, .int 0, .int 0, .int 0, .int 0, .int 0, .ref (ad 65), .ref (ad 66), .ref (ad 67), .ref (ad 68), .ref (ad 69), .ref (ad 70), .ref (ad 71), .ref (ad 72), .ref (ad 73), .ref (ad 74)])) (h74 : g 74 = .inr (0, [.int 0, .ref (ad 75), .ref (ad 76), .ref (ad 77), .ref (ad 83)])) (h65 : g 65 = .inl (cs 1, 14, .inl (fun _ => 0))) (h66 : g 66 = .inl (cs 3, 14, .inl (fun _ => 0))) (h67 : g 67 = .inl (cs 1, 5, .inl (fun _ => 0))) (h68 : g 68 = .inl (cs 1, 8, .inl (fun _ => 0))) (h69 : g 69 = .inl (cs 1, 8, .inl (fun _ => 0))) (h70 : g 70 = .inl (cs 1, 8, .inl (fun _ => 0))) (h71 : g 71 = .inl (cs 1, 8, .inl (fun _ => 0))) (h72 : g 72 = .inl (cs 1, 6, .inl (fun _ => 0))) (h73 : g 73 = .inl (cs 1, 6, .inl (fun _ => 0))) (h84 : g 84 = .inr (6, [.int 0, .int 0, .int 0, .int 0, .int 0, .int 0, .int 0, .int 0, .ref (ad 85), .ref (ad 86), .ref (ad 87), .ref (ad 88), .ref (ad 89), .ref (ad 90), .ref (ad 91), .ref (ad 92), .ref (ad 93), .ref (ad 94)])) (h94 : g 94 = .inr (0, [.int 0, .ref (ad 95), .ref (ad 96), .ref (ad 97), .ref (ad 103)])) (h85 : g 85 = .inl (cs 1, 14, .inl (fun _ => 0))) (h86 : g 86 = .inl (cs 3, 14, .inl (fun _ => 0))) (h87 : g 87 = .inl (cs 1, 5, .inl (fun _ => 0))) (h88 : g 88 = .inl (cs 1, 8, .inl (fun _ => 0))) (h89 : g 89 = .inl (cs 1, 8, .inl (fun _ => 0))) (h90 : g 90 = .inl (cs 1, 8, .inl (fun _ => 0))) (h91 : g 91 = .inl (cs 1, 8, .inl (fun _ => 0))) (h92 : g 92 = .inl (cs 1, 6, .inl (fun _ => 0))) (h93 : g 93 = .inl (cs 1, 6, .inl (fun _ => 0))) : cI l yX11_image vX11_image { frames := 3, cells := 0, slots := 0, locals := 65 } D cs ad nW [.ref (ad 0), .int vk] g (fun r g2 => r = aImg vk ∧ ∀ j, 197 ≤ j → g2 j = g j) := by
  refine Met.start (cc := cX11_image) (maxL := 2) (ret := (some .int)) RX11 rfl (by decide) rfl (Nat.le_of_ble_eq_true rfl) ?_
  intro p e s m below meth c ls X hP hl
  have hx := X.1
  have hb := X.2.1
  have hS : va_S (wA ad nW) s.heap s.heap [] := va_S.rf
  have hA : ∀ i, i < nW → wA ad nW (ad i) := fun i h => ⟨i, h, rfl⟩
  have hfr : ∀ j, 197 ≤ j → g j = g j := fun _ _ => rfl
  have hl : lv_has ls 2 [(0, .ref (ad 0)), (1, .int vk)] := hl
  refine lv_iload_n hx hb dX11_image_0 rfl (lv_at hl 1 rfl) ?_
  refine lv_if_lt (tgt := 9) hx hb dX11_image_1 (by decide) (fun hc_1 => ?_) (fun hc_1 => ?_)
  · refine lv_bipush (v := (-2)) hx hb dX11_image_9 (by decide) ?_
    exact q_iret X hP hS ⟨(by unfold aImg; first | rw [if_pos hc_1] | rw [if_neg hc_1, if_neg hc_6]), hfr⟩ dX11_image_11
  · refine lv_iload_n hx hb dX11_image_4 rfl (lv_at hl 1 rfl) ?_
    refine lv_iconst (v := 3) hx hb dX11_image_5 (by decide) ?_
    refine lv_icmp_lt (tgt := 12) hx hb dX11_image_6 (by decide) (fun hc_6 => ?_) (fun hc_6 => ?_)
    · rcases in3 hc_1 hc_6 with rfl | rfl | rfl
      · refine lv_aload_n hx hb dX11_image_12 rfl (lv_at hl 0 rfl) ?_
        refine q_get X iX11_image_11 hP (by decide) h0 rfl 3 (by decide) (List.mem_of_getElem? (i := 1) rfl) (v := .ref (ad 43)) rfl dX11_image_13 ?_
        refine lv_iload_n hx hb dX11_image_16 rfl (lv_at hl 1 rfl) ?_
        refine q_aald X hP 5 rfl (by decide) h43 (by unfold vp_in; decide) (v := ad 44) rfl dX11_image_17 ?_
        refine lv_aload_n hx hb dX11_image_18 rfl (lv_at hl 0 rfl) ?_
        refine q_get X iX11_image_11 hP (by decide) h0 rfl 1 (by decide) (List.mem_of_getElem? (i := 2) rfl) (v := .ref (ad 3)) rfl dX11_image_19 ?_
        refine q_callv (q := (RX6, TX6, 18)) (As := [.ref (ad 3)]) (rest := []) X (k_copy44 l D cs ad hj g  h44 h3 h45 h46 h47 h48 h49 h50 h51 h52 h53 h4 h5 h6 h7 h8 h9 h10 h11 h12 h54 h13) (cwV 1 X.2.2.2.2.1 gg_X11_image_X6_copyFrom rfl rfl rfl (by decide +kernel) ⟨Nat.le_of_ble_eq_true rfl, Nat.le_of_ble_eq_true rfl⟩) (by decide) h44 rfl hP hA hS rfl hl.1 rfl (Nat.le_of_ble_eq_true rfl) dX11_image_22 ⟨Nat.le_of_ble_eq_true rfl, Nat.le_of_ble_eq_true rfl⟩ (fun g_2 H locs hw_1 hP hS => ?_)
        obtain ⟨h_4, hf_5⟩ := hw_1
        have hfr_6 : ∀ j, 197 ≤ j → g_2 j = g j := fun j hj => (hf_5 j (by omega)).trans (hfr j hj)
        have h_7 : g_2 0 = .inr (11, [.ref (ad 1), .ref (ad 3), .ref (ad 23), .ref (ad 43), .ref (ad 104), .ref (ad 105), .ref (ad 114), .ref (ad 116), .ref (ad 118), .ref (ad 120), .ref (ad 130), .ref (ad 140), .ref (ad 144), .ref (ad 190)]) := (hf_5 0 (by decide)).trans h0
        have h_8 : g_2 3 = .inr (6, [.int 0, .int 0, .int 0, .int 0, .int 0, .int 0, .int 0, .int 0, .ref (ad 4), .ref (ad 5), .ref (ad 6), .ref (ad 7), .ref (ad 8), .ref (ad 9), .ref (ad 10), .ref (ad 11), .ref (ad 12), .ref (ad 13)]) := (hf_5 3 (by decide)).trans h3
        have h_9 : g_2 13 = .inr (0, [.int 0, .ref (ad 14), .ref (ad 15), .ref (ad 16), .ref (ad 22)]) := (hf_5 13 (by decide)).trans h13
        have h_10 : g_2 4 = .inl (cs 1, 14, .inl (fun _ => 0)) := (hf_5 4 (by decide)).trans h4
        have h_11 : g_2 5 = .inl (cs 3, 14, .inl (fun _ => 0)) := (hf_5 5 (by decide)).trans h5
        have h_12 : g_2 6 = .inl (cs 1, 5, .inl (fun _ => 0)) := (hf_5 6 (by decide)).trans h6
        have h_13 : g_2 7 = .inl (cs 1, 8, .inl (fun _ => 0)) := (hf_5 7 (by decide)).trans h7
        have h_14 : g_2 8 = .inl (cs 1, 8, .inl (fun _ => 0)) := (hf_5 8 (by decide)).trans h8
        have h_15 : g_2 9 = .inl (cs 1, 8, .inl (fun _ => 0)) := (hf_5 9 (by decide)).trans h9
        have h_16 : g_2 10 = .inl (cs 1, 8, .inl (fun _ => 0)) := (hf_5 10 (by decide)).trans h10
        have h_17 : g_2 11 = .inl (cs 1, 6, .inl (fun _ => 0)) := (hf_5 11 (by decide)).trans h11
        have h_18 : g_2 12 = .inl (cs 1, 6, .inl (fun _ => 0)) := (hf_5 12 (by decide)).trans h12
        have h_19 : g_2 43 = .inl (cs 5, 3, .inr (.inr (.inr (.inr (va_up (va_up (va_up (fun _ => none) 0 (some (ad 44))) 1 (some (ad 64))) 2 (some (ad 84))))))) := (hf_5 43 (by decide)).trans h43
        have h_20 : g_2 104 = .inl (cs 3, 3, .inl (fun _ => 0)) := (hf_5 104 (by decide)).trans h104
        have h_21 : g_2 64 = .inr (6, [.int 0, .int 0, .int 0, .int 0, .int 0, .int 0, .int 0, .int 0, .ref (ad 65), .ref (ad 66), .ref (ad 67), .ref (ad 68), .ref (ad 69), .ref (ad 70), .ref (ad 71), .ref (ad 72), .ref (ad 73), .ref (ad 74)]) := (hf_5 64 (by decide)).trans h64
        have h_22 : g_2 74 = .inr (0, [.int 0, .ref (ad 75), .ref (ad 76), .ref (ad 77), .ref (ad 83)]) := (hf_5 74 (by decide)).trans h74
        have h_23 : g_2 65 = .inl (cs 1, 14, .inl (fun _ => 0)) := (hf_5 65 (by decide)).trans h65
        have h_24 : g_2 66 = .inl (cs 3, 14, .inl (fun _ => 0)) := (hf_5 66 (by decide)).trans h66
        have h_25 : g_2 67 = .inl (cs 1, 5, .inl (fun _ => 0)) := (hf_5 67 (by decide)).trans h67
        have h_26 : g_2 68 = .inl (cs 1, 8, .inl (fun _ => 0)) := (hf_5 68 (by decide)).trans h68
        have h_27 : g_2 69 = .inl (cs 1, 8, .inl (fun _ => 0)) := (hf_5 69 (by decide)).trans h69
        have h_28 : g_2 70 = .inl (cs 1, 8, .inl (fun _ => 0)) := (hf_5 70 (by decide)).trans h70
        have h_29 : g_2 71 = .inl (cs 1, 8, .inl (fun _ => 0)) := (hf_5 71 (by decide)).trans h71
        have h_30 : g_2 72 = .inl (cs 1, 6, .inl (fun _ => 0)) := (hf_5 72 (by decide)).trans h72
        have h_31 : g_2 73 = .inl (cs 1, 6, .inl (fun _ => 0)) := (hf_5 73 (by decide)).trans h73
        have h_32 : g_2 84 = .inr (6, [.int 0, .int 0, .int 0, .int 0, .int 0, .int 0, .int 0, .int 0, .ref (ad 85), .ref (ad 86), .ref (ad 87), .ref (ad 88), .ref (ad 89), .ref (ad 90), .ref (ad 91), .ref (ad 92), .ref (ad 93), .ref (ad 94)]) := (hf_5 84 (by decide)).trans h84
        have h_33 : g_2 94 = .inr (0, [.int 0, .ref (ad 95), .ref (ad 96), .ref (ad 97), .ref (ad 103)]) := (hf_5 94 (by decide)).trans h94
        have h_34 : g_2 85 = .inl (cs 1, 14, .inl (fun _ => 0)) := (hf_5 85 (by decide)).trans h85
        have h_35 : g_2 86 = .inl (cs 3, 14, .inl (fun _ => 0)) := (hf_5 86 (by decide)).trans h86
        have h_36 : g_2 87 = .inl (cs 1, 5, .inl (fun _ => 0)) := (hf_5 87 (by decide)).trans h87
        have h_37 : g_2 88 = .inl (cs 1, 8, .inl (fun _ => 0)) := (hf_5 88 (by decide)).trans h88
        have h_38 : g_2 89 = .inl (cs 1, 8, .inl (fun _ => 0)) := (hf_5 89 (by decide)).trans h89
        have h_39 : g_2 90 = .inl (cs 1, 8, .inl (fun _ => 0)) := (hf_5 90 (by decide)).trans h90
        have h_40 : g_2 91 = .inl (cs 1, 8, .inl (fun _ => 0)) := (hf_5 91 (by decide)).trans h91
        have h_41 : g_2 92 = .inl (cs 1, 6, .inl (fun _ => 0)) := (hf_5 92 (by decide)).trans h92
        have h_42 : g_2 93 = .inl (cs 1, 6, .inl (fun _ => 0)) := (hf_5 93 (by decide)).trans h93
        refine lv_aload_n hx hb dX11_image_25 rfl (lv_at hl 0 rfl) ?_
        refine q_get X iX11_image_11 hP (by decide) h_7 rfl 4 (by decide) (List.mem_of_getElem? (i := 40) rfl) (v := .ref (ad 104)) rfl dX11_image_26 ?_
        refine lv_iload_n hx hb dX11_image_29 rfl (lv_at hl 1 rfl) ?_
        refine lv_iconst (v := 1) hx hb dX11_image_30 (by decide) ?_
        refine q_zast X hP hj hA hS (by decide) h_20 (by unfold vp_in; decide) dX11_image_31 (fun H locs hP hS => ?_)
        generalize eg_43 : va_up g_2 104 _ = g_43 at hP
        have hfr_45 : ∀ j, 197 ≤ j → g_43 j = g j := fun j hj => by rw [← eg_43]; exact (va_up_ne _ _ (by omega)).trans (hfr_6 j hj)
        have h_46 : g_43 0 = .inr (11, [.ref (ad 1), .ref (ad 3), .ref (ad 23), .ref (ad 43), .ref (ad 104), .ref (ad 105), .ref (ad 114), .ref (ad 116), .ref (ad 118), .ref (ad 120), .ref (ad 130), .ref (ad 140), .ref (ad 144), .ref (ad 190)]) := by rw [← eg_43, va_up_ne _ _ (by decide)]; exact h_7
        have h_47 : g_43 3 = .inr (6, [.int 0, .int 0, .int 0, .int 0, .int 0, .int 0, .int 0, .int 0, .ref (ad 4), .ref (ad 5), .ref (ad 6), .ref (ad 7), .ref (ad 8), .ref (ad 9), .ref (ad 10), .ref (ad 11), .ref (ad 12), .ref (ad 13)]) := by rw [← eg_43, va_up_ne _ _ (by decide)]; exact h_8
        have h_48 : g_43 13 = .inr (0, [.int 0, .ref (ad 14), .ref (ad 15), .ref (ad 16), .ref (ad 22)]) := by rw [← eg_43, va_up_ne _ _ (by decide)]; exact h_9
        have h_49 : g_43 4 = .inl (cs 1, 14, .inl (fun _ => 0)) := by rw [← eg_43, va_up_ne _ _ (by decide)]; exact h_10
        have h_50 : g_43 5 = .inl (cs 3, 14, .inl (fun _ => 0)) := by rw [← eg_43, va_up_ne _ _ (by decide)]; exact h_11
        have h_51 : g_43 6 = .inl (cs 1, 5, .inl (fun _ => 0)) := by rw [← eg_43, va_up_ne _ _ (by decide)]; exact h_12
        have h_52 : g_43 7 = .inl (cs 1, 8, .inl (fun _ => 0)) := by rw [← eg_43, va_up_ne _ _ (by decide)]; exact h_13
        have h_53 : g_43 8 = .inl (cs 1, 8, .inl (fun _ => 0)) := by rw [← eg_43, va_up_ne _ _ (by decide)]; exact h_14
        have h_54 : g_43 9 = .inl (cs 1, 8, .inl (fun _ => 0)) := by rw [← eg_43, va_up_ne _ _ (by decide)]; exact h_15
        have h_55 : g_43 10 = .inl (cs 1, 8, .inl (fun _ => 0)) := by rw [← eg_43, va_up_ne _ _ (by decide)]; exact h_16
        have h_56 : g_43 11 = .inl (cs 1, 6, .inl (fun _ => 0)) := by rw [← eg_43, va_up_ne _ _ (by decide)]; exact h_17
        have h_57 : g_43 12 = .inl (cs 1, 6, .inl (fun _ => 0)) := by rw [← eg_43, va_up_ne _ _ (by decide)]; exact h_18
        have h_58 : g_43 43 = .inl (cs 5, 3, .inr (.inr (.inr (.inr (va_up (va_up (va_up (fun _ => none) 0 (some (ad 44))) 1 (some (ad 64))) 2 (some (ad 84))))))) := by rw [← eg_43, va_up_ne _ _ (by decide)]; exact h_19
        obtain ⟨f_44, h_59⟩ : ∃ f, g_43 104 = .inl (cs 3, 3, .inl f) := ⟨_, by rw [← eg_43]; exact va_up_self _ _ _⟩
        have h_60 : g_43 44 = .inr (6, [.int 0, .int 0, .int 0, .int 0, .int 0, .int 0, .int 0, .int 0, .ref (ad 45), .ref (ad 46), .ref (ad 47), .ref (ad 48), .ref (ad 49), .ref (ad 50), .ref (ad 51), .ref (ad 52), .ref (ad 53), .ref (ad 54)]) := by rw [← eg_43, va_up_ne _ _ (by decide)]; exact h_4
        have h_61 : g_43 64 = .inr (6, [.int 0, .int 0, .int 0, .int 0, .int 0, .int 0, .int 0, .int 0, .ref (ad 65), .ref (ad 66), .ref (ad 67), .ref (ad 68), .ref (ad 69), .ref (ad 70), .ref (ad 71), .ref (ad 72), .ref (ad 73), .ref (ad 74)]) := by rw [← eg_43, va_up_ne _ _ (by decide)]; exact h_21
        have h_62 : g_43 74 = .inr (0, [.int 0, .ref (ad 75), .ref (ad 76), .ref (ad 77), .ref (ad 83)]) := by rw [← eg_43, va_up_ne _ _ (by decide)]; exact h_22
        have h_63 : g_43 65 = .inl (cs 1, 14, .inl (fun _ => 0)) := by rw [← eg_43, va_up_ne _ _ (by decide)]; exact h_23
        have h_64 : g_43 66 = .inl (cs 3, 14, .inl (fun _ => 0)) := by rw [← eg_43, va_up_ne _ _ (by decide)]; exact h_24
        have h_65 : g_43 67 = .inl (cs 1, 5, .inl (fun _ => 0)) := by rw [← eg_43, va_up_ne _ _ (by decide)]; exact h_25
        have h_66 : g_43 68 = .inl (cs 1, 8, .inl (fun _ => 0)) := by rw [← eg_43, va_up_ne _ _ (by decide)]; exact h_26
        have h_67 : g_43 69 = .inl (cs 1, 8, .inl (fun _ => 0)) := by rw [← eg_43, va_up_ne _ _ (by decide)]; exact h_27
        have h_68 : g_43 70 = .inl (cs 1, 8, .inl (fun _ => 0)) := by rw [← eg_43, va_up_ne _ _ (by decide)]; exact h_28
        have h_69 : g_43 71 = .inl (cs 1, 8, .inl (fun _ => 0)) := by rw [← eg_43, va_up_ne _ _ (by decide)]; exact h_29
        have h_70 : g_43 72 = .inl (cs 1, 6, .inl (fun _ => 0)) := by rw [← eg_43, va_up_ne _ _ (by decide)]; exact h_30
        have h_71 : g_43 73 = .inl (cs 1, 6, .inl (fun _ => 0)) := by rw [← eg_43, va_up_ne _ _ (by decide)]; exact h_31
        have h_72 : g_43 84 = .inr (6, [.int 0, .int 0, .int 0, .int 0, .int 0, .int 0, .int 0, .int 0, .ref (ad 85), .ref (ad 86), .ref (ad 87), .ref (ad 88), .ref (ad 89), .ref (ad 90), .ref (ad 91), .ref (ad 92), .ref (ad 93), .ref (ad 94)]) := by rw [← eg_43, va_up_ne _ _ (by decide)]; exact h_32
        have h_73 : g_43 94 = .inr (0, [.int 0, .ref (ad 95), .ref (ad 96), .ref (ad 97), .ref (ad 103)]) := by rw [← eg_43, va_up_ne _ _ (by decide)]; exact h_33
        have h_74 : g_43 85 = .inl (cs 1, 14, .inl (fun _ => 0)) := by rw [← eg_43, va_up_ne _ _ (by decide)]; exact h_34
        have h_75 : g_43 86 = .inl (cs 3, 14, .inl (fun _ => 0)) := by rw [← eg_43, va_up_ne _ _ (by decide)]; exact h_35
        have h_76 : g_43 87 = .inl (cs 1, 5, .inl (fun _ => 0)) := by rw [← eg_43, va_up_ne _ _ (by decide)]; exact h_36
        have h_77 : g_43 88 = .inl (cs 1, 8, .inl (fun _ => 0)) := by rw [← eg_43, va_up_ne _ _ (by decide)]; exact h_37
        have h_78 : g_43 89 = .inl (cs 1, 8, .inl (fun _ => 0)) := by rw [← eg_43, va_up_ne _ _ (by decide)]; exact h_38
        have h_79 : g_43 90 = .inl (cs 1, 8, .inl (fun _ => 0)) := by rw [← eg_43, va_up_ne _ _ (by decide)]; exact h_39
        have h_80 : g_43 91 = .inl (cs 1, 8, .inl (fun _ => 0)) := by rw [← eg_43, va_up_ne _ _ (by decide)]; exact h_40
        have h_81 : g_43 92 = .inl (cs 1, 6, .inl (fun _ => 0)) := by rw [← eg_43, va_up_ne _ _ (by decide)]; exact h_41
        have h_82 : g_43 93 = .inl (cs 1, 6, .inl (fun _ => 0)) := by rw [← eg_43, va_up_ne _ _ (by decide)]; exact h_42
        refine lv_iconst (v := 0) hx hb dX11_image_32 (by decide) ?_
        exact q_iret X hP hS ⟨(by unfold aImg; rfl), hfr_45⟩ dX11_image_33
      · refine lv_aload_n hx hb dX11_image_12 rfl (lv_at hl 0 rfl) ?_
        refine q_get X iX11_image_11 hP (by decide) h0 rfl 3 (by decide) (List.mem_of_getElem? (i := 1) rfl) (v := .ref (ad 43)) rfl dX11_image_13 ?_
        refine lv_iload_n hx hb dX11_image_16 rfl (lv_at hl 1 rfl) ?_
        refine q_aald X hP 5 rfl (by decide) h43 (by unfold vp_in; decide) (v := ad 64) rfl dX11_image_17 ?_
        refine lv_aload_n hx hb dX11_image_18 rfl (lv_at hl 0 rfl) ?_
        refine q_get X iX11_image_11 hP (by decide) h0 rfl 1 (by decide) (List.mem_of_getElem? (i := 2) rfl) (v := .ref (ad 3)) rfl dX11_image_19 ?_
        refine q_callv (q := (RX6, TX6, 18)) (As := [.ref (ad 3)]) (rest := []) X (k_copy64 l D cs ad hj g  h64 h3 h65 h66 h67 h68 h69 h70 h71 h72 h73 h4 h5 h6 h7 h8 h9 h10 h11 h12 h74 h13) (cwV 1 X.2.2.2.2.1 gg_X11_image_X6_copyFrom rfl rfl rfl (by decide +kernel) ⟨Nat.le_of_ble_eq_true rfl, Nat.le_of_ble_eq_true rfl⟩) (by decide) h64 rfl hP hA hS rfl hl.1 rfl (Nat.le_of_ble_eq_true rfl) dX11_image_22 ⟨Nat.le_of_ble_eq_true rfl, Nat.le_of_ble_eq_true rfl⟩ (fun g_84 H locs hw_83 hP hS => ?_)
        obtain ⟨h_86, hf_87⟩ := hw_83
        have hfr_88 : ∀ j, 197 ≤ j → g_84 j = g j := fun j hj => (hf_87 j (by omega)).trans (hfr j hj)
        have h_89 : g_84 0 = .inr (11, [.ref (ad 1), .ref (ad 3), .ref (ad 23), .ref (ad 43), .ref (ad 104), .ref (ad 105), .ref (ad 114), .ref (ad 116), .ref (ad 118), .ref (ad 120), .ref (ad 130), .ref (ad 140), .ref (ad 144), .ref (ad 190)]) := (hf_87 0 (by decide)).trans h0
        have h_90 : g_84 3 = .inr (6, [.int 0, .int 0, .int 0, .int 0, .int 0, .int 0, .int 0, .int 0, .ref (ad 4), .ref (ad 5), .ref (ad 6), .ref (ad 7), .ref (ad 8), .ref (ad 9), .ref (ad 10), .ref (ad 11), .ref (ad 12), .ref (ad 13)]) := (hf_87 3 (by decide)).trans h3
        have h_91 : g_84 13 = .inr (0, [.int 0, .ref (ad 14), .ref (ad 15), .ref (ad 16), .ref (ad 22)]) := (hf_87 13 (by decide)).trans h13
        have h_92 : g_84 4 = .inl (cs 1, 14, .inl (fun _ => 0)) := (hf_87 4 (by decide)).trans h4
        have h_93 : g_84 5 = .inl (cs 3, 14, .inl (fun _ => 0)) := (hf_87 5 (by decide)).trans h5
        have h_94 : g_84 6 = .inl (cs 1, 5, .inl (fun _ => 0)) := (hf_87 6 (by decide)).trans h6
        have h_95 : g_84 7 = .inl (cs 1, 8, .inl (fun _ => 0)) := (hf_87 7 (by decide)).trans h7
        have h_96 : g_84 8 = .inl (cs 1, 8, .inl (fun _ => 0)) := (hf_87 8 (by decide)).trans h8
        have h_97 : g_84 9 = .inl (cs 1, 8, .inl (fun _ => 0)) := (hf_87 9 (by decide)).trans h9
        have h_98 : g_84 10 = .inl (cs 1, 8, .inl (fun _ => 0)) := (hf_87 10 (by decide)).trans h10
        have h_99 : g_84 11 = .inl (cs 1, 6, .inl (fun _ => 0)) := (hf_87 11 (by decide)).trans h11
        have h_100 : g_84 12 = .inl (cs 1, 6, .inl (fun _ => 0)) := (hf_87 12 (by decide)).trans h12
        have h_101 : g_84 43 = .inl (cs 5, 3, .inr (.inr (.inr (.inr (va_up (va_up (va_up (fun _ => none) 0 (some (ad 44))) 1 (some (ad 64))) 2 (some (ad 84))))))) := (hf_87 43 (by decide)).trans h43
        have h_102 : g_84 104 = .inl (cs 3, 3, .inl (fun _ => 0)) := (hf_87 104 (by decide)).trans h104
        have h_103 : g_84 44 = .inr (6, [.int 0, .int 0, .int 0, .int 0, .int 0, .int 0, .int 0, .int 0, .ref (ad 45), .ref (ad 46), .ref (ad 47), .ref (ad 48), .ref (ad 49), .ref (ad 50), .ref (ad 51), .ref (ad 52), .ref (ad 53), .ref (ad 54)]) := (hf_87 44 (by decide)).trans h44
        have h_104 : g_84 54 = .inr (0, [.int 0, .ref (ad 55), .ref (ad 56), .ref (ad 57), .ref (ad 63)]) := (hf_87 54 (by decide)).trans h54
        have h_105 : g_84 45 = .inl (cs 1, 14, .inl (fun _ => 0)) := (hf_87 45 (by decide)).trans h45
        have h_106 : g_84 46 = .inl (cs 3, 14, .inl (fun _ => 0)) := (hf_87 46 (by decide)).trans h46
        have h_107 : g_84 47 = .inl (cs 1, 5, .inl (fun _ => 0)) := (hf_87 47 (by decide)).trans h47
        have h_108 : g_84 48 = .inl (cs 1, 8, .inl (fun _ => 0)) := (hf_87 48 (by decide)).trans h48
        have h_109 : g_84 49 = .inl (cs 1, 8, .inl (fun _ => 0)) := (hf_87 49 (by decide)).trans h49
        have h_110 : g_84 50 = .inl (cs 1, 8, .inl (fun _ => 0)) := (hf_87 50 (by decide)).trans h50
        have h_111 : g_84 51 = .inl (cs 1, 8, .inl (fun _ => 0)) := (hf_87 51 (by decide)).trans h51
        have h_112 : g_84 52 = .inl (cs 1, 6, .inl (fun _ => 0)) := (hf_87 52 (by decide)).trans h52
        have h_113 : g_84 53 = .inl (cs 1, 6, .inl (fun _ => 0)) := (hf_87 53 (by decide)).trans h53
        have h_114 : g_84 84 = .inr (6, [.int 0, .int 0, .int 0, .int 0, .int 0, .int 0, .int 0, .int 0, .ref (ad 85), .ref (ad 86), .ref (ad 87), .ref (ad 88), .ref (ad 89), .ref (ad 90), .ref (ad 91), .ref (ad 92), .ref (ad 93), .ref (ad 94)]) := (hf_87 84 (by decide)).trans h84
        have h_115 : g_84 94 = .inr (0, [.int 0, .ref (ad 95), .ref (ad 96), .ref (ad 97), .ref (ad 103)]) := (hf_87 94 (by decide)).trans h94
        have h_116 : g_84 85 = .inl (cs 1, 14, .inl (fun _ => 0)) := (hf_87 85 (by decide)).trans h85
        have h_117 : g_84 86 = .inl (cs 3, 14, .inl (fun _ => 0)) := (hf_87 86 (by decide)).trans h86
        have h_118 : g_84 87 = .inl (cs 1, 5, .inl (fun _ => 0)) := (hf_87 87 (by decide)).trans h87
        have h_119 : g_84 88 = .inl (cs 1, 8, .inl (fun _ => 0)) := (hf_87 88 (by decide)).trans h88
        have h_120 : g_84 89 = .inl (cs 1, 8, .inl (fun _ => 0)) := (hf_87 89 (by decide)).trans h89
        have h_121 : g_84 90 = .inl (cs 1, 8, .inl (fun _ => 0)) := (hf_87 90 (by decide)).trans h90
        have h_122 : g_84 91 = .inl (cs 1, 8, .inl (fun _ => 0)) := (hf_87 91 (by decide)).trans h91
        have h_123 : g_84 92 = .inl (cs 1, 6, .inl (fun _ => 0)) := (hf_87 92 (by decide)).trans h92
        have h_124 : g_84 93 = .inl (cs 1, 6, .inl (fun _ => 0)) := (hf_87 93 (by decide)).trans h93
        refine lv_aload_n hx hb dX11_image_25 rfl (lv_at hl 0 rfl) ?_
        refine q_get X iX11_image_11 hP (by decide) h_89 rfl 4 (by decide) (List.mem_of_getElem? (i := 40) rfl) (v := .ref (ad 104)) rfl dX11_image_26 ?_
        refine lv_iload_n hx hb dX11_image_29 rfl (lv_at hl 1 rfl) ?_
        refine lv_iconst (v := 1) hx hb dX11_image_30 (by decide) ?_
        refine q_zast X hP hj hA hS (by decide) h_102 (by unfold vp_in; decide) dX11_image_31 (fun H locs hP hS => ?_)
        generalize eg_125 : va_up g_84 104 _ = g_125 at hP
        have hfr_127 : ∀ j, 197 ≤ j → g_125 j = g j := fun j hj => by rw [← eg_125]; exact (va_up_ne _ _ (by omega)).trans (hfr_88 j hj)
        have h_128 : g_125 0 = .inr (11, [.ref (ad 1), .ref (ad 3), .ref (ad 23), .ref (ad 43), .ref (ad 104), .ref (ad 105), .ref (ad 114), .ref (ad 116), .ref (ad 118), .ref (ad 120), .ref (ad 130), .ref (ad 140), .ref (ad 144), .ref (ad 190)]) := by rw [← eg_125, va_up_ne _ _ (by decide)]; exact h_89
        have h_129 : g_125 3 = .inr (6, [.int 0, .int 0, .int 0, .int 0, .int 0, .int 0, .int 0, .int 0, .ref (ad 4), .ref (ad 5), .ref (ad 6), .ref (ad 7), .ref (ad 8), .ref (ad 9), .ref (ad 10), .ref (ad 11), .ref (ad 12), .ref (ad 13)]) := by rw [← eg_125, va_up_ne _ _ (by decide)]; exact h_90
        have h_130 : g_125 13 = .inr (0, [.int 0, .ref (ad 14), .ref (ad 15), .ref (ad 16), .ref (ad 22)]) := by rw [← eg_125, va_up_ne _ _ (by decide)]; exact h_91
        have h_131 : g_125 4 = .inl (cs 1, 14, .inl (fun _ => 0)) := by rw [← eg_125, va_up_ne _ _ (by decide)]; exact h_92
        have h_132 : g_125 5 = .inl (cs 3, 14, .inl (fun _ => 0)) := by rw [← eg_125, va_up_ne _ _ (by decide)]; exact h_93
        have h_133 : g_125 6 = .inl (cs 1, 5, .inl (fun _ => 0)) := by rw [← eg_125, va_up_ne _ _ (by decide)]; exact h_94
        have h_134 : g_125 7 = .inl (cs 1, 8, .inl (fun _ => 0)) := by rw [← eg_125, va_up_ne _ _ (by decide)]; exact h_95
        have h_135 : g_125 8 = .inl (cs 1, 8, .inl (fun _ => 0)) := by rw [← eg_125, va_up_ne _ _ (by decide)]; exact h_96
        have h_136 : g_125 9 = .inl (cs 1, 8, .inl (fun _ => 0)) := by rw [← eg_125, va_up_ne _ _ (by decide)]; exact h_97
        have h_137 : g_125 10 = .inl (cs 1, 8, .inl (fun _ => 0)) := by rw [← eg_125, va_up_ne _ _ (by decide)]; exact h_98
        have h_138 : g_125 11 = .inl (cs 1, 6, .inl (fun _ => 0)) := by rw [← eg_125, va_up_ne _ _ (by decide)]; exact h_99
        have h_139 : g_125 12 = .inl (cs 1, 6, .inl (fun _ => 0)) := by rw [← eg_125, va_up_ne _ _ (by decide)]; exact h_100
        have h_140 : g_125 43 = .inl (cs 5, 3, .inr (.inr (.inr (.inr (va_up (va_up (va_up (fun _ => none) 0 (some (ad 44))) 1 (some (ad 64))) 2 (some (ad 84))))))) := by rw [← eg_125, va_up_ne _ _ (by decide)]; exact h_101
        obtain ⟨f_126, h_141⟩ : ∃ f, g_125 104 = .inl (cs 3, 3, .inl f) := ⟨_, by rw [← eg_125]; exact va_up_self _ _ _⟩
        have h_142 : g_125 44 = .inr (6, [.int 0, .int 0, .int 0, .int 0, .int 0, .int 0, .int 0, .int 0, .ref (ad 45), .ref (ad 46), .ref (ad 47), .ref (ad 48), .ref (ad 49), .ref (ad 50), .ref (ad 51), .ref (ad 52), .ref (ad 53), .ref (ad 54)]) := by rw [← eg_125, va_up_ne _ _ (by decide)]; exact h_103
        have h_143 : g_125 54 = .inr (0, [.int 0, .ref (ad 55), .ref (ad 56), .ref (ad 57), .ref (ad 63)]) := by rw [← eg_125, va_up_ne _ _ (by decide)]; exact h_104
        have h_144 : g_125 45 = .inl (cs 1, 14, .inl (fun _ => 0)) := by rw [← eg_125, va_up_ne _ _ (by decide)]; exact h_105
        have h_145 : g_125 46 = .inl (cs 3, 14, .inl (fun _ => 0)) := by rw [← eg_125, va_up_ne _ _ (by decide)]; exact h_106
        have h_146 : g_125 47 = .inl (cs 1, 5, .inl (fun _ => 0)) := by rw [← eg_125, va_up_ne _ _ (by decide)]; exact h_107
        have h_147 : g_125 48 = .inl (cs 1, 8, .inl (fun _ => 0)) := by rw [← eg_125, va_up_ne _ _ (by decide)]; exact h_108
        have h_148 : g_125 49 = .inl (cs 1, 8, .inl (fun _ => 0)) := by rw [← eg_125, va_up_ne _ _ (by decide)]; exact h_109
        have h_149 : g_125 50 = .inl (cs 1, 8, .inl (fun _ => 0)) := by rw [← eg_125, va_up_ne _ _ (by decide)]; exact h_110
        have h_150 : g_125 51 = .inl (cs 1, 8, .inl (fun _ => 0)) := by rw [← eg_125, va_up_ne _ _ (by decide)]; exact h_111
        have h_151 : g_125 52 = .inl (cs 1, 6, .inl (fun _ => 0)) := by rw [← eg_125, va_up_ne _ _ (by decide)]; exact h_112
        have h_152 : g_125 53 = .inl (cs 1, 6, .inl (fun _ => 0)) := by rw [← eg_125, va_up_ne _ _ (by decide)]; exact h_113
        have h_153 : g_125 64 = .inr (6, [.int 0, .int 0, .int 0, .int 0, .int 0, .int 0, .int 0, .int 0, .ref (ad 65), .ref (ad 66), .ref (ad 67), .ref (ad 68), .ref (ad 69), .ref (ad 70), .ref (ad 71), .ref (ad 72), .ref (ad 73), .ref (ad 74)]) := by rw [← eg_125, va_up_ne _ _ (by decide)]; exact h_86
        have h_154 : g_125 84 = .inr (6, [.int 0, .int 0, .int 0, .int 0, .int 0, .int 0, .int 0, .int 0, .ref (ad 85), .ref (ad 86), .ref (ad 87), .ref (ad 88), .ref (ad 89), .ref (ad 90), .ref (ad 91), .ref (ad 92), .ref (ad 93), .ref (ad 94)]) := by rw [← eg_125, va_up_ne _ _ (by decide)]; exact h_114
        have h_155 : g_125 94 = .inr (0, [.int 0, .ref (ad 95), .ref (ad 96), .ref (ad 97), .ref (ad 103)]) := by rw [← eg_125, va_up_ne _ _ (by decide)]; exact h_115
        have h_156 : g_125 85 = .inl (cs 1, 14, .inl (fun _ => 0)) := by rw [← eg_125, va_up_ne _ _ (by decide)]; exact h_116
        have h_157 : g_125 86 = .inl (cs 3, 14, .inl (fun _ => 0)) := by rw [← eg_125, va_up_ne _ _ (by decide)]; exact h_117
        have h_158 : g_125 87 = .inl (cs 1, 5, .inl (fun _ => 0)) := by rw [← eg_125, va_up_ne _ _ (by decide)]; exact h_118
        have h_159 : g_125 88 = .inl (cs 1, 8, .inl (fun _ => 0)) := by rw [← eg_125, va_up_ne _ _ (by decide)]; exact h_119
        have h_160 : g_125 89 = .inl (cs 1, 8, .inl (fun _ => 0)) := by rw [← eg_125, va_up_ne _ _ (by decide)]; exact h_120
        have h_161 : g_125 90 = .inl (cs 1, 8, .inl (fun _ => 0)) := by rw [← eg_125, va_up_ne _ _ (by decide)]; exact h_121
        have h_162 : g_125 91 = .inl (cs 1, 8, .inl (fun _ => 0)) := by rw [← eg_125, va_up_ne _ _ (by decide)]; exact h_122
        have h_163 : g_125 92 = .inl (cs 1, 6, .inl (fun _ => 0)) := by rw [← eg_125, va_up_ne _ _ (by decide)]; exact h_123
        have h_164 : g_125 93 = .inl (cs 1, 6, .inl (fun _ => 0)) := by rw [← eg_125, va_up_ne _ _ (by decide)]; exact h_124
        refine lv_iconst (v := 0) hx hb dX11_image_32 (by decide) ?_
        exact q_iret X hP hS ⟨(by unfold aImg; rfl), hfr_127⟩ dX11_image_33
      · refine lv_aload_n hx hb dX11_image_12 rfl (lv_at hl 0 rfl) ?_
        refine q_get X iX11_image_11 hP (by decide) h0 rfl 3 (by decide) (List.mem_of_getElem? (i := 1) rfl) (v := .ref (ad 43)) rfl dX11_image_13 ?_
        refine lv_iload_n hx hb dX11_image_16 rfl (lv_at hl 1 rfl) ?_
        refine q_aald X hP 5 rfl (by decide) h43 (by unfold vp_in; decide) (v := ad 84) rfl dX11_image_17 ?_
        refine lv_aload_n hx hb dX11_image_18 rfl (lv_at hl 0 rfl) ?_
        refine q_get X iX11_image_11 hP (by decide) h0 rfl 1 (by decide) (List.mem_of_getElem? (i := 2) rfl) (v := .ref (ad 3)) rfl dX11_image_19 ?_
        refine q_callv (q := (RX6, TX6, 18)) (As := [.ref (ad 3)]) (rest := []) X (k_copy84 l D cs ad hj g  h84 h3 h85 h86 h87 h88 h89 h90 h91 h92 h93 h4 h5 h6 h7 h8 h9 h10 h11 h12 h94 h13) (cwV 1 X.2.2.2.2.1 gg_X11_image_X6_copyFrom rfl rfl rfl (by decide +kernel) ⟨Nat.le_of_ble_eq_true rfl, Nat.le_of_ble_eq_true rfl⟩) (by decide) h84 rfl hP hA hS rfl hl.1 rfl (Nat.le_of_ble_eq_true rfl) dX11_image_22 ⟨Nat.le_of_ble_eq_true rfl, Nat.le_of_ble_eq_true rfl⟩ (fun g_166 H locs hw_165 hP hS => ?_)
        obtain ⟨h_168, hf_169⟩ := hw_165
        have hfr_170 : ∀ j, 197 ≤ j → g_166 j = g j := fun j hj => (hf_169 j (by omega)).trans (hfr j hj)
        have h_171 : g_166 0 = .inr (11, [.ref (ad 1), .ref (ad 3), .ref (ad 23), .ref (ad 43), .ref (ad 104), .ref (ad 105), .ref (ad 114), .ref (ad 116), .ref (ad 118), .ref (ad 120), .ref (ad 130), .ref (ad 140), .ref (ad 144), .ref (ad 190)]) := (hf_169 0 (by decide)).trans h0
        have h_172 : g_166 3 = .inr (6, [.int 0, .int 0, .int 0, .int 0, .int 0, .int 0, .int 0, .int 0, .ref (ad 4), .ref (ad 5), .ref (ad 6), .ref (ad 7), .ref (ad 8), .ref (ad 9), .ref (ad 10), .ref (ad 11), .ref (ad 12), .ref (ad 13)]) := (hf_169 3 (by decide)).trans h3
        have h_173 : g_166 13 = .inr (0, [.int 0, .ref (ad 14), .ref (ad 15), .ref (ad 16), .ref (ad 22)]) := (hf_169 13 (by decide)).trans h13
        have h_174 : g_166 4 = .inl (cs 1, 14, .inl (fun _ => 0)) := (hf_169 4 (by decide)).trans h4
        have h_175 : g_166 5 = .inl (cs 3, 14, .inl (fun _ => 0)) := (hf_169 5 (by decide)).trans h5
        have h_176 : g_166 6 = .inl (cs 1, 5, .inl (fun _ => 0)) := (hf_169 6 (by decide)).trans h6
        have h_177 : g_166 7 = .inl (cs 1, 8, .inl (fun _ => 0)) := (hf_169 7 (by decide)).trans h7
        have h_178 : g_166 8 = .inl (cs 1, 8, .inl (fun _ => 0)) := (hf_169 8 (by decide)).trans h8
        have h_179 : g_166 9 = .inl (cs 1, 8, .inl (fun _ => 0)) := (hf_169 9 (by decide)).trans h9
        have h_180 : g_166 10 = .inl (cs 1, 8, .inl (fun _ => 0)) := (hf_169 10 (by decide)).trans h10
        have h_181 : g_166 11 = .inl (cs 1, 6, .inl (fun _ => 0)) := (hf_169 11 (by decide)).trans h11
        have h_182 : g_166 12 = .inl (cs 1, 6, .inl (fun _ => 0)) := (hf_169 12 (by decide)).trans h12
        have h_183 : g_166 43 = .inl (cs 5, 3, .inr (.inr (.inr (.inr (va_up (va_up (va_up (fun _ => none) 0 (some (ad 44))) 1 (some (ad 64))) 2 (some (ad 84))))))) := (hf_169 43 (by decide)).trans h43
        have h_184 : g_166 104 = .inl (cs 3, 3, .inl (fun _ => 0)) := (hf_169 104 (by decide)).trans h104
        have h_185 : g_166 44 = .inr (6, [.int 0, .int 0, .int 0, .int 0, .int 0, .int 0, .int 0, .int 0, .ref (ad 45), .ref (ad 46), .ref (ad 47), .ref (ad 48), .ref (ad 49), .ref (ad 50), .ref (ad 51), .ref (ad 52), .ref (ad 53), .ref (ad 54)]) := (hf_169 44 (by decide)).trans h44
        have h_186 : g_166 54 = .inr (0, [.int 0, .ref (ad 55), .ref (ad 56), .ref (ad 57), .ref (ad 63)]) := (hf_169 54 (by decide)).trans h54
        have h_187 : g_166 45 = .inl (cs 1, 14, .inl (fun _ => 0)) := (hf_169 45 (by decide)).trans h45
        have h_188 : g_166 46 = .inl (cs 3, 14, .inl (fun _ => 0)) := (hf_169 46 (by decide)).trans h46
        have h_189 : g_166 47 = .inl (cs 1, 5, .inl (fun _ => 0)) := (hf_169 47 (by decide)).trans h47
        have h_190 : g_166 48 = .inl (cs 1, 8, .inl (fun _ => 0)) := (hf_169 48 (by decide)).trans h48
        have h_191 : g_166 49 = .inl (cs 1, 8, .inl (fun _ => 0)) := (hf_169 49 (by decide)).trans h49
        have h_192 : g_166 50 = .inl (cs 1, 8, .inl (fun _ => 0)) := (hf_169 50 (by decide)).trans h50
        have h_193 : g_166 51 = .inl (cs 1, 8, .inl (fun _ => 0)) := (hf_169 51 (by decide)).trans h51
        have h_194 : g_166 52 = .inl (cs 1, 6, .inl (fun _ => 0)) := (hf_169 52 (by decide)).trans h52
        have h_195 : g_166 53 = .inl (cs 1, 6, .inl (fun _ => 0)) := (hf_169 53 (by decide)).trans h53
        have h_196 : g_166 64 = .inr (6, [.int 0, .int 0, .int 0, .int 0, .int 0, .int 0, .int 0, .int 0, .ref (ad 65), .ref (ad 66), .ref (ad 67), .ref (ad 68), .ref (ad 69), .ref (ad 70), .ref (ad 71), .ref (ad 72), .ref (ad 73), .ref (ad 74)]) := (hf_169 64 (by decide)).trans h64
        have h_197 : g_166 74 = .inr (0, [.int 0, .ref (ad 75), .ref (ad 76), .ref (ad 77), .ref (ad 83)]) := (hf_169 74 (by decide)).trans h74
        have h_198 : g_166 65 = .inl (cs 1, 14, .inl (fun _ => 0)) := (hf_169 65 (by decide)).trans h65
        have h_199 : g_166 66 = .inl (cs 3, 14, .inl (fun _ => 0)) := (hf_169 66 (by decide)).trans h66
        have h_200 : g_166 67 = .inl (cs 1, 5, .inl (fun _ => 0)) := (hf_169 67 (by decide)).trans h67
        have h_201 : g_166 68 = .inl (cs 1, 8, .inl (fun _ => 0)) := (hf_169 68 (by decide)).trans h68
        have h_202 : g_166 69 = .inl (cs 1, 8, .inl (fun _ => 0)) := (hf_169 69 (by decide)).trans h69
        have h_203 : g_166 70 = .inl (cs 1, 8, .inl (fun _ => 0)) := (hf_169 70 (by decide)).trans h70
        have h_204 : g_166 71 = .inl (cs 1, 8, .inl (fun _ => 0)) := (hf_169 71 (by decide)).trans h71
        have h_205 : g_166 72 = .inl (cs 1, 6, .inl (fun _ => 0)) := (hf_169 72 (by decide)).trans h72
        have h_206 : g_166 73 = .inl (cs 1, 6, .inl (fun _ => 0)) := (hf_169 73 (by decide)).trans h73
        refine lv_aload_n hx hb dX11_image_25 rfl (lv_at hl 0 rfl) ?_
        refine q_get X iX11_image_11 hP (by decide) h_171 rfl 4 (by decide) (List.mem_of_getElem? (i := 40) rfl) (v := .ref (ad 104)) rfl dX11_image_26 ?_
        refine lv_iload_n hx hb dX11_image_29 rfl (lv_at hl 1 rfl) ?_
        refine lv_iconst (v := 1) hx hb dX11_image_30 (by decide) ?_
        refine q_zast X hP hj hA hS (by decide) h_184 (by unfold vp_in; decide) dX11_image_31 (fun H locs hP hS => ?_)
        generalize eg_207 : va_up g_166 104 _ = g_207 at hP
        have hfr_209 : ∀ j, 197 ≤ j → g_207 j = g j := fun j hj => by rw [← eg_207]; exact (va_up_ne _ _ (by omega)).trans (hfr_170 j hj)
        have h_210 : g_207 0 = .inr (11, [.ref (ad 1), .ref (ad 3), .ref (ad 23), .ref (ad 43), .ref (ad 104), .ref (ad 105), .ref (ad 114), .ref (ad 116), .ref (ad 118), .ref (ad 120), .ref (ad 130), .ref (ad 140), .ref (ad 144), .ref (ad 190)]) := by rw [← eg_207, va_up_ne _ _ (by decide)]; exact h_171
        have h_211 : g_207 3 = .inr (6, [.int 0, .int 0, .int 0, .int 0, .int 0, .int 0, .int 0, .int 0, .ref (ad 4), .ref (ad 5), .ref (ad 6), .ref (ad 7), .ref (ad 8), .ref (ad 9), .ref (ad 10), .ref (ad 11), .ref (ad 12), .ref (ad 13)]) := by rw [← eg_207, va_up_ne _ _ (by decide)]; exact h_172
        have h_212 : g_207 13 = .inr (0, [.int 0, .ref (ad 14), .ref (ad 15), .ref (ad 16), .ref (ad 22)]) := by rw [← eg_207, va_up_ne _ _ (by decide)]; exact h_173
        have h_213 : g_207 4 = .inl (cs 1, 14, .inl (fun _ => 0)) := by rw [← eg_207, va_up_ne _ _ (by decide)]; exact h_174
        have h_214 : g_207 5 = .inl (cs 3, 14, .inl (fun _ => 0)) := by rw [← eg_207, va_up_ne _ _ (by decide)]; exact h_175
        have h_215 : g_207 6 = .inl (cs 1, 5, .inl (fun _ => 0)) := by rw [← eg_207, va_up_ne _ _ (by decide)]; exact h_176
        have h_216 : g_207 7 = .inl (cs 1, 8, .inl (fun _ => 0)) := by rw [← eg_207, va_up_ne _ _ (by decide)]; exact h_177
        have h_217 : g_207 8 = .inl (cs 1, 8, .inl (fun _ => 0)) := by rw [← eg_207, va_up_ne _ _ (by decide)]; exact h_178
        have h_218 : g_207 9 = .inl (cs 1, 8, .inl (fun _ => 0)) := by rw [← eg_207, va_up_ne _ _ (by decide)]; exact h_179
        have h_219 : g_207 10 = .inl (cs 1, 8, .inl (fun _ => 0)) := by rw [← eg_207, va_up_ne _ _ (by decide)]; exact h_180
        have h_220 : g_207 11 = .inl (cs 1, 6, .inl (fun _ => 0)) := by rw [← eg_207, va_up_ne _ _ (by decide)]; exact h_181
        have h_221 : g_207 12 = .inl (cs 1, 6, .inl (fun _ => 0)) := by rw [← eg_207, va_up_ne _ _ (by decide)]; exact h_182
        have h_222 : g_207 43 = .inl (cs 5, 3, .inr (.inr (.inr (.inr (va_up (va_up (va_up (fun _ => none) 0 (some (ad 44))) 1 (some (ad 64))) 2 (some (ad 84))))))) := by rw [← eg_207, va_up_ne _ _ (by decide)]; exact h_183
        obtain ⟨f_208, h_223⟩ : ∃ f, g_207 104 = .inl (cs 3, 3, .inl f) := ⟨_, by rw [← eg_207]; exact va_up_self _ _ _⟩
        have h_224 : g_207 44 = .inr (6, [.int 0, .int 0, .int 0, .int 0, .int 0, .int 0, .int 0, .int 0, .ref (ad 45), .ref (ad 46), .ref (ad 47), .ref (ad 48), .ref (ad 49), .ref (ad 50), .ref (ad 51), .ref (ad 52), .ref (ad 53), .ref (ad 54)]) := by rw [← eg_207, va_up_ne _ _ (by decide)]; exact h_185
        have h_225 : g_207 54 = .inr (0, [.int 0, .ref (ad 55), .ref (ad 56), .ref (ad 57), .ref (ad 63)]) := by rw [← eg_207, va_up_ne _ _ (by decide)]; exact h_186
        have h_226 : g_207 45 = .inl (cs 1, 14, .inl (fun _ => 0)) := by rw [← eg_207, va_up_ne _ _ (by decide)]; exact h_187
        have h_227 : g_207 46 = .inl (cs 3, 14, .inl (fun _ => 0)) := by rw [← eg_207, va_up_ne _ _ (by decide)]; exact h_188
        have h_228 : g_207 47 = .inl (cs 1, 5, .inl (fun _ => 0)) := by rw [← eg_207, va_up_ne _ _ (by decide)]; exact h_189
        have h_229 : g_207 48 = .inl (cs 1, 8, .inl (fun _ => 0)) := by rw [← eg_207, va_up_ne _ _ (by decide)]; exact h_190
        have h_230 : g_207 49 = .inl (cs 1, 8, .inl (fun _ => 0)) := by rw [← eg_207, va_up_ne _ _ (by decide)]; exact h_191
        have h_231 : g_207 50 = .inl (cs 1, 8, .inl (fun _ => 0)) := by rw [← eg_207, va_up_ne _ _ (by decide)]; exact h_192
        have h_232 : g_207 51 = .inl (cs 1, 8, .inl (fun _ => 0)) := by rw [← eg_207, va_up_ne _ _ (by decide)]; exact h_193
        have h_233 : g_207 52 = .inl (cs 1, 6, .inl (fun _ => 0)) := by rw [← eg_207, va_up_ne _ _ (by decide)]; exact h_194
        have h_234 : g_207 53 = .inl (cs 1, 6, .inl (fun _ => 0)) := by rw [← eg_207, va_up_ne _ _ (by decide)]; exact h_195
        have h_235 : g_207 64 = .inr (6, [.int 0, .int 0, .int 0, .int 0, .int 0, .int 0, .int 0, .int 0, .ref (ad 65), .ref (ad 66), .ref (ad 67), .ref (ad 68), .ref (ad 69), .ref (ad 70), .ref (ad 71), .ref (ad 72), .ref (ad 73), .ref (ad 74)]) := by rw [← eg_207, va_up_ne _ _ (by decide)]; exact h_196
        have h_236 : g_207 74 = .inr (0, [.int 0, .ref (ad 75), .ref (ad 76), .ref (ad 77), .ref (ad 83)]) := by rw [← eg_207, va_up_ne _ _ (by decide)]; exact h_197
        have h_237 : g_207 65 = .inl (cs 1, 14, .inl (fun _ => 0)) := by rw [← eg_207, va_up_ne _ _ (by decide)]; exact h_198
        have h_238 : g_207 66 = .inl (cs 3, 14, .inl (fun _ => 0)) := by rw [← eg_207, va_up_ne _ _ (by decide)]; exact h_199
        have h_239 : g_207 67 = .inl (cs 1, 5, .inl (fun _ => 0)) := by rw [← eg_207, va_up_ne _ _ (by decide)]; exact h_200
        have h_240 : g_207 68 = .inl (cs 1, 8, .inl (fun _ => 0)) := by rw [← eg_207, va_up_ne _ _ (by decide)]; exact h_201
        have h_241 : g_207 69 = .inl (cs 1, 8, .inl (fun _ => 0)) := by rw [← eg_207, va_up_ne _ _ (by decide)]; exact h_202
        have h_242 : g_207 70 = .inl (cs 1, 8, .inl (fun _ => 0)) := by rw [← eg_207, va_up_ne _ _ (by decide)]; exact h_203
        have h_243 : g_207 71 = .inl (cs 1, 8, .inl (fun _ => 0)) := by rw [← eg_207, va_up_ne _ _ (by decide)]; exact h_204
        have h_244 : g_207 72 = .inl (cs 1, 6, .inl (fun _ => 0)) := by rw [← eg_207, va_up_ne _ _ (by decide)]; exact h_205
        have h_245 : g_207 73 = .inl (cs 1, 6, .inl (fun _ => 0)) := by rw [← eg_207, va_up_ne _ _ (by decide)]; exact h_206
        have h_246 : g_207 84 = .inr (6, [.int 0, .int 0, .int 0, .int 0, .int 0, .int 0, .int 0, .int 0, .ref (ad 85), .ref (ad 86), .ref (ad 87), .ref (ad 88), .ref (ad 89), .ref (ad 90), .ref (ad 91), .ref (ad 92), .ref (ad 93), .ref (ad 94)]) := by rw [← eg_207, va_up_ne _ _ (by decide)]; exact h_168
        refine lv_iconst (v := 0) hx hb dX11_image_32 (by decide) ?_
        exact q_iret X hP hS ⟨(by unfold aImg; rfl), hfr_209⟩ dX11_image_33
    · refine lv_bipush (v := (-2)) hx hb dX11_image_9 (by decide) ?_
      exact q_iret X hP hS ⟨(by unfold aImg; first | rw [if_pos hc_1] | rw [if_neg hc_1, if_neg hc_6]), hfr⟩ dX11_image_11
