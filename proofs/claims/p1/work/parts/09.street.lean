theorem dX0_clear_0 : decode cX0_clear 0 = .ok (.aload_n 0, 1) := by decide +kernel
theorem dX0_clear_1 : decode cX0_clear 1 = .ok (.getfield 26, 3) := by decide +kernel
theorem dX0_clear_4 : decode cX0_clear 4 = .ok (.istore_n 1, 1) := by decide +kernel
theorem dX0_clear_5 : decode cX0_clear 5 = .ok (.iload_n 1, 1) := by decide +kernel
theorem dX0_clear_6 : decode cX0_clear 6 = .ok (.ifCond .le 14, 3) := by decide +kernel
theorem dX0_clear_20 : decode cX0_clear 20 = .ok (.return_, 1) := by decide +kernel
def vX0_clear : List Cond := .code yX0_clear cX0_clear 2 none :: ([.fieldLink RX0 26 "IcicleClock$Acts" "done" "I"] ++ wsX00)
theorem iX0_clear_0 : ∀ w ∈ wsX00, w ∈ vX0_clear := fun _ h => List.mem_cons_of_mem _ (List.mem_append_right _ h)
set_option maxHeartbeats 4000000 in
set_option maxRecDepth 100000 in
theorem k_aclear23 (l : Launch) (D : va_G) (cs : Nat → ClassId) (ad : Nat → Nat) (hj : wJ ad nW) (g : Nat → va_E) (h33 : g 33 = .inr (0, [.int 0, .ref (ad 34), .ref (ad 35), .ref (ad 36), .ref (ad 42)])) : cV l yX0_clear vX0_clear { frames := 0, cells := 0, slots := 0, locals := 0 } D cs ad nW [.ref (ad 33)] g (fun g2 => g2 = g) := by
  refine Met.start (cc := cX0_clear) (maxL := 2) (ret := none) RX0 rfl (by decide) rfl (Nat.le_of_ble_eq_true rfl) ?_
  intro p e s m below meth c ls X hP hl
  have hx := X.1
  have hb := X.2.1
  have hS : va_S (wA ad nW) s.heap s.heap [] := va_S.rf
  have hA : ∀ i, i < nW → wA ad nW (ad i) := fun i h => ⟨i, h, rfl⟩
  have hl : lv_has ls 2 [(0, .ref (ad 33))] := hl
  refine lv_aload_n hx hb dX0_clear_0 rfl (lv_at hl 0 rfl) ?_
  refine q_get X iX0_clear_0 hP (by decide) h33 rfl 0 (by decide) (List.mem_of_getElem? (i := 1) rfl) (v := .int 0) rfl dX0_clear_1 ?_
  refine lv_istore_n (lv' := [(1, .int 0), (0, .ref (ad 33))]) hx hb dX0_clear_4 rfl hl (by decide) rfl (fun ls hl => ?_)
  refine lv_iload_n hx hb dX0_clear_5 rfl (lv_at hl 0 rfl) ?_
  refine lv_if_le (tgt := 20) hx hb dX0_clear_6 (by decide) (fun _ => ?_) (fun h => absurd h (by decide))
  exact q_vret X hP hS rfl dX0_clear_20

set_option maxHeartbeats 4000000 in
set_option maxRecDepth 100000 in
theorem k_aclear3 (l : Launch) (D : va_G) (cs : Nat → ClassId) (ad : Nat → Nat) (hj : wJ ad nW) (g : Nat → va_E) (h13 : g 13 = .inr (0, [.int 0, .ref (ad 14), .ref (ad 15), .ref (ad 16), .ref (ad 22)])) : cV l yX0_clear vX0_clear { frames := 0, cells := 0, slots := 0, locals := 0 } D cs ad nW [.ref (ad 13)] g (fun g2 => g2 = g) := by
  refine Met.start (cc := cX0_clear) (maxL := 2) (ret := none) RX0 rfl (by decide) rfl (Nat.le_of_ble_eq_true rfl) ?_
  intro p e s m below meth c ls X hP hl
  have hx := X.1
  have hb := X.2.1
  have hS : va_S (wA ad nW) s.heap s.heap [] := va_S.rf
  have hA : ∀ i, i < nW → wA ad nW (ad i) := fun i h => ⟨i, h, rfl⟩
  have hl : lv_has ls 2 [(0, .ref (ad 13))] := hl
  refine lv_aload_n hx hb dX0_clear_0 rfl (lv_at hl 0 rfl) ?_
  refine q_get X iX0_clear_0 hP (by decide) h13 rfl 0 (by decide) (List.mem_of_getElem? (i := 1) rfl) (v := .int 0) rfl dX0_clear_1 ?_
  refine lv_istore_n (lv' := [(1, .int 0), (0, .ref (ad 13))]) hx hb dX0_clear_4 rfl hl (by decide) rfl (fun ls hl => ?_)
  refine lv_iload_n hx hb dX0_clear_5 rfl (lv_at hl 0 rfl) ?_
  refine lv_if_le (tgt := 20) hx hb dX0_clear_6 (by decide) (fun _ => ?_) (fun h => absurd h (by decide))
  exact q_vret X hP hS rfl dX0_clear_20

set_option maxHeartbeats 4000000 in
set_option maxRecDepth 100000 in
theorem k_aclear44 (l : Launch) (D : va_G) (cs : Nat → ClassId) (ad : Nat → Nat) (hj : wJ ad nW) (g : Nat → va_E) (h54 : g 54 = .inr (0, [.int 0, .ref (ad 55), .ref (ad 56), .ref (ad 57), .ref (ad 63)])) : cV l yX0_clear vX0_clear { frames := 0, cells := 0, slots := 0, locals := 0 } D cs ad nW [.ref (ad 54)] g (fun g2 => g2 = g) := by
  refine Met.start (cc := cX0_clear) (maxL := 2) (ret := none) RX0 rfl (by decide) rfl (Nat.le_of_ble_eq_true rfl) ?_
  intro p e s m below meth c ls X hP hl
  have hx := X.1
  have hb := X.2.1
  have hS : va_S (wA ad nW) s.heap s.heap [] := va_S.rf
  have hA : ∀ i, i < nW → wA ad nW (ad i) := fun i h => ⟨i, h, rfl⟩
  have hl : lv_has ls 2 [(0, .ref (ad 54))] := hl
  refine lv_aload_n hx hb dX0_clear_0 rfl (lv_at hl 0 rfl) ?_
  refine q_get X iX0_clear_0 hP (by decide) h54 rfl 0 (by decide) (List.mem_of_getElem? (i := 1) rfl) (v := .int 0) rfl dX0_clear_1 ?_
  refine lv_istore_n (lv' := [(1, .int 0), (0, .ref (ad 54))]) hx hb dX0_clear_4 rfl hl (by decide) rfl (fun ls hl => ?_)
  refine lv_iload_n hx hb dX0_clear_5 rfl (lv_at hl 0 rfl) ?_
  refine lv_if_le (tgt := 20) hx hb dX0_clear_6 (by decide) (fun _ => ?_) (fun h => absurd h (by decide))
  exact q_vret X hP hS rfl dX0_clear_20

set_option maxHeartbeats 4000000 in
set_option maxRecDepth 100000 in
theorem k_aclear64 (l : Launch) (D : va_G) (cs : Nat → ClassId) (ad : Nat → Nat) (hj : wJ ad nW) (g : Nat → va_E) (h74 : g 74 = .inr (0, [.int 0, .ref (ad 75), .ref (ad 76), .ref (ad 77), .ref (ad 83)])) : cV l yX0_clear vX0_clear { frames := 0, cells := 0, slots := 0, locals := 0 } D cs ad nW [.ref (ad 74)] g (fun g2 => g2 = g) := by
  refine Met.start (cc := cX0_clear) (maxL := 2) (ret := none) RX0 rfl (by decide) rfl (Nat.le_of_ble_eq_true rfl) ?_
  intro p e s m below meth c ls X hP hl
  have hx := X.1
  have hb := X.2.1
  have hS : va_S (wA ad nW) s.heap s.heap [] := va_S.rf
  have hA : ∀ i, i < nW → wA ad nW (ad i) := fun i h => ⟨i, h, rfl⟩
  have hl : lv_has ls 2 [(0, .ref (ad 74))] := hl
  refine lv_aload_n hx hb dX0_clear_0 rfl (lv_at hl 0 rfl) ?_
  refine q_get X iX0_clear_0 hP (by decide) h74 rfl 0 (by decide) (List.mem_of_getElem? (i := 1) rfl) (v := .int 0) rfl dX0_clear_1 ?_
  refine lv_istore_n (lv' := [(1, .int 0), (0, .ref (ad 74))]) hx hb dX0_clear_4 rfl hl (by decide) rfl (fun ls hl => ?_)
  refine lv_iload_n hx hb dX0_clear_5 rfl (lv_at hl 0 rfl) ?_
  refine lv_if_le (tgt := 20) hx hb dX0_clear_6 (by decide) (fun _ => ?_) (fun h => absurd h (by decide))
  exact q_vret X hP hS rfl dX0_clear_20

set_option maxHeartbeats 4000000 in
set_option maxRecDepth 100000 in
theorem k_aclear84 (l : Launch) (D : va_G) (cs : Nat → ClassId) (ad : Nat → Nat) (hj : wJ ad nW) (g : Nat → va_E) (h94 : g 94 = .inr (0, [.int 0, .ref (ad 95), .ref (ad 96), .ref (ad 97), .ref (ad 103)])) : cV l yX0_clear vX0_clear { frames := 0, cells := 0, slots := 0, locals := 0 } D cs ad nW [.ref (ad 94)] g (fun g2 => g2 = g) := by
  refine Met.start (cc := cX0_clear) (maxL := 2) (ret := none) RX0 rfl (by decide) rfl (Nat.le_of_ble_eq_true rfl) ?_
  intro p e s m below meth c ls X hP hl
  have hx := X.1
  have hb := X.2.1
  have hS : va_S (wA ad nW) s.heap s.heap [] := va_S.rf
  have hA : ∀ i, i < nW → wA ad nW (ad i) := fun i h => ⟨i, h, rfl⟩
  have hl : lv_has ls 2 [(0, .ref (ad 94))] := hl
  refine lv_aload_n hx hb dX0_clear_0 rfl (lv_at hl 0 rfl) ?_
  refine q_get X iX0_clear_0 hP (by decide) h94 rfl 0 (by decide) (List.mem_of_getElem? (i := 1) rfl) (v := .int 0) rfl dX0_clear_1 ?_
  refine lv_istore_n (lv' := [(1, .int 0), (0, .ref (ad 94))]) hx hb dX0_clear_4 rfl hl (by decide) rfl (fun ls hl => ?_)
  refine lv_iload_n hx hb dX0_clear_5 rfl (lv_at hl 0 rfl) ?_
  refine lv_if_le (tgt := 20) hx hb dX0_clear_6 (by decide) (fun _ => ?_) (fun h => absurd h (by decide))
  exact q_vret X hP hS rfl dX0_clear_20

theorem dX6_clear_0 : decode cX6_clear 0 = .ok (.aload_n 0, 1) := by decide +kernel
theorem dX6_clear_1 : decode cX6_clear 1 = .ok (.iconst 0, 1) := by decide +kernel
theorem dX6_clear_2 : decode cX6_clear 2 = .ok (.putfield 47, 3) := by decide +kernel
theorem dX6_clear_5 : decode cX6_clear 5 = .ok (.aload_n 0, 1) := by decide +kernel
theorem dX6_clear_6 : decode cX6_clear 6 = .ok (.iconst 0, 1) := by decide +kernel
theorem dX6_clear_7 : decode cX6_clear 7 = .ok (.putfield 51, 3) := by decide +kernel
theorem dX6_clear_10 : decode cX6_clear 10 = .ok (.aload_n 0, 1) := by decide +kernel
theorem dX6_clear_11 : decode cX6_clear 11 = .ok (.iconst 0, 1) := by decide +kernel
theorem dX6_clear_12 : decode cX6_clear 12 = .ok (.putfield 54, 3) := by decide +kernel
theorem dX6_clear_15 : decode cX6_clear 15 = .ok (.aload_n 0, 1) := by decide +kernel
theorem dX6_clear_16 : decode cX6_clear 16 = .ok (.iconst 0, 1) := by decide +kernel
theorem dX6_clear_17 : decode cX6_clear 17 = .ok (.putfield 57, 3) := by decide +kernel
theorem dX6_clear_20 : decode cX6_clear 20 = .ok (.aload_n 0, 1) := by decide +kernel
theorem dX6_clear_21 : decode cX6_clear 21 = .ok (.iconst 0, 1) := by decide +kernel
theorem dX6_clear_22 : decode cX6_clear 22 = .ok (.putfield 60, 3) := by decide +kernel
theorem dX6_clear_25 : decode cX6_clear 25 = .ok (.aload_n 0, 1) := by decide +kernel
theorem dX6_clear_26 : decode cX6_clear 26 = .ok (.iconst 0, 1) := by decide +kernel
theorem dX6_clear_27 : decode cX6_clear 27 = .ok (.putfield 63, 3) := by decide +kernel
theorem dX6_clear_30 : decode cX6_clear 30 = .ok (.aload_n 0, 1) := by decide +kernel
theorem dX6_clear_31 : decode cX6_clear 31 = .ok (.iconst 0, 1) := by decide +kernel
theorem dX6_clear_32 : decode cX6_clear 32 = .ok (.putfield 66, 3) := by decide +kernel
theorem dX6_clear_35 : decode cX6_clear 35 = .ok (.aload_n 0, 1) := by decide +kernel
theorem dX6_clear_36 : decode cX6_clear 36 = .ok (.iconst 0, 1) := by decide +kernel
theorem dX6_clear_37 : decode cX6_clear 37 = .ok (.putfield 69, 3) := by decide +kernel
theorem dX6_clear_40 : decode cX6_clear 40 = .ok (.aload_n 0, 1) := by decide +kernel
theorem dX6_clear_41 : decode cX6_clear 41 = .ok (.getfield 43, 3) := by decide +kernel
theorem dX6_clear_44 : decode cX6_clear 44 = .ok (.invokevirtual 72, 3) := by decide +kernel
theorem dX6_clear_47 : decode cX6_clear 47 = .ok (.return_, 1) := by decide +kernel
def vX6_clear : List Cond := .code yX6_clear cX6_clear 1 none :: ([.fieldLink RX6 47 "IcicleClock$Street" "slamTakes" "I", .fieldLink RX6 51 "IcicleClock$Street" "bellTakes" "I", .fieldLink RX6 54 "IcicleClock$Street" "odds" "I", .fieldLink RX6 57 "IcicleClock$Street" "days" "I", .fieldLink RX6 60 "IcicleClock$Street" "eaves" "I", .fieldLink RX6 63 "IcicleClock$Street" "icicles" "I", .fieldLink RX6 66 "IcicleClock$Street" "works" "I", .fieldLink RX6 69 "IcicleClock$Street" "lines" "I", .fieldLink RX6 43 "IcicleClock$Street" "acts" "LIcicleClock$Acts;", .methodLink RX6 72 yX0_clear, .instanceMethod yX0_clear, .selects RX0 yX0_clear yX0_clear, .initialized RX0, .code yX0_clear cX0_clear 2 none, .fieldLink RX0 26 "IcicleClock$Acts" "done" "I"] ++ wsX60 ++ wsX00)
theorem iX6_clear_6 : ∀ w ∈ wsX60, w ∈ vX6_clear := fun _ h => List.mem_cons_of_mem _ (List.mem_append_left _ (List.mem_append_right _ h))
theorem iX6_clear_0 : ∀ w ∈ wsX00, w ∈ vX6_clear := fun _ h => List.mem_cons_of_mem _ (List.mem_append_right _ h)
set_option maxRecDepth 20000 in
theorem gg_X6_clear_X0_clear : GoodIn vX6_clear (wsV RX6 72 RX0 yX0_clear vX0_clear) := goodIn_r _ [10, 11, 12, 13, 14, 15, 34, 35, 36, 37, 38] (by decide +kernel) (by decide +kernel)
set_option maxHeartbeats 4000000 in
set_option maxRecDepth 100000 in
theorem k_sclear (l : Launch) (D : va_G) (cs : Nat → ClassId) (ad : Nat → Nat) (hj : wJ ad nW) (g : Nat → va_E) (h23 : g 23 = .inr (6, [.int 0, .int 0, .int 0, .int 0, .int 0, .int 0, .int 0, .int 0, .ref (ad 24), .ref (ad 25), .ref (ad 26), .ref (ad 27), .ref (ad 28), .ref (ad 29), .ref (ad 30), .ref (ad 31), .ref (ad 32), .ref (ad 33)])) (h33 : g 33 = .inr (0, [.int 0, .ref (ad 34), .ref (ad 35), .ref (ad 36), .ref (ad 42)])) : cV l yX6_clear vX6_clear { frames := 1, cells := 0, slots := 0, locals := 21 } D cs ad nW [.ref (ad 23)] g (fun g2 => g2 23 = .inr (6, [.int 0, .int 0, .int 0, .int 0, .int 0, .int 0, .int 0, .int 0, .ref (ad 24), .ref (ad 25), .ref (ad 26), .ref (ad 27), .ref (ad 28), .ref (ad 29), .ref (ad 30), .ref (ad 31), .ref (ad 32), .ref (ad 33)]) ∧ ∀ j, j ≠ 23 → g2 j = g j) := by
  refine Met.start (cc := cX6_clear) (maxL := 1) (ret := none) RX6 rfl (by decide) rfl (Nat.le_of_ble_eq_true rfl) ?_
  intro p e s m below meth c ls X hP hl
  have hx := X.1
  have hb := X.2.1
  have hS : va_S (wA ad nW) s.heap s.heap [] := va_S.rf
  have hA : ∀ i, i < nW → wA ad nW (ad i) := fun i h => ⟨i, h, rfl⟩
  have hfr : ∀ j, j ≠ 23 → g j = g j := fun _ _ => rfl
  have hl : lv_has ls 1 [(0, .ref (ad 23))] := hl
  refine lv_aload_n hx hb dX6_clear_0 rfl (lv_at hl 0 rfl) ?_
  refine lv_iconst (v := 0) hx hb dX6_clear_1 (by decide) ?_
  refine q_put X iX6_clear_6 tyX6 tyX6_ok nmX6 hP hj hA hS (by decide) h23 rfl 0 (by decide) (List.mem_of_getElem? (i := 1) rfl) rfl (ty := .int) (v := .int 0) (by decide +kernel) rfl rfl (Nat.le_of_ble_eq_true rfl) dX6_clear_2 (fun H locs hP hS => ?_)
  generalize eg_1 : va_up g 23 _ = g_1 at hP
  have hfr_2 : ∀ j, j ≠ 23 → g_1 j = g j := fun j hj => by rw [← eg_1]; exact (va_up_ne _ _ (by omega)).trans (hfr j hj)
  have h_3 : g_1 23 = .inr (6, [.int 0, .int 0, .int 0, .int 0, .int 0, .int 0, .int 0, .int 0, .ref (ad 24), .ref (ad 25), .ref (ad 26), .ref (ad 27), .ref (ad 28), .ref (ad 29), .ref (ad 30), .ref (ad 31), .ref (ad 32), .ref (ad 33)]) := by rw [← eg_1]; exact va_up_self _ _ _
  have h_4 : g_1 33 = .inr (0, [.int 0, .ref (ad 34), .ref (ad 35), .ref (ad 36), .ref (ad 42)]) := by rw [← eg_1, va_up_ne _ _ (by decide)]; exact h33
  refine lv_aload_n hx hb dX6_clear_5 rfl (lv_at hl 0 rfl) ?_
  refine lv_iconst (v := 0) hx hb dX6_clear_6 (by decide) ?_
  refine q_put X iX6_clear_6 tyX6 tyX6_ok nmX6 hP hj hA hS (by decide) h_3 rfl 1 (by decide) (List.mem_of_getElem? (i := 2) rfl) rfl (ty := .int) (v := .int 0) (by decide +kernel) rfl rfl (Nat.le_of_ble_eq_true rfl) dX6_clear_7 (fun H locs hP hS => ?_)
  generalize eg_5 : va_up g_1 23 _ = g_5 at hP
  have hfr_6 : ∀ j, j ≠ 23 → g_5 j = g j := fun j hj => by rw [← eg_5]; exact (va_up_ne _ _ (by omega)).trans (hfr_2 j hj)
  have h_7 : g_5 23 = .inr (6, [.int 0, .int 0, .int 0, .int 0, .int 0, .int 0, .int 0, .int 0, .ref (ad 24), .ref (ad 25), .ref (ad 26), .ref (ad 27), .ref (ad 28), .ref (ad 29), .ref (ad 30), .ref (ad 31), .ref (ad 32), .ref (ad 33)]) := by rw [← eg_5]; exact va_up_self _ _ _
  have h_8 : g_5 33 = .inr (0, [.int 0, .ref (ad 34), .ref (ad 35), .ref (ad 36), .ref (ad 42)]) := by rw [← eg_5, va_up_ne _ _ (by decide)]; exact h_4
  refine lv_aload_n hx hb dX6_clear_10 rfl (lv_at hl 0 rfl) ?_
  refine lv_iconst (v := 0) hx hb dX6_clear_11 (by decide) ?_
  refine q_put X iX6_clear_6 tyX6 tyX6_ok nmX6 hP hj hA hS (by decide) h_7 rfl 2 (by decide) (List.mem_of_getElem? (i := 3) rfl) rfl (ty := .int) (v := .int 0) (by decide +kernel) rfl rfl (Nat.le_of_ble_eq_true rfl) dX6_clear_12 (fun H locs hP hS => ?_)
  generalize eg_9 : va_up g_5 23 _ = g_9 at hP
  have hfr_10 : ∀ j, j ≠ 23 → g_9 j = g j := fun j hj => by rw [← eg_9]; exact (va_up_ne _ _ (by omega)).trans (hfr_6 j hj)
  have h_11 : g_9 23 = .inr (6, [.int 0, .int 0, .int 0, .int 0, .int 0, .int 0, .int 0, .int 0, .ref (ad 24), .ref (ad 25), .ref (ad 26), .ref (ad 27), .ref (ad 28), .ref (ad 29), .ref (ad 30), .ref (ad 31), .ref (ad 32), .ref (ad 33)]) := by rw [← eg_9]; exact va_up_self _ _ _
  have h_12 : g_9 33 = .inr (0, [.int 0, .ref (ad 34), .ref (ad 35), .ref (ad 36), .ref (ad 42)]) := by rw [← eg_9, va_up_ne _ _ (by decide)]; exact h_8
  refine lv_aload_n hx hb dX6_clear_15 rfl (lv_at hl 0 rfl) ?_
  refine lv_iconst (v := 0) hx hb dX6_clear_16 (by decide) ?_
  refine q_put X iX6_clear_6 tyX6 tyX6_ok nmX6 hP hj hA hS (by decide) h_11 rfl 3 (by decide) (List.mem_of_getElem? (i := 4) rfl) rfl (ty := .int) (v := .int 0) (by decide +kernel) rfl rfl (Nat.le_of_ble_eq_true rfl) dX6_clear_17 (fun H locs hP hS => ?_)
  generalize eg_13 : va_up g_9 23 _ = g_13 at hP
  have hfr_14 : ∀ j, j ≠ 23 → g_13 j = g j := fun j hj => by rw [← eg_13]; exact (va_up_ne _ _ (by omega)).trans (hfr_10 j hj)
  have h_15 : g_13 23 = .inr (6, [.int 0, .int 0, .int 0, .int 0, .int 0, .int 0, .int 0, .int 0, .ref (ad 24), .ref (ad 25), .ref (ad 26), .ref (ad 27), .ref (ad 28), .ref (ad 29), .ref (ad 30), .ref (ad 31), .ref (ad 32), .ref (ad 33)]) := by rw [← eg_13]; exact va_up_self _ _ _
  have h_16 : g_13 33 = .inr (0, [.int 0, .ref (ad 34), .ref (ad 35), .ref (ad 36), .ref (ad 42)]) := by rw [← eg_13, va_up_ne _ _ (by decide)]; exact h_12
  refine lv_aload_n hx hb dX6_clear_20 rfl (lv_at hl 0 rfl) ?_
  refine lv_iconst (v := 0) hx hb dX6_clear_21 (by decide) ?_
  refine q_put X iX6_clear_6 tyX6 tyX6_ok nmX6 hP hj hA hS (by decide) h_15 rfl 4 (by decide) (List.mem_of_getElem? (i := 5) rfl) rfl (ty := .int) (v := .int 0) (by decide +kernel) rfl rfl (Nat.le_of_ble_eq_true rfl) dX6_clear_22 (fun H locs hP hS => ?_)
  generalize eg_17 : va_up g_13 23 _ = g_17 at hP
  have hfr_18 : ∀ j, j ≠ 23 → g_17 j = g j := fun j hj => by rw [← eg_17]; exact (va_up_ne _ _ (by omega)).trans (hfr_14 j hj)
  have h_19 : g_17 23 = .inr (6, [.int 0, .int 0, .int 0, .int 0, .int 0, .int 0, .int 0, .int 0, .ref (ad 24), .ref (ad 25), .ref (ad 26), .ref (ad 27), .ref (ad 28), .ref (ad 29), .ref (ad 30), .ref (ad 31), .ref (ad 32), .ref (ad 33)]) := by rw [← eg_17]; exact va_up_self _ _ _
  have h_20 : g_17 33 = .inr (0, [.int 0, .ref (ad 34), .ref (ad 35), .ref (ad 36), .ref (ad 42)]) := by rw [← eg_17, va_up_ne _ _ (by decide)]; exact h_16
  refine lv_aload_n hx hb dX6_clear_25 rfl (lv_at hl 0 rfl) ?_
  refine lv_iconst (v := 0) hx hb dX6_clear_26 (by decide) ?_
  refine q_put X iX6_clear_6 tyX6 tyX6_ok nmX6 hP hj hA hS (by decide) h_19 rfl 5 (by decide) (List.mem_of_getElem? (i := 6) rfl) rfl (ty := .int) (v := .int 0) (by decide +kernel) rfl rfl (Nat.le_of_ble_eq_true rfl) dX6_clear_27 (fun H locs hP hS => ?_)
  generalize eg_21 : va_up g_17 23 _ = g_21 at hP
  have hfr_22 : ∀ j, j ≠ 23 → g_21 j = g j := fun j hj => by rw [← eg_21]; exact (va_up_ne _ _ (by omega)).trans (hfr_18 j hj)
  have h_23 : g_21 23 = .inr (6, [.int 0, .int 0, .int 0, .int 0, .int 0, .int 0, .int 0, .int 0, .ref (ad 24), .ref (ad 25), .ref (ad 26), .ref (ad 27), .ref (ad 28), .ref (ad 29), .ref (ad 30), .ref (ad 31), .ref (ad 32), .ref (ad 33)]) := by rw [← eg_21]; exact va_up_self _ _ _
  have h_24 : g_21 33 = .inr (0, [.int 0, .ref (ad 34), .ref (ad 35), .ref (ad 36), .ref (ad 42)]) := by rw [← eg_21, va_up_ne _ _ (by decide)]; exact h_20
  refine lv_aload_n hx hb dX6_clear_30 rfl (lv_at hl 0 rfl) ?_
  refine lv_iconst (v := 0) hx hb dX6_clear_31 (by decide) ?_
  refine q_put X iX6_clear_6 tyX6 tyX6_ok nmX6 hP hj hA hS (by decide) h_23 rfl 6 (by decide) (List.mem_of_getElem? (i := 7) rfl) rfl (ty := .int) (v := .int 0) (by decide +kernel) rfl rfl (Nat.le_of_ble_eq_true rfl) dX6_clear_32 (fun H locs hP hS => ?_)
  generalize eg_25 : va_up g_21 23 _ = g_25 at hP
  have hfr_26 : ∀ j, j ≠ 23 → g_25 j = g j := fun j hj => by rw [← eg_25]; exact (va_up_ne _ _ (by omega)).trans (hfr_22 j hj)
  have h_27 : g_25 23 = .inr (6, [.int 0, .int 0, .int 0, .int 0, .int 0, .int 0, .int 0, .int 0, .ref (ad 24), .ref (ad 25), .ref (ad 26), .ref (ad 27), .ref (ad 28), .ref (ad 29), .ref (ad 30), .ref (ad 31), .ref (ad 32), .ref (ad 33)]) := by rw [← eg_25]; exact va_up_self _ _ _
  have h_28 : g_25 33 = .inr (0, [.int 0, .ref (ad 34), .ref (ad 35), .ref (ad 36), .ref (ad 42)]) := by rw [← eg_25, va_up_ne _ _ (by decide)]; exact h_24
  refine lv_aload_n hx hb dX6_clear_35 rfl (lv_at hl 0 rfl) ?_
  refine lv_iconst (v := 0) hx hb dX6_clear_36 (by decide) ?_
  refine q_put X iX6_clear_6 tyX6 tyX6_ok nmX6 hP hj hA hS (by decide) h_27 rfl 7 (by decide) (List.mem_of_getElem? (i := 8) rfl) rfl (ty := .int) (v := .int 0) (by decide +kernel) rfl rfl (Nat.le_of_ble_eq_true rfl) dX6_clear_37 (fun H locs hP hS => ?_)
  generalize eg_29 : va_up g_25 23 _ = g_29 at hP
  have hfr_30 : ∀ j, j ≠ 23 → g_29 j = g j := fun j hj => by rw [← eg_29]; exact (va_up_ne _ _ (by omega)).trans (hfr_26 j hj)
  have h_31 : g_29 23 = .inr (6, [.int 0, .int 0, .int 0, .int 0, .int 0, .int 0, .int 0, .int 0, .ref (ad 24), .ref (ad 25), .ref (ad 26), .ref (ad 27), .ref (ad 28), .ref (ad 29), .ref (ad 30), .ref (ad 31), .ref (ad 32), .ref (ad 33)]) := by rw [← eg_29]; exact va_up_self _ _ _
  have h_32 : g_29 33 = .inr (0, [.int 0, .ref (ad 34), .ref (ad 35), .ref (ad 36), .ref (ad 42)]) := by rw [← eg_29, va_up_ne _ _ (by decide)]; exact h_28
  refine lv_aload_n hx hb dX6_clear_40 rfl (lv_at hl 0 rfl) ?_
  refine q_get X iX6_clear_6 hP (by decide) h_31 rfl 17 (by decide) (List.mem_of_getElem? (i := 9) rfl) (v := .ref (ad 33)) rfl dX6_clear_41 ?_
  refine q_callv (q := (RX0, TX0, 5)) (As := []) (rest := []) X (k_aclear23 l D cs ad hj g_29  h_32) (cwV 0 X.2.2.2.2.1 gg_X6_clear_X0_clear rfl rfl rfl (by decide +kernel) ⟨Nat.le_of_ble_eq_true rfl, Nat.le_of_ble_eq_true rfl⟩) (by decide) h_32 rfl hP hA hS rfl hl.1 rfl (Nat.le_of_ble_eq_true rfl) dX6_clear_44 ⟨Nat.le_of_ble_eq_true rfl, Nat.le_of_ble_eq_true rfl⟩ (fun g_34 H locs hw_33 hP hS => ?_)
  rw [hw_33] at hP
  exact q_vret X hP hS ⟨h_31, hfr_30⟩ dX6_clear_47

theorem dX7_advance_0 : decode cX7_advance 0 = .ok (.aload_n 0, 1) := by decide +kernel
theorem dX7_advance_1 : decode cX7_advance 1 = .ok (.aload_n 0, 1) := by decide +kernel
theorem dX7_advance_2 : decode cX7_advance 2 = .ok (.getfield 30, 3) := by decide +kernel
theorem dX7_advance_5 : decode cX7_advance 5 = .ok (.putfield 159, 3) := by decide +kernel
theorem dX7_advance_8 : decode cX7_advance 8 = .ok (.aload_n 0, 1) := by decide +kernel
theorem dX7_advance_9 : decode cX7_advance 9 = .ok (.getfield 159, 3) := by decide +kernel
theorem dX7_advance_12 : decode cX7_advance 12 = .ok (.aload_n 0, 1) := by decide +kernel
theorem dX7_advance_13 : decode cX7_advance 13 = .ok (.getfield 19, 3) := by decide +kernel
theorem dX7_advance_16 : decode cX7_advance 16 = .ok (.if_icmp .ge 32, 3) := by decide +kernel
theorem dX7_advance_48 : decode cX7_advance 48 = .ok (.aload_n 0, 1) := by decide +kernel
theorem dX7_advance_49 : decode cX7_advance 49 = .ok (.aload_n 0, 1) := by decide +kernel
theorem dX7_advance_50 : decode cX7_advance 50 = .ok (.getfield 159, 3) := by decide +kernel
theorem dX7_advance_53 : decode cX7_advance 53 = .ok (.aload_n 0, 1) := by decide +kernel
theorem dX7_advance_54 : decode cX7_advance 54 = .ok (.getfield 19, 3) := by decide +kernel
theorem dX7_advance_57 : decode cX7_advance 57 = .ok (.if_icmp .ge 18, 3) := by decide +kernel
theorem dX7_advance_75 : decode cX7_advance 75 = .ok (.iconst 0, 1) := by decide +kernel
theorem dX7_advance_76 : decode cX7_advance 76 = .ok (.putfield 36, 3) := by decide +kernel
theorem dX7_advance_79 : decode cX7_advance 79 = .ok (.aload_n 0, 1) := by decide +kernel
theorem dX7_advance_80 : decode cX7_advance 80 = .ok (.aload_n 0, 1) := by decide +kernel
theorem dX7_advance_81 : decode cX7_advance 81 = .ok (.getfield 36, 3) := by decide +kernel
theorem dX7_advance_84 : decode cX7_advance 84 = .ok (.ifCond .ne 10, 3) := by decide +kernel
theorem dX7_advance_87 : decode cX7_advance 87 = .ok (.aload_n 0, 1) := by decide +kernel
theorem dX7_advance_88 : decode cX7_advance 88 = .ok (.getfield 159, 3) := by decide +kernel
theorem dX7_advance_91 : decode cX7_advance 91 = .ok (.goto 9, 3) := by decide +kernel
theorem dX7_advance_100 : decode cX7_advance 100 = .ok (.putfield 30, 3) := by decide +kernel
theorem dX7_advance_103 : decode cX7_advance 103 = .ok (.aload_n 0, 1) := by decide +kernel
theorem dX7_advance_104 : decode cX7_advance 104 = .ok (.getfield 36, 3) := by decide +kernel
theorem dX7_advance_107 : decode cX7_advance 107 = .ok (.iconst 1, 1) := by decide +kernel
theorem dX7_advance_108 : decode cX7_advance 108 = .ok (.if_icmp .eq 11, 3) := by decide +kernel
theorem dX7_advance_111 : decode cX7_advance 111 = .ok (.aload_n 0, 1) := by decide +kernel
theorem dX7_advance_112 : decode cX7_advance 112 = .ok (.getfield 36, 3) := by decide +kernel
theorem dX7_advance_115 : decode cX7_advance 115 = .ok (.iconst 2, 1) := by decide +kernel
theorem dX7_advance_116 : decode cX7_advance 116 = .ok (.if_icmp .ne 7, 3) := by decide +kernel
theorem dX7_advance_123 : decode cX7_advance 123 = .ok (.iconst 0, 1) := by decide +kernel
theorem dX7_advance_124 : decode cX7_advance 124 = .ok (.istore_n 1, 1) := by decide +kernel
theorem dX7_advance_125 : decode cX7_advance 125 = .ok (.iload_n 1, 1) := by decide +kernel
theorem dX7_advance_126 : decode cX7_advance 126 = .ok (.ifCond .eq 46, 3) := by decide +kernel
theorem dX7_advance_172 : decode cX7_advance 172 = .ok (.return_, 1) := by decide +kernel
def vX7_advance : List Cond := .code yX7_advance cX7_advance 2 none :: ([.fieldLink RX7 30 "IcicleClock$Tape" "stop" "I", .fieldLink RX7 159 "IcicleClock$Tape" "start" "I", .fieldLink RX7 19 "IcicleClock$Tape" "filled" "I", .fieldLink RX7 36 "IcicleClock$Tape" "kind" "I"] ++ wsX70)
theorem iX7_advance_7 : ∀ w ∈ wsX70, w ∈ vX7_advance := fun _ h => List.mem_cons_of_mem _ (List.mem_append_right _ h)
set_option maxHeartbeats 4000000 in
set_option maxRecDepth 100000 in
theorem k_advance (l : Launch) (D : va_G) (cs : Nat → ClassId) (ad : Nat → Nat) (hj : wJ ad nW) (g : Nat → va_E) (h1 : g 1 = .inr (7, [.ref (ad 2), .int 0, .int 0, .int (-1), .int 0, .int 0, .int 0])) : cV l yX7_advance vX7_advance { frames := 0, cells := 0, slots := 0, locals := 0 } D cs ad nW [.ref (ad 1)] g (fun g2 => g2 1 = .inr (7, [.ref (ad 2), .int 0, .int 0, .int (-1), .int 0, .int 0, .int 0]) ∧ ∀ j, j ≠ 1 → g2 j = g j) := by
  refine Met.start (cc := cX7_advance) (maxL := 2) (ret := none) RX7 rfl (by decide) rfl (Nat.le_of_ble_eq_true rfl) ?_
  intro p e s m below meth c ls X hP hl
  have hx := X.1
  have hb := X.2.1
  have hS : va_S (wA ad nW) s.heap s.heap [] := va_S.rf
  have hA : ∀ i, i < nW → wA ad nW (ad i) := fun i h => ⟨i, h, rfl⟩
  have hfr : ∀ j, j ≠ 1 → g j = g j := fun _ _ => rfl
  have hl : lv_has ls 2 [(0, .ref (ad 1))] := hl
  refine lv_aload_n hx hb dX7_advance_0 rfl (lv_at hl 0 rfl) ?_
  refine lv_aload_n hx hb dX7_advance_1 rfl (lv_at hl 0 rfl) ?_
  refine q_get X iX7_advance_7 hP (by decide) h1 rfl 5 (by decide) (List.mem_of_getElem? (i := 1) rfl) (v := .int 0) rfl dX7_advance_2 ?_
  refine q_put X iX7_advance_7 tyX7 tyX7_ok nmX7 hP hj hA hS (by decide) h1 rfl 4 (by decide) (List.mem_of_getElem? (i := 2) rfl) rfl (ty := .int) (v := .int 0) (by decide +kernel) rfl rfl (Nat.le_of_ble_eq_true rfl) dX7_advance_5 (fun H locs hP hS => ?_)
  generalize eg_1 : va_up g 1 _ = g_1 at hP
  have hfr_2 : ∀ j, j ≠ 1 → g_1 j = g j := fun j hj => by rw [← eg_1]; exact (va_up_ne _ _ (by omega)).trans (hfr j hj)
  have h_3 : g_1 1 = .inr (7, [.ref (ad 2), .int 0, .int 0, .int (-1), .int 0, .int 0, .int 0]) := by rw [← eg_1]; exact va_up_self _ _ _
  refine lv_aload_n hx hb dX7_advance_8 rfl (lv_at hl 0 rfl) ?_
  refine q_get X iX7_advance_7 hP (by decide) h_3 rfl 4 (by decide) (List.mem_of_getElem? (i := 2) rfl) (v := .int 0) rfl dX7_advance_9 ?_
  refine lv_aload_n hx hb dX7_advance_12 rfl (lv_at hl 0 rfl) ?_
  refine q_get X iX7_advance_7 hP (by decide) h_3 rfl 1 (by decide) (List.mem_of_getElem? (i := 3) rfl) (v := .int 0) rfl dX7_advance_13 ?_
  refine lv_icmp_ge (tgt := 48) hx hb dX7_advance_16 (by decide) (fun _ => ?_) (fun h => absurd h (by decide))
  refine lv_aload_n hx hb dX7_advance_48 rfl (lv_at hl 0 rfl) ?_
  refine lv_aload_n hx hb dX7_advance_49 rfl (lv_at hl 0 rfl) ?_
  refine q_get X iX7_advance_7 hP (by decide) h_3 rfl 4 (by decide) (List.mem_of_getElem? (i := 2) rfl) (v := .int 0) rfl dX7_advance_50 ?_
  refine lv_aload_n hx hb dX7_advance_53 rfl (lv_at hl 0 rfl) ?_
  refine q_get X iX7_advance_7 hP (by decide) h_3 rfl 1 (by decide) (List.mem_of_getElem? (i := 3) rfl) (v := .int 0) rfl dX7_advance_54 ?_
  refine lv_icmp_ge (tgt := 75) hx hb dX7_advance_57 (by decide) (fun _ => ?_) (fun h => absurd h (by decide))
  refine lv_iconst (v := 0) hx hb dX7_advance_75 (by decide) ?_
  refine q_put X iX7_advance_7 tyX7 tyX7_ok nmX7 hP hj hA hS (by decide) h_3 rfl 6 (by decide) (List.mem_of_getElem? (i := 4) rfl) rfl (ty := .int) (v := .int 0) (by decide +kernel) rfl rfl (Nat.le_of_ble_eq_true rfl) dX7_advance_76 (fun H locs hP hS => ?_)
  generalize eg_4 : va_up g_1 1 _ = g_4 at hP
  have hfr_5 : ∀ j, j ≠ 1 → g_4 j = g j := fun j hj => by rw [← eg_4]; exact (va_up_ne _ _ (by omega)).trans (hfr_2 j hj)
  have h_6 : g_4 1 = .inr (7, [.ref (ad 2), .int 0, .int 0, .int (-1), .int 0, .int 0, .int 0]) := by rw [← eg_4]; exact va_up_self _ _ _
  refine lv_aload_n hx hb dX7_advance_79 rfl (lv_at hl 0 rfl) ?_
  refine lv_aload_n hx hb dX7_advance_80 rfl (lv_at hl 0 rfl) ?_
  refine q_get X iX7_advance_7 hP (by decide) h_6 rfl 6 (by decide) (List.mem_of_getElem? (i := 4) rfl) (v := .int 0) rfl dX7_advance_81 ?_
  refine lv_if_ne (tgt := 94) hx hb dX7_advance_84 (by decide) (fun h => absurd h (by decide)) (fun _ => ?_)
  refine lv_aload_n hx hb dX7_advance_87 rfl (lv_at hl 0 rfl) ?_
  refine q_get X iX7_advance_7 hP (by decide) h_6 rfl 4 (by decide) (List.mem_of_getElem? (i := 2) rfl) (v := .int 0) rfl dX7_advance_88 ?_
  refine lv_goto (tgt := 100) hx hb dX7_advance_91 (by decide) ?_
  refine q_put X iX7_advance_7 tyX7 tyX7_ok nmX7 hP hj hA hS (by decide) h_6 rfl 5 (by decide) (List.mem_of_getElem? (i := 1) rfl) rfl (ty := .int) (v := .int 0) (by decide +kernel) rfl rfl (Nat.le_of_ble_eq_true rfl) dX7_advance_100 (fun H locs hP hS => ?_)
  generalize eg_7 : va_up g_4 1 _ = g_7 at hP
  have hfr_8 : ∀ j, j ≠ 1 → g_7 j = g j := fun j hj => by rw [← eg_7]; exact (va_up_ne _ _ (by omega)).trans (hfr_5 j hj)
  have h_9 : g_7 1 = .inr (7, [.ref (ad 2), .int 0, .int 0, .int (-1), .int 0, .int 0, .int 0]) := by rw [← eg_7]; exact va_up_self _ _ _
  refine lv_aload_n hx hb dX7_advance_103 rfl (lv_at hl 0 rfl) ?_
  refine q_get X iX7_advance_7 hP (by decide) h_9 rfl 6 (by decide) (List.mem_of_getElem? (i := 4) rfl) (v := .int 0) rfl dX7_advance_104 ?_
  refine lv_iconst (v := 1) hx hb dX7_advance_107 (by decide) ?_
  refine lv_icmp_eq (tgt := 119) hx hb dX7_advance_108 (by decide) (fun h => absurd h (by decide)) (fun _ => ?_)
  refine lv_aload_n hx hb dX7_advance_111 rfl (lv_at hl 0 rfl) ?_
  refine q_get X iX7_advance_7 hP (by decide) h_9 rfl 6 (by decide) (List.mem_of_getElem? (i := 4) rfl) (v := .int 0) rfl dX7_advance_112 ?_
  refine lv_iconst (v := 2) hx hb dX7_advance_115 (by decide) ?_
  refine lv_icmp_ne (tgt := 123) hx hb dX7_advance_116 (by decide) (fun _ => ?_) (fun h => absurd h (by decide))
  refine lv_iconst (v := 0) hx hb dX7_advance_123 (by decide) ?_
  refine lv_istore_n (lv' := [(1, .int 0), (0, .ref (ad 1))]) hx hb dX7_advance_124 rfl hl (by decide) rfl (fun ls hl => ?_)
  refine lv_iload_n hx hb dX7_advance_125 rfl (lv_at hl 0 rfl) ?_
  refine lv_if_eq (tgt := 172) hx hb dX7_advance_126 (by decide) (fun _ => ?_) (fun h => absurd h (by decide))
  exact q_vret X hP hS ⟨h_9, hfr_8⟩ dX7_advance_172

theorem dX7_readInto_0 : decode cX7_readInto 0 = .ok (.aload_n 1, 1) := by decide +kernel
theorem dX7_readInto_1 : decode cX7_readInto 1 = .ok (.invokevirtual 22, 3) := by decide +kernel
theorem dX7_readInto_4 : decode cX7_readInto 4 = .ok (.aload_n 0, 1) := by decide +kernel
theorem dX7_readInto_5 : decode cX7_readInto 5 = .ok (.iconst 0, 1) := by decide +kernel
theorem dX7_readInto_6 : decode cX7_readInto 6 = .ok (.putfield 27, 3) := by decide +kernel
theorem dX7_readInto_9 : decode cX7_readInto 9 = .ok (.aload_n 0, 1) := by decide +kernel
theorem dX7_readInto_10 : decode cX7_readInto 10 = .ok (.iconst (-1), 1) := by decide +kernel
theorem dX7_readInto_11 : decode cX7_readInto 11 = .ok (.putfield 15, 3) := by decide +kernel
theorem dX7_readInto_14 : decode cX7_readInto 14 = .ok (.aload_n 0, 1) := by decide +kernel
theorem dX7_readInto_15 : decode cX7_readInto 15 = .ok (.iconst 0, 1) := by decide +kernel
theorem dX7_readInto_16 : decode cX7_readInto 16 = .ok (.putfield 30, 3) := by decide +kernel
theorem dX7_readInto_19 : decode cX7_readInto 19 = .ok (.aload_n 0, 1) := by decide +kernel
theorem dX7_readInto_20 : decode cX7_readInto 20 = .ok (.invokevirtual 33, 3) := by decide +kernel
theorem dX7_readInto_23 : decode cX7_readInto 23 = .ok (.iconst 0, 1) := by decide +kernel
theorem dX7_readInto_24 : decode cX7_readInto 24 = .ok (.istore_n 2, 1) := by decide +kernel
theorem dX7_readInto_25 : decode cX7_readInto 25 = .ok (.iload_n 2, 1) := by decide +kernel
theorem dX7_readInto_26 : decode cX7_readInto 26 = .ok (.sipush 1000, 3) := by decide +kernel
theorem dX7_readInto_29 : decode cX7_readInto 29 = .ok (.if_icmp .gt 135, 3) := by decide +kernel
theorem dX7_readInto_32 : decode cX7_readInto 32 = .ok (.aload_n 0, 1) := by decide +kernel
theorem dX7_readInto_33 : decode cX7_readInto 33 = .ok (.getfield 36, 3) := by decide +kernel
theorem dX7_readInto_36 : decode cX7_readInto 36 = .ok (.ifCond .eq 128, 3) := by decide +kernel
theorem dX7_readInto_164 : decode cX7_readInto 164 = .ok (.aload_n 0, 1) := by decide +kernel
theorem dX7_readInto_165 : decode cX7_readInto 165 = .ok (.getfield 27, 3) := by decide +kernel
theorem dX7_readInto_168 : decode cX7_readInto 168 = .ok (.ifCond .ne 7, 3) := by decide +kernel
theorem dX7_readInto_171 : decode cX7_readInto 171 = .ok (.iconst 1, 1) := by decide +kernel
theorem dX7_readInto_172 : decode cX7_readInto 172 = .ok (.goto 4, 3) := by decide +kernel
theorem dX7_readInto_176 : decode cX7_readInto 176 = .ok (.ireturn, 1) := by decide +kernel
def vX7_readInto : List Cond := .code yX7_readInto cX7_readInto 3 (some .boolean) :: ([.methodLink RX7 22 yX6_clear, .instanceMethod yX6_clear, .selects RX6 yX6_clear yX6_clear, .initialized RX6, .code yX6_clear cX6_clear 1 none, .fieldLink RX6 47 "IcicleClock$Street" "slamTakes" "I", .fieldLink RX6 51 "IcicleClock$Street" "bellTakes" "I", .fieldLink RX6 54 "IcicleClock$Street" "odds" "I", .fieldLink RX6 57 "IcicleClock$Street" "days" "I", .fieldLink RX6 60 "IcicleClock$Street" "eaves" "I", .fieldLink RX6 63 "IcicleClock$Street" "icicles" "I", .fieldLink RX6 66 "IcicleClock$Street" "works" "I", .fieldLink RX6 69 "IcicleClock$Street" "lines" "I", .fieldLink RX6 43 "IcicleClock$Street" "acts" "LIcicleClock$Acts;", .methodLink RX6 72 yX0_clear, .instanceMethod yX0_clear, .selects RX0 yX0_clear yX0_clear, .initialized RX0, .code yX0_clear cX0_clear 2 none, .fieldLink RX0 26 "IcicleClock$Acts" "done" "I", .fieldLink RX7 27 "IcicleClock$Tape" "fault" "I", .fieldLink RX7 15 "IcicleClock$Tape" "faultPlace" "I", .fieldLink RX7 30 "IcicleClock$Tape" "stop" "I", .methodLink RX7 33 yX7_advance, .instanceMethod yX7_advance, .selects RX7 yX7_advance yX7_advance, .initialized RX7, .code yX7_advance cX7_advance 2 none, .fieldLink RX7 159 "IcicleClock$Tape" "start" "I", .fieldLink RX7 19 "IcicleClock$Tape" "filled" "I", .fieldLink RX7 36 "IcicleClock$Tape" "kind" "I"] ++ wsX60 ++ wsX00 ++ wsX70)
theorem iX7_readInto_6 : ∀ w ∈ wsX60, w ∈ vX7_readInto := fun _ h => List.mem_cons_of_mem _ (List.mem_append_left _ (List.mem_append_left _ (List.mem_append_right _ h)))
theorem iX7_readInto_0 : ∀ w ∈ wsX00, w ∈ vX7_readInto := fun _ h => List.mem_cons_of_mem _ (List.mem_append_left _ (List.mem_append_right _ h))
theorem iX7_readInto_7 : ∀ w ∈ wsX70, w ∈ vX7_readInto := fun _ h => List.mem_cons_of_mem _ (List.mem_append_right _ h)
set_option maxRecDepth 20000 in
theorem gg_X7_readInto_X6_clear : GoodIn vX7_readInto (wsV RX7 22 RX6 yX6_clear vX6_clear) := goodIn_r _ [1, 2, 3, 4, 5, 6, 7, 8, 9, 10, 11, 12, 13, 14, 15, 16, 17, 18, 19, 20, 32, 33, 34, 35, 36, 37, 38, 39, 40, 41, 42, 43, 44, 45, 46, 47, 48, 49, 50, 51, 52, 53, 54] (by decide +kernel) (by decide +kernel)
set_option maxRecDepth 20000 in
theorem gg_X7_readInto_X7_advance : GoodIn vX7_readInto (wsV RX7 33 RX7 yX7_advance vX7_advance) := goodIn_r _ [24, 25, 26, 27, 28, 23, 29, 30, 31, 55, 56, 57, 58, 59, 60, 61] (by decide +kernel) (by decide +kernel)
set_option maxHeartbeats 4000000 in
set_option maxRecDepth 100000 in
theorem k_readInto (l : Launch) (D : va_G) (cs : Nat → ClassId) (ad : Nat → Nat) (hj : wJ ad nW) (g : Nat → va_E) (h1 : g 1 = .inr (7, [.ref (ad 2), .int 0, .int 0, .int (-1), .int 0, .int 0, .int 0])) (h23 : g 23 = .inr (6, [.int 0, .int 0, .int 0, .int 0, .int 0, .int 0, .int 0, .int 0, .ref (ad 24), .ref (ad 25), .ref (ad 26), .ref (ad 27), .ref (ad 28), .ref (ad 29), .ref (ad 30), .ref (ad 31), .ref (ad 32), .ref (ad 33)])) (h33 : g 33 = .inr (0, [.int 0, .ref (ad 34), .ref (ad 35), .ref (ad 36), .ref (ad 42)])) : cI l yX7_readInto vX7_readInto { frames := 2, cells := 0, slots := 0, locals := 41 } D cs ad nW [.ref (ad 1), .ref (ad 23)] g (fun r g2 => r = 1 ∧ g2 1 = .inr (7, [.ref (ad 2), .int 0, .int 0, .int (-1), .int 0, .int 0, .int 0]) ∧ g2 23 = .inr (6, [.int 0, .int 0, .int 0, .int 0, .int 0, .int 0, .int 0, .int 0, .ref (ad 24), .ref (ad 25), .ref (ad 26), .ref (ad 27), .ref (ad 28), .ref (ad 29), .ref (ad 30), .ref (ad 31), .ref (ad 32), .ref (ad 33)]) ∧ ∀ j, (j ≠ 1 ∧ j ≠ 23) → g2 j = g j) := by
  refine Met.start (cc := cX7_readInto) (maxL := 3) (ret := (some .boolean)) RX7 rfl (by decide) rfl (Nat.le_of_ble_eq_true rfl) ?_
  intro p e s m below meth c ls X hP hl
  have hx := X.1
  have hb := X.2.1
  have hS : va_S (wA ad nW) s.heap s.heap [] := va_S.rf
  have hA : ∀ i, i < nW → wA ad nW (ad i) := fun i h => ⟨i, h, rfl⟩
  have hfr : ∀ j, (j ≠ 1 ∧ j ≠ 23) → g j = g j := fun _ _ => rfl
  have hl : lv_has ls 3 [(0, .ref (ad 1)), (1, .ref (ad 23))] := hl
  refine lv_aload_n hx hb dX7_readInto_0 rfl (lv_at hl 1 rfl) ?_
  refine q_callv (q := (RX6, TX6, 18)) (As := []) (rest := []) X (k_sclear l D cs ad hj g  h23 h33) (cwV 0 X.2.2.2.2.1 gg_X7_readInto_X6_clear rfl rfl rfl (by decide +kernel) ⟨Nat.le_of_ble_eq_true rfl, Nat.le_of_ble_eq_true rfl⟩) (by decide) h23 rfl hP hA hS rfl hl.1 rfl (Nat.le_of_ble_eq_true rfl) dX7_readInto_1 ⟨Nat.le_of_ble_eq_true rfl, Nat.le_of_ble_eq_true rfl⟩ (fun g_2 H locs hw_1 hP hS => ?_)
  obtain ⟨h_4, hf_5⟩ := hw_1
  have hfr_6 : ∀ j, (j ≠ 1 ∧ j ≠ 23) → g_2 j = g j := fun j hj => (hf_5 j (by omega)).trans (hfr j hj)
  have h_7 : g_2 1 = .inr (7, [.ref (ad 2), .int 0, .int 0, .int (-1), .int 0, .int 0, .int 0]) := (hf_5 1 (by decide)).trans h1
  have h_8 : g_2 33 = .inr (0, [.int 0, .ref (ad 34), .ref (ad 35), .ref (ad 36), .ref (ad 42)]) := (hf_5 33 (by decide)).trans h33
  refine lv_aload_n hx hb dX7_readInto_4 rfl (lv_at hl 0 rfl) ?_
  refine lv_iconst (v := 0) hx hb dX7_readInto_5 (by decide) ?_
  refine q_put X iX7_readInto_7 tyX7 tyX7_ok nmX7 hP hj hA hS (by decide) h_7 rfl 2 (by decide) (List.mem_of_getElem? (i := 21) rfl) rfl (ty := .int) (v := .int 0) (by decide +kernel) rfl rfl (Nat.le_of_ble_eq_true rfl) dX7_readInto_6 (fun H locs hP hS => ?_)
  generalize eg_9 : va_up g_2 1 _ = g_9 at hP
  have hfr_10 : ∀ j, (j ≠ 1 ∧ j ≠ 23) → g_9 j = g j := fun j hj => by rw [← eg_9]; exact (va_up_ne _ _ (by omega)).trans (hfr_6 j hj)
  have h_11 : g_9 1 = .inr (7, [.ref (ad 2), .int 0, .int 0, .int (-1), .int 0, .int 0, .int 0]) := by rw [← eg_9]; exact va_up_self _ _ _
  have h_12 : g_9 23 = .inr (6, [.int 0, .int 0, .int 0, .int 0, .int 0, .int 0, .int 0, .int 0, .ref (ad 24), .ref (ad 25), .ref (ad 26), .ref (ad 27), .ref (ad 28), .ref (ad 29), .ref (ad 30), .ref (ad 31), .ref (ad 32), .ref (ad 33)]) := by rw [← eg_9, va_up_ne _ _ (by decide)]; exact h_4
  have h_13 : g_9 33 = .inr (0, [.int 0, .ref (ad 34), .ref (ad 35), .ref (ad 36), .ref (ad 42)]) := by rw [← eg_9, va_up_ne _ _ (by decide)]; exact h_8
  refine lv_aload_n hx hb dX7_readInto_9 rfl (lv_at hl 0 rfl) ?_
  refine lv_iconst (v := (-1)) hx hb dX7_readInto_10 (by decide) ?_
  refine q_put X iX7_readInto_7 tyX7 tyX7_ok nmX7 hP hj hA hS (by decide) h_11 rfl 3 (by decide) (List.mem_of_getElem? (i := 22) rfl) rfl (ty := .int) (v := .int (-1)) (by decide +kernel) rfl rfl (Nat.le_of_ble_eq_true rfl) dX7_readInto_11 (fun H locs hP hS => ?_)
  generalize eg_14 : va_up g_9 1 _ = g_14 at hP
  have hfr_15 : ∀ j, (j ≠ 1 ∧ j ≠ 23) → g_14 j = g j := fun j hj => by rw [← eg_14]; exact (va_up_ne _ _ (by omega)).trans (hfr_10 j hj)
  have h_16 : g_14 1 = .inr (7, [.ref (ad 2), .int 0, .int 0, .int (-1), .int 0, .int 0, .int 0]) := by rw [← eg_14]; exact va_up_self _ _ _
  have h_17 : g_14 23 = .inr (6, [.int 0, .int 0, .int 0, .int 0, .int 0, .int 0, .int 0, .int 0, .ref (ad 24), .ref (ad 25), .ref (ad 26), .ref (ad 27), .ref (ad 28), .ref (ad 29), .ref (ad 30), .ref (ad 31), .ref (ad 32), .ref (ad 33)]) := by rw [← eg_14, va_up_ne _ _ (by decide)]; exact h_12
  have h_18 : g_14 33 = .inr (0, [.int 0, .ref (ad 34), .ref (ad 35), .ref (ad 36), .ref (ad 42)]) := by rw [← eg_14, va_up_ne _ _ (by decide)]; exact h_13
  refine lv_aload_n hx hb dX7_readInto_14 rfl (lv_at hl 0 rfl) ?_
  refine lv_iconst (v := 0) hx hb dX7_readInto_15 (by decide) ?_
  refine q_put X iX7_readInto_7 tyX7 tyX7_ok nmX7 hP hj hA hS (by decide) h_16 rfl 5 (by decide) (List.mem_of_getElem? (i := 23) rfl) rfl (ty := .int) (v := .int 0) (by decide +kernel) rfl rfl (Nat.le_of_ble_eq_true rfl) dX7_readInto_16 (fun H locs hP hS => ?_)
  generalize eg_19 : va_up g_14 1 _ = g_19 at hP
  have hfr_20 : ∀ j, (j ≠ 1 ∧ j ≠ 23) → g_19 j = g j := fun j hj => by rw [← eg_19]; exact (va_up_ne _ _ (by omega)).trans (hfr_15 j hj)
  have h_21 : g_19 1 = .inr (7, [.ref (ad 2), .int 0, .int 0, .int (-1), .int 0, .int 0, .int 0]) := by rw [← eg_19]; exact va_up_self _ _ _
  have h_22 : g_19 23 = .inr (6, [.int 0, .int 0, .int 0, .int 0, .int 0, .int 0, .int 0, .int 0, .ref (ad 24), .ref (ad 25), .ref (ad 26), .ref (ad 27), .ref (ad 28), .ref (ad 29), .ref (ad 30), .ref (ad 31), .ref (ad 32), .ref (ad 33)]) := by rw [← eg_19, va_up_ne _ _ (by decide)]; exact h_17
  have h_23 : g_19 33 = .inr (0, [.int 0, .ref (ad 34), .ref (ad 35), .ref (ad 36), .ref (ad 42)]) := by rw [← eg_19, va_up_ne _ _ (by decide)]; exact h_18
  refine lv_aload_n hx hb dX7_readInto_19 rfl (lv_at hl 0 rfl) ?_
  refine q_callv (q := (RX7, TX7, 7)) (As := []) (rest := []) X (k_advance l D cs ad hj g_19  h_21) (cwV 0 X.2.2.2.2.1 gg_X7_readInto_X7_advance rfl rfl rfl (by decide +kernel) ⟨Nat.le_of_ble_eq_true rfl, Nat.le_of_ble_eq_true rfl⟩) (by decide) h_21 rfl hP hA hS rfl hl.1 rfl (Nat.le_of_ble_eq_true rfl) dX7_readInto_20 ⟨Nat.le_of_ble_eq_true rfl, Nat.le_of_ble_eq_true rfl⟩ (fun g_25 H locs hw_24 hP hS => ?_)
  obtain ⟨h_27, hf_28⟩ := hw_24
  have hfr_29 : ∀ j, (j ≠ 1 ∧ j ≠ 23) → g_25 j = g j := fun j hj => (hf_28 j (by omega)).trans (hfr_20 j hj)
  have h_30 : g_25 23 = .inr (6, [.int 0, .int 0, .int 0, .int 0, .int 0, .int 0, .int 0, .int 0, .ref (ad 24), .ref (ad 25), .ref (ad 26), .ref (ad 27), .ref (ad 28), .ref (ad 29), .ref (ad 30), .ref (ad 31), .ref (ad 32), .ref (ad 33)]) := (hf_28 23 (by decide)).trans h_22
  have h_31 : g_25 33 = .inr (0, [.int 0, .ref (ad 34), .ref (ad 35), .ref (ad 36), .ref (ad 42)]) := (hf_28 33 (by decide)).trans h_23
  refine lv_iconst (v := 0) hx hb dX7_readInto_23 (by decide) ?_
  refine lv_istore_n (lv' := [(2, .int 0), (0, .ref (ad 1)), (1, .ref (ad 23))]) hx hb dX7_readInto_24 rfl hl (by decide) rfl (fun ls hl => ?_)
  refine lv_iload_n hx hb dX7_readInto_25 rfl (lv_at hl 0 rfl) ?_
  refine lv_sipush (v := 1000) hx hb dX7_readInto_26 (by decide) ?_
  refine lv_icmp_gt (tgt := 164) hx hb dX7_readInto_29 (by decide) (fun h => absurd h (by decide)) (fun _ => ?_)
  refine lv_aload_n hx hb dX7_readInto_32 rfl (lv_at hl 1 rfl) ?_
  refine q_get X iX7_readInto_7 hP (by decide) h_27 rfl 6 (by decide) (List.mem_of_getElem? (i := 31) rfl) (v := .int 0) rfl dX7_readInto_33 ?_
  refine lv_if_eq (tgt := 164) hx hb dX7_readInto_36 (by decide) (fun _ => ?_) (fun h => absurd h (by decide))
  refine lv_aload_n hx hb dX7_readInto_164 rfl (lv_at hl 1 rfl) ?_
  refine q_get X iX7_readInto_7 hP (by decide) h_27 rfl 2 (by decide) (List.mem_of_getElem? (i := 21) rfl) (v := .int 0) rfl dX7_readInto_165 ?_
  refine lv_if_ne (tgt := 175) hx hb dX7_readInto_168 (by decide) (fun h => absurd h (by decide)) (fun _ => ?_)
  refine lv_iconst (v := 1) hx hb dX7_readInto_171 (by decide) ?_
  refine lv_goto (tgt := 176) hx hb dX7_readInto_172 (by decide) ?_
  exact q_zret X hP hS rfl ⟨rfl, h_27, h_30, hfr_29⟩ dX7_readInto_176

theorem dX0_copyFrom_0 : decode cX0_copyFrom 0 = .ok (.aload_n 0, 1) := by decide +kernel
theorem dX0_copyFrom_1 : decode cX0_copyFrom 1 = .ok (.invokevirtual 38, 3) := by decide +kernel
theorem dX0_copyFrom_4 : decode cX0_copyFrom 4 = .ok (.iconst 0, 1) := by decide +kernel
theorem dX0_copyFrom_5 : decode cX0_copyFrom 5 = .ok (.istore_n 2, 1) := by decide +kernel
theorem dX0_copyFrom_6 : decode cX0_copyFrom 6 = .ok (.iload_n 2, 1) := by decide +kernel
theorem dX0_copyFrom_7 : decode cX0_copyFrom 7 = .ok (.aload_n 1, 1) := by decide +kernel
theorem dX0_copyFrom_8 : decode cX0_copyFrom 8 = .ok (.getfield 26, 3) := by decide +kernel
theorem dX0_copyFrom_11 : decode cX0_copyFrom 11 = .ok (.if_icmp .ge 26, 3) := by decide +kernel
theorem dX0_copyFrom_37 : decode cX0_copyFrom 37 = .ok (.return_, 1) := by decide +kernel
def vX0_copyFrom : List Cond := .code yX0_copyFrom cX0_copyFrom 3 none :: ([.methodLink RX0 38 yX0_clear, .instanceMethod yX0_clear, .selects RX0 yX0_clear yX0_clear, .initialized RX0, .code yX0_clear cX0_clear 2 none, .fieldLink RX0 26 "IcicleClock$Acts" "done" "I"] ++ wsX00)
theorem iX0_copyFrom_0 : ∀ w ∈ wsX00, w ∈ vX0_copyFrom := fun _ h => List.mem_cons_of_mem _ (List.mem_append_right _ h)
set_option maxRecDepth 20000 in
theorem gg_X0_copyFrom_X0_clear : GoodIn vX0_copyFrom (wsV RX0 38 RX0 yX0_clear vX0_clear) := goodIn_r _ [1, 2, 3, 4, 5, 6, 7, 8, 9, 10, 11] (by decide +kernel) (by decide +kernel)
set_option maxHeartbeats 4000000 in
set_option maxRecDepth 100000 in
theorem k_acopy3 (l : Launch) (D : va_G) (cs : Nat → ClassId) (ad : Nat → Nat) (hj : wJ ad nW) (g : Nat → va_E) (h13 : g 13 = .inr (0, [.int 0, .ref (ad 14), .ref (ad 15), .ref (ad 16), .ref (ad 22)])) (h33 : g 33 = .inr (0, [.int 0, .ref (ad 34), .ref (ad 35), .ref (ad 36), .ref (ad 42)])) : cV l yX0_copyFrom vX0_copyFrom { frames := 1, cells := 0, slots := 0, locals := 21 } D cs ad nW [.ref (ad 13), .ref (ad 33)] g (fun g2 => g2 = g) := by
  refine Met.start (cc := cX0_copyFrom) (maxL := 3) (ret := none) RX0 rfl (by decide) rfl (Nat.le_of_ble_eq_true rfl) ?_
  intro p e s m below meth c ls X hP hl
  have hx := X.1
  have hb := X.2.1
  have hS : va_S (wA ad nW) s.heap s.heap [] := va_S.rf
  have hA : ∀ i, i < nW → wA ad nW (ad i) := fun i h => ⟨i, h, rfl⟩
  have hl : lv_has ls 3 [(0, .ref (ad 13)), (1, .ref (ad 33))] := hl
  refine lv_aload_n hx hb dX0_copyFrom_0 rfl (lv_at hl 0 rfl) ?_
  refine q_callv (q := (RX0, TX0, 5)) (As := []) (rest := []) X (k_aclear3 l D cs ad hj g  h13) (cwV 0 X.2.2.2.2.1 gg_X0_copyFrom_X0_clear rfl rfl rfl (by decide +kernel) ⟨Nat.le_of_ble_eq_true rfl, Nat.le_of_ble_eq_true rfl⟩) (by decide) h13 rfl hP hA hS rfl hl.1 rfl (Nat.le_of_ble_eq_true rfl) dX0_copyFrom_1 ⟨Nat.le_of_ble_eq_true rfl, Nat.le_of_ble_eq_true rfl⟩ (fun g_2 H locs hw_1 hP hS => ?_)
  rw [hw_1] at hP
  refine lv_iconst (v := 0) hx hb dX0_copyFrom_4 (by decide) ?_
  refine lv_istore_n (lv' := [(2, .int 0), (0, .ref (ad 13)), (1, .ref (ad 33))]) hx hb dX0_copyFrom_5 rfl hl (by decide) rfl (fun ls hl => ?_)
  refine lv_iload_n hx hb dX0_copyFrom_6 rfl (lv_at hl 0 rfl) ?_
  refine lv_aload_n hx hb dX0_copyFrom_7 rfl (lv_at hl 2 rfl) ?_
  refine q_get X iX0_copyFrom_0 hP (by decide) h33 rfl 0 (by decide) (List.mem_of_getElem? (i := 6) rfl) (v := .int 0) rfl dX0_copyFrom_8 ?_
  refine lv_icmp_ge (tgt := 37) hx hb dX0_copyFrom_11 (by decide) (fun _ => ?_) (fun h => absurd h (by decide))
  exact q_vret X hP hS rfl dX0_copyFrom_37

set_option maxHeartbeats 4000000 in
set_option maxRecDepth 100000 in
theorem k_acopy44 (l : Launch) (D : va_G) (cs : Nat → ClassId) (ad : Nat → Nat) (hj : wJ ad nW) (g : Nat → va_E) (h54 : g 54 = .inr (0, [.int 0, .ref (ad 55), .ref (ad 56), .ref (ad 57), .ref (ad 63)])) (h13 : g 13 = .inr (0, [.int 0, .ref (ad 14), .ref (ad 15), .ref (ad 16), .ref (ad 22)])) : cV l yX0_copyFrom vX0_copyFrom { frames := 1, cells := 0, slots := 0, locals := 21 } D cs ad nW [.ref (ad 54), .ref (ad 13)] g (fun g2 => g2 = g) := by
  refine Met.start (cc := cX0_copyFrom) (maxL := 3) (ret := none) RX0 rfl (by decide) rfl (Nat.le_of_ble_eq_true rfl) ?_
  intro p e s m below meth c ls X hP hl
  have hx := X.1
  have hb := X.2.1
  have hS : va_S (wA ad nW) s.heap s.heap [] := va_S.rf
  have hA : ∀ i, i < nW → wA ad nW (ad i) := fun i h => ⟨i, h, rfl⟩
  have hl : lv_has ls 3 [(0, .ref (ad 54)), (1, .ref (ad 13))] := hl
  refine lv_aload_n hx hb dX0_copyFrom_0 rfl (lv_at hl 0 rfl) ?_
  refine q_callv (q := (RX0, TX0, 5)) (As := []) (rest := []) X (k_aclear44 l D cs ad hj g  h54) (cwV 0 X.2.2.2.2.1 gg_X0_copyFrom_X0_clear rfl rfl rfl (by decide +kernel) ⟨Nat.le_of_ble_eq_true rfl, Nat.le_of_ble_eq_true rfl⟩) (by decide) h54 rfl hP hA hS rfl hl.1 rfl (Nat.le_of_ble_eq_true rfl) dX0_copyFrom_1 ⟨Nat.le_of_ble_eq_true rfl, Nat.le_of_ble_eq_true rfl⟩ (fun g_2 H locs hw_1 hP hS => ?_)
  rw [hw_1] at hP
  refine lv_iconst (v := 0) hx hb dX0_copyFrom_4 (by decide) ?_
  refine lv_istore_n (lv' := [(2, .int 0), (0, .ref (ad 54)), (1, .ref (ad 13))]) hx hb dX0_copyFrom_5 rfl hl (by decide) rfl (fun ls hl => ?_)
  refine lv_iload_n hx hb dX0_copyFrom_6 rfl (lv_at hl 0 rfl) ?_
  refine lv_aload_n hx hb dX0_copyFrom_7 rfl (lv_at hl 2 rfl) ?_
  refine q_get X iX0_copyFrom_0 hP (by decide) h13 rfl 0 (by decide) (List.mem_of_getElem? (i := 6) rfl) (v := .int 0) rfl dX0_copyFrom_8 ?_
  refine lv_icmp_ge (tgt := 37) hx hb dX0_copyFrom_11 (by decide) (fun _ => ?_) (fun h => absurd h (by decide))
  exact q_vret X hP hS rfl dX0_copyFrom_37

set_option maxHeartbeats 4000000 in
set_option maxRecDepth 100000 in
theorem k_acopy64 (l : Launch) (D : va_G) (cs : Nat → ClassId) (ad : Nat → Nat) (hj : wJ ad nW) (g : Nat → va_E) (h74 : g 74 = .inr (0, [.int 0, .ref (ad 75), .ref (ad 76), .ref (ad 77), .ref (ad 83)])) (h13 : g 13 = .inr (0, [.int 0, .ref (ad 14), .ref (ad 15), .ref (ad 16), .ref (ad 22)])) : cV l yX0_copyFrom vX0_copyFrom { frames := 1, cells := 0, slots := 0, locals := 21 } D cs ad nW [.ref (ad 74), .ref (ad 13)] g (fun g2 => g2 = g) := by
  refine Met.start (cc := cX0_copyFrom) (maxL := 3) (ret := none) RX0 rfl (by decide) rfl (Nat.le_of_ble_eq_true rfl) ?_
  intro p e s m below meth c ls X hP hl
  have hx := X.1
  have hb := X.2.1
  have hS : va_S (wA ad nW) s.heap s.heap [] := va_S.rf
  have hA : ∀ i, i < nW → wA ad nW (ad i) := fun i h => ⟨i, h, rfl⟩
  have hl : lv_has ls 3 [(0, .ref (ad 74)), (1, .ref (ad 13))] := hl
  refine lv_aload_n hx hb dX0_copyFrom_0 rfl (lv_at hl 0 rfl) ?_
  refine q_callv (q := (RX0, TX0, 5)) (As := []) (rest := []) X (k_aclear64 l D cs ad hj g  h74) (cwV 0 X.2.2.2.2.1 gg_X0_copyFrom_X0_clear rfl rfl rfl (by decide +kernel) ⟨Nat.le_of_ble_eq_true rfl, Nat.le_of_ble_eq_true rfl⟩) (by decide) h74 rfl hP hA hS rfl hl.1 rfl (Nat.le_of_ble_eq_true rfl) dX0_copyFrom_1 ⟨Nat.le_of_ble_eq_true rfl, Nat.le_of_ble_eq_true rfl⟩ (fun g_2 H locs hw_1 hP hS => ?_)
  rw [hw_1] at hP
  refine lv_iconst (v := 0) hx hb dX0_copyFrom_4 (by decide) ?_
  refine lv_istore_n (lv' := [(2, .int 0), (0, .ref (ad 74)), (1, .ref (ad 13))]) hx hb dX0_copyFrom_5 rfl hl (by decide) rfl (fun ls hl => ?_)
  refine lv_iload_n hx hb dX0_copyFrom_6 rfl (lv_at hl 0 rfl) ?_
  refine lv_aload_n hx hb dX0_copyFrom_7 rfl (lv_at hl 2 rfl) ?_
  refine q_get X iX0_copyFrom_0 hP (by decide) h13 rfl 0 (by decide) (List.mem_of_getElem? (i := 6) rfl) (v := .int 0) rfl dX0_copyFrom_8 ?_
  refine lv_icmp_ge (tgt := 37) hx hb dX0_copyFrom_11 (by decide) (fun _ => ?_) (fun h => absurd h (by decide))
  exact q_vret X hP hS rfl dX0_copyFrom_37

set_option maxHeartbeats 4000000 in
set_option maxRecDepth 100000 in
theorem k_acopy84 (l : Launch) (D : va_G) (cs : Nat → ClassId) (ad : Nat → Nat) (hj : wJ ad nW) (g : Nat → va_E) (h94 : g 94 = .inr (0, [.int 0, .ref (ad 95), .ref (ad 96), .ref (ad 97), .ref (ad 103)])) (h13 : g 13 = .inr (0, [.int 0, .ref (ad 14), .ref (ad 15), .ref (ad 16), .ref (ad 22)])) : cV l yX0_copyFrom vX0_copyFrom { frames := 1, cells := 0, slots := 0, locals := 21 } D cs ad nW [.ref (ad 94), .ref (ad 13)] g (fun g2 => g2 = g) := by
  refine Met.start (cc := cX0_copyFrom) (maxL := 3) (ret := none) RX0 rfl (by decide) rfl (Nat.le_of_ble_eq_true rfl) ?_
  intro p e s m below meth c ls X hP hl
  have hx := X.1
  have hb := X.2.1
  have hS : va_S (wA ad nW) s.heap s.heap [] := va_S.rf
  have hA : ∀ i, i < nW → wA ad nW (ad i) := fun i h => ⟨i, h, rfl⟩
  have hl : lv_has ls 3 [(0, .ref (ad 94)), (1, .ref (ad 13))] := hl
  refine lv_aload_n hx hb dX0_copyFrom_0 rfl (lv_at hl 0 rfl) ?_
  refine q_callv (q := (RX0, TX0, 5)) (As := []) (rest := []) X (k_aclear84 l D cs ad hj g  h94) (cwV 0 X.2.2.2.2.1 gg_X0_copyFrom_X0_clear rfl rfl rfl (by decide +kernel) ⟨Nat.le_of_ble_eq_true rfl, Nat.le_of_ble_eq_true rfl⟩) (by decide) h94 rfl hP hA hS rfl hl.1 rfl (Nat.le_of_ble_eq_true rfl) dX0_copyFrom_1 ⟨Nat.le_of_ble_eq_true rfl, Nat.le_of_ble_eq_true rfl⟩ (fun g_2 H locs hw_1 hP hS => ?_)
  rw [hw_1] at hP
  refine lv_iconst (v := 0) hx hb dX0_copyFrom_4 (by decide) ?_
  refine lv_istore_n (lv' := [(2, .int 0), (0, .ref (ad 94)), (1, .ref (ad 13))]) hx hb dX0_copyFrom_5 rfl hl (by decide) rfl (fun ls hl => ?_)
  refine lv_iload_n hx hb dX0_copyFrom_6 rfl (lv_at hl 0 rfl) ?_
  refine lv_aload_n hx hb dX0_copyFrom_7 rfl (lv_at hl 2 rfl) ?_
  refine q_get X iX0_copyFrom_0 hP (by decide) h13 rfl 0 (by decide) (List.mem_of_getElem? (i := 6) rfl) (v := .int 0) rfl dX0_copyFrom_8 ?_
  refine lv_icmp_ge (tgt := 37) hx hb dX0_copyFrom_11 (by decide) (fun _ => ?_) (fun h => absurd h (by decide))
  exact q_vret X hP hS rfl dX0_copyFrom_37

theorem dX10_passOver_0 : decode cX10_passOver 0 = .ok (.iconst 0, 1) := by decide +kernel
theorem dX10_passOver_1 : decode cX10_passOver 1 = .ok (.istore_n 2, 1) := by decide +kernel
theorem dX10_passOver_2 : decode cX10_passOver 2 = .ok (.iload_n 2, 1) := by decide +kernel
theorem dX10_passOver_3 : decode cX10_passOver 3 = .ok (.aload_n 1, 1) := by decide +kernel
theorem dX10_passOver_4 : decode cX10_passOver 4 = .ok (.getfield 22, 3) := by decide +kernel
theorem dX10_passOver_7 : decode cX10_passOver 7 = .ok (.if_icmp .ge 32, 3) := by decide +kernel
theorem dX10_passOver_39 : decode cX10_passOver 39 = .ok (.return_, 1) := by decide +kernel
def vX10_passOver : List Cond := .code yX10_passOver cX10_passOver 3 none :: ([.fieldLink RX10 22 "IcicleClock$Street" "icicles" "I"] ++ wsX60)
theorem iX10_passOver_6 : ∀ w ∈ wsX60, w ∈ vX10_passOver := fun _ h => List.mem_cons_of_mem _ (List.mem_append_right _ h)
set_option maxHeartbeats 4000000 in
set_option maxRecDepth 100000 in
theorem k_passOver (l : Launch) (D : va_G) (cs : Nat → ClassId) (ad : Nat → Nat) (hj : wJ ad nW) (g : Nat → va_E) (h114 : g 114 = .inr (10, [.int 0, .int (-1), .int (-1), .ref (ad 115)])) (h3 : g 3 = .inr (6, [.int 0, .int 0, .int 0, .int 0, .int 0, .int 0, .int 0, .int 0, .ref (ad 4), .ref (ad 5), .ref (ad 6), .ref (ad 7), .ref (ad 8), .ref (ad 9), .ref (ad 10), .ref (ad 11), .ref (ad 12), .ref (ad 13)])) : cV l yX10_passOver vX10_passOver { frames := 0, cells := 0, slots := 0, locals := 0 } D cs ad nW [.ref (ad 114), .ref (ad 3)] g (fun g2 => g2 = g) := by
  refine Met.start (cc := cX10_passOver) (maxL := 3) (ret := none) RX10 rfl (by decide) rfl (Nat.le_of_ble_eq_true rfl) ?_
  intro p e s m below meth c ls X hP hl
  have hx := X.1
  have hb := X.2.1
  have hS : va_S (wA ad nW) s.heap s.heap [] := va_S.rf
  have hA : ∀ i, i < nW → wA ad nW (ad i) := fun i h => ⟨i, h, rfl⟩
  have hl : lv_has ls 3 [(0, .ref (ad 114)), (1, .ref (ad 3))] := hl
  refine lv_iconst (v := 0) hx hb dX10_passOver_0 (by decide) ?_
  refine lv_istore_n (lv' := [(2, .int 0), (0, .ref (ad 114)), (1, .ref (ad 3))]) hx hb dX10_passOver_1 rfl hl (by decide) rfl (fun ls hl => ?_)
  refine lv_iload_n hx hb dX10_passOver_2 rfl (lv_at hl 0 rfl) ?_
  refine lv_aload_n hx hb dX10_passOver_3 rfl (lv_at hl 2 rfl) ?_
  refine q_get X iX10_passOver_6 hP (by decide) h3 rfl 5 (by decide) (List.mem_of_getElem? (i := 1) rfl) (v := .int 0) rfl dX10_passOver_4 ?_
  refine lv_icmp_ge (tgt := 39) hx hb dX10_passOver_7 (by decide) (fun _ => ?_) (fun h => absurd h (by decide))
  exact q_vret X hP hS rfl dX10_passOver_39
