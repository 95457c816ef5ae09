abbrev nW : Nat := 218
theorem i_ge {x : Int32} (h : ¬ x < 0) : 0 ≤ x := Int32.not_lt.mp h
theorem dX11_isDay_0 : decode cX11_isDay 0 = .ok (.iload_n 1, 1) := by decide +kernel
theorem dX11_isDay_1 : decode cX11_isDay 1 = .ok (.ifCond .lt 18, 3) := by decide +kernel
theorem dX11_isDay_19 : decode cX11_isDay 19 = .ok (.iconst 0, 1) := by decide +kernel
theorem dX11_isDay_20 : decode cX11_isDay 20 = .ok (.ireturn, 1) := by decide +kernel
theorem dX11_isDay_4 : decode cX11_isDay 4 = .ok (.iload_n 1, 1) := by decide +kernel
theorem dX11_isDay_5 : decode cX11_isDay 5 = .ok (.aload_n 0, 1) := by decide +kernel
theorem dX11_isDay_6 : decode cX11_isDay 6 = .ok (.getfield 19, 3) := by decide +kernel
theorem dX11_isDay_9 : decode cX11_isDay 9 = .ok (.getfield 177, 3) := by decide +kernel
theorem dX11_isDay_12 : decode cX11_isDay 12 = .ok (.if_icmp .ge 7, 3) := by decide +kernel
def vX11_isDay : List Cond := .code yX11_isDay cX11_isDay 2 (some .boolean) :: ([.fieldLink RX11 19 "IcicleClock" "now" "LIcicleClock$Street;", .fieldLink RX11 177 "IcicleClock$Street" "days" "I"] ++ wsX110 ++ wsX60)
theorem iX11_isDay_11 : ∀ w ∈ wsX110, w ∈ vX11_isDay := fun _ h => List.mem_cons_of_mem _ (List.mem_append_left _ (List.mem_append_right _ h))
theorem iX11_isDay_6 : ∀ w ∈ wsX60, w ∈ vX11_isDay := fun _ h => List.mem_cons_of_mem _ (List.mem_append_right _ h)
set_option maxHeartbeats 4000000 in
set_option maxRecDepth 100000 in
theorem k_isDay (l : Launch) (D : va_G) (cs : Nat → ClassId) (ad : Nat → Nat) (hj : wJ ad nW) (g : Nat → va_E) (x : Int32) (h0 : g 0 = .inr (11, [.ref (ad 1), .ref (ad 3), .ref (ad 23), .ref (ad 43), .ref (ad 104), .ref (ad 105), .ref (ad 114), .ref (ad 116), .ref (ad 118), .ref (ad 120), .ref (ad 130), .ref (ad 140), .ref (ad 144), .ref (ad 190)])) (h3 : g 3 = .inr (6, [.int 0, .int 0, .int 0, .int 0, .int 0, .int 0, .int 0, .int 0, .ref (ad 4), .ref (ad 5), .ref (ad 6), .ref (ad 7), .ref (ad 8), .ref (ad 9), .ref (ad 10), .ref (ad 11), .ref (ad 12), .ref (ad 13)])) : cI l yX11_isDay vX11_isDay { frames := 0, cells := 0, slots := 0, locals := 0 } D cs ad nW [.ref (ad 0), .int x] g (fun r g2 => r = 0 ∧ g2 = g) := by
  refine Met.start (cc := cX11_isDay) (maxL := 2) (ret := (some .boolean)) RX11 rfl (by decide) rfl (Nat.le_of_ble_eq_true rfl) ?_
  intro p e s m below meth c ls X hP hl
  have hx := X.1
  have hb := X.2.1
  have hS : va_S (wA ad nW) s.heap s.heap [] := va_S.rf
  have hA : ∀ i, i < nW → wA ad nW (ad i) := fun i h => ⟨i, h, rfl⟩
  have hl : lv_has ls 2 [(0, .ref (ad 0)), (1, .int x)] := hl
  refine lv_iload_n hx hb dX11_isDay_0 rfl (lv_at hl 1 rfl) ?_
  refine lv_if_lt (tgt := 19) hx hb dX11_isDay_1 (by decide) (fun hc_1 => ?_) (fun hc_1 => ?_)
  · refine lv_iconst (v := 0) hx hb dX11_isDay_19 (by decide) ?_
    exact q_zret X hP hS rfl ⟨rfl, rfl⟩ dX11_isDay_20
  · refine lv_iload_n hx hb dX11_isDay_4 rfl (lv_at hl 1 rfl) ?_
    refine lv_aload_n hx hb dX11_isDay_5 rfl (lv_at hl 0 rfl) ?_
    refine q_get X iX11_isDay_11 hP (by decide) h0 rfl 1 (by decide) (List.mem_of_getElem? (i := 1) rfl) (v := .ref (ad 3)) rfl dX11_isDay_6 ?_
    refine q_get X iX11_isDay_6 hP (by decide) h3 rfl 3 (by decide) (List.mem_of_getElem? (i := 2) rfl) (v := .int 0) rfl dX11_isDay_9 ?_
    refine lv_icmp_ge (tgt := 19) hx hb dX11_isDay_12 (by decide) (fun hc_12 => ?_) (fun hc_12 => absurd (i_ge hc_1) hc_12)
    refine lv_iconst (v := 0) hx hb dX11_isDay_19 (by decide) ?_
    exact q_zret X hP hS rfl ⟨rfl, rfl⟩ dX11_isDay_20

theorem dX11_isEave_0 : decode cX11_isEave 0 = .ok (.iload_n 1, 1) := by decide +kernel
theorem dX11_isEave_1 : decode cX11_isEave 1 = .ok (.ifCond .lt 18, 3) := by decide +kernel
theorem dX11_isEave_19 : decode cX11_isEave 19 = .ok (.iconst 0, 1) := by decide +kernel
theorem dX11_isEave_20 : decode cX11_isEave 20 = .ok (.ireturn, 1) := by decide +kernel
theorem dX11_isEave_4 : decode cX11_isEave 4 = .ok (.iload_n 1, 1) := by decide +kernel
theorem dX11_isEave_5 : decode cX11_isEave 5 = .ok (.aload_n 0, 1) := by decide +kernel
theorem dX11_isEave_6 : decode cX11_isEave 6 = .ok (.getfield 19, 3) := by decide +kernel
theorem dX11_isEave_9 : decode cX11_isEave 9 = .ok (.getfield 208, 3) := by decide +kernel
theorem dX11_isEave_12 : decode cX11_isEave 12 = .ok (.if_icmp .ge 7, 3) := by decide +kernel
def vX11_isEave : List Cond := .code yX11_isEave cX11_isEave 2 (some .boolean) :: ([.fieldLink RX11 19 "IcicleClock" "now" "LIcicleClock$Street;", .fieldLink RX11 208 "IcicleClock$Street" "eaves" "I"] ++ wsX110 ++ wsX60)
theorem iX11_isEave_11 : ∀ w ∈ wsX110, w ∈ vX11_isEave := fun _ h => List.mem_cons_of_mem _ (List.mem_append_left _ (List.mem_append_right _ h))
theorem iX11_isEave_6 : ∀ w ∈ wsX60, w ∈ vX11_isEave := fun _ h => List.mem_cons_of_mem _ (List.mem_append_right _ h)
set_option maxHeartbeats 4000000 in
set_option maxRecDepth 100000 in
theorem k_isEave (l : Launch) (D : va_G) (cs : Nat → ClassId) (ad : Nat → Nat) (hj : wJ ad nW) (g : Nat → va_E) (x : Int32) (h0 : g 0 = .inr (11, [.ref (ad 1), .ref (ad 3), .ref (ad 23), .ref (ad 43), .ref (ad 104), .ref (ad 105), .ref (ad 114), .ref (ad 116), .ref (ad 118), .ref (ad 120), .ref (ad 130), .ref (ad 140), .ref (ad 144), .ref (ad 190)])) (h3 : g 3 = .inr (6, [.int 0, .int 0, .int 0, .int 0, .int 0, .int 0, .int 0, .int 0, .ref (ad 4), .ref (ad 5), .ref (ad 6), .ref (ad 7), .ref (ad 8), .ref (ad 9), .ref (ad 10), .ref (ad 11), .ref (ad 12), .ref (ad 13)])) : cI l yX11_isEave vX11_isEave { frames := 0, cells := 0, slots := 0, locals := 0 } D cs ad nW [.ref (ad 0), .int x] g (fun r g2 => r = 0 ∧ g2 = g) := by
  refine Met.start (cc := cX11_isEave) (maxL := 2) (ret := (some .boolean)) RX11 rfl (by decide) rfl (Nat.le_of_ble_eq_true rfl) ?_
  intro p e s m below meth c ls X hP hl
  have hx := X.1
  have hb := X.2.1
  have hS : va_S (wA ad nW) s.heap s.heap [] := va_S.rf
  have hA : ∀ i, i < nW → wA ad nW (ad i) := fun i h => ⟨i, h, rfl⟩
  have hl : lv_has ls 2 [(0, .ref (ad 0)), (1, .int x)] := hl
  refine lv_iload_n hx hb dX11_isEave_0 rfl (lv_at hl 1 rfl) ?_
  refine lv_if_lt (tgt := 19) hx hb dX11_isEave_1 (by decide) (fun hc_1 => ?_) (fun hc_1 => ?_)
  · refine lv_iconst (v := 0) hx hb dX11_isEave_19 (by decide) ?_
    exact q_zret X hP hS rfl ⟨rfl, rfl⟩ dX11_isEave_20
  · refine lv_iload_n hx hb dX11_isEave_4 rfl (lv_at hl 1 rfl) ?_
    refine lv_aload_n hx hb dX11_isEave_5 rfl (lv_at hl 0 rfl) ?_
    refine q_get X iX11_isEave_11 hP (by decide) h0 rfl 1 (by decide) (List.mem_of_getElem? (i := 1) rfl) (v := .ref (ad 3)) rfl dX11_isEave_6 ?_
    refine q_get X iX11_isEave_6 hP (by decide) h3 rfl 4 (by decide) (List.mem_of_getElem? (i := 2) rfl) (v := .int 0) rfl dX11_isEave_9 ?_
    refine lv_icmp_ge (tgt := 19) hx hb dX11_isEave_12 (by decide) (fun hc_12 => ?_) (fun hc_12 => absurd (i_ge hc_1) hc_12)
    refine lv_iconst (v := 0) hx hb dX11_isEave_19 (by decide) ?_
    exact q_zret X hP hS rfl ⟨rfl, rfl⟩ dX11_isEave_20

theorem dX11_isIcicle_0 : decode cX11_isIcicle 0 = .ok (.iload_n 1, 1) := by decide +kernel
theorem dX11_isIcicle_1 : decode cX11_isIcicle 1 = .ok (.ifCond .lt 18, 3) := by decide +kernel
theorem dX11_isIcicle_19 : decode cX11_isIcicle 19 = .ok (.iconst 0, 1) := by decide +kernel
theorem dX11_isIcicle_20 : decode cX11_isIcicle 20 = .ok (.ireturn, 1) := by decide +kernel
theorem dX11_isIcicle_4 : decode cX11_isIcicle 4 = .ok (.iload_n 1, 1) := by decide +kernel
theorem dX11_isIcicle_5 : decode cX11_isIcicle 5 = .ok (.aload_n 0, 1) := by decide +kernel
theorem dX11_isIcicle_6 : decode cX11_isIcicle 6 = .ok (.getfield 19, 3) := by decide +kernel
theorem dX11_isIcicle_9 : decode cX11_isIcicle 9 = .ok (.getfield 160, 3) := by decide +kernel
theorem dX11_isIcicle_12 : decode cX11_isIcicle 12 = .ok (.if_icmp .ge 7, 3) := by decide +kernel
def vX11_isIcicle : List Cond := .code yX11_isIcicle cX11_isIcicle 2 (some .boolean) :: ([.fieldLink RX11 19 "IcicleClock" "now" "LIcicleClock$Street;", .fieldLink RX11 160 "IcicleClock$Street" "icicles" "I"] ++ wsX110 ++ wsX60)
theorem iX11_isIcicle_11 : ∀ w ∈ wsX110, w ∈ vX11_isIcicle := fun _ h => List.mem_cons_of_mem _ (List.mem_append_left _ (List.mem_append_right _ h))
theorem iX11_isIcicle_6 : ∀ w ∈ wsX60, w ∈ vX11_isIcicle := fun _ h => List.mem_cons_of_mem _ (List.mem_append_right _ h)
set_option maxHeartbeats 4000000 in
set_option maxRecDepth 100000 in
theorem k_isIcicle (l : Launch) (D : va_G) (cs : Nat → ClassId) (ad : Nat → Nat) (hj : wJ ad nW) (g : Nat → va_E) (x : Int32) (h0 : g 0 = .inr (11, [.ref (ad 1), .ref (ad 3), .ref (ad 23), .ref (ad 43), .ref (ad 104), .ref (ad 105), .ref (ad 114), .ref (ad 116), .ref (ad 118), .ref (ad 120), .ref (ad 130), .ref (ad 140), .ref (ad 144), .ref (ad 190)])) (h3 : g 3 = .inr (6, [.int 0, .int 0, .int 0, .int 0, .int 0, .int 0, .int 0, .int 0, .ref (ad 4), .ref (ad 5), .ref (ad 6), .ref (ad 7), .ref (ad 8), .ref (ad 9), .ref (ad 10), .ref (ad 11), .ref (ad 12), .ref (ad 13)])) : cI l yX11_isIcicle vX11_isIcicle { frames := 0, cells := 0, slots := 0, locals := 0 } D cs ad nW [.ref (ad 0), .int x] g (fun r g2 => r = 0 ∧ g2 = g) := by
  refine Met.start (cc := cX11_isIcicle) (maxL := 2) (ret := (some .boolean)) RX11 rfl (by decide) rfl (Nat.le_of_ble_eq_true rfl) ?_
  intro p e s m below meth c ls X hP hl
  have hx := X.1
  have hb := X.2.1
  have hS : va_S (wA ad nW) s.heap s.heap [] := va_S.rf
  have hA : ∀ i, i < nW → wA ad nW (ad i) := fun i h => ⟨i, h, rfl⟩
  have hl : lv_has ls 2 [(0, .ref (ad 0)), (1, .int x)] := hl
  refine lv_iload_n hx hb dX11_isIcicle_0 rfl (lv_at hl 1 rfl) ?_
  refine lv_if_lt (tgt := 19) hx hb dX11_isIcicle_1 (by decide) (fun hc_1 => ?_) (fun hc_1 => ?_)
  · refine lv_iconst (v := 0) hx hb dX11_isIcicle_19 (by decide) ?_
    exact q_zret X hP hS rfl ⟨rfl, rfl⟩ dX11_isIcicle_20
  · refine lv_iload_n hx hb dX11_isIcicle_4 rfl (lv_at hl 1 rfl) ?_
    refine lv_aload_n hx hb dX11_isIcicle_5 rfl (lv_at hl 0 rfl) ?_
    refine q_get X iX11_isIcicle_11 hP (by decide) h0 rfl 1 (by decide) (List.mem_of_getElem? (i := 1) rfl) (v := .ref (ad 3)) rfl dX11_isIcicle_6 ?_
    refine q_get X iX11_isIcicle_6 hP (by decide) h3 rfl 5 (by decide) (List.mem_of_getElem? (i := 2) rfl) (v := .int 0) rfl dX11_isIcicle_9 ?_
    refine lv_icmp_ge (tgt := 19) hx hb dX11_isIcicle_12 (by decide) (fun hc_12 => ?_) (fun hc_12 => absurd (i_ge hc_1) hc_12)
    refine lv_iconst (v := 0) hx hb dX11_isIcicle_19 (by decide) ?_
    exact q_zret X hP hS rfl ⟨rfl, rfl⟩ dX11_isIcicle_20

theorem dX11_isWork_0 : decode cX11_isWork 0 = .ok (.iload_n 1, 1) := by decide +kernel
theorem dX11_isWork_1 : decode cX11_isWork 1 = .ok (.ifCond .lt 18, 3) := by decide +kernel
theorem dX11_isWork_19 : decode cX11_isWork 19 = .ok (.iconst 0, 1) := by decide +kernel
theorem dX11_isWork_20 : decode cX11_isWork 20 = .ok (.ireturn, 1) := by decide +kernel
theorem dX11_isWork_4 : decode cX11_isWork 4 = .ok (.iload_n 1, 1) := by decide +kernel
theorem dX11_isWork_5 : decode cX11_isWork 5 = .ok (.aload_n 0, 1) := by decide +kernel
theorem dX11_isWork_6 : decode cX11_isWork 6 = .ok (.getfield 19, 3) := by decide +kernel
theorem dX11_isWork_9 : decode cX11_isWork 9 = .ok (.getfield 226, 3) := by decide +kernel
theorem dX11_isWork_12 : decode cX11_isWork 12 = .ok (.if_icmp .ge 7, 3) := by decide +kernel
def vX11_isWork : List Cond := .code yX11_isWork cX11_isWork 2 (some .boolean) :: ([.fieldLink RX11 19 "IcicleClock" "now" "LIcicleClock$Street;", .fieldLink RX11 226 "IcicleClock$Street" "works" "I"] ++ wsX110 ++ wsX60)
theorem iX11_isWork_11 : ∀ w ∈ wsX110, w ∈ vX11_isWork := fun _ h => List.mem_cons_of_mem _ (List.mem_append_left _ (List.mem_append_right _ h))
theorem iX11_isWork_6 : ∀ w ∈ wsX60, w ∈ vX11_isWork := fun _ h => List.mem_cons_of_mem _ (List.mem_append_right _ h)
set_option maxHeartbeats 4000000 in
set_option maxRecDepth 100000 in
theorem k_isWork (l : Launch) (D : va_G) (cs : Nat → ClassId) (ad : Nat → Nat) (hj : wJ ad nW) (g : Nat → va_E) (x : Int32) (h0 : g 0 = .inr (11, [.ref (ad 1), .ref (ad 3), .ref (ad 23), .ref (ad 43), .ref (ad 104), .ref (ad 105), .ref (ad 114), .ref (ad 116), .ref (ad 118), .ref (ad 120), .ref (ad 130), .ref (ad 140), .ref (ad 144), .ref (ad 190)])) (h3 : g 3 = .inr (6, [.int 0, .int 0, .int 0, .int 0, .int 0, .int 0, .int 0, .int 0, .ref (ad 4), .ref (ad 5), .ref (ad 6), .ref (ad 7), .ref (ad 8), .ref (ad 9), .ref (ad 10), .ref (ad 11), .ref (ad 12), .ref (ad 13)])) : cI l yX11_isWork vX11_isWork { frames := 0, cells := 0, slots := 0, locals := 0 } D cs ad nW [.ref (ad 0), .int x] g (fun r g2 => r = 0 ∧ g2 = g) := by
  refine Met.start (cc := cX11_isWork) (maxL := 2) (ret := (some .boolean)) RX11 rfl (by decide) rfl (Nat.le_of_ble_eq_true rfl) ?_
  intro p e s m below meth c ls X hP hl
  have hx := X.1
  have hb := X.2.1
  have hS : va_S (wA ad nW) s.heap s.heap [] := va_S.rf
  have hA : ∀ i, i < nW → wA ad nW (ad i) := fun i h => ⟨i, h, rfl⟩
  have hl : lv_has ls 2 [(0, .ref (ad 0)), (1, .int x)] := hl
  refine lv_iload_n hx hb dX11_isWork_0 rfl (lv_at hl 1 rfl) ?_
  refine lv_if_lt (tgt := 19) hx hb dX11_isWork_1 (by decide) (fun hc_1 => ?_) (fun hc_1 => ?_)
  · refine lv_iconst (v := 0) hx hb dX11_isWork_19 (by decide) ?_
    exact q_zret X hP hS rfl ⟨rfl, rfl⟩ dX11_isWork_20
  · refine lv_iload_n hx hb dX11_isWork_4 rfl (lv_at hl 1 rfl) ?_
    refine lv_aload_n hx hb dX11_isWork_5 rfl (lv_at hl 0 rfl) ?_
    refine q_get X iX11_isWork_11 hP (by decide) h0 rfl 1 (by decide) (List.mem_of_getElem? (i := 1) rfl) (v := .ref (ad 3)) rfl dX11_isWork_6 ?_
    refine q_get X iX11_isWork_6 hP (by decide) h3 rfl 6 (by decide) (List.mem_of_getElem? (i := 2) rfl) (v := .int 0) rfl dX11_isWork_9 ?_
    refine lv_icmp_ge (tgt := 19) hx hb dX11_isWork_12 (by decide) (fun hc_12 => ?_) (fun hc_12 => absurd (i_ge hc_1) hc_12)
    refine lv_iconst (v := 0) hx hb dX11_isWork_19 (by decide) ?_
    exact q_zret X hP hS rfl ⟨rfl, rfl⟩ dX11_isWork_20

theorem dX11_isTold_0 : decode cX11_isTold 0 = .ok (.aload_n 0, 1) := by decide +kernel
theorem dX11_isTold_1 : decode cX11_isTold 1 = .ok (.getfield 19, 3) := by decide +kernel
theorem dX11_isTold_4 : decode cX11_isTold 4 = .ok (.getfield 112, 3) := by decide +kernel
theorem dX11_isTold_7 : decode cX11_isTold 7 = .ok (.ifCond .le 7, 3) := by decide +kernel
theorem dX11_isTold_14 : decode cX11_isTold 14 = .ok (.iconst 0, 1) := by decide +kernel
theorem dX11_isTold_15 : decode cX11_isTold 15 = .ok (.ireturn, 1) := by decide +kernel
def vX11_isTold : List Cond := .code yX11_isTold cX11_isTold 1 (some .boolean) :: ([.fieldLink RX11 19 "IcicleClock" "now" "LIcicleClock$Street;", .fieldLink RX11 112 "IcicleClock$Street" "lines" "I"] ++ wsX110 ++ wsX60)
theorem iX11_isTold_11 : ∀ w ∈ wsX110, w ∈ vX11_isTold := fun _ h => List.mem_cons_of_mem _ (List.mem_append_left _ (List.mem_append_right _ h))
theorem iX11_isTold_6 : ∀ w ∈ wsX60, w ∈ vX11_isTold := fun _ h => List.mem_cons_of_mem _ (List.mem_append_right _ h)
set_option maxHeartbeats 4000000 in
set_option maxRecDepth 100000 in
theorem k_isTold (l : Launch) (D : va_G) (cs : Nat → ClassId) (ad : Nat → Nat) (hj : wJ ad nW) (g : Nat → va_E) (h0 : g 0 = .inr (11, [.ref (ad 1), .ref (ad 3), .ref (ad 23), .ref (ad 43), .ref (ad 104), .ref (ad 105), .ref (ad 114), .ref (ad 116), .ref (ad 118), .ref (ad 120), .ref (ad 130), .ref (ad 140), .ref (ad 144), .ref (ad 190)])) (h3 : g 3 = .inr (6, [.int 0, .int 0, .int 0, .int 0, .int 0, .int 0, .int 0, .int 0, .ref (ad 4), .ref (ad 5), .ref (ad 6), .ref (ad 7), .ref (ad 8), .ref (ad 9), .ref (ad 10), .ref (ad 11), .ref (ad 12), .ref (ad 13)])) : cI l yX11_isTold vX11_isTold { frames := 0, cells := 0, slots := 0, locals := 0 } D cs ad nW [.ref (ad 0)] g (fun r g2 => r = 0 ∧ g2 = g) := by
  refine Met.start (cc := cX11_isTold) (maxL := 1) (ret := (some .boolean)) RX11 rfl (by decide) rfl (Nat.le_of_ble_eq_true rfl) ?_
  intro p e s m below meth c ls X hP hl
  have hx := X.1
  have hb := X.2.1
  have hS : va_S (wA ad nW) s.heap s.heap [] := va_S.rf
  have hA : ∀ i, i < nW → wA ad nW (ad i) := fun i h => ⟨i, h, rfl⟩
  have hl : lv_has ls 1 [(0, .ref (ad 0))] := hl
  refine lv_aload_n hx hb dX11_isTold_0 rfl (lv_at hl 0 rfl) ?_
  refine q_get X iX11_isTold_11 hP (by decide) h0 rfl 1 (by decide) (List.mem_of_getElem? (i := 1) rfl) (v := .ref (ad 3)) rfl dX11_isTold_1 ?_
  refine q_get X iX11_isTold_6 hP (by decide) h3 rfl 7 (by decide) (List.mem_of_getElem? (i := 2) rfl) (v := .int 0) rfl dX11_isTold_4 ?_
  refine lv_if_le (tgt := 14) hx hb dX11_isTold_7 (by decide) (fun _ => ?_) (fun h => absurd h (by decide))
  refine lv_iconst (v := 0) hx hb dX11_isTold_14 (by decide) ?_
  exact q_zret X hP hS rfl ⟨rfl, rfl⟩ dX11_isTold_15

theorem dX11_day_0 : decode cX11_day 0 = .ok (.aload_n 0, 1) := by decide +kernel
theorem dX11_day_1 : decode cX11_day 1 = .ok (.iload_n 1, 1) := by decide +kernel
theorem dX11_day_2 : decode cX11_day 2 = .ok (.invokevirtual 121, 3) := by decide +kernel
theorem dX11_day_5 : decode cX11_day 5 = .ok (.ifCond .eq 15, 3) := by decide +kernel
theorem dX11_day_20 : decode cX11_day 20 = .ok (.sipush (-1000), 3) := by decide +kernel
theorem dX11_day_23 : decode cX11_day 23 = .ok (.ireturn, 1) := by decide +kernel
def vX11_day : List Cond := .code yX11_day cX11_day 2 (some .int) :: ([.methodLink RX11 121 yX11_isDay, .instanceMethod yX11_isDay, .selects RX11 yX11_isDay yX11_isDay, .initialized RX11, .code yX11_isDay cX11_isDay 2 (some .boolean), .fieldLink RX11 19 "IcicleClock" "now" "LIcicleClock$Street;", .fieldLink RX11 177 "IcicleClock$Street" "days" "I"] ++ wsX110 ++ wsX60)
theorem iX11_day_11 : ∀ w ∈ wsX110, w ∈ vX11_day := fun _ h => List.mem_cons_of_mem _ (List.mem_append_left _ (List.mem_append_right _ h))
theorem iX11_day_6 : ∀ w ∈ wsX60, w ∈ vX11_day := fun _ h => List.mem_cons_of_mem _ (List.mem_append_right _ h)
set_option maxRecDepth 20000 in
theorem gg_X11_day_X11_isDay : GoodIn vX11_day (wsV RX11 121 RX11 yX11_isDay vX11_isDay) := goodIn_r _ [1, 2, 3, 4, 5, 6, 7, 8, 9, 10, 11, 12, 13, 14, 15, 16, 17, 18, 19, 20, 21, 22, 23, 24, 25, 26, 27, 28, 29, 30, 31, 32, 33, 34, 35, 36, 37, 38, 39] (by decide +kernel) (by decide +kernel)
set_option maxHeartbeats 4000000 in
set_option maxRecDepth 100000 in
theorem k_day (l : Launch) (D : va_G) (cs : Nat → ClassId) (ad : Nat → Nat) (hj : wJ ad nW) (g : Nat → va_E) (x : Int32) (h0 : g 0 = .inr (11, [.ref (ad 1), .ref (ad 3), .ref (ad 23), .ref (ad 43), .ref (ad 104), .ref (ad 105), .ref (ad 114), .ref (ad 116), .ref (ad 118), .ref (ad 120), .ref (ad 130), .ref (ad 140), .ref (ad 144), .ref (ad 190)])) (h3 : g 3 = .inr (6, [.int 0, .int 0, .int 0, .int 0, .int 0, .int 0, .int 0, .int 0, .ref (ad 4), .ref (ad 5), .ref (ad 6), .ref (ad 7), .ref (ad 8), .ref (ad 9), .ref (ad 10), .ref (ad 11), .ref (ad 12), .ref (ad 13)])) : cI l yX11_day vX11_day { frames := 1, cells := 0, slots := 0, locals := 21 } D cs ad nW [.ref (ad 0), .int x] g (fun r g2 => r = (-1000) ∧ g2 = g) := by
  refine Met.start (cc := cX11_day) (maxL := 2) (ret := (some .int)) RX11 rfl (by decide) rfl (Nat.le_of_ble_eq_true rfl) ?_
  intro p e s m below meth c ls X hP hl
  have hx := X.1
  have hb := X.2.1
  have hS : va_S (wA ad nW) s.heap s.heap [] := va_S.rf
  have hA : ∀ i, i < nW → wA ad nW (ad i) := fun i h => ⟨i, h, rfl⟩
  have hl : lv_has ls 2 [(0, .ref (ad 0)), (1, .int x)] := hl
  refine lv_aload_n hx hb dX11_day_0 rfl (lv_at hl 0 rfl) ?_
  refine lv_iload_n hx hb dX11_day_1 rfl (lv_at hl 1 rfl) ?_
  refine q_calli (q := (RX11, TX11, 14)) (As := [.int x]) (rest := []) X (k_isDay l D cs ad hj g x h0 h3) (cwV 1 X.2.2.2.2.1 gg_X11_day_X11_isDay rfl rfl rfl (by decide +kernel) ⟨Nat.le_of_ble_eq_true rfl, Nat.le_of_ble_eq_true rfl⟩) (by decide) h0 rfl hP hA hS rfl hl.1 rfl (Nat.le_of_ble_eq_true rfl) dX11_day_2 ⟨Nat.le_of_ble_eq_true rfl, Nat.le_of_ble_eq_true rfl⟩ (fun r_3 g_2 H locs hw_1 hP hS => ?_)
  obtain ⟨hw_1a, hw_1b⟩ := hw_1
  subst hw_1a
  rw [hw_1b] at hP
  refine lv_if_eq (tgt := 20) hx hb dX11_day_5 (by decide) (fun _ => ?_) (fun h => absurd h (by decide))
  refine lv_sipush (v := (-1000)) hx hb dX11_day_20 (by decide) ?_
  exact q_iret X hP hS ⟨rfl, rfl⟩ dX11_day_23
