theorem dX12_in_0 : decode cX12_in 0 = .ok (.lload_n 0, 1) := by decide +kernel
theorem dX12_in_1 : decode cX12_in 1 = .ok (.lload_n 2, 1) := by decide +kernel
theorem dX12_in_2 : decode cX12_in 2 = .ok (.lcmp, 1) := by decide +kernel
theorem dX12_in_3 : decode cX12_in 3 = .ok (.ifCond .lt 14, 3) := by decide +kernel
theorem dX12_in_17 : decode cX12_in 17 = .ok (.iconst 0, 1) := by decide +kernel
theorem dX12_in_18 : decode cX12_in 18 = .ok (.ireturn, 1) := by decide +kernel
theorem dX12_in_6 : decode cX12_in 6 = .ok (.lload_n 0, 1) := by decide +kernel
theorem dX12_in_7 : decode cX12_in 7 = .ok (.lload 4, 2) := by decide +kernel
theorem dX12_in_9 : decode cX12_in 9 = .ok (.lcmp, 1) := by decide +kernel
theorem dX12_in_10 : decode cX12_in 10 = .ok (.ifCond .gt 7, 3) := by decide +kernel
theorem dX12_in_13 : decode cX12_in 13 = .ok (.iconst 1, 1) := by decide +kernel
theorem dX12_in_14 : decode cX12_in 14 = .ok (.goto 4, 3) := by decide +kernel
def vX12_in : List Cond := .code yX12_in cX12_in 6 (some .boolean) :: ([])
set_option maxHeartbeats 4000000 in
set_option maxRecDepth 100000 in
theorem m_in (l : Launch) (D : va_G) (cs : Nat → ClassId) (ad : Nat → Nat) (hj : wJ ad nW) (g : Nat → va_E) (v : Int64) (lo : Int64) (hi : Int64) : cI l yX12_in vX12_in { frames := 0, cells := 0, slots := 0, locals := 0 } D cs ad nW [.long v, .long lo, .long hi] g (fun r g2 => g2 = g ∧ ((r = 1 ∧ lo ≤ v ∧ v ≤ hi) ∨ (r = 0 ∧ ¬ (lo ≤ v ∧ v ≤ hi)))) := by
  refine Met.start (cc := cX12_in) (maxL := 6) (ret := (some .boolean)) RX12 rfl (by decide) rfl (Nat.le_of_ble_eq_true rfl) ?_
  intro p e s m below meth c ls X hP hl
  have hx := X.1
  have hb := X.2.1
  have hS : va_S (wA ad nW) s.heap s.heap [] := va_S.rf
  have hA : ∀ i, i < nW → wA ad nW (ad i) := fun i h => ⟨i, h, rfl⟩
  have hl : lv_has ls 6 [(0, .long v), (2, .long lo), (4, .long hi)] := hl
  refine lv_lload_n hx hb dX12_in_0 rfl (lv_at hl 0 rfl) ?_
  refine lv_lload_n hx hb dX12_in_1 rfl (lv_at hl 1 rfl) ?_
  refine W.lcmp hx hb dX12_in_2 ?_
  refine lv_if_lt (tgt := 17) hx hb dX12_in_3 (by decide) (fun hc_3 => ?_) (fun hc_3 => ?_)
  · refine lv_iconst (v := 0) hx hb dX12_in_17 (by decide) ?_
    exact q_zret X hP hS rfl ⟨rfl, by first | exact Or.inr ⟨rfl, fun h => absurd h.1 (Int64.not_le.mpr ((lg_cmp_lt _ _).mp hc_3))⟩ | exact Or.inr ⟨rfl, fun h => absurd h.2 (Int64.not_le.mpr ((lg_cmp_gt _ _).mp hc_10))⟩ | exact Or.inl ⟨rfl, Int64.not_lt.mp (fun q => hc_3 ((lg_cmp_lt _ _).mpr q)), Int64.not_lt.mp (fun q => hc_10 ((lg_cmp_gt _ _).mpr q))⟩⟩ dX12_in_18
  · refine lv_lload_n hx hb dX12_in_6 rfl (lv_at hl 0 rfl) ?_
    refine lv_lload hx hb dX12_in_7 (lv_at hl 2 rfl) ?_
    refine W.lcmp hx hb dX12_in_9 ?_
    refine lv_if_gt (tgt := 17) hx hb dX12_in_10 (by decide) (fun hc_10 => ?_) (fun hc_10 => ?_)
    · refine lv_iconst (v := 0) hx hb dX12_in_17 (by decide) ?_
      exact q_zret X hP hS rfl ⟨rfl, by first | exact Or.inr ⟨rfl, fun h => absurd h.1 (Int64.not_le.mpr ((lg_cmp_lt _ _).mp hc_3))⟩ | exact Or.inr ⟨rfl, fun h => absurd h.2 (Int64.not_le.mpr ((lg_cmp_gt _ _).mp hc_10))⟩ | exact Or.inl ⟨rfl, Int64.not_lt.mp (fun q => hc_3 ((lg_cmp_lt _ _).mpr q)), Int64.not_lt.mp (fun q => hc_10 ((lg_cmp_gt _ _).mpr q))⟩⟩ dX12_in_18
    · refine lv_iconst (v := 1) hx hb dX12_in_13 (by decide) ?_
      refine lv_goto (tgt := 18) hx hb dX12_in_14 (by decide) ?_
      exact q_zret X hP hS rfl ⟨rfl, by first | exact Or.inr ⟨rfl, fun h => absurd h.1 (Int64.not_le.mpr ((lg_cmp_lt _ _).mp hc_3))⟩ | exact Or.inr ⟨rfl, fun h => absurd h.2 (Int64.not_le.mpr ((lg_cmp_gt _ _).mp hc_10))⟩ | exact Or.inl ⟨rfl, Int64.not_lt.mp (fun q => hc_3 ((lg_cmp_lt _ _).mpr q)), Int64.not_lt.mp (fun q => hc_10 ((lg_cmp_gt _ _).mpr q))⟩⟩ dX12_in_18

theorem dX12_isDay_0 : decode cX12_isDay 0 = .ok (.iload_n 1, 1) := by decide +kernel
theorem dX12_isDay_1 : decode cX12_isDay 1 = .ok (.i2l, 1) := by decide +kernel
theorem dX12_isDay_2 : decode cX12_isDay 2 = .ok (.lconst 0, 1) := by decide +kernel
theorem dX12_isDay_3 : decode cX12_isDay 3 = .ok (.aload_n 0, 1) := by decide +kernel
theorem dX12_isDay_4 : decode cX12_isDay 4 = .ok (.getfield 9, 3) := by decide +kernel
theorem dX12_isDay_7 : decode cX12_isDay 7 = .ok (.iconst 3, 1) := by decide +kernel
theorem dX12_isDay_8 : decode cX12_isDay 8 = .ok (.iaload, 1) := by decide +kernel
theorem dX12_isDay_9 : decode cX12_isDay 9 = .ok (.iconst 1, 1) := by decide +kernel
theorem dX12_isDay_10 : decode cX12_isDay 10 = .ok (.isub, 1) := by decide +kernel
theorem dX12_isDay_11 : decode cX12_isDay 11 = .ok (.i2l, 1) := by decide +kernel
theorem dX12_isDay_12 : decode cX12_isDay 12 = .ok (.invokestatic 82, 3) := by decide +kernel
theorem dX12_isDay_15 : decode cX12_isDay 15 = .ok (.ireturn, 1) := by decide +kernel
def vX12_isDay : List Cond := .code yX12_isDay cX12_isDay 2 (some .boolean) :: ([.fieldLink RX12 9 "IcicleClockModel" "world" "[I", .methodLink RX12 82 yX12_in, .static yX12_in, .initialized RX12, .code yX12_in cX12_in 6 (some .boolean)] ++ wsX120)
theorem iX12_isDay_12 : ∀ w ∈ wsX120, w ∈ vX12_isDay := fun _ h => List.mem_cons_of_mem _ (List.mem_append_right _ h)
set_option maxRecDepth 20000 in
theorem gg_X12_isDay_X12_in : GoodIn vX12_isDay (wsS RX12 82 yX12_in vX12_in) := goodIn_r _ [2, 3, 4, 5] (by decide +kernel) (by decide +kernel)
set_option maxHeartbeats 4000000 in
set_option maxRecDepth 100000 in
theorem m_isDay (l : Launch) (D : va_G) (cs : Nat → ClassId) (ad : Nat → Nat) (hj : wJ ad nW) (g : Nat → va_E) (x : Int32) (h197 : g 197 = .inr (12, [.int 0, .ref (ad 198), .ref (ad 199), .ref (ad 200), .ref (ad 201), .int 0, .ref (ad 202), .int 0, .int 0, .int 0, .int 0, .int 0, .int 0, .int (-1), .ref (ad 203), .ref (ad 204), .ref (ad 205), .int 0, .int 0, .ref (ad 206), .ref (ad 207), .ref (ad 208), .int 0, .int 0, .int 0, .int 0, .int 0, .ref (ad 209), .ref (ad 210), .ref (ad 211), .long 0, .long 0, .ref (ad 212), .ref (ad 213), .int 0, .int 0, .ref (ad 214), .ref (ad 215), .ref (ad 216), .ref (ad 217)])) (h198 : g 198 = .inl (cs 1, 118, .inl (fun _ => 0))) : cI l yX12_isDay vX12_isDay { frames := 1, cells := 0, slots := 0, locals := 25 } D cs ad nW [.ref (ad 197), .int x] g (fun r g2 => r = 0 ∧ g2 = g) := by
  refine Met.start (cc := cX12_isDay) (maxL := 2) (ret := (some .boolean)) RX12 rfl (by decide) rfl (Nat.le_of_ble_eq_true rfl) ?_
  intro p e s m below meth c ls X hP hl
  have hx := X.1
  have hb := X.2.1
  have hS : va_S (wA ad nW) s.heap s.heap [] := va_S.rf
  have hA : ∀ i, i < nW → wA ad nW (ad i) := fun i h => ⟨i, h, rfl⟩
  have hl : lv_has ls 2 [(0, .ref (ad 197)), (1, .int x)] := hl
  refine lv_iload_n hx hb dX12_isDay_0 rfl (lv_at hl 1 rfl) ?_
  refine lv_i2l (v := x.toInt64) hx hb dX12_isDay_1 rfl ?_
  refine lv_lconst (v := 0) hx hb dX12_isDay_2 (by decide) ?_
  refine lv_aload_n hx hb dX12_isDay_3 rfl (lv_at hl 0 rfl) ?_
  refine q_get X iX12_isDay_12 hP (by decide) h197 rfl 1 (by decide) (List.mem_of_getElem? (i := 1) rfl) (v := .ref (ad 198)) rfl dX12_isDay_4 ?_
  refine lv_iconst (v := 3) hx hb dX12_isDay_7 (by decide) ?_
  refine q_iald X hP (by decide) h198 (by unfold vp_in; decide) dX12_isDay_8 ?_
  refine lv_iconst (v := 1) hx hb dX12_isDay_9 (by decide) ?_
  refine lv_isub hx hb dX12_isDay_10 ?_
  refine lv_topi (fun z_1 ez_1 => ?_)
  obtain rfl : z_1 = (-1) := ez_1.trans (by decide)
  refine lv_i2l (v := (-1)) hx hb dX12_isDay_11 (by decide) ?_
  refine q_callSi (As := [.long (x.toInt64), .long 0, .long (-1)]) (rest := []) X (m_in l D cs ad hj g (x.toInt64) 0 (-1) ) (cwS 3 X.2.2.2.2.1 gg_X12_isDay_X12_in rfl rfl rfl (by decide +kernel) ⟨Nat.le_of_ble_eq_true rfl, Nat.le_of_ble_eq_true rfl⟩) hP hA hS rfl hl.1 rfl (Nat.le_of_ble_eq_true rfl) dX12_isDay_12 ⟨Nat.le_of_ble_eq_true rfl, Nat.le_of_ble_eq_true rfl⟩ (fun r_4 g_3 H locs hw_2 hP hS => ?_)
  obtain ⟨hw_2b, hw_2⟩ := hw_2
  rw [hw_2b] at hP
  obtain rfl : r_4 = 0 := no_in (by decide) hw_2
  exact q_zret X hP hS rfl ⟨rfl, rfl⟩ dX12_isDay_15

theorem dX12_isEave_0 : decode cX12_isEave 0 = .ok (.iload_n 1, 1) := by decide +kernel
theorem dX12_isEave_1 : decode cX12_isEave 1 = .ok (.i2l, 1) := by decide +kernel
theorem dX12_isEave_2 : decode cX12_isEave 2 = .ok (.lconst 0, 1) := by decide +kernel
theorem dX12_isEave_3 : decode cX12_isEave 3 = .ok (.aload_n 0, 1) := by decide +kernel
theorem dX12_isEave_4 : decode cX12_isEave 4 = .ok (.getfield 9, 3) := by decide +kernel
theorem dX12_isEave_7 : decode cX12_isEave 7 = .ok (.iconst 4, 1) := by decide +kernel
theorem dX12_isEave_8 : decode cX12_isEave 8 = .ok (.iaload, 1) := by decide +kernel
theorem dX12_isEave_9 : decode cX12_isEave 9 = .ok (.iconst 1, 1) := by decide +kernel
theorem dX12_isEave_10 : decode cX12_isEave 10 = .ok (.isub, 1) := by decide +kernel
theorem dX12_isEave_11 : decode cX12_isEave 11 = .ok (.i2l, 1) := by decide +kernel
theorem dX12_isEave_12 : decode cX12_isEave 12 = .ok (.invokestatic 82, 3) := by decide +kernel
theorem dX12_isEave_15 : decode cX12_isEave 15 = .ok (.ireturn, 1) := by decide +kernel
def vX12_isEave : List Cond := .code yX12_isEave cX12_isEave 2 (some .boolean) :: ([.fieldLink RX12 9 "IcicleClockModel" "world" "[I", .methodLink RX12 82 yX12_in, .static yX12_in, .initialized RX12, .code yX12_in cX12_in 6 (some .boolean)] ++ wsX120)
theorem iX12_isEave_12 : ∀ w ∈ wsX120, w ∈ vX12_isEave := fun _ h => List.mem_cons_of_mem _ (List.mem_append_right _ h)
set_option maxRecDepth 20000 in
theorem gg_X12_isEave_X12_in : GoodIn vX12_isEave (wsS RX12 82 yX12_in vX12_in) := goodIn_r _ [2, 3, 4, 5] (by decide +kernel) (by decide +kernel)
set_option maxHeartbeats 4000000 in
set_option maxRecDepth 100000 in
theorem m_isEave (l : Launch) (D : va_G) (cs : Nat → ClassId) (ad : Nat → Nat) (hj : wJ ad nW) (g : Nat → va_E) (x : Int32) (h197 : g 197 = .inr (12, [.int 0, .ref (ad 198), .ref (ad 199), .ref (ad 200), .ref (ad 201), .int 0, .ref (ad 202), .int 0, .int 0, .int 0, .int 0, .int 0, .int 0, .int (-1), .ref (ad 203), .ref (ad 204), .ref (ad 205), .int 0, .int 0, .ref (ad 206), .ref (ad 207), .ref (ad 208), .int 0, .int 0, .int 0, .int 0, .int 0, .ref (ad 209), .ref (ad 210), .ref (ad 211), .long 0, .long 0, .ref (ad 212), .ref (ad 213), .int 0, .int 0, .ref (ad 214), .ref (ad 215), .ref (ad 216), .ref (ad 217)])) (h198 : g 198 = .inl (cs 1, 118, .inl (fun _ => 0))) : cI l yX12_isEave vX12_isEave { frames := 1, cells := 0, slots := 0, locals := 25 } D cs ad nW [.ref (ad 197), .int x] g (fun r g2 => r = 0 ∧ g2 = g) := by
  refine Met.start (cc := cX12_isEave) (maxL := 2) (ret := (some .boolean)) RX12 rfl (by decide) rfl (Nat.le_of_ble_eq_true rfl) ?_
  intro p e s m below meth c ls X hP hl
  have hx := X.1
  have hb := X.2.1
  have hS : va_S (wA ad nW) s.heap s.heap [] := va_S.rf
  have hA : ∀ i, i < nW → wA ad nW (ad i) := fun i h => ⟨i, h, rfl⟩
  have hl : lv_has ls 2 [(0, .ref (ad 197)), (1, .int x)] := hl
  refine lv_iload_n hx hb dX12_isEave_0 rfl (lv_at hl 1 rfl) ?_
  refine lv_i2l (v := x.toInt64) hx hb dX12_isEave_1 rfl ?_
  refine lv_lconst (v := 0) hx hb dX12_isEave_2 (by decide) ?_
  refine lv_aload_n hx hb dX12_isEave_3 rfl (lv_at hl 0 rfl) ?_
  refine q_get X iX12_isEave_12 hP (by decide) h197 rfl 1 (by decide) (List.mem_of_getElem? (i := 1) rfl) (v := .ref (ad 198)) rfl dX12_isEave_4 ?_
  refine lv_iconst (v := 4) hx hb dX12_isEave_7 (by decide) ?_
  refine q_iald X hP (by decide) h198 (by unfold vp_in; decide) dX12_isEave_8 ?_
  refine lv_iconst (v := 1) hx hb dX12_isEave_9 (by decide) ?_
  refine lv_isub hx hb dX12_isEave_10 ?_
  refine lv_topi (fun z_1 ez_1 => ?_)
  obtain rfl : z_1 = (-1) := ez_1.trans (by decide)
  refine lv_i2l (v := (-1)) hx hb dX12_isEave_11 (by decide) ?_
  refine q_callSi (As := [.long (x.toInt64), .long 0, .long (-1)]) (rest := []) X (m_in l D cs ad hj g (x.toInt64) 0 (-1) ) (cwS 3 X.2.2.2.2.1 gg_X12_isEave_X12_in rfl rfl rfl (by decide +kernel) ⟨Nat.le_of_ble_eq_true rfl, Nat.le_of_ble_eq_true rfl⟩) hP hA hS rfl hl.1 rfl (Nat.le_of_ble_eq_true rfl) dX12_isEave_12 ⟨Nat.le_of_ble_eq_true rfl, Nat.le_of_ble_eq_true rfl⟩ (fun r_4 g_3 H locs hw_2 hP hS => ?_)
  obtain ⟨hw_2b, hw_2⟩ := hw_2
  rw [hw_2b] at hP
  obtain rfl : r_4 = 0 := no_in (by decide) hw_2
  exact q_zret X hP hS rfl ⟨rfl, rfl⟩ dX12_isEave_15

theorem dX12_isWork_0 : decode cX12_isWork 0 = .ok (.iload_n 1, 1) := by decide +kernel
theorem dX12_isWork_1 : decode cX12_isWork 1 = .ok (.i2l, 1) := by decide +kernel
theorem dX12_isWork_2 : decode cX12_isWork 2 = .ok (.lconst 0, 1) := by decide +kernel
theorem dX12_isWork_3 : decode cX12_isWork 3 = .ok (.aload_n 0, 1) := by decide +kernel
theorem dX12_isWork_4 : decode cX12_isWork 4 = .ok (.getfield 9, 3) := by decide +kernel
theorem dX12_isWork_7 : decode cX12_isWork 7 = .ok (.bipush 6, 2) := by decide +kernel
theorem dX12_isWork_9 : decode cX12_isWork 9 = .ok (.iaload, 1) := by decide +kernel
theorem dX12_isWork_10 : decode cX12_isWork 10 = .ok (.iconst 1, 1) := by decide +kernel
theorem dX12_isWork_11 : decode cX12_isWork 11 = .ok (.isub, 1) := by decide +kernel
theorem dX12_isWork_12 : decode cX12_isWork 12 = .ok (.i2l, 1) := by decide +kernel
theorem dX12_isWork_13 : decode cX12_isWork 13 = .ok (.invokestatic 82, 3) := by decide +kernel
theorem dX12_isWork_16 : decode cX12_isWork 16 = .ok (.ireturn, 1) := by decide +kernel
def vX12_isWork : List Cond := .code yX12_isWork cX12_isWork 2 (some .boolean) :: ([.fieldLink RX12 9 "IcicleClockModel" "world" "[I", .methodLink RX12 82 yX12_in, .static yX12_in, .initialized RX12, .code yX12_in cX12_in 6 (some .boolean)] ++ wsX120)
theorem iX12_isWork_12 : ∀ w ∈ wsX120, w ∈ vX12_isWork := fun _ h => List.mem_cons_of_mem _ (List.mem_append_right _ h)
set_option maxRecDepth 20000 in
theorem gg_X12_isWork_X12_in : GoodIn vX12_isWork (wsS RX12 82 yX12_in vX12_in) := goodIn_r _ [2, 3, 4, 5] (by decide +kernel) (by decide +kernel)
set_option maxHeartbeats 4000000 in
set_option maxRecDepth 100000 in
theorem m_isWork (l : Launch) (D : va_G) (cs : Nat → ClassId) (ad : Nat → Nat) (hj : wJ ad nW) (g : Nat → va_E) (x : Int32) (h197 : g 197 = .inr (12, [.int 0, .ref (ad 198), .ref (ad 199), .ref (ad 200), .ref (ad 201), .int 0, .ref (ad 202), .int 0, .int 0, .int 0, .int 0, .int 0, .int 0, .int (-1), .ref (ad 203), .ref (ad 204), .ref (ad 205), .int 0, .int 0, .ref (ad 206), .ref (ad 207), .ref (ad 208), .int 0, .int 0, .int 0, .int 0, .int 0, .ref (ad 209), .ref (ad 210), .ref (ad 211), .long 0, .long 0, .ref (ad 212), .ref (ad 213), .int 0, .int 0, .ref (ad 214), .ref (ad 215), .ref (ad 216), .ref (ad 217)])) (h198 : g 198 = .inl (cs 1, 118, .inl (fun _ => 0))) : cI l yX12_isWork vX12_isWork { frames := 1, cells := 0, slots := 0, locals := 25 } D cs ad nW [.ref (ad 197), .int x] g (fun r g2 => r = 0 ∧ g2 = g) := by
  refine Met.start (cc := cX12_isWork) (maxL := 2) (ret := (some .boolean)) RX12 rfl (by decide) rfl (Nat.le_of_ble_eq_true rfl) ?_
  intro p e s m below meth c ls X hP hl
  have hx := X.1
  have hb := X.2.1
  have hS : va_S (wA ad nW) s.heap s.heap [] := va_S.rf
  have hA : ∀ i, i < nW → wA ad nW (ad i) := fun i h => ⟨i, h, rfl⟩
  have hl : lv_has ls 2 [(0, .ref (ad 197)), (1, .int x)] := hl
  refine lv_iload_n hx hb dX12_isWork_0 rfl (lv_at hl 1 rfl) ?_
  refine lv_i2l (v := x.toInt64) hx hb dX12_isWork_1 rfl ?_
  refine lv_lconst (v := 0) hx hb dX12_isWork_2 (by decide) ?_
  refine lv_aload_n hx hb dX12_isWork_3 rfl (lv_at hl 0 rfl) ?_
  refine q_get X iX12_isWork_12 hP (by decide) h197 rfl 1 (by decide) (List.mem_of_getElem? (i := 1) rfl) (v := .ref (ad 198)) rfl dX12_isWork_4 ?_
  refine lv_bipush (v := 6) hx hb dX12_isWork_7 (by decide) ?_
  refine q_iald X hP (by decide) h198 (by unfold vp_in; decide) dX12_isWork_9 ?_
  refine lv_iconst (v := 1) hx hb dX12_isWork_10 (by decide) ?_
  refine lv_isub hx hb dX12_isWork_11 ?_
  refine lv_topi (fun z_1 ez_1 => ?_)
  obtain rfl : z_1 = (-1) := ez_1.trans (by decide)
  refine lv_i2l (v := (-1)) hx hb dX12_isWork_12 (by decide) ?_
  refine q_callSi (As := [.long (x.toInt64), .long 0, .long (-1)]) (rest := []) X (m_in l D cs ad hj g (x.toInt64) 0 (-1) ) (cwS 3 X.2.2.2.2.1 gg_X12_isWork_X12_in rfl rfl rfl (by decide +kernel) ⟨Nat.le_of_ble_eq_true rfl, Nat.le_of_ble_eq_true rfl⟩) hP hA hS rfl hl.1 rfl (Nat.le_of_ble_eq_true rfl) dX12_isWork_13 ⟨Nat.le_of_ble_eq_true rfl, Nat.le_of_ble_eq_true rfl⟩ (fun r_4 g_3 H locs hw_2 hP hS => ?_)
  obtain ⟨hw_2b, hw_2⟩ := hw_2
  rw [hw_2b] at hP
  obtain rfl : r_4 = 0 := no_in (by decide) hw_2
  exact q_zret X hP hS rfl ⟨rfl, rfl⟩ dX12_isWork_16

theorem dX12_isIcicle_0 : decode cX12_isIcicle 0 = .ok (.lload_n 1, 1) := by decide +kernel
theorem dX12_isIcicle_1 : decode cX12_isIcicle 1 = .ok (.lconst 0, 1) := by decide +kernel
theorem dX12_isIcicle_2 : decode cX12_isIcicle 2 = .ok (.aload_n 0, 1) := by decide +kernel
theorem dX12_isIcicle_3 : decode cX12_isIcicle 3 = .ok (.getfield 9, 3) := by decide +kernel
theorem dX12_isIcicle_6 : decode cX12_isIcicle 6 = .ok (.iconst 5, 1) := by decide +kernel
theorem dX12_isIcicle_7 : decode cX12_isIcicle 7 = .ok (.iaload, 1) := by decide +kernel
theorem dX12_isIcicle_8 : decode cX12_isIcicle 8 = .ok (.iconst 1, 1) := by decide +kernel
theorem dX12_isIcicle_9 : decode cX12_isIcicle 9 = .ok (.isub, 1) := by decide +kernel
theorem dX12_isIcicle_10 : decode cX12_isIcicle 10 = .ok (.i2l, 1) := by decide +kernel
theorem dX12_isIcicle_11 : decode cX12_isIcicle 11 = .ok (.invokestatic 82, 3) := by decide +kernel
theorem dX12_isIcicle_14 : decode cX12_isIcicle 14 = .ok (.ireturn, 1) := by decide +kernel
def vX12_isIcicle : List Cond := .code yX12_isIcicle cX12_isIcicle 3 (some .boolean) :: ([.fieldLink RX12 9 "IcicleClockModel" "world" "[I", .methodLink RX12 82 yX12_in, .static yX12_in, .initialized RX12, .code yX12_in cX12_in 6 (some .boolean)] ++ wsX120)
theorem iX12_isIcicle_12 : ∀ w ∈ wsX120, w ∈ vX12_isIcicle := fun _ h => List.mem_cons_of_mem _ (List.mem_append_right _ h)
set_option maxRecDepth 20000 in
theorem gg_X12_isIcicle_X12_in : GoodIn vX12_isIcicle (wsS RX12 82 yX12_in vX12_in) := goodIn_r _ [2, 3, 4, 5] (by decide +kernel) (by decide +kernel)
set_option maxHeartbeats 4000000 in
set_option maxRecDepth 100000 in
theorem m_isIcicle (l : Launch) (D : va_G) (cs : Nat → ClassId) (ad : Nat → Nat) (hj : wJ ad nW) (g : Nat → va_E) (x : Int64) (h197 : g 197 = .inr (12, [.int 0, .ref (ad 198), .ref (ad 199), .ref (ad 200), .ref (ad 201), .int 0, .ref (ad 202), .int 0, .int 0, .int 0, .int 0, .int 0, .int 0, .int (-1), .ref (ad 203), .ref (ad 204), .ref (ad 205), .int 0, .int 0, .ref (ad 206), .ref (ad 207), .ref (ad 208), .int 0, .int 0, .int 0, .int 0, .int 0, .ref (ad 209), .ref (ad 210), .ref (ad 211), .long 0, .long 0, .ref (ad 212), .ref (ad 213), .int 0, .int 0, .ref (ad 214), .ref (ad 215), .ref (ad 216), .ref (ad 217)])) (h198 : g 198 = .inl (cs 1, 118, .inl (fun _ => 0))) : cI l yX12_isIcicle vX12_isIcicle { frames := 1, cells := 0, slots := 0, locals := 25 } D cs ad nW [.ref (ad 197), .long x] g (fun r g2 => r = 0 ∧ g2 = g) := by
  refine Met.start (cc := cX12_isIcicle) (maxL := 3) (ret := (some .boolean)) RX12 rfl (by decide) rfl (Nat.le_of_ble_eq_true rfl) ?_
  intro p e s m below meth c ls X hP hl
  have hx := X.1
  have hb := X.2.1
  have hS : va_S (wA ad nW) s.heap s.heap [] := va_S.rf
  have hA : ∀ i, i < nW → wA ad nW (ad i) := fun i h => ⟨i, h, rfl⟩
  have hl : lv_has ls 3 [(0, .ref (ad 197)), (1, .long x)] := hl
  refine lv_lload_n hx hb dX12_isIcicle_0 rfl (lv_at hl 1 rfl) ?_
  refine lv_lconst (v := 0) hx hb dX12_isIcicle_1 (by decide) ?_
  refine lv_aload_n hx hb dX12_isIcicle_2 rfl (lv_at hl 0 rfl) ?_
  refine q_get X iX12_isIcicle_12 hP (by decide) h197 rfl 1 (by decide) (List.mem_of_getElem? (i := 1) rfl) (v := .ref (ad 198)) rfl dX12_isIcicle_3 ?_
  refine lv_iconst (v := 5) hx hb dX12_isIcicle_6 (by decide) ?_
  refine q_iald X hP (by decide) h198 (by unfold vp_in; decide) dX12_isIcicle_7 ?_
  refine lv_iconst (v := 1) hx hb dX12_isIcicle_8 (by decide) ?_
  refine lv_isub hx hb dX12_isIcicle_9 ?_
  refine lv_topi (fun z_1 ez_1 => ?_)
  obtain rfl : z_1 = (-1) := ez_1.trans (by decide)
  refine lv_i2l (v := (-1)) hx hb dX12_isIcicle_10 (by decide) ?_
  refine q_callSi (As := [.long x, .long 0, .long (-1)]) (rest := []) X (m_in l D cs ad hj g x 0 (-1) ) (cwS 3 X.2.2.2.2.1 gg_X12_isIcicle_X12_in rfl rfl rfl (by decide +kernel) ⟨Nat.le_of_ble_eq_true rfl, Nat.le_of_ble_eq_true rfl⟩) hP hA hS rfl hl.1 rfl (Nat.le_of_ble_eq_true rfl) dX12_isIcicle_11 ⟨Nat.le_of_ble_eq_true rfl, Nat.le_of_ble_eq_true rfl⟩ (fun r_4 g_3 H locs hw_2 hP hS => ?_)
  obtain ⟨hw_2b, hw_2⟩ := hw_2
  rw [hw_2b] at hP
  obtain rfl : r_4 = 0 := no_in (by decide) hw_2
  exact q_zret X hP hS rfl ⟨rfl, rfl⟩ dX12_isIcicle_14

theorem dX12_isStreet_0 : decode cX12_isStreet 0 = .ok (.aload_n 0, 1) := by decide +kernel
theorem dX12_isStreet_1 : decode cX12_isStreet 1 = .ok (.getfield 9, 3) := by decide +kernel
theorem dX12_isStreet_4 : decode cX12_isStreet 4 = .ok (.bipush 8, 2) := by decide +kernel
theorem dX12_isStreet_6 : decode cX12_isStreet 6 = .ok (.iaload, 1) := by decide +kernel
theorem dX12_isStreet_7 : decode cX12_isStreet 7 = .ok (.ifCond .le 7, 3) := by decide +kernel
theorem dX12_isStreet_14 : decode cX12_isStreet 14 = .ok (.iconst 0, 1) := by decide +kernel
theorem dX12_isStreet_15 : decode cX12_isStreet 15 = .ok (.ireturn, 1) := by decide +kernel
def vX12_isStreet : List Cond := .code yX12_isStreet cX12_isStreet 1 (some .boolean) :: ([.fieldLink RX12 9 "IcicleClockModel" "world" "[I"] ++ wsX120)
theorem iX12_isStreet_12 : ∀ w ∈ wsX120, w ∈ vX12_isStreet := fun _ h => List.mem_cons_of_mem _ (List.mem_append_right _ h)
set_option maxHeartbeats 4000000 in
set_option maxRecDepth 100000 in
theorem m_isStreet (l : Launch) (D : va_G) (cs : Nat → ClassId) (ad : Nat → Nat) (hj : wJ ad nW) (g : Nat → va_E) (h197 : g 197 = .inr (12, [.int 0, .ref (ad 198), .ref (ad 199), .ref (ad 200), .ref (ad 201), .int 0, .ref (ad 202), .int 0, .int 0, .int 0, .int 0, .int 0, .int 0, .int (-1), .ref (ad 203), .ref (ad 204), .ref (ad 205), .int 0, .int 0, .ref (ad 206), .ref (ad 207), .ref (ad 208), .int 0, .int 0, .int 0, .int 0, .int 0, .ref (ad 209), .ref (ad 210), .ref (ad 211), .long 0, .long 0, .ref (ad 212), .ref (ad 213), .int 0, .int 0, .ref (ad 214), .ref (ad 215), .ref (ad 216), .ref (ad 217)])) (h198 : g 198 = .inl (cs 1, 118, .inl (fun _ => 0))) : cI l yX12_isStreet vX12_isStreet { frames := 0, cells := 0, slots := 0, locals := 0 } D cs ad nW [.ref (ad 197)] g (fun r g2 => r = 0 ∧ g2 = g) := by
  refine Met.start (cc := cX12_isStreet) (maxL := 1) (ret := (some .boolean)) RX12 rfl (by decide) rfl (Nat.le_of_ble_eq_true rfl) ?_
  intro p e s m below meth c ls X hP hl
  have hx := X.1
  have hb := X.2.1
  have hS : va_S (wA ad nW) s.heap s.heap [] := va_S.rf
  have hA : ∀ i, i < nW → wA ad nW (ad i) := fun i h => ⟨i, h, rfl⟩
  have hl : lv_has ls 1 [(0, .ref (ad 197))] := hl
  refine lv_aload_n hx hb dX12_isStreet_0 rfl (lv_at hl 0 rfl) ?_
  refine q_get X iX12_isStreet_12 hP (by decide) h197 rfl 1 (by decide) (List.mem_of_getElem? (i := 1) rfl) (v := .ref (ad 198)) rfl dX12_isStreet_1 ?_
  refine lv_bipush (v := 8) hx hb dX12_isStreet_4 (by decide) ?_
  refine q_iald X hP (by decide) h198 (by unfold vp_in; decide) dX12_isStreet_6 ?_
  refine lv_if_le (tgt := 14) hx hb dX12_isStreet_7 (by decide) (fun _ => ?_) (fun h => absurd h (by decide))
  refine lv_iconst (v := 0) hx hb dX12_isStreet_14 (by decide) ?_
  exact q_zret X hP hS rfl ⟨rfl, rfl⟩ dX12_isStreet_15

theorem dX12_isSlot_0 : decode cX12_isSlot 0 = .ok (.iload_n 0, 1) := by decide +kernel
theorem dX12_isSlot_1 : decode cX12_isSlot 1 = .ok (.i2l, 1) := by decide +kernel
theorem dX12_isSlot_2 : decode cX12_isSlot 2 = .ok (.lconst 0, 1) := by decide +kernel
theorem dX12_isSlot_3 : decode cX12_isSlot 3 = .ok (.ldc2_w 431, 3) := by decide +kernel
theorem dX12_isSlot_6 : decode cX12_isSlot 6 = .ok (.invokestatic 82, 3) := by decide +kernel
theorem dX12_isSlot_9 : decode cX12_isSlot 9 = .ok (.ireturn, 1) := by decide +kernel
def vX12_isSlot : List Cond := .code yX12_isSlot cX12_isSlot 1 (some .boolean) :: ([.constantLong RX12 431 (3), .methodLink RX12 82 yX12_in, .static yX12_in, .initialized RX12, .code yX12_in cX12_in 6 (some .boolean)])
set_option maxRecDepth 20000 in
theorem gg_X12_isSlot_X12_in : GoodIn vX12_isSlot (wsS RX12 82 yX12_in vX12_in) := goodIn_r _ [2, 3, 4, 5] (by decide +kernel) (by decide +kernel)
set_option maxHeartbeats 4000000 in
set_option maxRecDepth 100000 in
theorem m_isSlot (l : Launch) (D : va_G) (cs : Nat → ClassId) (ad : Nat → Nat) (hj : wJ ad nW) (g : Nat → va_E) (x : Int32) : cI l yX12_isSlot vX12_isSlot { frames := 1, cells := 0, slots := 0, locals := 25 } D cs ad nW [.int x] g (fun r g2 => g2 = g ∧ ((r = 1 ∧ inS x) ∨ (r = 0 ∧ ¬ inS x))) := by
  refine Met.start (cc := cX12_isSlot) (maxL := 1) (ret := (some .boolean)) RX12 rfl (by decide) rfl (Nat.le_of_ble_eq_true rfl) ?_
  intro p e s m below meth c ls X hP hl
  have hx := X.1
  have hb := X.2.1
  have hS : va_S (wA ad nW) s.heap s.heap [] := va_S.rf
  have hA : ∀ i, i < nW → wA ad nW (ad i) := fun i h => ⟨i, h, rfl⟩
  have hl : lv_has ls 1 [(0, .int x)] := hl
  refine lv_iload_n hx hb dX12_isSlot_0 rfl (lv_at hl 0 rfl) ?_
  refine lv_i2l (v := x.toInt64) hx hb dX12_isSlot_1 rfl ?_
  refine lv_lconst (v := 0) hx hb dX12_isSlot_2 (by decide) ?_
  refine lv_ldc2 (v := 3) hx hb X.2.2.2.2.2.1 (X.2.2.2.2.1 _ (List.mem_of_getElem? (i := 1) rfl)) dX12_isSlot_3 ?_
  refine q_callSi (As := [.long (x.toInt64), .long 0, .long 3]) (rest := []) X (m_in l D cs ad hj g (x.toInt64) 0 3 ) (cwS 3 X.2.2.2.2.1 gg_X12_isSlot_X12_in rfl rfl rfl (by decide +kernel) ⟨Nat.le_of_ble_eq_true rfl, Nat.le_of_ble_eq_true rfl⟩) hP hA hS rfl hl.1 rfl (Nat.le_of_ble_eq_true rfl) dX12_isSlot_6 ⟨Nat.le_of_ble_eq_true rfl, Nat.le_of_ble_eq_true rfl⟩ (fun r_3 g_2 H locs hw_1 hP hS => ?_)
  obtain ⟨hw_1b, hw_1⟩ := hw_1
  rw [hw_1b] at hP
  exact q_zret X hP hS (nb hw_1) ⟨rfl, in_S hw_1⟩ dX12_isSlot_9

theorem dX12_isSeed_0 : decode cX12_isSeed 0 = .ok (.iload_n 0, 1) := by decide +kernel
theorem dX12_isSeed_1 : decode cX12_isSeed 1 = .ok (.i2l, 1) := by decide +kernel
theorem dX12_isSeed_2 : decode cX12_isSeed 2 = .ok (.lconst 0, 1) := by decide +kernel
theorem dX12_isSeed_3 : decode cX12_isSeed 3 = .ok (.ldc2_w 416, 3) := by decide +kernel
theorem dX12_isSeed_6 : decode cX12_isSeed 6 = .ok (.invokestatic 82, 3) := by decide +kernel
theorem dX12_isSeed_9 : decode cX12_isSeed 9 = .ok (.ireturn, 1) := by decide +kernel
def vX12_isSeed : List Cond := .code yX12_isSeed cX12_isSeed 1 (some .boolean) :: ([.constantLong RX12 416 (2000000000), .methodLink RX12 82 yX12_in, .static yX12_in, .initialized RX12, .code yX12_in cX12_in 6 (some .boolean)])
set_option maxRecDepth 20000 in
theorem gg_X12_isSeed_X12_in : GoodIn vX12_isSeed (wsS RX12 82 yX12_in vX12_in) := goodIn_r _ [2, 3, 4, 5] (by decide +kernel) (by decide +kernel)
set_option maxHeartbeats 4000000 in
set_option maxRecDepth 100000 in
theorem m_isSeed (l : Launch) (D : va_G) (cs : Nat → ClassId) (ad : Nat → Nat) (hj : wJ ad nW) (g : Nat → va_E) (x : Int32) : cI l yX12_isSeed vX12_isSeed { frames := 1, cells := 0, slots := 0, locals := 25 } D cs ad nW [.int x] g (fun r g2 => g2 = g ∧ (r = 0 ∨ r = 1)) := by
  refine Met.start (cc := cX12_isSeed) (maxL := 1) (ret := (some .boolean)) RX12 rfl (by decide) rfl (Nat.le_of_ble_eq_true rfl) ?_
  intro p e s m below meth c ls X hP hl
  have hx := X.1
  have hb := X.2.1
  have hS : va_S (wA ad nW) s.heap s.heap [] := va_S.rf
  have hA : ∀ i, i < nW → wA ad nW (ad i) := fun i h => ⟨i, h, rfl⟩
  have hl : lv_has ls 1 [(0, .int x)] := hl
  refine lv_iload_n hx hb dX12_isSeed_0 rfl (lv_at hl 0 rfl) ?_
  refine lv_i2l (v := x.toInt64) hx hb dX12_isSeed_1 rfl ?_
  refine lv_lconst (v := 0) hx hb dX12_isSeed_2 (by decide) ?_
  refine lv_ldc2 (v := 2000000000) hx hb X.2.2.2.2.2.1 (X.2.2.2.2.1 _ (List.mem_of_getElem? (i := 1) rfl)) dX12_isSeed_3 ?_
  refine q_callSi (As := [.long (x.toInt64), .long 0, .long 2000000000]) (rest := []) X (m_in l D cs ad hj g (x.toInt64) 0 2000000000 ) (cwS 3 X.2.2.2.2.1 gg_X12_isSeed_X12_in rfl rfl rfl (by decide +kernel) ⟨Nat.le_of_ble_eq_true rfl, Nat.le_of_ble_eq_true rfl⟩) hP hA hS rfl hl.1 rfl (Nat.le_of_ble_eq_true rfl) dX12_isSeed_6 ⟨Nat.le_of_ble_eq_true rfl, Nat.le_of_ble_eq_true rfl⟩ (fun r_3 g_2 H locs hw_1 hP hS => ?_)
  obtain ⟨hw_1b, hw_1⟩ := hw_1
  rw [hw_1b] at hP
  exact q_zret X hP hS (nb hw_1) ⟨rfl, hw_1.elim (fun q => Or.inr q.1) (fun q => Or.inl q.1)⟩ dX12_isSeed_9

theorem dX12_areThen_0 : decode cX12_areThen 0 = .ok (.aload_n 0, 1) := by decide +kernel
theorem dX12_areThen_1 : decode cX12_areThen 1 = .ok (.iload_n 1, 1) := by decide +kernel
theorem dX12_areThen_2 : decode cX12_areThen 2 = .ok (.i2l, 1) := by decide +kernel
theorem dX12_areThen_3 : decode cX12_areThen 3 = .ok (.invokevirtual 221, 3) := by decide +kernel
theorem dX12_areThen_6 : decode cX12_areThen 6 = .ok (.ifCond .eq 11, 3) := by decide +kernel
theorem dX12_areThen_17 : decode cX12_areThen 17 = .ok (.iconst 0, 1) := by decide +kernel
theorem dX12_areThen_18 : decode cX12_areThen 18 = .ok (.ireturn, 1) := by decide +kernel
def vX12_areThen : List Cond := .code yX12_areThen cX12_areThen 3 (some .boolean) :: ([.methodLink RX12 221 yX12_isIcicle, .instanceMethod yX12_isIcicle, .selects RX12 yX12_isIcicle yX12_isIcicle, .initialized RX12, .code yX12_isIcicle cX12_isIcicle 3 (some .boolean), .fieldLink RX12 9 "IcicleClockModel" "world" "[I", .methodLink RX12 82 yX12_in, .static yX12_in, .code yX12_in cX12_in 6 (some .boolean)] ++ wsX120)
theorem iX12_areThen_12 : ∀ w ∈ wsX120, w ∈ vX12_areThen := fun _ h => List.mem_cons_of_mem _ (List.mem_append_right _ h)
set_option maxRecDepth 20000 in
theorem gg_X12_areThen_X12_isIcicle : GoodIn vX12_areThen (wsV RX12 221 RX12 yX12_isIcicle vX12_isIcicle) := goodIn_r _ [1, 2, 3, 4, 5, 6, 7, 8, 4, 9, 10, 11, 12, 13, 14, 15, 16, 17, 18, 19, 20, 21, 22, 23, 24, 25, 26, 27, 28, 29, 30, 31, 32, 33, 34, 35, 36, 37, 38, 39, 40, 41, 42, 43, 44, 45, 46, 47, 48, 49] (by decide +kernel) (by decide +kernel)
set_option maxHeartbeats 4000000 in
set_option maxRecDepth 100000 in
theorem m_areThen (l : Launch) (D : va_G) (cs : Nat → ClassId) (ad : Nat → Nat) (hj : wJ ad nW) (g : Nat → va_E) (vi : Int32) (vd : Int32) (h197 : g 197 = .inr (12, [.int 0, .ref (ad 198), .ref (ad 199), .ref (ad 200), .ref (ad 201), .int 0, .ref (ad 202), .int 0, .int 0, .int 0, .int 0, .int 0, .int 0, .int (-1), .ref (ad 203), .ref (ad 204), .ref (ad 205), .int 0, .int 0, .ref (ad 206), .ref (ad 207), .ref (ad 208), .int 0, .int 0, .int 0, .int 0, .int 0, .ref (ad 209), .ref (ad 210), .ref (ad 211), .long 0, .long 0, .ref (ad 212), .ref (ad 213), .int 0, .int 0, .ref (ad 214), .ref (ad 215), .ref (ad 216), .ref (ad 217)])) (h198 : g 198 = .inl (cs 1, 118, .inl (fun _ => 0))) : cI l yX12_areThen vX12_areThen { frames := 2, cells := 0, slots := 0, locals := 47 } D cs ad nW [.ref (ad 197), .int vi, .int vd] g (fun r g2 => r = 0 ∧ g2 = g) := by
  refine Met.start (cc := cX12_areThen) (maxL := 3) (ret := (some .boolean)) RX12 rfl (by decide) rfl (Nat.le_of_ble_eq_true rfl) ?_
  intro p e s m below meth c ls X hP hl
  have hx := X.1
  have hb := X.2.1
  have hS : va_S (wA ad nW) s.heap s.heap [] := va_S.rf
  have hA : ∀ i, i < nW → wA ad nW (ad i) := fun i h => ⟨i, h, rfl⟩
  have hl : lv_has ls 3 [(0, .ref (ad 197)), (1, .int vi), (2, .int vd)] := hl
  refine lv_aload_n hx hb dX12_areThen_0 rfl (lv_at hl 0 rfl) ?_
  refine lv_iload_n hx hb dX12_areThen_1 rfl (lv_at hl 1 rfl) ?_
  refine lv_i2l (v := vi.toInt64) hx hb dX12_areThen_2 rfl ?_
  refine q_calli (q := (RX12, TX12, 40)) (As := [.long (vi.toInt64)]) (rest := []) X (m_isIcicle l D cs ad hj g (vi.toInt64) h197 h198) (cwV 1 X.2.2.2.2.1 gg_X12_areThen_X12_isIcicle rfl rfl rfl (by decide +kernel) ⟨Nat.le_of_ble_eq_true rfl, Nat.le_of_ble_eq_true rfl⟩) (by decide) h197 rfl hP hA hS rfl hl.1 rfl (Nat.le_of_ble_eq_true rfl) dX12_areThen_3 ⟨Nat.le_of_ble_eq_true rfl, Nat.le_of_ble_eq_true rfl⟩ (fun r_3 g_2 H locs hw_1 hP hS => ?_)
  obtain ⟨hw_1a, hw_1b⟩ := hw_1
  subst hw_1a
  rw [hw_1b] at hP
  refine lv_if_eq (tgt := 17) hx hb dX12_areThen_6 (by decide) (fun _ => ?_) (fun h => absurd h (by decide))
  refine lv_iconst (v := 0) hx hb dX12_areThen_17 (by decide) ?_
  exact q_zret X hP hS rfl ⟨rfl, rfl⟩ dX12_areThen_18

theorem dX12_isRound_0 : decode cX12_isRound 0 = .ok (.aload_n 0, 1) := by decide +kernel
theorem dX12_isRound_1 : decode cX12_isRound 1 = .ok (.iload_n 1, 1) := by decide +kernel
theorem dX12_isRound_2 : decode cX12_isRound 2 = .ok (.invokevirtual 212, 3) := by decide +kernel
theorem dX12_isRound_5 : decode cX12_isRound 5 = .ok (.ifCond .eq 27, 3) := by decide +kernel
theorem dX12_isRound_32 : decode cX12_isRound 32 = .ok (.iconst 0, 1) := by decide +kernel
theorem dX12_isRound_33 : decode cX12_isRound 33 = .ok (.ireturn, 1) := by decide +kernel
def vX12_isRound : List Cond := .code yX12_isRound cX12_isRound 3 (some .boolean) :: ([.methodLink RX12 212 yX12_isEave, .instanceMethod yX12_isEave, .selects RX12 yX12_isEave yX12_isEave, .initialized RX12, .code yX12_isEave cX12_isEave 2 (some .boolean), .fieldLink RX12 9 "IcicleClockModel" "world" "[I", .methodLink RX12 82 yX12_in, .static yX12_in, .code yX12_in cX12_in 6 (some .boolean)] ++ wsX120)
theorem iX12_isRound_12 : ∀ w ∈ wsX120, w ∈ vX12_isRound := fun _ h => List.mem_cons_of_mem _ (List.mem_append_right _ h)
set_option maxRecDepth 20000 in
theorem gg_X12_isRound_X12_isEave : GoodIn vX12_isRound (wsV RX12 212 RX12 yX12_isEave vX12_isEave) := goodIn_r _ [1, 2, 3, 4, 5, 6, 7, 8, 4, 9, 10, 11, 12, 13, 14, 15, 16, 17, 18, 19, 20, 21, 22, 23, 24, 25, 26, 27, 28, 29, 30, 31, 32, 33, 34, 35, 36, 37, 38, 39, 40, 41, 42, 43, 44, 45, 46, 47, 48, 49] (by decide +kernel) (by decide +kernel)
set_option maxHeartbeats 4000000 in
set_option maxRecDepth 100000 in
theorem m_isRound (l : Launch) (D : va_G) (cs : Nat → ClassId) (ad : Nat → Nat) (hj : wJ ad nW) (g : Nat → va_E) (vf : Int32) (vk : Int32) (h197 : g 197 = .inr (12, [.int 0, .ref (ad 198), .ref (ad 199), .ref (ad 200), .ref (ad 201), .int 0, .ref (ad 202), .int 0, .int 0, .int 0, .int 0, .int 0, .int 0, .int (-1), .ref (ad 203), .ref (ad 204), .ref (ad 205), .int 0, .int 0, .ref (ad 206), .ref (ad 207), .ref (ad 208), .int 0, .int 0, .int 0, .int 0, .int 0, .ref (ad 209), .ref (ad 210), .ref (ad 211), .long 0, .long 0, .ref (ad 212), .ref (ad 213), .int 0, .int 0, .ref (ad 214), .ref (ad 215), .ref (ad 216), .ref (ad 217)])) (h198 : g 198 = .inl (cs 1, 118, .inl (fun _ => 0))) : cI l yX12_isRound vX12_isRound { frames := 2, cells := 0, slots := 0, locals := 46 } D cs ad nW [.ref (ad 197), .int vf, .int vk] g (fun r g2 => r = 0 ∧ g2 = g) := by
  refine Met.start (cc := cX12_isRound) (maxL := 3) (ret := (some .boolean)) RX12 rfl (by decide) rfl (Nat.le_of_ble_eq_true rfl) ?_
  intro p e s m below meth c ls X hP hl
  have hx := X.1
  have hb := X.2.1
  have hS : va_S (wA ad nW) s.heap s.heap [] := va_S.rf
  have hA : ∀ i, i < nW → wA ad nW (ad i) := fun i h => ⟨i, h, rfl⟩
  have hl : lv_has ls 3 [(0, .ref (ad 197)), (1, .int vf), (2, .int vk)] := hl
  refine lv_aload_n hx hb dX12_isRound_0 rfl (lv_at hl 0 rfl) ?_
  refine lv_iload_n hx hb dX12_isRound_1 rfl (lv_at hl 1 rfl) ?_
  refine q_calli (q := (RX12, TX12, 40)) (As := [.int vf]) (rest := []) X (m_isEave l D cs ad hj g vf h197 h198) (cwV 1 X.2.2.2.2.1 gg_X12_isRound_X12_isEave rfl rfl rfl (by decide +kernel) ⟨Nat.le_of_ble_eq_true rfl, Nat.le_of_ble_eq_true rfl⟩) (by decide) h197 rfl hP hA hS rfl hl.1 rfl (Nat.le_of_ble_eq_true rfl) dX12_isRound_2 ⟨Nat.le_of_ble_eq_true rfl, Nat.le_of_ble_eq_true rfl⟩ (fun r_3 g_2 H locs hw_1 hP hS => ?_)
  obtain ⟨hw_1a, hw_1b⟩ := hw_1
  subst hw_1a
  rw [hw_1b] at hP
  refine lv_if_eq (tgt := 32) hx hb dX12_isRound_5 (by decide) (fun _ => ?_) (fun h => absurd h (by decide))
  refine lv_iconst (v := 0) hx hb dX12_isRound_32 (by decide) ?_
  exact q_zret X hP hS rfl ⟨rfl, rfl⟩ dX12_isRound_33

theorem dX12_day_0 : decode cX12_day 0 = .ok (.aload_n 0, 1) := by decide +kernel
theorem dX12_day_1 : decode cX12_day 1 = .ok (.iload_n 1, 1) := by decide +kernel
theorem dX12_day_2 : decode cX12_day 2 = .ok (.invokevirtual 205, 3) := by decide +kernel
theorem dX12_day_5 : decode cX12_day 5 = .ok (.ifCond .eq 11, 3) := by decide +kernel
theorem dX12_day_16 : decode cX12_day 16 = .ok (.sipush (-1000), 3) := by decide +kernel
theorem dX12_day_19 : decode cX12_day 19 = .ok (.ireturn, 1) := by decide +kernel
def vX12_day : List Cond := .code yX12_day cX12_day 2 (some .int) :: ([.methodLink RX12 205 yX12_isDay, .instanceMethod yX12_isDay, .selects RX12 yX12_isDay yX12_isDay, .initialized RX12, .code yX12_isDay cX12_isDay 2 (some .boolean), .fieldLink RX12 9 "IcicleClockModel" "world" "[I", .methodLink RX12 82 yX12_in, .static yX12_in, .code yX12_in cX12_in 6 (some .boolean)] ++ wsX120)
theorem iX12_day_12 : ∀ w ∈ wsX120, w ∈ vX12_day := fun _ h => List.mem_cons_of_mem _ (List.mem_append_right _ h)
set_option maxRecDepth 20000 in
theorem gg_X12_day_X12_isDay : GoodIn vX12_day (wsV RX12 205 RX12 yX12_isDay vX12_isDay) := goodIn_r _ [1, 2, 3, 4, 5, 6, 7, 8, 4, 9, 10, 11, 12, 13, 14, 15, 16, 17, 18, 19, 20, 21, 22, 23, 24, 25, 26, 27, 28, 29, 30, 31, 32, 33, 34, 35, 36, 37, 38, 39, 40, 41, 42, 43, 44, 45, 46, 47, 48, 49] (by decide +kernel) (by decide +kernel)
set_option maxHeartbeats 4000000 in
set_option maxRecDepth 100000 in
theorem m_day (l : Launch) (D : va_G) (cs : Nat → ClassId) (ad : Nat → Nat) (hj : wJ ad nW) (g : Nat → va_E) (vd : Int32) (h197 : g 197 = .inr (12, [.int 0, .ref (ad 198), .ref (ad 199), .ref (ad 200), .ref (ad 201), .int 0, .ref (ad 202), .int 0, .int 0, .int 0, .int 0, .int 0, .int 0, .int (-1), .ref (ad 203), .ref (ad 204), .ref (ad 205), .int 0, .int 0, .ref (ad 206), .ref (ad 207), .ref (ad 208), .int 0, .int 0, .int 0, .int 0, .int 0, .ref (ad 209), .ref (ad 210), .ref (ad 211), .long 0, .long 0, .ref (ad 212), .ref (ad 213), .int 0, .int 0, .ref (ad 214), .ref (ad 215), .ref (ad 216), .ref (ad 217)])) (h198 : g 198 = .inl (cs 1, 118, .inl (fun _ => 0))) : cI l yX12_day vX12_day { frames := 2, cells := 0, slots := 0, locals := 46 } D cs ad nW [.ref (ad 197), .int vd] g (fun r g2 => r = (-1000) ∧ g2 = g) := by
  refine Met.start (cc := cX12_day) (maxL := 2) (ret := (some .int)) RX12 rfl (by decide) rfl (Nat.le_of_ble_eq_true rfl) ?_
  intro p e s m below meth c ls X hP hl
  have hx := X.1
  have hb := X.2.1
  have hS : va_S (wA ad nW) s.heap s.heap [] := va_S.rf
  have hA : ∀ i, i < nW → wA ad nW (ad i) := fun i h => ⟨i, h, rfl⟩
  have hl : lv_has ls 2 [(0, .ref (ad 197)), (1, .int vd)] := hl
  refine lv_aload_n hx hb dX12_day_0 rfl (lv_at hl 0 rfl) ?_
  refine lv_iload_n hx hb dX12_day_1 rfl (lv_at hl 1 rfl) ?_
  refine q_calli (q := (RX12, TX12, 40)) (As := [.int vd]) (rest := []) X (m_isDay l D cs ad hj g vd h197 h198) (cwV 1 X.2.2.2.2.1 gg_X12_day_X12_isDay rfl rfl rfl (by decide +kernel) ⟨Nat.le_of_ble_eq_true rfl, Nat.le_of_ble_eq_true rfl⟩) (by decide) h197 rfl hP hA hS rfl hl.1 rfl (Nat.le_of_ble_eq_true rfl) dX12_day_2 ⟨Nat.le_of_ble_eq_true rfl, Nat.le_of_ble_eq_true rfl⟩ (fun r_3 g_2 H locs hw_1 hP hS => ?_)
  obtain ⟨hw_1a, hw_1b⟩ := hw_1
  subst hw_1a
  rw [hw_1b] at hP
  refine lv_if_eq (tgt := 16) hx hb dX12_day_5 (by decide) (fun _ => ?_) (fun h => absurd h (by decide))
  refine lv_sipush (v := (-1000)) hx hb dX12_day_16 (by decide) ?_
  exact q_iret X hP hS ⟨rfl, rfl⟩ dX12_day_19

theorem dX12_melt_0 : decode cX12_melt 0 = .ok (.aload_n 0, 1) := by decide +kernel
theorem dX12_melt_1 : decode cX12_melt 1 = .ok (.iload_n 1, 1) := by decide +kernel
theorem dX12_melt_2 : decode cX12_melt 2 = .ok (.invokevirtual 212, 3) := by decide +kernel
theorem dX12_melt_5 : decode cX12_melt 5 = .ok (.ifCond .eq 27, 3) := by decide +kernel
theorem dX12_melt_32 : decode cX12_melt 32 = .ok (.sipush (-1000), 3) := by decide +kernel
theorem dX12_melt_35 : decode cX12_melt 35 = .ok (.ireturn, 1) := by decide +kernel
def vX12_melt : List Cond := .code yX12_melt cX12_melt 3 (some .int) :: ([.methodLink RX12 212 yX12_isEave, .instanceMethod yX12_isEave, .selects RX12 yX12_isEave yX12_isEave, .initialized RX12, .code yX12_isEave cX12_isEave 2 (some .boolean), .fieldLink RX12 9 "IcicleClockModel" "world" "[I", .methodLink RX12 82 yX12_in, .static yX12_in, .code yX12_in cX12_in 6 (some .boolean)] ++ wsX120)
theorem iX12_melt_12 : ∀ w ∈ wsX120, w ∈ vX12_melt := fun _ h => List.mem_cons_of_mem _ (List.mem_append_right _ h)
set_option maxRecDepth 20000 in
theorem gg_X12_melt_X12_isEave : GoodIn vX12_melt (wsV RX12 212 RX12 yX12_isEave vX12_isEave) := goodIn_r _ [1, 2, 3, 4, 5, 6, 7, 8, 4, 9, 10, 11, 12, 13, 14, 15, 16, 17, 18, 19, 20, 21, 22, 23, 24, 25, 26, 27, 28, 29, 30, 31, 32, 33, 34, 35, 36, 37, 38, 39, 40, 41, 42, 43, 44, 45, 46, 47, 48, 49] (by decide +kernel) (by decide +kernel)
set_option maxHeartbeats 4000000 in
set_option maxRecDepth 100000 in
theorem m_melt (l : Launch) (D : va_G) (cs : Nat → ClassId) (ad : Nat → Nat) (hj : wJ ad nW) (g : Nat → va_E) (ve : Int32) (vd : Int32) (h197 : g 197 = .inr (12, [.int 0, .ref (ad 198), .ref (ad 199), .ref (ad 200), .ref (ad 201), .int 0, .ref (ad 202), .int 0, .int 0, .int 0, .int 0, .int 0, .int 0, .int (-1), .ref (ad 203), .ref (ad 204), .ref (ad 205), .int 0, .int 0, .ref (ad 206), .ref (ad 207), .ref (ad 208), .int 0, .int 0, .int 0, .int 0, .int 0, .ref (ad 209), .ref (ad 210), .ref (ad 211), .long 0, .long 0, .ref (ad 212), .ref (ad 213), .int 0, .int 0, .ref (ad 214), .ref (ad 215), .ref (ad 216), .ref (ad 217)])) (h198 : g 198 = .inl (cs 1, 118, .inl (fun _ => 0))) : cI l yX12_melt vX12_melt { frames := 2, cells := 0, slots := 0, locals := 46 } D cs ad nW [.ref (ad 197), .int ve, .int vd] g (fun r g2 => r = (-1000) ∧ g2 = g) := by
  refine Met.start (cc := cX12_melt) (maxL := 3) (ret := (some .int)) RX12 rfl (by decide) rfl (Nat.le_of_ble_eq_true rfl) ?_
  intro p e s m below meth c ls X hP hl
  have hx := X.1
  have hb := X.2.1
  have hS : va_S (wA ad nW) s.heap s.heap [] := va_S.rf
  have hA : ∀ i, i < nW → wA ad nW (ad i) := fun i h => ⟨i, h, rfl⟩
  have hl : lv_has ls 3 [(0, .ref (ad 197)), (1, .int ve), (2, .int vd)] := hl
  refine lv_aload_n hx hb dX12_melt_0 rfl (lv_at hl 0 rfl) ?_
  refine lv_iload_n hx hb dX12_melt_1 rfl (lv_at hl 1 rfl) ?_
  refine q_calli (q := (RX12, TX12, 40)) (As := [.int ve]) (rest := []) X (m_isEave l D cs ad hj g ve h197 h198) (cwV 1 X.2.2.2.2.1 gg_X12_melt_X12_isEave rfl rfl rfl (by decide +kernel) ⟨Nat.le_of_ble_eq_true rfl, Nat.le_of_ble_eq_true rfl⟩) (by decide) h197 rfl hP hA hS rfl hl.1 rfl (Nat.le_of_ble_eq_true rfl) dX12_melt_2 ⟨Nat.le_of_ble_eq_true rfl, Nat.le_of_ble_eq_true rfl⟩ (fun r_3 g_2 H locs hw_1 hP hS => ?_)
  obtain ⟨hw_1a, hw_1b⟩ := hw_1
  subst hw_1a
  rw [hw_1b] at hP
  refine lv_if_eq (tgt := 32) hx hb dX12_melt_5 (by decide) (fun _ => ?_) (fun h => absurd h (by decide))
  refine lv_sipush (v := (-1000)) hx hb dX12_melt_32 (by decide) ?_
  exact q_iret X hP hS ⟨rfl, rfl⟩ dX12_melt_35

theorem dX12_icicle_0 : decode cX12_icicle 0 = .ok (.aload_n 0, 1) := by decide +kernel
theorem dX12_icicle_1 : decode cX12_icicle 1 = .ok (.iload_n 1, 1) := by decide +kernel
theorem dX12_icicle_2 : decode cX12_icicle 2 = .ok (.i2l, 1) := by decide +kernel
theorem dX12_icicle_3 : decode cX12_icicle 3 = .ok (.invokevirtual 221, 3) := by decide +kernel
theorem dX12_icicle_6 : decode cX12_icicle 6 = .ok (.ifCond .eq 24, 3) := by decide +kernel
theorem dX12_icicle_30 : decode cX12_icicle 30 = .ok (.bipush (-2), 2) := by decide +kernel
theorem dX12_icicle_32 : decode cX12_icicle 32 = .ok (.ireturn, 1) := by decide +kernel
def vX12_icicle : List Cond := .code yX12_icicle cX12_icicle 3 (some .int) :: ([.methodLink RX12 221 yX12_isIcicle, .instanceMethod yX12_isIcicle, .selects RX12 yX12_isIcicle yX12_isIcicle, .initialized RX12, .code yX12_isIcicle cX12_isIcicle 3 (some .boolean), .fieldLink RX12 9 "IcicleClockModel" "world" "[I", .methodLink RX12 82 yX12_in, .static yX12_in, .code yX12_in cX12_in 6 (some .boolean)] ++ wsX120)
theorem iX12_icicle_12 : ∀ w ∈ wsX120, w ∈ vX12_icicle := fun _ h => List.mem_cons_of_mem _ (List.mem_append_right _ h)
set_option maxRecDepth 20000 in
theorem gg_X12_icicle_X12_isIcicle : GoodIn vX12_icicle (wsV RX12 221 RX12 yX12_isIcicle vX12_isIcicle) := goodIn_r _ [1, 2, 3, 4, 5, 6, 7, 8, 4, 9, 10, 11, 12, 13, 14, 15, 16, 17, 18, 19, 20, 21, 22, 23, 24, 25, 26, 27, 28, 29, 30, 31, 32, 33, 34, 35, 36, 37, 38, 39, 40, 41, 42, 43, 44, 45, 46, 47, 48, 49] (by decide +kernel) (by decide +kernel)
set_option maxHeartbeats 4000000 in
set_option maxRecDepth 100000 in
theorem m_icicle (l : Launch) (D : va_G) (cs : Nat → ClassId) (ad : Nat → Nat) (hj : wJ ad nW) (g : Nat → va_E) (vi : Int32) (vw : Int32) (h197 : g 197 = .inr (12, [.int 0, .ref (ad 198), .ref (ad 199), .ref (ad 200), .ref (ad 201), .int 0, .ref (ad 202), .int 0, .int 0, .int 0, .int 0, .int 0, .int 0, .int (-1), .ref (ad 203), .ref (ad 204), .ref (ad 205), .int 0, .int 0, .ref (ad 206), .ref (ad 207), .ref (ad 208), .int 0, .int 0, .int 0, .int 0, .int 0, .ref (ad 209), .ref (ad 210), .ref (ad 211), .long 0, .long 0, .ref (ad 212), .ref (ad 213), .int 0, .int 0, .ref (ad 214), .ref (ad 215), .ref (ad 216), .ref (ad 217)])) (h198 : g 198 = .inl (cs 1, 118, .inl (fun _ => 0))) : cI l yX12_icicle vX12_icicle { frames := 2, cells := 0, slots := 0, locals := 47 } D cs ad nW [.ref (ad 197), .int vi, .int vw] g (fun r g2 => r = (-2) ∧ g2 = g) := by
  refine Met.start (cc := cX12_icicle) (maxL := 3) (ret := (some .int)) RX12 rfl (by decide) rfl (Nat.le_of_ble_eq_true rfl) ?_
  intro p e s m below meth c ls X hP hl
  have hx := X.1
  have hb := X.2.1
  have hS : va_S (wA ad nW) s.heap s.heap [] := va_S.rf
  have hA : ∀ i, i < nW → wA ad nW (ad i) := fun i h => ⟨i, h, rfl⟩
  have hl : lv_has ls 3 [(0, .ref (ad 197)), (1, .int vi), (2, .int vw)] := hl
  refine lv_aload_n hx hb dX12_icicle_0 rfl (lv_at hl 0 rfl) ?_
  refine lv_iload_n hx hb dX12_icicle_1 rfl (lv_at hl 1 rfl) ?_
  refine lv_i2l (v := vi.toInt64) hx hb dX12_icicle_2 rfl ?_
  refine q_calli (q := (RX12, TX12, 40)) (As := [.long (vi.toInt64)]) (rest := []) X (m_isIcicle l D cs ad hj g (vi.toInt64) h197 h198) (cwV 1 X.2.2.2.2.1 gg_X12_icicle_X12_isIcicle rfl rfl rfl (by decide +kernel) ⟨Nat.le_of_ble_eq_true rfl, Nat.le_of_ble_eq_true rfl⟩) (by decide) h197 rfl hP hA hS rfl hl.1 rfl (Nat.le_of_ble_eq_true rfl) dX12_icicle_3 ⟨Nat.le_of_ble_eq_true rfl, Nat.le_of_ble_eq_true rfl⟩ (fun r_3 g_2 H locs hw_1 hP hS => ?_)
  obtain ⟨hw_1a, hw_1b⟩ := hw_1
  subst hw_1a
  rw [hw_1b] at hP
  refine lv_if_eq (tgt := 30) hx hb dX12_icicle_6 (by decide) (fun _ => ?_) (fun h => absurd h (by decide))
  refine lv_bipush (v := (-2)) hx hb dX12_icicle_30 (by decide) ?_
  exact q_iret X hP hS ⟨rfl, rfl⟩ dX12_icicle_32

theorem dX12_work_0 : decode cX12_work 0 = .ok (.aload_n 0, 1) := by decide +kernel
theorem dX12_work_1 : decode cX12_work 1 = .ok (.iload_n 1, 1) := by decide +kernel
theorem dX12_work_2 : decode cX12_work 2 = .ok (.invokevirtual 228, 3) := by decide +kernel
theorem dX12_work_5 : decode cX12_work 5 = .ok (.ifCond .eq 29, 3) := by decide +kernel
theorem dX12_work_34 : decode cX12_work 34 = .ok (.bipush (-2), 2) := by decide +kernel
theorem dX12_work_36 : decode cX12_work 36 = .ok (.ireturn, 1) := by decide +kernel
def vX12_work : List Cond := .code yX12_work cX12_work 3 (some .int) :: ([.methodLink RX12 228 yX12_isWork, .instanceMethod yX12_isWork, .selects RX12 yX12_isWork yX12_isWork, .initialized RX12, .code yX12_isWork cX12_isWork 2 (some .boolean), .fieldLink RX12 9 "IcicleClockModel" "world" "[I", .methodLink RX12 82 yX12_in, .static yX12_in, .code yX12_in cX12_in 6 (some .boolean)] ++ wsX120)
theorem iX12_work_12 : ∀ w ∈ wsX120, w ∈ vX12_work := fun _ h => List.mem_cons_of_mem _ (List.mem_append_right _ h)
set_option maxRecDepth 20000 in
theorem gg_X12_work_X12_isWork : GoodIn vX12_work (wsV RX12 228 RX12 yX12_isWork vX12_isWork) := goodIn_r _ [1, 2, 3, 4, 5, 6, 7, 8, 4, 9, 10, 11, 12, 13, 14, 15, 16, 17, 18, 19, 20, 21, 22, 23, 24, 25, 26, 27, 28, 29, 30, 31, 32, 33, 34, 35, 36, 37, 38, 39, 40, 41, 42, 43, 44, 45, 46, 47, 48, 49] (by decide +kernel) (by decide +kernel)
set_option maxHeartbeats 4000000 in
set_option maxRecDepth 100000 in
theorem m_work (l : Launch) (D : va_G) (cs : Nat → ClassId) (ad : Nat → Nat) (hj : wJ ad nW) (g : Nat → va_E) (vi : Int32) (vw : Int32) (h197 : g 197 = .inr (12, [.int 0, .ref (ad 198), .ref (ad 199), .ref (ad 200), .ref (ad 201), .int 0, .ref (ad 202), .int 0, .int 0, .int 0, .int 0, .int 0, .int 0, .int (-1), .ref (ad 203), .ref (ad 204), .ref (ad 205), .int 0, .int 0, .ref (ad 206), .ref (ad 207), .ref (ad 208), .int 0, .int 0, .int 0, .int 0, .int 0, .ref (ad 209), .ref (ad 210), .ref (ad 211), .long 0, .long 0, .ref (ad 212), .ref (ad 213), .int 0, .int 0, .ref (ad 214), .ref (ad 215), .ref (ad 216), .ref (ad 217)])) (h198 : g 198 = .inl (cs 1, 118, .inl (fun _ => 0))) : cI l yX12_work vX12_work { frames := 2, cells := 0, slots := 0, locals := 46 } D cs ad nW [.ref (ad 197), .int vi, .int vw] g (fun r g2 => r = (-2) ∧ g2 = g) := by
  refine Met.start (cc := cX12_work) (maxL := 3) (ret := (some .int)) RX12 rfl (by decide) rfl (Nat.le_of_ble_eq_true rfl) ?_
  intro p e s m below meth c ls X hP hl
  have hx := X.1
  have hb := X.2.1
  have hS : va_S (wA ad nW) s.heap s.heap [] := va_S.rf
  have hA : ∀ i, i < nW → wA ad nW (ad i) := fun i h => ⟨i, h, rfl⟩
  have hl : lv_has ls 3 [(0, .ref (ad 197)), (1, .int vi), (2, .int vw)] := hl
  refine lv_aload_n hx hb dX12_work_0 rfl (lv_at hl 0 rfl) ?_
  refine lv_iload_n hx hb dX12_work_1 rfl (lv_at hl 1 rfl) ?_
  refine q_calli (q := (RX12, TX12, 40)) (As := [.int vi]) (rest := []) X (m_isWork l D cs ad hj g vi h197 h198) (cwV 1 X.2.2.2.2.1 gg_X12_work_X12_isWork rfl rfl rfl (by decide +kernel) ⟨Nat.le_of_ble_eq_true rfl, Nat.le_of_ble_eq_true rfl⟩) (by decide) h197 rfl hP hA hS rfl hl.1 rfl (Nat.le_of_ble_eq_true rfl) dX12_work_2 ⟨Nat.le_of_ble_eq_true rfl, Nat.le_of_ble_eq_true rfl⟩ (fun r_3 g_2 H locs hw_1 hP hS => ?_)
  obtain ⟨hw_1a, hw_1b⟩ := hw_1
  subst hw_1a
  rw [hw_1b] at hP
  refine lv_if_eq (tgt := 34) hx hb dX12_work_5 (by decide) (fun _ => ?_) (fun h => absurd h (by decide))
  refine lv_bipush (v := (-2)) hx hb dX12_work_34 (by decide) ?_
  exact q_iret X hP hS ⟨rfl, rfl⟩ dX12_work_36

theorem dX12_eave_0 : decode cX12_eave 0 = .ok (.aload_n 0, 1) := by decide +kernel
theorem dX12_eave_1 : decode cX12_eave 1 = .ok (.iload_n 1, 1) := by decide +kernel
theorem dX12_eave_2 : decode cX12_eave 2 = .ok (.invokevirtual 212, 3) := by decide +kernel
theorem dX12_eave_5 : decode cX12_eave 5 = .ok (.ifCond .ne 6, 3) := by decide +kernel
theorem dX12_eave_8 : decode cX12_eave 8 = .ok (.bipush (-2), 2) := by decide +kernel
theorem dX12_eave_10 : decode cX12_eave 10 = .ok (.ireturn, 1) := by decide +kernel
def vX12_eave : List Cond := .code yX12_eave cX12_eave 4 (some .int) :: ([.methodLink RX12 212 yX12_isEave, .instanceMethod yX12_isEave, .selects RX12 yX12_isEave yX12_isEave, .initialized RX12, .code yX12_isEave cX12_isEave 2 (some .boolean), .fieldLink RX12 9 "IcicleClockModel" "world" "[I", .methodLink RX12 82 yX12_in, .static yX12_in, .code yX12_in cX12_in 6 (some .boolean)] ++ wsX120)
theorem iX12_eave_12 : ∀ w ∈ wsX120, w ∈ vX12_eave := fun _ h => List.mem_cons_of_mem _ (List.mem_append_right _ h)
set_option maxRecDepth 20000 in
theorem gg_X12_eave_X12_isEave : GoodIn vX12_eave (wsV RX12 212 RX12 yX12_isEave vX12_isEave) := goodIn_r _ [1, 2, 3, 4, 5, 6, 7, 8, 4, 9, 10, 11, 12, 13, 14, 15, 16, 17, 18, 19, 20, 21, 22, 23, 24, 25, 26, 27, 28, 29, 30, 31, 32, 33, 34, 35, 36, 37, 38, 39, 40, 41, 42, 43, 44, 45, 46, 47, 48, 49] (by decide +kernel) (by decide +kernel)
set_option maxHeartbeats 4000000 in
set_option maxRecDepth 100000 in
theorem m_eave (l : Launch) (D : va_G) (cs : Nat → ClassId) (ad : Nat → Nat) (hj : wJ ad nW) (g : Nat → va_E) (vd : Int32) (h197 : g 197 = .inr (12, [.int 0, .ref (ad 198), .ref (ad 199), .ref (ad 200), .ref (ad 201), .int 0, .ref (ad 202), .int 0, .int 0, .int 0, .int 0, .int 0, .int 0, .int (-1), .ref (ad 203), .ref (ad 204), .ref (ad 205), .int 0, .int 0, .ref (ad 206), .ref (ad 207), .ref (ad 208), .int 0, .int 0, .int 0, .int 0, .int 0, .ref (ad 209), .ref (ad 210), .ref (ad 211), .long 0, .long 0, .ref (ad 212), .ref (ad 213), .int 0, .int 0, .ref (ad 214), .ref (ad 215), .ref (ad 216), .ref (ad 217)])) (h198 : g 198 = .inl (cs 1, 118, .inl (fun _ => 0))) : cI l yX12_eave vX12_eave { frames := 2, cells := 0, slots := 0, locals := 46 } D cs ad nW [.ref (ad 197), .int vd] g (fun r g2 => r = (-2) ∧ g2 = g) := by
  refine Met.start (cc := cX12_eave) (maxL := 4) (ret := (some .int)) RX12 rfl (by decide) rfl (Nat.le_of_ble_eq_true rfl) ?_
  intro p e s m below meth c ls X hP hl
  have hx := X.1
  have hb := X.2.1
  have hS : va_S (wA ad nW) s.heap s.heap [] := va_S.rf
  have hA : ∀ i, i < nW → wA ad nW (ad i) := fun i h => ⟨i, h, rfl⟩
  have hl : lv_has ls 4 [(0, .ref (ad 197)), (1, .int vd)] := hl
  refine lv_aload_n hx hb dX12_eave_0 rfl (lv_at hl 0 rfl) ?_
  refine lv_iload_n hx hb dX12_eave_1 rfl (lv_at hl 1 rfl) ?_
  refine q_calli (q := (RX12, TX12, 40)) (As := [.int vd]) (rest := []) X (m_isEave l D cs ad hj g vd h197 h198) (cwV 1 X.2.2.2.2.1 gg_X12_eave_X12_isEave rfl rfl rfl (by decide +kernel) ⟨Nat.le_of_ble_eq_true rfl, Nat.le_of_ble_eq_true rfl⟩) (by decide) h197 rfl hP hA hS rfl hl.1 rfl (Nat.le_of_ble_eq_true rfl) dX12_eave_2 ⟨Nat.le_of_ble_eq_true rfl, Nat.le_of_ble_eq_true rfl⟩ (fun r_3 g_2 H locs hw_1 hP hS => ?_)
  obtain ⟨hw_1a, hw_1b⟩ := hw_1
  subst hw_1a
  rw [hw_1b] at hP
  refine lv_if_ne (tgt := 11) hx hb dX12_eave_5 (by decide) (fun h => absurd h (by decide)) (fun _ => ?_)
  refine lv_bipush (v := (-2)) hx hb dX12_eave_8 (by decide) ?_
  exact q_iret X hP hS ⟨rfl, rfl⟩ dX12_eave_10

theorem dX12_falls_0 : decode cX12_falls 0 = .ok (.aload_n 0, 1) := by decide +kernel
theorem dX12_falls_1 : decode cX12_falls 1 = .ok (.iload_n 1, 1) := by decide +kernel
theorem dX12_falls_2 : decode cX12_falls 2 = .ok (.i2l, 1) := by decide +kernel
theorem dX12_falls_3 : decode cX12_falls 3 = .ok (.invokevirtual 221, 3) := by decide +kernel
theorem dX12_falls_6 : decode cX12_falls 6 = .ok (.ifCond .ne 6, 3) := by decide +kernel
theorem dX12_falls_9 : decode cX12_falls 9 = .ok (.bipush (-2), 2) := by decide +kernel
theorem dX12_falls_11 : decode cX12_falls 11 = .ok (.ireturn, 1) := by decide +kernel
def vX12_falls : List Cond := .code yX12_falls cX12_falls 2 (some .int) :: ([.methodLink RX12 221 yX12_isIcicle, .instanceMethod yX12_isIcicle, .selects RX12 yX12_isIcicle yX12_isIcicle, .initialized RX12, .code yX12_isIcicle cX12_isIcicle 3 (some .boolean), .fieldLink RX12 9 "IcicleClockModel" "world" "[I", .methodLink RX12 82 yX12_in, .static yX12_in, .code yX12_in cX12_in 6 (some .boolean)] ++ wsX120)
theorem iX12_falls_12 : ∀ w ∈ wsX120, w ∈ vX12_falls := fun _ h => List.mem_cons_of_mem _ (List.mem_append_right _ h)
set_option maxRecDepth 20000 in
theorem gg_X12_falls_X12_isIcicle : GoodIn vX12_falls (wsV RX12 221 RX12 yX12_isIcicle vX12_isIcicle) := goodIn_r _ [1, 2, 3, 4, 5, 6, 7, 8, 4, 9, 10, 11, 12, 13, 14, 15, 16, 17, 18, 19, 20, 21, 22, 23, 24, 25, 26, 27, 28, 29, 30, 31, 32, 33, 34, 35, 36, 37, 38, 39, 40, 41, 42, 43, 44, 45, 46, 47, 48, 49] (by decide +kernel) (by decide +kernel)
set_option maxHeartbeats 4000000 in
set_option maxRecDepth 100000 in
theorem m_falls (l : Launch) (D : va_G) (cs : Nat → ClassId) (ad : Nat → Nat) (hj : wJ ad nW) (g : Nat → va_E) (vi : Int32) (h197 : g 197 = .inr (12, [.int 0, .ref (ad 198), .ref (ad 199), .ref (ad 200), .ref (ad 201), .int 0, .ref (ad 202), .int 0, .int 0, .int 0, .int 0, .int 0, .int 0, .int (-1), .ref (ad 203), .ref (ad 204), .ref (ad 205), .int 0, .int 0, .ref (ad 206), .ref (ad 207), .ref (ad 208), .int 0, .int 0, .int 0, .int 0, .int 0, .ref (ad 209), .ref (ad 210), .ref (ad 211), .long 0, .long 0, .ref (ad 212), .ref (ad 213), .int 0, .int 0, .ref (ad 214), .ref (ad 215), .ref (ad 216), .ref (ad 217)])) (h198 : g 198 = .inl (cs 1, 118, .inl (fun _ => 0))) : cI l yX12_falls vX12_falls { frames := 2, cells := 0, slots := 0, locals := 47 } D cs ad nW [.ref (ad 197), .int vi] g (fun r g2 => r = (-2) ∧ g2 = g) := by
  refine Met.start (cc := cX12_falls) (maxL := 2) (ret := (some .int)) RX12 rfl (by decide) rfl (Nat.le_of_ble_eq_true rfl) ?_
  intro p e s m below meth c ls X hP hl
  have hx := X.1
  have hb := X.2.1
  have hS : va_S (wA ad nW) s.heap s.heap [] := va_S.rf
  have hA : ∀ i, i < nW → wA ad nW (ad i) := fun i h => ⟨i, h, rfl⟩
  have hl : lv_has ls 2 [(0, .ref (ad 197)), (1, .int vi)] := hl
  refine lv_aload_n hx hb dX12_falls_0 rfl (lv_at hl 0 rfl) ?_
  refine lv_iload_n hx hb dX12_falls_1 rfl (lv_at hl 1 rfl) ?_
  refine lv_i2l (v := vi.toInt64) hx hb dX12_falls_2 rfl ?_
  refine q_calli (q := (RX12, TX12, 40)) (As := [.long (vi.toInt64)]) (rest := []) X (m_isIcicle l D cs ad hj g (vi.toInt64) h197 h198) (cwV 1 X.2.2.2.2.1 gg_X12_falls_X12_isIcicle rfl rfl rfl (by decide +kernel) ⟨Nat.le_of_ble_eq_true rfl, Nat.le_of_ble_eq_true rfl⟩) (by decide) h197 rfl hP hA hS rfl hl.1 rfl (Nat.le_of_ble_eq_true rfl) dX12_falls_3 ⟨Nat.le_of_ble_eq_true rfl, Nat.le_of_ble_eq_true rfl⟩ (fun r_3 g_2 H locs hw_1 hP hS => ?_)
  obtain ⟨hw_1a, hw_1b⟩ := hw_1
  subst hw_1a
  rw [hw_1b] at hP
  refine lv_if_ne (tgt := 12) hx hb dX12_falls_6 (by decide) (fun h => absurd h (by decide)) (fun _ => ?_)
  refine lv_bipush (v := (-2)) hx hb dX12_falls_9 (by decide) ?_
  exact q_iret X hP hS ⟨rfl, rfl⟩ dX12_falls_11

theorem dX12_length_0 : decode cX12_length 0 = .ok (.aload_n 0, 1) := by decide +kernel
theorem dX12_length_1 : decode cX12_length 1 = .ok (.iload_n 1, 1) := by decide +kernel
theorem dX12_length_2 : decode cX12_length 2 = .ok (.i2l, 1) := by decide +kernel
theorem dX12_length_3 : decode cX12_length 3 = .ok (.invokevirtual 221, 3) := by decide +kernel
theorem dX12_length_6 : decode cX12_length 6 = .ok (.ifCond .eq 11, 3) := by decide +kernel
theorem dX12_length_17 : decode cX12_length 17 = .ok (.bipush (-2), 2) := by decide +kernel
theorem dX12_length_19 : decode cX12_length 19 = .ok (.ireturn, 1) := by decide +kernel
def vX12_length : List Cond := .code yX12_length cX12_length 3 (some .int) :: ([.methodLink RX12 221 yX12_isIcicle, .instanceMethod yX12_isIcicle, .selects RX12 yX12_isIcicle yX12_isIcicle, .initialized RX12, .code yX12_isIcicle cX12_isIcicle 3 (some .boolean), .fieldLink RX12 9 "IcicleClockModel" "world" "[I", .methodLink RX12 82 yX12_in, .static yX12_in, .code yX12_in cX12_in 6 (some .boolean)] ++ wsX120)
theorem iX12_length_12 : ∀ w ∈ wsX120, w ∈ vX12_length := fun _ h => List.mem_cons_of_mem _ (List.mem_append_right _ h)
set_option maxRecDepth 20000 in
theorem gg_X12_length_X12_isIcicle : GoodIn vX12_length (wsV RX12 221 RX12 yX12_isIcicle vX12_isIcicle) := goodIn_r _ [1, 2, 3, 4, 5, 6, 7, 8, 4, 9, 10, 11, 12, 13, 14, 15, 16, 17, 18, 19, 20, 21, 22, 23, 24, 25, 26, 27, 28, 29, 30, 31, 32, 33, 34, 35, 36, 37, 38, 39, 40, 41, 42, 43, 44, 45, 46, 47, 48, 49] (by decide +kernel) (by decide +kernel)
set_option maxHeartbeats 4000000 in
set_option maxRecDepth 100000 in
theorem m_length (l : Launch) (D : va_G) (cs : Nat → ClassId) (ad : Nat → Nat) (hj : wJ ad nW) (g : Nat → va_E) (vi : Int32) (vd : Int32) (h197 : g 197 = .inr (12, [.int 0, .ref (ad 198), .ref (ad 199), .ref (ad 200), .ref (ad 201), .int 0, .ref (ad 202), .int 0, .int 0, .int 0, .int 0, .int 0, .int 0, .int (-1), .ref (ad 203), .ref (ad 204), .ref (ad 205), .int 0, .int 0, .ref (ad 206), .ref (ad 207), .ref (ad 208), .int 0, .int 0, .int 0, .int 0, .int 0, .ref (ad 209), .ref (ad 210), .ref (ad 211), .long 0, .long 0, .ref (ad 212), .ref (ad 213), .int 0, .int 0, .ref (ad 214), .ref (ad 215), .ref (ad 216), .ref (ad 217)])) (h198 : g 198 = .inl (cs 1, 118, .inl (fun _ => 0))) : cI l yX12_length vX12_length { frames := 2, cells := 0, slots := 0, locals := 47 } D cs ad nW [.ref (ad 197), .int vi, .int vd] g (fun r g2 => r = (-2) ∧ g2 = g) := by
  refine Met.start (cc := cX12_length) (maxL := 3) (ret := (some .int)) RX12 rfl (by decide) rfl (Nat.le_of_ble_eq_true rfl) ?_
  intro p e s m below meth c ls X hP hl
  have hx := X.1
  have hb := X.2.1
  have hS : va_S (wA ad nW) s.heap s.heap [] := va_S.rf
  have hA : ∀ i, i < nW → wA ad nW (ad i) := fun i h => ⟨i, h, rfl⟩
  have hl : lv_has ls 3 [(0, .ref (ad 197)), (1, .int vi), (2, .int vd)] := hl
  refine lv_aload_n hx hb dX12_length_0 rfl (lv_at hl 0 rfl) ?_
  refine lv_iload_n hx hb dX12_length_1 rfl (lv_at hl 1 rfl) ?_
  refine lv_i2l (v := vi.toInt64) hx hb dX12_length_2 rfl ?_
  refine q_calli (q := (RX12, TX12, 40)) (As := [.long (vi.toInt64)]) (rest := []) X (m_isIcicle l D cs ad hj g (vi.toInt64) h197 h198) (cwV 1 X.2.2.2.2.1 gg_X12_length_X12_isIcicle rfl rfl rfl (by decide +kernel) ⟨Nat.le_of_ble_eq_true rfl, Nat.le_of_ble_eq_true rfl⟩) (by decide) h197 rfl hP hA hS rfl hl.1 rfl (Nat.le_of_ble_eq_true rfl) dX12_length_3 ⟨Nat.le_of_ble_eq_true rfl, Nat.le_of_ble_eq_true rfl⟩ (fun r_3 g_2 H locs hw_1 hP hS => ?_)
  obtain ⟨hw_1a, hw_1b⟩ := hw_1
  subst hw_1a
  rw [hw_1b] at hP
  refine lv_if_eq (tgt := 17) hx hb dX12_length_6 (by decide) (fun _ => ?_) (fun h => absurd h (by decide))
  refine lv_bipush (v := (-2)) hx hb dX12_length_17 (by decide) ?_
  exact q_iret X hP hS ⟨rfl, rfl⟩ dX12_length_19

theorem dX12_longest_0 : decode cX12_longest 0 = .ok (.aload_n 0, 1) := by decide +kernel
theorem dX12_longest_1 : decode cX12_longest 1 = .ok (.iload_n 1, 1) := by decide +kernel
theorem dX12_longest_2 : decode cX12_longest 2 = .ok (.i2l, 1) := by decide +kernel
theorem dX12_longest_3 : decode cX12_longest 3 = .ok (.invokevirtual 221, 3) := by decide +kernel
theorem dX12_longest_6 : decode cX12_longest 6 = .ok (.ifCond .ne 6, 3) := by decide +kernel
theorem dX12_longest_9 : decode cX12_longest 9 = .ok (.bipush (-2), 2) := by decide +kernel
theorem dX12_longest_11 : decode cX12_longest 11 = .ok (.ireturn, 1) := by decide +kernel
def vX12_longest : List Cond := .code yX12_longest cX12_longest 4 (some .int) :: ([.methodLink RX12 221 yX12_isIcicle, .instanceMethod yX12_isIcicle, .selects RX12 yX12_isIcicle yX12_isIcicle, .initialized RX12, .code yX12_isIcicle cX12_isIcicle 3 (some .boolean), .fieldLink RX12 9 "IcicleClockModel" "world" "[I", .methodLink RX12 82 yX12_in, .static yX12_in, .code yX12_in cX12_in 6 (some .boolean)] ++ wsX120)
theorem iX12_longest_12 : ∀ w ∈ wsX120, w ∈ vX12_longest := fun _ h => List.mem_cons_of_mem _ (List.mem_append_right _ h)
set_option maxRecDepth 20000 in
theorem gg_X12_longest_X12_isIcicle : GoodIn vX12_longest (wsV RX12 221 RX12 yX12_isIcicle vX12_isIcicle) := goodIn_r _ [1, 2, 3, 4, 5, 6, 7, 8, 4, 9, 10, 11, 12, 13, 14, 15, 16, 17, 18, 19, 20, 21, 22, 23, 24, 25, 26, 27, 28, 29, 30, 31, 32, 33, 34, 35, 36, 37, 38, 39, 40, 41, 42, 43, 44, 45, 46, 47, 48, 49] (by decide +kernel) (by decide +kernel)
set_option maxHeartbeats 4000000 in
set_option maxRecDepth 100000 in
theorem m_longest (l : Launch) (D : va_G) (cs : Nat → ClassId) (ad : Nat → Nat) (hj : wJ ad nW) (g : Nat → va_E) (vi : Int32) (h197 : g 197 = .inr (12, [.int 0, .ref (ad 198), .ref (ad 199), .ref (ad 200), .ref (ad 201), .int 0, .ref (ad 202), .int 0, .int 0, .int 0, .int 0, .int 0, .int 0, .int (-1), .ref (ad 203), .ref (ad 204), .ref (ad 205), .int 0, .int 0, .ref (ad 206), .ref (ad 207), .ref (ad 208), .int 0, .int 0, .int 0, .int 0, .int 0, .ref (ad 209), .ref (ad 210), .ref (ad 211), .long 0, .long 0, .ref (ad 212), .ref (ad 213), .int 0, .int 0, .ref (ad 214), .ref (ad 215), .ref (ad 216), .ref (ad 217)])) (h198 : g 198 = .inl (cs 1, 118, .inl (fun _ => 0))) : cI l yX12_longest vX12_longest { frames := 2, cells := 0, slots := 0, locals := 47 } D cs ad nW [.ref (ad 197), .int vi] g (fun r g2 => r = (-2) ∧ g2 = g) := by
  refine Met.start (cc := cX12_longest) (maxL := 4) (ret := (some .int)) RX12 rfl (by decide) rfl (Nat.le_of_ble_eq_true rfl) ?_
  intro p e s m below meth c ls X hP hl
  have hx := X.1
  have hb := X.2.1
  have hS : va_S (wA ad nW) s.heap s.heap [] := va_S.rf
  have hA : ∀ i, i < nW → wA ad nW (ad i) := fun i h => ⟨i, h, rfl⟩
  have hl : lv_has ls 4 [(0, .ref (ad 197)), (1, .int vi)] := hl
  refine lv_aload_n hx hb dX12_longest_0 rfl (lv_at hl 0 rfl) ?_
  refine lv_iload_n hx hb dX12_longest_1 rfl (lv_at hl 1 rfl) ?_
  refine lv_i2l (v := vi.toInt64) hx hb dX12_longest_2 rfl ?_
  refine q_calli (q := (RX12, TX12, 40)) (As := [.long (vi.toInt64)]) (rest := []) X (m_isIcicle l D cs ad hj g (vi.toInt64) h197 h198) (cwV 1 X.2.2.2.2.1 gg_X12_longest_X12_isIcicle rfl rfl rfl (by decide +kernel) ⟨Nat.le_of_ble_eq_true rfl, Nat.le_of_ble_eq_true rfl⟩) (by decide) h197 rfl hP hA hS rfl hl.1 rfl (Nat.le_of_ble_eq_true rfl) dX12_longest_3 ⟨Nat.le_of_ble_eq_true rfl, Nat.le_of_ble_eq_true rfl⟩ (fun r_3 g_2 H locs hw_1 hP hS => ?_)
  obtain ⟨hw_1a, hw_1b⟩ := hw_1
  subst hw_1a
  rw [hw_1b] at hP
  refine lv_if_ne (tgt := 12) hx hb dX12_longest_6 (by decide) (fun h => absurd h (by decide)) (fun _ => ?_)
  refine lv_bipush (v := (-2)) hx hb dX12_longest_9 (by decide) ?_
  exact q_iret X hP hS ⟨rfl, rfl⟩ dX12_longest_11

theorem dX12_drops_0 : decode cX12_drops 0 = .ok (.aload_n 0, 1) := by decide +kernel
theorem dX12_drops_1 : decode cX12_drops 1 = .ok (.iload_n 1, 1) := by decide +kernel
theorem dX12_drops_2 : decode cX12_drops 2 = .ok (.invokevirtual 205, 3) := by decide +kernel
theorem dX12_drops_5 : decode cX12_drops 5 = .ok (.ifCond .ne 6, 3) := by decide +kernel
theorem dX12_drops_8 : decode cX12_drops 8 = .ok (.bipush (-2), 2) := by decide +kernel
theorem dX12_drops_10 : decode cX12_drops 10 = .ok (.ireturn, 1) := by decide +kernel
def vX12_drops : List Cond := .code yX12_drops cX12_drops 2 (some .int) :: ([.methodLink RX12 205 yX12_isDay, .instanceMethod yX12_isDay, .selects RX12 yX12_isDay yX12_isDay, .initialized RX12, .code yX12_isDay cX12_isDay 2 (some .boolean), .fieldLink RX12 9 "IcicleClockModel" "world" "[I", .methodLink RX12 82 yX12_in, .static yX12_in, .code yX12_in cX12_in 6 (some .boolean)] ++ wsX120)
theorem iX12_drops_12 : ∀ w ∈ wsX120, w ∈ vX12_drops := fun _ h => List.mem_cons_of_mem _ (List.mem_append_right _ h)
set_option maxRecDepth 20000 in
theorem gg_X12_drops_X12_isDay : GoodIn vX12_drops (wsV RX12 205 RX12 yX12_isDay vX12_isDay) := goodIn_r _ [1, 2, 3, 4, 5, 6, 7, 8, 4, 9, 10, 11, 12, 13, 14, 15, 16, 17, 18, 19, 20, 21, 22, 23, 24, 25, 26, 27, 28, 29, 30, 31, 32, 33, 34, 35, 36, 37, 38, 39, 40, 41, 42, 43, 44, 45, 46, 47, 48, 49] (by decide +kernel) (by decide +kernel)
set_option maxHeartbeats 4000000 in
set_option maxRecDepth 100000 in
theorem m_drops (l : Launch) (D : va_G) (cs : Nat → ClassId) (ad : Nat → Nat) (hj : wJ ad nW) (g : Nat → va_E) (vd : Int32) (h197 : g 197 = .inr (12, [.int 0, .ref (ad 198), .ref (ad 199), .ref (ad 200), .ref (ad 201), .int 0, .ref (ad 202), .int 0, .int 0, .int 0, .int 0, .int 0, .int 0, .int (-1), .ref (ad 203), .ref (ad 204), .ref (ad 205), .int 0, .int 0, .ref (ad 206), .ref (ad 207), .ref (ad 208), .int 0, .int 0, .int 0, .int 0, .int 0, .ref (ad 209), .ref (ad 210), .ref (ad 211), .long 0, .long 0, .ref (ad 212), .ref (ad 213), .int 0, .int 0, .ref (ad 214), .ref (ad 215), .ref (ad 216), .ref (ad 217)])) (h198 : g 198 = .inl (cs 1, 118, .inl (fun _ => 0))) : cI l yX12_drops vX12_drops { frames := 2, cells := 0, slots := 0, locals := 46 } D cs ad nW [.ref (ad 197), .int vd] g (fun r g2 => r = (-2) ∧ g2 = g) := by
  refine Met.start (cc := cX12_drops) (maxL := 2) (ret := (some .int)) RX12 rfl (by decide) rfl (Nat.le_of_ble_eq_true rfl) ?_
  intro p e s m below meth c ls X hP hl
  have hx := X.1
  have hb := X.2.1
  have hS : va_S (wA ad nW) s.heap s.heap [] := va_S.rf
  have hA : ∀ i, i < nW → wA ad nW (ad i) := fun i h => ⟨i, h, rfl⟩
  have hl : lv_has ls 2 [(0, .ref (ad 197)), (1, .int vd)] := hl
  refine lv_aload_n hx hb dX12_drops_0 rfl (lv_at hl 0 rfl) ?_
  refine lv_iload_n hx hb dX12_drops_1 rfl (lv_at hl 1 rfl) ?_
  refine q_calli (q := (RX12, TX12, 40)) (As := [.int vd]) (rest := []) X (m_isDay l D cs ad hj g vd h197 h198) (cwV 1 X.2.2.2.2.1 gg_X12_drops_X12_isDay rfl rfl rfl (by decide +kernel) ⟨Nat.le_of_ble_eq_true rfl, Nat.le_of_ble_eq_true rfl⟩) (by decide) h197 rfl hP hA hS rfl hl.1 rfl (Nat.le_of_ble_eq_true rfl) dX12_drops_2 ⟨Nat.le_of_ble_eq_true rfl, Nat.le_of_ble_eq_true rfl⟩ (fun r_3 g_2 H locs hw_1 hP hS => ?_)
  obtain ⟨hw_1a, hw_1b⟩ := hw_1
  subst hw_1a
  rw [hw_1b] at hP
  refine lv_if_ne (tgt := 11) hx hb dX12_drops_5 (by decide) (fun h => absurd h (by decide)) (fun _ => ?_)
  refine lv_bipush (v := (-2)) hx hb dX12_drops_8 (by decide) ?_
  exact q_iret X hP hS ⟨rfl, rfl⟩ dX12_drops_10

theorem dX12_hang_0 : decode cX12_hang 0 = .ok (.aload_n 0, 1) := by decide +kernel
theorem dX12_hang_1 : decode cX12_hang 1 = .ok (.iload_n 1, 1) := by decide +kernel
theorem dX12_hang_2 : decode cX12_hang 2 = .ok (.invokevirtual 205, 3) := by decide +kernel
theorem dX12_hang_5 : decode cX12_hang 5 = .ok (.ifCond .ne 6, 3) := by decide +kernel
theorem dX12_hang_8 : decode cX12_hang 8 = .ok (.bipush (-2), 2) := by decide +kernel
theorem dX12_hang_10 : decode cX12_hang 10 = .ok (.ireturn, 1) := by decide +kernel
def vX12_hang : List Cond := .code yX12_hang cX12_hang 4 (some .int) :: ([.methodLink RX12 205 yX12_isDay, .instanceMethod yX12_isDay, .selects RX12 yX12_isDay yX12_isDay, .initialized RX12, .code yX12_isDay cX12_isDay 2 (some .boolean), .fieldLink RX12 9 "IcicleClockModel" "world" "[I", .methodLink RX12 82 yX12_in, .static yX12_in, .code yX12_in cX12_in 6 (some .boolean)] ++ wsX120)
theorem iX12_hang_12 : ∀ w ∈ wsX120, w ∈ vX12_hang := fun _ h => List.mem_cons_of_mem _ (List.mem_append_right _ h)
set_option maxRecDepth 20000 in
theorem gg_X12_hang_X12_isDay : GoodIn vX12_hang (wsV RX12 205 RX12 yX12_isDay vX12_isDay) := goodIn_r _ [1, 2, 3, 4, 5, 6, 7, 8, 4, 9, 10, 11, 12, 13, 14, 15, 16, 17, 18, 19, 20, 21, 22, 23, 24, 25, 26, 27, 28, 29, 30, 31, 32, 33, 34, 35, 36, 37, 38, 39, 40, 41, 42, 43, 44, 45, 46, 47, 48, 49] (by decide +kernel) (by decide +kernel)
set_option maxHeartbeats 4000000 in
set_option maxRecDepth 100000 in
theorem m_hang (l : Launch) (D : va_G) (cs : Nat → ClassId) (ad : Nat → Nat) (hj : wJ ad nW) (g : Nat → va_E) (vd : Int32) (h197 : g 197 = .inr (12, [.int 0, .ref (ad 198), .ref (ad 199), .ref (ad 200), .ref (ad 201), .int 0, .ref (ad 202), .int 0, .int 0, .int 0, .int 0, .int 0, .int 0, .int (-1), .ref (ad 203), .ref (ad 204), .ref (ad 205), .int 0, .int 0, .ref (ad 206), .ref (ad 207), .ref (ad 208), .int 0, .int 0, .int 0, .int 0, .int 0, .ref (ad 209), .ref (ad 210), .ref (ad 211), .long 0, .long 0, .ref (ad 212), .ref (ad 213), .int 0, .int 0, .ref (ad 214), .ref (ad 215), .ref (ad 216), .ref (ad 217)])) (h198 : g 198 = .inl (cs 1, 118, .inl (fun _ => 0))) : cI l yX12_hang vX12_hang { frames := 2, cells := 0, slots := 0, locals := 46 } D cs ad nW [.ref (ad 197), .int vd] g (fun r g2 => r = (-2) ∧ g2 = g) := by
  refine Met.start (cc := cX12_hang) (maxL := 4) (ret := (some .int)) RX12 rfl (by decide) rfl (Nat.le_of_ble_eq_true rfl) ?_
  intro p e s m below meth c ls X hP hl
  have hx := X.1
  have hb := X.2.1
  have hS : va_S (wA ad nW) s.heap s.heap [] := va_S.rf
  have hA : ∀ i, i < nW → wA ad nW (ad i) := fun i h => ⟨i, h, rfl⟩
  have hl : lv_has ls 4 [(0, .ref (ad 197)), (1, .int vd)] := hl
  refine lv_aload_n hx hb dX12_hang_0 rfl (lv_at hl 0 rfl) ?_
  refine lv_iload_n hx hb dX12_hang_1 rfl (lv_at hl 1 rfl) ?_
  refine q_calli (q := (RX12, TX12, 40)) (As := [.int vd]) (rest := []) X (m_isDay l D cs ad hj g vd h197 h198) (cwV 1 X.2.2.2.2.1 gg_X12_hang_X12_isDay rfl rfl rfl (by decide +kernel) ⟨Nat.le_of_ble_eq_true rfl, Nat.le_of_ble_eq_true rfl⟩) (by decide) h197 rfl hP hA hS rfl hl.1 rfl (Nat.le_of_ble_eq_true rfl) dX12_hang_2 ⟨Nat.le_of_ble_eq_true rfl, Nat.le_of_ble_eq_true rfl⟩ (fun r_3 g_2 H locs hw_1 hP hS => ?_)
  obtain ⟨hw_1a, hw_1b⟩ := hw_1
  subst hw_1a
  rw [hw_1b] at hP
  refine lv_if_ne (tgt := 11) hx hb dX12_hang_5 (by decide) (fun h => absurd h (by decide)) (fun _ => ?_)
  refine lv_bipush (v := (-2)) hx hb dX12_hang_8 (by decide) ?_
  exact q_iret X hP hS ⟨rfl, rfl⟩ dX12_hang_10

theorem dX12_under_0 : decode cX12_under 0 = .ok (.aload_n 0, 1) := by decide +kernel
theorem dX12_under_1 : decode cX12_under 1 = .ok (.iload_n 1, 1) := by decide +kernel
theorem dX12_under_2 : decode cX12_under 2 = .ok (.invokevirtual 212, 3) := by decide +kernel
theorem dX12_under_5 : decode cX12_under 5 = .ok (.ifCond .ne 6, 3) := by decide +kernel
theorem dX12_under_8 : decode cX12_under 8 = .ok (.bipush (-2), 2) := by decide +kernel
theorem dX12_under_10 : decode cX12_under 10 = .ok (.ireturn, 1) := by decide +kernel
def vX12_under : List Cond := .code yX12_under cX12_under 4 (some .int) :: ([.methodLink RX12 212 yX12_isEave, .instanceMethod yX12_isEave, .selects RX12 yX12_isEave yX12_isEave, .initialized RX12, .code yX12_isEave cX12_isEave 2 (some .boolean), .fieldLink RX12 9 "IcicleClockModel" "world" "[I", .methodLink RX12 82 yX12_in, .static yX12_in, .code yX12_in cX12_in 6 (some .boolean)] ++ wsX120)
theorem iX12_under_12 : ∀ w ∈ wsX120, w ∈ vX12_under := fun _ h => List.mem_cons_of_mem _ (List.mem_append_right _ h)
set_option maxRecDepth 20000 in
theorem gg_X12_under_X12_isEave : GoodIn vX12_under (wsV RX12 212 RX12 yX12_isEave vX12_isEave) := goodIn_r _ [1, 2, 3, 4, 5, 6, 7, 8, 4, 9, 10, 11, 12, 13, 14, 15, 16, 17, 18, 19, 20, 21, 22, 23, 24, 25, 26, 27, 28, 29, 30, 31, 32, 33, 34, 35, 36, 37, 38, 39, 40, 41, 42, 43, 44, 45, 46, 47, 48, 49] (by decide +kernel) (by decide +kernel)
set_option maxHeartbeats 4000000 in
set_option maxRecDepth 100000 in
theorem m_under (l : Launch) (D : va_G) (cs : Nat → ClassId) (ad : Nat → Nat) (hj : wJ ad nW) (g : Nat → va_E) (vd : Int32) (h197 : g 197 = .inr (12, [.int 0, .ref (ad 198), .ref (ad 199), .ref (ad 200), .ref (ad 201), .int 0, .ref (ad 202), .int 0, .int 0, .int 0, .int 0, .int 0, .int 0, .int (-1), .ref (ad 203), .ref (ad 204), .ref (ad 205), .int 0, .int 0, .ref (ad 206), .ref (ad 207), .ref (ad 208), .int 0, .int 0, .int 0, .int 0, .int 0, .ref (ad 209), .ref (ad 210), .ref (ad 211), .long 0, .long 0, .ref (ad 212), .ref (ad 213), .int 0, .int 0, .ref (ad 214), .ref (ad 215), .ref (ad 216), .ref (ad 217)])) (h198 : g 198 = .inl (cs 1, 118, .inl (fun _ => 0))) : cI l yX12_under vX12_under { frames := 2, cells := 0, slots := 0, locals := 46 } D cs ad nW [.ref (ad 197), .int vd] g (fun r g2 => r = (-2) ∧ g2 = g) := by
  refine Met.start (cc := cX12_under) (maxL := 4) (ret := (some .int)) RX12 rfl (by decide) rfl (Nat.le_of_ble_eq_true rfl) ?_
  intro p e s m below meth c ls X hP hl
  have hx := X.1
  have hb := X.2.1
  have hS : va_S (wA ad nW) s.heap s.heap [] := va_S.rf
  have hA : ∀ i, i < nW → wA ad nW (ad i) := fun i h => ⟨i, h, rfl⟩
  have hl : lv_has ls 4 [(0, .ref (ad 197)), (1, .int vd)] := hl
  refine lv_aload_n hx hb dX12_under_0 rfl (lv_at hl 0 rfl) ?_
  refine lv_iload_n hx hb dX12_under_1 rfl (lv_at hl 1 rfl) ?_
  refine q_calli (q := (RX12, TX12, 40)) (As := [.int vd]) (rest := []) X (m_isEave l D cs ad hj g vd h197 h198) (cwV 1 X.2.2.2.2.1 gg_X12_under_X12_isEave rfl rfl rfl (by decide +kernel) ⟨Nat.le_of_ble_eq_true rfl, Nat.le_of_ble_eq_true rfl⟩) (by decide) h197 rfl hP hA hS rfl hl.1 rfl (Nat.le_of_ble_eq_true rfl) dX12_under_2 ⟨Nat.le_of_ble_eq_true rfl, Nat.le_of_ble_eq_true rfl⟩ (fun r_3 g_2 H locs hw_1 hP hS => ?_)
  obtain ⟨hw_1a, hw_1b⟩ := hw_1
  subst hw_1a
  rw [hw_1b] at hP
  refine lv_if_ne (tgt := 11) hx hb dX12_under_5 (by decide) (fun h => absurd h (by decide)) (fun _ => ?_)
  refine lv_bipush (v := (-2)) hx hb dX12_under_8 (by decide) ?_
  exact q_iret X hP hS ⟨rfl, rfl⟩ dX12_under_10

theorem dX12_rush_0 : decode cX12_rush 0 = .ok (.aload_n 0, 1) := by decide +kernel
theorem dX12_rush_1 : decode cX12_rush 1 = .ok (.invokevirtual 261, 3) := by decide +kernel
theorem dX12_rush_4 : decode cX12_rush 4 = .ok (.ifCond .ne 6, 3) := by decide +kernel
theorem dX12_rush_7 : decode cX12_rush 7 = .ok (.bipush (-2), 2) := by decide +kernel
theorem dX12_rush_9 : decode cX12_rush 9 = .ok (.ireturn, 1) := by decide +kernel
def vX12_rush : List Cond := .code yX12_rush cX12_rush 5 (some .int) :: ([.methodLink RX12 261 yX12_isStreet, .instanceMethod yX12_isStreet, .selects RX12 yX12_isStreet yX12_isStreet, .initialized RX12, .code yX12_isStreet cX12_isStreet 1 (some .boolean), .fieldLink RX12 9 "IcicleClockModel" "world" "[I"] ++ wsX120)
theorem iX12_rush_12 : ∀ w ∈ wsX120, w ∈ vX12_rush := fun _ h => List.mem_cons_of_mem _ (List.mem_append_right _ h)
set_option maxRecDepth 20000 in
theorem gg_X12_rush_X12_isStreet : GoodIn vX12_rush (wsV RX12 261 RX12 yX12_isStreet vX12_isStreet) := goodIn_r _ [1, 2, 3, 4, 5, 6, 7, 8, 9, 10, 11, 12, 13, 14, 15, 16, 17, 18, 19, 20, 21, 22, 23, 24, 25, 26, 27, 28, 29, 30, 31, 32, 33, 34, 35, 36, 37, 38, 39, 40, 41, 42, 43, 44, 45, 46] (by decide +kernel) (by decide +kernel)
set_option maxHeartbeats 4000000 in
set_option maxRecDepth 100000 in
theorem m_rush (l : Launch) (D : va_G) (cs : Nat → ClassId) (ad : Nat → Nat) (hj : wJ ad nW) (g : Nat → va_E) (h197 : g 197 = .inr (12, [.int 0, .ref (ad 198), .ref (ad 199), .ref (ad 200), .ref (ad 201), .int 0, .ref (ad 202), .int 0, .int 0, .int 0, .int 0, .int 0, .int 0, .int (-1), .ref (ad 203), .ref (ad 204), .ref (ad 205), .int 0, .int 0, .ref (ad 206), .ref (ad 207), .ref (ad 208), .int 0, .int 0, .int 0, .int 0, .int 0, .ref (ad 209), .ref (ad 210), .ref (ad 211), .long 0, .long 0, .ref (ad 212), .ref (ad 213), .int 0, .int 0, .ref (ad 214), .ref (ad 215), .ref (ad 216), .ref (ad 217)])) (h198 : g 198 = .inl (cs 1, 118, .inl (fun _ => 0))) : cI l yX12_rush vX12_rush { frames := 1, cells := 0, slots := 0, locals := 20 } D cs ad nW [.ref (ad 197)] g (fun r g2 => r = (-2) ∧ g2 = g) := by
  refine Met.start (cc := cX12_rush) (maxL := 5) (ret := (some .int)) RX12 rfl (by decide) rfl (Nat.le_of_ble_eq_true rfl) ?_
  intro p e s m below meth c ls X hP hl
  have hx := X.1
  have hb := X.2.1
  have hS : va_S (wA ad nW) s.heap s.heap [] := va_S.rf
  have hA : ∀ i, i < nW → wA ad nW (ad i) := fun i h => ⟨i, h, rfl⟩
  have hl : lv_has ls 5 [(0, .ref (ad 197))] := hl
  refine lv_aload_n hx hb dX12_rush_0 rfl (lv_at hl 0 rfl) ?_
  refine q_calli (q := (RX12, TX12, 40)) (As := []) (rest := []) X (m_isStreet l D cs ad hj g  h197 h198) (cwV 0 X.2.2.2.2.1 gg_X12_rush_X12_isStreet rfl rfl rfl (by decide +kernel) ⟨Nat.le_of_ble_eq_true rfl, Nat.le_of_ble_eq_true rfl⟩) (by decide) h197 rfl hP hA hS rfl hl.1 rfl (Nat.le_of_ble_eq_true rfl) dX12_rush_1 ⟨Nat.le_of_ble_eq_true rfl, Nat.le_of_ble_eq_true rfl⟩ (fun r_3 g_2 H locs hw_1 hP hS => ?_)
  obtain ⟨hw_1a, hw_1b⟩ := hw_1
  subst hw_1a
  rw [hw_1b] at hP
  refine lv_if_ne (tgt := 10) hx hb dX12_rush_4 (by decide) (fun h => absurd h (by decide)) (fun _ => ?_)
  refine lv_bipush (v := (-2)) hx hb dX12_rush_7 (by decide) ?_
  exact q_iret X hP hS ⟨rfl, rfl⟩ dX12_rush_9

theorem dX12_next_0 : decode cX12_next 0 = .ok (.aload_n 0, 1) := by decide +kernel
theorem dX12_next_1 : decode cX12_next 1 = .ok (.iload_n 1, 1) := by decide +kernel
theorem dX12_next_2 : decode cX12_next 2 = .ok (.invokevirtual 212, 3) := by decide +kernel
theorem dX12_next_5 : decode cX12_next 5 = .ok (.ifCond .eq 11, 3) := by decide +kernel
theorem dX12_next_16 : decode cX12_next 16 = .ok (.bipush (-2), 2) := by decide +kernel
theorem dX12_next_18 : decode cX12_next 18 = .ok (.ireturn, 1) := by decide +kernel
def vX12_next : List Cond := .code yX12_next cX12_next 4 (some .int) :: ([.methodLink RX12 212 yX12_isEave, .instanceMethod yX12_isEave, .selects RX12 yX12_isEave yX12_isEave, .initialized RX12, .code yX12_isEave cX12_isEave 2 (some .boolean), .fieldLink RX12 9 "IcicleClockModel" "world" "[I", .methodLink RX12 82 yX12_in, .static yX12_in, .code yX12_in cX12_in 6 (some .boolean)] ++ wsX120)
theorem iX12_next_12 : ∀ w ∈ wsX120, w ∈ vX12_next := fun _ h => List.mem_cons_of_mem _ (List.mem_append_right _ h)
set_option maxRecDepth 20000 in
theorem gg_X12_next_X12_isEave : GoodIn vX12_next (wsV RX12 212 RX12 yX12_isEave vX12_isEave) := goodIn_r _ [1, 2, 3, 4, 5, 6, 7, 8, 4, 9, 10, 11, 12, 13, 14, 15, 16, 17, 18, 19, 20, 21, 22, 23, 24, 25, 26, 27, 28, 29, 30, 31, 32, 33, 34, 35, 36, 37, 38, 39, 40, 41, 42, 43, 44, 45, 46, 47, 48, 49] (by decide +kernel) (by decide +kernel)
set_option maxHeartbeats 4000000 in
set_option maxRecDepth 100000 in
theorem m_next (l : Launch) (D : va_G) (cs : Nat → ClassId) (ad : Nat → Nat) (hj : wJ ad nW) (g : Nat → va_E) (va : Int32) (vd : Int32) (h197 : g 197 = .inr (12, [.int 0, .ref (ad 198), .ref (ad 199), .ref (ad 200), .ref (ad 201), .int 0, .ref (ad 202), .int 0, .int 0, .int 0, .int 0, .int 0, .int 0, .int (-1), .ref (ad 203), .ref (ad 204), .ref (ad 205), .int 0, .int 0, .ref (ad 206), .ref (ad 207), .ref (ad 208), .int 0, .int 0, .int 0, .int 0, .int 0, .ref (ad 209), .ref (ad 210), .ref (ad 211), .long 0, .long 0, .ref (ad 212), .ref (ad 213), .int 0, .int 0, .ref (ad 214), .ref (ad 215), .ref (ad 216), .ref (ad 217)])) (h198 : g 198 = .inl (cs 1, 118, .inl (fun _ => 0))) : cI l yX12_next vX12_next { frames := 2, cells := 0, slots := 0, locals := 46 } D cs ad nW [.ref (ad 197), .int va, .int vd] g (fun r g2 => r = (-2) ∧ g2 = g) := by
  refine Met.start (cc := cX12_next) (maxL := 4) (ret := (some .int)) RX12 rfl (by decide) rfl (Nat.le_of_ble_eq_true rfl) ?_
  intro p e s m below meth c ls X hP hl
  have hx := X.1
  have hb := X.2.1
  have hS : va_S (wA ad nW) s.heap s.heap [] := va_S.rf
  have hA : ∀ i, i < nW → wA ad nW (ad i) := fun i h => ⟨i, h, rfl⟩
  have hl : lv_has ls 4 [(0, .ref (ad 197)), (1, .int va), (2, .int vd)] := hl
  refine lv_aload_n hx hb dX12_next_0 rfl (lv_at hl 0 rfl) ?_
  refine lv_iload_n hx hb dX12_next_1 rfl (lv_at hl 1 rfl) ?_
  refine q_calli (q := (RX12, TX12, 40)) (As := [.int va]) (rest := []) X (m_isEave l D cs ad hj g va h197 h198) (cwV 1 X.2.2.2.2.1 gg_X12_next_X12_isEave rfl rfl rfl (by decide +kernel) ⟨Nat.le_of_ble_eq_true rfl, Nat.le_of_ble_eq_true rfl⟩) (by decide) h197 rfl hP hA hS rfl hl.1 rfl (Nat.le_of_ble_eq_true rfl) dX12_next_2 ⟨Nat.le_of_ble_eq_true rfl, Nat.le_of_ble_eq_true rfl⟩ (fun r_3 g_2 H locs hw_1 hP hS => ?_)
  obtain ⟨hw_1a, hw_1b⟩ := hw_1
  subst hw_1a
  rw [hw_1b] at hP
  refine lv_if_eq (tgt := 16) hx hb dX12_next_5 (by decide) (fun _ => ?_) (fun h => absurd h (by decide))
  refine lv_bipush (v := (-2)) hx hb dX12_next_16 (by decide) ?_
  exact q_iret X hP hS ⟨rfl, rfl⟩ dX12_next_18

theorem dX12_barest_0 : decode cX12_barest 0 = .ok (.aload_n 0, 1) := by decide +kernel
theorem dX12_barest_1 : decode cX12_barest 1 = .ok (.invokevirtual 261, 3) := by decide +kernel
theorem dX12_barest_4 : decode cX12_barest 4 = .ok (.ifCond .ne 6, 3) := by decide +kernel
theorem dX12_barest_7 : decode cX12_barest 7 = .ok (.bipush (-2), 2) := by decide +kernel
theorem dX12_barest_9 : decode cX12_barest 9 = .ok (.ireturn, 1) := by decide +kernel
def vX12_barest : List Cond := .code yX12_barest cX12_barest 6 (some .int) :: ([.methodLink RX12 261 yX12_isStreet, .instanceMethod yX12_isStreet, .selects RX12 yX12_isStreet yX12_isStreet, .initialized RX12, .code yX12_isStreet cX12_isStreet 1 (some .boolean), .fieldLink RX12 9 "IcicleClockModel" "world" "[I"] ++ wsX120)
theorem iX12_barest_12 : ∀ w ∈ wsX120, w ∈ vX12_barest := fun _ h => List.mem_cons_of_mem _ (List.mem_append_right _ h)
set_option maxRecDepth 20000 in
theorem gg_X12_barest_X12_isStreet : GoodIn vX12_barest (wsV RX12 261 RX12 yX12_isStreet vX12_isStreet) := goodIn_r _ [1, 2, 3, 4, 5, 6, 7, 8, 9, 10, 11, 12, 13, 14, 15, 16, 17, 18, 19, 20, 21, 22, 23, 24, 25, 26, 27, 28, 29, 30, 31, 32, 33, 34, 35, 36, 37, 38, 39, 40, 41, 42, 43, 44, 45, 46] (by decide +kernel) (by decide +kernel)
set_option maxHeartbeats 4000000 in
set_option maxRecDepth 100000 in
theorem m_barest (l : Launch) (D : va_G) (cs : Nat → ClassId) (ad : Nat → Nat) (hj : wJ ad nW) (g : Nat → va_E) (h197 : g 197 = .inr (12, [.int 0, .ref (ad 198), .ref (ad 199), .ref (ad 200), .ref (ad 201), .int 0, .ref (ad 202), .int 0, .int 0, .int 0, .int 0, .int 0, .int 0, .int (-1), .ref (ad 203), .ref (ad 204), .ref (ad 205), .int 0, .int 0, .ref (ad 206), .ref (ad 207), .ref (ad 208), .int 0, .int 0, .int 0, .int 0, .int 0, .ref (ad 209), .ref (ad 210), .ref (ad 211), .long 0, .long 0, .ref (ad 212), .ref (ad 213), .int 0, .int 0, .ref (ad 214), .ref (ad 215), .ref (ad 216), .ref (ad 217)])) (h198 : g 198 = .inl (cs 1, 118, .inl (fun _ => 0))) : cI l yX12_barest vX12_barest { frames := 1, cells := 0, slots := 0, locals := 20 } D cs ad nW [.ref (ad 197)] g (fun r g2 => r = (-2) ∧ g2 = g) := by
  refine Met.start (cc := cX12_barest) (maxL := 6) (ret := (some .int)) RX12 rfl (by decide) rfl (Nat.le_of_ble_eq_true rfl) ?_
  intro p e s m below meth c ls X hP hl
  have hx := X.1
  have hb := X.2.1
  have hS : va_S (wA ad nW) s.heap s.heap [] := va_S.rf
  have hA : ∀ i, i < nW → wA ad nW (ad i) := fun i h => ⟨i, h, rfl⟩
  have hl : lv_has ls 6 [(0, .ref (ad 197))] := hl
  refine lv_aload_n hx hb dX12_barest_0 rfl (lv_at hl 0 rfl) ?_
  refine q_calli (q := (RX12, TX12, 40)) (As := []) (rest := []) X (m_isStreet l D cs ad hj g  h197 h198) (cwV 0 X.2.2.2.2.1 gg_X12_barest_X12_isStreet rfl rfl rfl (by decide +kernel) ⟨Nat.le_of_ble_eq_true rfl, Nat.le_of_ble_eq_true rfl⟩) (by decide) h197 rfl hP hA hS rfl hl.1 rfl (Nat.le_of_ble_eq_true rfl) dX12_barest_1 ⟨Nat.le_of_ble_eq_true rfl, Nat.le_of_ble_eq_true rfl⟩ (fun r_3 g_2 H locs hw_1 hP hS => ?_)
  obtain ⟨hw_1a, hw_1b⟩ := hw_1
  subst hw_1a
  rw [hw_1b] at hP
  refine lv_if_ne (tgt := 10) hx hb dX12_barest_4 (by decide) (fun h => absurd h (by decide)) (fun _ => ?_)
  refine lv_bipush (v := (-2)) hx hb dX12_barest_7 (by decide) ?_
  exact q_iret X hP hS ⟨rfl, rfl⟩ dX12_barest_9

theorem dX12_time_0 : decode cX12_time 0 = .ok (.aload_n 0, 1) := by decide +kernel
theorem dX12_time_1 : decode cX12_time 1 = .ok (.iload_n 1, 1) := by decide +kernel
theorem dX12_time_2 : decode cX12_time 2 = .ok (.invokevirtual 212, 3) := by decide +kernel
theorem dX12_time_5 : decode cX12_time 5 = .ok (.ifCond .eq 11, 3) := by decide +kernel
theorem dX12_time_16 : decode cX12_time 16 = .ok (.bipush (-2), 2) := by decide +kernel
theorem dX12_time_18 : decode cX12_time 18 = .ok (.ireturn, 1) := by decide +kernel
def vX12_time : List Cond := .code yX12_time cX12_time 3 (some .int) :: ([.methodLink RX12 212 yX12_isEave, .instanceMethod yX12_isEave, .selects RX12 yX12_isEave yX12_isEave, .initialized RX12, .code yX12_isEave cX12_isEave 2 (some .boolean), .fieldLink RX12 9 "IcicleClockModel" "world" "[I", .methodLink RX12 82 yX12_in, .static yX12_in, .code yX12_in cX12_in 6 (some .boolean)] ++ wsX120)
theorem iX12_time_12 : ∀ w ∈ wsX120, w ∈ vX12_time := fun _ h => List.mem_cons_of_mem _ (List.mem_append_right _ h)
set_option maxRecDepth 20000 in
theorem gg_X12_time_X12_isEave : GoodIn vX12_time (wsV RX12 212 RX12 yX12_isEave vX12_isEave) := goodIn_r _ [1, 2, 3, 4, 5, 6, 7, 8, 4, 9, 10, 11, 12, 13, 14, 15, 16, 17, 18, 19, 20, 21, 22, 23, 24, 25, 26, 27, 28, 29, 30, 31, 32, 33, 34, 35, 36, 37, 38, 39, 40, 41, 42, 43, 44, 45, 46, 47, 48, 49] (by decide +kernel) (by decide +kernel)
set_option maxHeartbeats 4000000 in
set_option maxRecDepth 100000 in
theorem m_time (l : Launch) (D : va_G) (cs : Nat → ClassId) (ad : Nat → Nat) (hj : wJ ad nW) (g : Nat → va_E) (va : Int32) (vd : Int32) (h197 : g 197 = .inr (12, [.int 0, .ref (ad 198), .ref (ad 199), .ref (ad 200), .ref (ad 201), .int 0, .ref (ad 202), .int 0, .int 0, .int 0, .int 0, .int 0, .int 0, .int (-1), .ref (ad 203), .ref (ad 204), .ref (ad 205), .int 0, .int 0, .ref (ad 206), .ref (ad 207), .ref (ad 208), .int 0, .int 0, .int 0, .int 0, .int 0, .ref (ad 209), .ref (ad 210), .ref (ad 211), .long 0, .long 0, .ref (ad 212), .ref (ad 213), .int 0, .int 0, .ref (ad 214), .ref (ad 215), .ref (ad 216), .ref (ad 217)])) (h198 : g 198 = .inl (cs 1, 118, .inl (fun _ => 0))) : cI l yX12_time vX12_time { frames := 2, cells := 0, slots := 0, locals := 46 } D cs ad nW [.ref (ad 197), .int va, .int vd] g (fun r g2 => r = (-2) ∧ g2 = g) := by
  refine Met.start (cc := cX12_time) (maxL := 3) (ret := (some .int)) RX12 rfl (by decide) rfl (Nat.le_of_ble_eq_true rfl) ?_
  intro p e s m below meth c ls X hP hl
  have hx := X.1
  have hb := X.2.1
  have hS : va_S (wA ad nW) s.heap s.heap [] := va_S.rf
  have hA : ∀ i, i < nW → wA ad nW (ad i) := fun i h => ⟨i, h, rfl⟩
  have hl : lv_has ls 3 [(0, .ref (ad 197)), (1, .int va), (2, .int vd)] := hl
  refine lv_aload_n hx hb dX12_time_0 rfl (lv_at hl 0 rfl) ?_
  refine lv_iload_n hx hb dX12_time_1 rfl (lv_at hl 1 rfl) ?_
  refine q_calli (q := (RX12, TX12, 40)) (As := [.int va]) (rest := []) X (m_isEave l D cs ad hj g va h197 h198) (cwV 1 X.2.2.2.2.1 gg_X12_time_X12_isEave rfl rfl rfl (by decide +kernel) ⟨Nat.le_of_ble_eq_true rfl, Nat.le_of_ble_eq_true rfl⟩) (by decide) h197 rfl hP hA hS rfl hl.1 rfl (Nat.le_of_ble_eq_true rfl) dX12_time_2 ⟨Nat.le_of_ble_eq_true rfl, Nat.le_of_ble_eq_true rfl⟩ (fun r_3 g_2 H locs hw_1 hP hS => ?_)
  obtain ⟨hw_1a, hw_1b⟩ := hw_1
  subst hw_1a
  rw [hw_1b] at hP
  refine lv_if_eq (tgt := 16) hx hb dX12_time_5 (by decide) (fun _ => ?_) (fun h => absurd h (by decide))
  refine lv_bipush (v := (-2)) hx hb dX12_time_16 (by decide) ?_
  exact q_iret X hP hS ⟨rfl, rfl⟩ dX12_time_18

theorem dX12_hour_0 : decode cX12_hour 0 = .ok (.aload_n 0, 1) := by decide +kernel
theorem dX12_hour_1 : decode cX12_hour 1 = .ok (.iload_n 1, 1) := by decide +kernel
theorem dX12_hour_2 : decode cX12_hour 2 = .ok (.invokevirtual 205, 3) := by decide +kernel
theorem dX12_hour_5 : decode cX12_hour 5 = .ok (.ifCond .ne 6, 3) := by decide +kernel
theorem dX12_hour_8 : decode cX12_hour 8 = .ok (.bipush (-2), 2) := by decide +kernel
theorem dX12_hour_10 : decode cX12_hour 10 = .ok (.ireturn, 1) := by decide +kernel
def vX12_hour : List Cond := .code yX12_hour cX12_hour 2 (some .int) :: ([.methodLink RX12 205 yX12_isDay, .instanceMethod yX12_isDay, .selects RX12 yX12_isDay yX12_isDay, .initialized RX12, .code yX12_isDay cX12_isDay 2 (some .boolean), .fieldLink RX12 9 "IcicleClockModel" "world" "[I", .methodLink RX12 82 yX12_in, .static yX12_in, .code yX12_in cX12_in 6 (some .boolean)] ++ wsX120)
theorem iX12_hour_12 : ∀ w ∈ wsX120, w ∈ vX12_hour := fun _ h => List.mem_cons_of_mem _ (List.mem_append_right _ h)
set_option maxRecDepth 20000 in
theorem gg_X12_hour_X12_isDay : GoodIn vX12_hour (wsV RX12 205 RX12 yX12_isDay vX12_isDay) := goodIn_r _ [1, 2, 3, 4, 5, 6, 7, 8, 4, 9, 10, 11, 12, 13, 14, 15, 16, 17, 18, 19, 20, 21, 22, 23, 24, 25, 26, 27, 28, 29, 30, 31, 32, 33, 34, 35, 36, 37, 38, 39, 40, 41, 42, 43, 44, 45, 46, 47, 48, 49] (by decide +kernel) (by decide +kernel)
set_option maxHeartbeats 4000000 in
set_option maxRecDepth 100000 in
theorem m_hour (l : Launch) (D : va_G) (cs : Nat → ClassId) (ad : Nat → Nat) (hj : wJ ad nW) (g : Nat → va_E) (vd : Int32) (h197 : g 197 = .inr (12, [.int 0, .ref (ad 198), .ref (ad 199), .ref (ad 200), .ref (ad 201), .int 0, .ref (ad 202), .int 0, .int 0, .int 0, .int 0, .int 0, .int 0, .int (-1), .ref (ad 203), .ref (ad 204), .ref (ad 205), .int 0, .int 0, .ref (ad 206), .ref (ad 207), .ref (ad 208), .int 0, .int 0, .int 0, .int 0, .int 0, .ref (ad 209), .ref (ad 210), .ref (ad 211), .long 0, .long 0, .ref (ad 212), .ref (ad 213), .int 0, .int 0, .ref (ad 214), .ref (ad 215), .ref (ad 216), .ref (ad 217)])) (h198 : g 198 = .inl (cs 1, 118, .inl (fun _ => 0))) : cI l yX12_hour vX12_hour { frames := 2, cells := 0, slots := 0, locals := 46 } D cs ad nW [.ref (ad 197), .int vd] g (fun r g2 => r = (-2) ∧ g2 = g) := by
  refine Met.start (cc := cX12_hour) (maxL := 2) (ret := (some .int)) RX12 rfl (by decide) rfl (Nat.le_of_ble_eq_true rfl) ?_
  intro p e s m below meth c ls X hP hl
  have hx := X.1
  have hb := X.2.1
  have hS : va_S (wA ad nW) s.heap s.heap [] := va_S.rf
  have hA : ∀ i, i < nW → wA ad nW (ad i) := fun i h => ⟨i, h, rfl⟩
  have hl : lv_has ls 2 [(0, .ref (ad 197)), (1, .int vd)] := hl
  refine lv_aload_n hx hb dX12_hour_0 rfl (lv_at hl 0 rfl) ?_
  refine lv_iload_n hx hb dX12_hour_1 rfl (lv_at hl 1 rfl) ?_
  refine q_calli (q := (RX12, TX12, 40)) (As := [.int vd]) (rest := []) X (m_isDay l D cs ad hj g vd h197 h198) (cwV 1 X.2.2.2.2.1 gg_X12_hour_X12_isDay rfl rfl rfl (by decide +kernel) ⟨Nat.le_of_ble_eq_true rfl, Nat.le_of_ble_eq_true rfl⟩) (by decide) h197 rfl hP hA hS rfl hl.1 rfl (Nat.le_of_ble_eq_true rfl) dX12_hour_2 ⟨Nat.le_of_ble_eq_true rfl, Nat.le_of_ble_eq_true rfl⟩ (fun r_3 g_2 H locs hw_1 hP hS => ?_)
  obtain ⟨hw_1a, hw_1b⟩ := hw_1
  subst hw_1a
  rw [hw_1b] at hP
  refine lv_if_ne (tgt := 11) hx hb dX12_hour_5 (by decide) (fun h => absurd h (by decide)) (fun _ => ?_)
  refine lv_bipush (v := (-2)) hx hb dX12_hour_8 (by decide) ?_
  exact q_iret X hP hS ⟨rfl, rfl⟩ dX12_hour_10

theorem dX12_meet_0 : decode cX12_meet 0 = .ok (.aload_n 0, 1) := by decide +kernel
theorem dX12_meet_1 : decode cX12_meet 1 = .ok (.iload_n 1, 1) := by decide +kernel
theorem dX12_meet_2 : decode cX12_meet 2 = .ok (.invokevirtual 212, 3) := by decide +kernel
theorem dX12_meet_5 : decode cX12_meet 5 = .ok (.ifCond .eq 11, 3) := by decide +kernel
theorem dX12_meet_16 : decode cX12_meet 16 = .ok (.bipush (-2), 2) := by decide +kernel
theorem dX12_meet_18 : decode cX12_meet 18 = .ok (.ireturn, 1) := by decide +kernel
def vX12_meet : List Cond := .code yX12_meet cX12_meet 3 (some .int) :: ([.methodLink RX12 212 yX12_isEave, .instanceMethod yX12_isEave, .selects RX12 yX12_isEave yX12_isEave, .initialized RX12, .code yX12_isEave cX12_isEave 2 (some .boolean), .fieldLink RX12 9 "IcicleClockModel" "world" "[I", .methodLink RX12 82 yX12_in, .static yX12_in, .code yX12_in cX12_in 6 (some .boolean)] ++ wsX120)
theorem iX12_meet_12 : ∀ w ∈ wsX120, w ∈ vX12_meet := fun _ h => List.mem_cons_of_mem _ (List.mem_append_right _ h)
set_option maxRecDepth 20000 in
theorem gg_X12_meet_X12_isEave : GoodIn vX12_meet (wsV RX12 212 RX12 yX12_isEave vX12_isEave) := goodIn_r _ [1, 2, 3, 4, 5, 6, 7, 8, 4, 9, 10, 11, 12, 13, 14, 15, 16, 17, 18, 19, 20, 21, 22, 23, 24, 25, 26, 27, 28, 29, 30, 31, 32, 33, 34, 35, 36, 37, 38, 39, 40, 41, 42, 43, 44, 45, 46, 47, 48, 49] (by decide +kernel) (by decide +kernel)
set_option maxHeartbeats 4000000 in
set_option maxRecDepth 100000 in
theorem m_meet (l : Launch) (D : va_G) (cs : Nat → ClassId) (ad : Nat → Nat) (hj : wJ ad nW) (g : Nat → va_E) (va : Int32) (vb : Int32) (h197 : g 197 = .inr (12, [.int 0, .ref (ad 198), .ref (ad 199), .ref (ad 200), .ref (ad 201), .int 0, .ref (ad 202), .int 0, .int 0, .int 0, .int 0, .int 0, .int 0, .int (-1), .ref (ad 203), .ref (ad 204), .ref (ad 205), .int 0, .int 0, .ref (ad 206), .ref (ad 207), .ref (ad 208), .int 0, .int 0, .int 0, .int 0, .int 0, .ref (ad 209), .ref (ad 210), .ref (ad 211), .long 0, .long 0, .ref (ad 212), .ref (ad 213), .int 0, .int 0, .ref (ad 214), .ref (ad 215), .ref (ad 216), .ref (ad 217)])) (h198 : g 198 = .inl (cs 1, 118, .inl (fun _ => 0))) : cI l yX12_meet vX12_meet { frames := 2, cells := 0, slots := 0, locals := 46 } D cs ad nW [.ref (ad 197), .int va, .int vb] g (fun r g2 => r = (-2) ∧ g2 = g) := by
  refine Met.start (cc := cX12_meet) (maxL := 3) (ret := (some .int)) RX12 rfl (by decide) rfl (Nat.le_of_ble_eq_true rfl) ?_
  intro p e s m below meth c ls X hP hl
  have hx := X.1
  have hb := X.2.1
  have hS : va_S (wA ad nW) s.heap s.heap [] := va_S.rf
  have hA : ∀ i, i < nW → wA ad nW (ad i) := fun i h => ⟨i, h, rfl⟩
  have hl : lv_has ls 3 [(0, .ref (ad 197)), (1, .int va), (2, .int vb)] := hl
  refine lv_aload_n hx hb dX12_meet_0 rfl (lv_at hl 0 rfl) ?_
  refine lv_iload_n hx hb dX12_meet_1 rfl (lv_at hl 1 rfl) ?_
  refine q_calli (q := (RX12, TX12, 40)) (As := [.int va]) (rest := []) X (m_isEave l D cs ad hj g va h197 h198) (cwV 1 X.2.2.2.2.1 gg_X12_meet_X12_isEave rfl rfl rfl (by decide +kernel) ⟨Nat.le_of_ble_eq_true rfl, Nat.le_of_ble_eq_true rfl⟩) (by decide) h197 rfl hP hA hS rfl hl.1 rfl (Nat.le_of_ble_eq_true rfl) dX12_meet_2 ⟨Nat.le_of_ble_eq_true rfl, Nat.le_of_ble_eq_true rfl⟩ (fun r_3 g_2 H locs hw_1 hP hS => ?_)
  obtain ⟨hw_1a, hw_1b⟩ := hw_1
  subst hw_1a
  rw [hw_1b] at hP
  refine lv_if_eq (tgt := 16) hx hb dX12_meet_5 (by decide) (fun _ => ?_) (fun h => absurd h (by decide))
  refine lv_bipush (v := (-2)) hx hb dX12_meet_16 (by decide) ?_
  exact q_iret X hP hS ⟨rfl, rfl⟩ dX12_meet_18

theorem dX12_apart_0 : decode cX12_apart 0 = .ok (.aload_n 0, 1) := by decide +kernel
theorem dX12_apart_1 : decode cX12_apart 1 = .ok (.iload_n 1, 1) := by decide +kernel
theorem dX12_apart_2 : decode cX12_apart 2 = .ok (.invokevirtual 212, 3) := by decide +kernel
theorem dX12_apart_5 : decode cX12_apart 5 = .ok (.ifCond .eq 11, 3) := by decide +kernel
theorem dX12_apart_16 : decode cX12_apart 16 = .ok (.bipush (-2), 2) := by decide +kernel
theorem dX12_apart_18 : decode cX12_apart 18 = .ok (.ireturn, 1) := by decide +kernel
def vX12_apart : List Cond := .code yX12_apart cX12_apart 8 (some .int) :: ([.methodLink RX12 212 yX12_isEave, .instanceMethod yX12_isEave, .selects RX12 yX12_isEave yX12_isEave, .initialized RX12, .code yX12_isEave cX12_isEave 2 (some .boolean), .fieldLink RX12 9 "IcicleClockModel" "world" "[I", .methodLink RX12 82 yX12_in, .static yX12_in, .code yX12_in cX12_in 6 (some .boolean)] ++ wsX120)
theorem iX12_apart_12 : ∀ w ∈ wsX120, w ∈ vX12_apart := fun _ h => List.mem_cons_of_mem _ (List.mem_append_right _ h)
set_option maxRecDepth 20000 in
theorem gg_X12_apart_X12_isEave : GoodIn vX12_apart (wsV RX12 212 RX12 yX12_isEave vX12_isEave) := goodIn_r _ [1, 2, 3, 4, 5, 6, 7, 8, 4, 9, 10, 11, 12, 13, 14, 15, 16, 17, 18, 19, 20, 21, 22, 23, 24, 25, 26, 27, 28, 29, 30, 31, 32, 33, 34, 35, 36, 37, 38, 39, 40, 41, 42, 43, 44, 45, 46, 47, 48, 49] (by decide +kernel) (by decide +kernel)
set_option maxHeartbeats 4000000 in
set_option maxRecDepth 100000 in
theorem m_apart (l : Launch) (D : va_G) (cs : Nat → ClassId) (ad : Nat → Nat) (hj : wJ ad nW) (g : Nat → va_E) (va : Int32) (vb : Int32) (h197 : g 197 = .inr (12, [.int 0, .ref (ad 198), .ref (ad 199), .ref (ad 200), .ref (ad 201), .int 0, .ref (ad 202), .int 0, .int 0, .int 0, .int 0, .int 0, .int 0, .int (-1), .ref (ad 203), .ref (ad 204), .ref (ad 205), .int 0, .int 0, .ref (ad 206), .ref (ad 207), .ref (ad 208), .int 0, .int 0, .int 0, .int 0, .int 0, .ref (ad 209), .ref (ad 210), .ref (ad 211), .long 0, .long 0, .ref (ad 212), .ref (ad 213), .int 0, .int 0, .ref (ad 214), .ref (ad 215), .ref (ad 216), .ref (ad 217)])) (h198 : g 198 = .inl (cs 1, 118, .inl (fun _ => 0))) : cI l yX12_apart vX12_apart { frames := 2, cells := 0, slots := 0, locals := 46 } D cs ad nW [.ref (ad 197), .int va, .int vb] g (fun r g2 => r = (-2) ∧ g2 = g) := by
  refine Met.start (cc := cX12_apart) (maxL := 8) (ret := (some .int)) RX12 rfl (by decide) rfl (Nat.le_of_ble_eq_true rfl) ?_
  intro p e s m below meth c ls X hP hl
  have hx := X.1
  have hb := X.2.1
  have hS : va_S (wA ad nW) s.heap s.heap [] := va_S.rf
  have hA : ∀ i, i < nW → wA ad nW (ad i) := fun i h => ⟨i, h, rfl⟩
  have hl : lv_has ls 8 [(0, .ref (ad 197)), (1, .int va), (2, .int vb)] := hl
  refine lv_aload_n hx hb dX12_apart_0 rfl (lv_at hl 0 rfl) ?_
  refine lv_iload_n hx hb dX12_apart_1 rfl (lv_at hl 1 rfl) ?_
  refine q_calli (q := (RX12, TX12, 40)) (As := [.int va]) (rest := []) X (m_isEave l D cs ad hj g va h197 h198) (cwV 1 X.2.2.2.2.1 gg_X12_apart_X12_isEave rfl rfl rfl (by decide +kernel) ⟨Nat.le_of_ble_eq_true rfl, Nat.le_of_ble_eq_true rfl⟩) (by decide) h197 rfl hP hA hS rfl hl.1 rfl (Nat.le_of_ble_eq_true rfl) dX12_apart_2 ⟨Nat.le_of_ble_eq_true rfl, Nat.le_of_ble_eq_true rfl⟩ (fun r_3 g_2 H locs hw_1 hP hS => ?_)
  obtain ⟨hw_1a, hw_1b⟩ := hw_1
  subst hw_1a
  rw [hw_1b] at hP
  refine lv_if_eq (tgt := 16) hx hb dX12_apart_5 (by decide) (fun _ => ?_) (fun h => absurd h (by decide))
  refine lv_bipush (v := (-2)) hx hb dX12_apart_16 (by decide) ?_
  exact q_iret X hP hS ⟨rfl, rfl⟩ dX12_apart_18

theorem dX12_tells_0 : decode cX12_tells 0 = .ok (.aload_n 0, 1) := by decide +kernel
theorem dX12_tells_1 : decode cX12_tells 1 = .ok (.invokevirtual 261, 3) := by decide +kernel
theorem dX12_tells_4 : decode cX12_tells 4 = .ok (.ifCond .eq 15, 3) := by decide +kernel
theorem dX12_tells_19 : decode cX12_tells 19 = .ok (.bipush (-2), 2) := by decide +kernel
theorem dX12_tells_21 : decode cX12_tells 21 = .ok (.ireturn, 1) := by decide +kernel
def vX12_tells : List Cond := .code yX12_tells cX12_tells 4 (some .int) :: ([.methodLink RX12 261 yX12_isStreet, .instanceMethod yX12_isStreet, .selects RX12 yX12_isStreet yX12_isStreet, .initialized RX12, .code yX12_isStreet cX12_isStreet 1 (some .boolean), .fieldLink RX12 9 "IcicleClockModel" "world" "[I"] ++ wsX120)
theorem iX12_tells_12 : ∀ w ∈ wsX120, w ∈ vX12_tells := fun _ h => List.mem_cons_of_mem _ (List.mem_append_right _ h)
set_option maxRecDepth 20000 in
theorem gg_X12_tells_X12_isStreet : GoodIn vX12_tells (wsV RX12 261 RX12 yX12_isStreet vX12_isStreet) := goodIn_r _ [1, 2, 3, 4, 5, 6, 7, 8, 9, 10, 11, 12, 13, 14, 15, 16, 17, 18, 19, 20, 21, 22, 23, 24, 25, 26, 27, 28, 29, 30, 31, 32, 33, 34, 35, 36, 37, 38, 39, 40, 41, 42, 43, 44, 45, 46] (by decide +kernel) (by decide +kernel)
set_option maxHeartbeats 4000000 in
set_option maxRecDepth 100000 in
theorem m_tells (l : Launch) (D : va_G) (cs : Nat → ClassId) (ad : Nat → Nat) (hj : wJ ad nW) (g : Nat → va_E) (vh : Int32) (h197 : g 197 = .inr (12, [.int 0, .ref (ad 198), .ref (ad 199), .ref (ad 200), .ref (ad 201), .int 0, .ref (ad 202), .int 0, .int 0, .int 0, .int 0, .int 0, .int 0, .int (-1), .ref (ad 203), .ref (ad 204), .ref (ad 205), .int 0, .int 0, .ref (ad 206), .ref (ad 207), .ref (ad 208), .int 0, .int 0, .int 0, .int 0, .int 0, .ref (ad 209), .ref (ad 210), .ref (ad 211), .long 0, .long 0, .ref (ad 212), .ref (ad 213), .int 0, .int 0, .ref (ad 214), .ref (ad 215), .ref (ad 216), .ref (ad 217)])) (h198 : g 198 = .inl (cs 1, 118, .inl (fun _ => 0))) : cI l yX12_tells vX12_tells { frames := 1, cells := 0, slots := 0, locals := 20 } D cs ad nW [.ref (ad 197), .int vh] g (fun r g2 => r = (-2) ∧ g2 = g) := by
  refine Met.start (cc := cX12_tells) (maxL := 4) (ret := (some .int)) RX12 rfl (by decide) rfl (Nat.le_of_ble_eq_true rfl) ?_
  intro p e s m below meth c ls X hP hl
  have hx := X.1
  have hb := X.2.1
  have hS : va_S (wA ad nW) s.heap s.heap [] := va_S.rf
  have hA : ∀ i, i < nW → wA ad nW (ad i) := fun i h => ⟨i, h, rfl⟩
  have hl : lv_has ls 4 [(0, .ref (ad 197)), (1, .int vh)] := hl
  refine lv_aload_n hx hb dX12_tells_0 rfl (lv_at hl 0 rfl) ?_
  refine q_calli (q := (RX12, TX12, 40)) (As := []) (rest := []) X (m_isStreet l D cs ad hj g  h197 h198) (cwV 0 X.2.2.2.2.1 gg_X12_tells_X12_isStreet rfl rfl rfl (by decide +kernel) ⟨Nat.le_of_ble_eq_true rfl, Nat.le_of_ble_eq_true rfl⟩) (by decide) h197 rfl hP hA hS rfl hl.1 rfl (Nat.le_of_ble_eq_true rfl) dX12_tells_1 ⟨Nat.le_of_ble_eq_true rfl, Nat.le_of_ble_eq_true rfl⟩ (fun r_3 g_2 H locs hw_1 hP hS => ?_)
  obtain ⟨hw_1a, hw_1b⟩ := hw_1
  subst hw_1a
  rw [hw_1b] at hP
  refine lv_if_eq (tgt := 19) hx hb dX12_tells_4 (by decide) (fun _ => ?_) (fun h => absurd h (by decide))
  refine lv_bipush (v := (-2)) hx hb dX12_tells_19 (by decide) ?_
  exact q_iret X hP hS ⟨rfl, rfl⟩ dX12_tells_21

theorem dX12_late_0 : decode cX12_late 0 = .ok (.aload_n 0, 1) := by decide +kernel
theorem dX12_late_1 : decode cX12_late 1 = .ok (.iload_n 1, 1) := by decide +kernel
theorem dX12_late_2 : decode cX12_late 2 = .ok (.invokevirtual 228, 3) := by decide +kernel
theorem dX12_late_5 : decode cX12_late 5 = .ok (.ifCond .ne 7, 3) := by decide +kernel
theorem dX12_late_8 : decode cX12_late 8 = .ok (.sipush (-1000), 3) := by decide +kernel
theorem dX12_late_11 : decode cX12_late 11 = .ok (.ireturn, 1) := by decide +kernel
def vX12_late : List Cond := .code yX12_late cX12_late 2 (some .int) :: ([.methodLink RX12 228 yX12_isWork, .instanceMethod yX12_isWork, .selects RX12 yX12_isWork yX12_isWork, .initialized RX12, .code yX12_isWork cX12_isWork 2 (some .boolean), .fieldLink RX12 9 "IcicleClockModel" "world" "[I", .methodLink RX12 82 yX12_in, .static yX12_in, .code yX12_in cX12_in 6 (some .boolean)] ++ wsX120)
theorem iX12_late_12 : ∀ w ∈ wsX120, w ∈ vX12_late := fun _ h => List.mem_cons_of_mem _ (List.mem_append_right _ h)
set_option maxRecDepth 20000 in
theorem gg_X12_late_X12_isWork : GoodIn vX12_late (wsV RX12 228 RX12 yX12_isWork vX12_isWork) := goodIn_r _ [1, 2, 3, 4, 5, 6, 7, 8, 4, 9, 10, 11, 12, 13, 14, 15, 16, 17, 18, 19, 20, 21, 22, 23, 24, 25, 26, 27, 28, 29, 30, 31, 32, 33, 34, 35, 36, 37, 38, 39, 40, 41, 42, 43, 44, 45, 46, 47, 48, 49] (by decide +kernel) (by decide +kernel)
set_option maxHeartbeats 4000000 in
set_option maxRecDepth 100000 in
theorem m_late (l : Launch) (D : va_G) (cs : Nat → ClassId) (ad : Nat → Nat) (hj : wJ ad nW) (g : Nat → va_E) (vw : Int32) (h197 : g 197 = .inr (12, [.int 0, .ref (ad 198), .ref (ad 199), .ref (ad 200), .ref (ad 201), .int 0, .ref (ad 202), .int 0, .int 0, .int 0, .int 0, .int 0, .int 0, .int (-1), .ref (ad 203), .ref (ad 204), .ref (ad 205), .int 0, .int 0, .ref (ad 206), .ref (ad 207), .ref (ad 208), .int 0, .int 0, .int 0, .int 0, .int 0, .ref (ad 209), .ref (ad 210), .ref (ad 211), .long 0, .long 0, .ref (ad 212), .ref (ad 213), .int 0, .int 0, .ref (ad 214), .ref (ad 215), .ref (ad 216), .ref (ad 217)])) (h198 : g 198 = .inl (cs 1, 118, .inl (fun _ => 0))) : cI l yX12_late vX12_late { frames := 2, cells := 0, slots := 0, locals := 46 } D cs ad nW [.ref (ad 197), .int vw] g (fun r g2 => r = (-1000) ∧ g2 = g) := by
  refine Met.start (cc := cX12_late) (maxL := 2) (ret := (some .int)) RX12 rfl (by decide) rfl (Nat.le_of_ble_eq_true rfl) ?_
  intro p e s m below meth c ls X hP hl
  have hx := X.1
  have hb := X.2.1
  have hS : va_S (wA ad nW) s.heap s.heap [] := va_S.rf
  have hA : ∀ i, i < nW → wA ad nW (ad i) := fun i h => ⟨i, h, rfl⟩
  have hl : lv_has ls 2 [(0, .ref (ad 197)), (1, .int vw)] := hl
  refine lv_aload_n hx hb dX12_late_0 rfl (lv_at hl 0 rfl) ?_
  refine lv_iload_n hx hb dX12_late_1 rfl (lv_at hl 1 rfl) ?_
  refine q_calli (q := (RX12, TX12, 40)) (As := [.int vw]) (rest := []) X (m_isWork l D cs ad hj g vw h197 h198) (cwV 1 X.2.2.2.2.1 gg_X12_late_X12_isWork rfl rfl rfl (by decide +kernel) ⟨Nat.le_of_ble_eq_true rfl, Nat.le_of_ble_eq_true rfl⟩) (by decide) h197 rfl hP hA hS rfl hl.1 rfl (Nat.le_of_ble_eq_true rfl) dX12_late_2 ⟨Nat.le_of_ble_eq_true rfl, Nat.le_of_ble_eq_true rfl⟩ (fun r_3 g_2 H locs hw_1 hP hS => ?_)
  obtain ⟨hw_1a, hw_1b⟩ := hw_1
  subst hw_1a
  rw [hw_1b] at hP
  refine lv_if_ne (tgt := 12) hx hb dX12_late_5 (by decide) (fun h => absurd h (by decide)) (fun _ => ?_)
  refine lv_sipush (v := (-1000)) hx hb dX12_late_8 (by decide) ?_
  exact q_iret X hP hS ⟨rfl, rfl⟩ dX12_late_11

theorem dX12_lates_0 : decode cX12_lates 0 = .ok (.aload_n 0, 1) := by decide +kernel
theorem dX12_lates_1 : decode cX12_lates 1 = .ok (.invokevirtual 261, 3) := by decide +kernel
theorem dX12_lates_4 : decode cX12_lates 4 = .ok (.ifCond .ne 6, 3) := by decide +kernel
theorem dX12_lates_7 : decode cX12_lates 7 = .ok (.bipush (-2), 2) := by decide +kernel
theorem dX12_lates_9 : decode cX12_lates 9 = .ok (.ireturn, 1) := by decide +kernel
def vX12_lates : List Cond := .code yX12_lates cX12_lates 3 (some .int) :: ([.methodLink RX12 261 yX12_isStreet, .instanceMethod yX12_isStreet, .selects RX12 yX12_isStreet yX12_isStreet, .initialized RX12, .code yX12_isStreet cX12_isStreet 1 (some .boolean), .fieldLink RX12 9 "IcicleClockModel" "world" "[I"] ++ wsX120)
theorem iX12_lates_12 : ∀ w ∈ wsX120, w ∈ vX12_lates := fun _ h => List.mem_cons_of_mem _ (List.mem_append_right _ h)
set_option maxRecDepth 20000 in
theorem gg_X12_lates_X12_isStreet : GoodIn vX12_lates (wsV RX12 261 RX12 yX12_isStreet vX12_isStreet) := goodIn_r _ [1, 2, 3, 4, 5, 6, 7, 8, 9, 10, 11, 12, 13, 14, 15, 16, 17, 18, 19, 20, 21, 22, 23, 24, 25, 26, 27, 28, 29, 30, 31, 32, 33, 34, 35, 36, 37, 38, 39, 40, 41, 42, 43, 44, 45, 46] (by decide +kernel) (by decide +kernel)
set_option maxHeartbeats 4000000 in
set_option maxRecDepth 100000 in
theorem m_lates (l : Launch) (D : va_G) (cs : Nat → ClassId) (ad : Nat → Nat) (hj : wJ ad nW) (g : Nat → va_E) (h197 : g 197 = .inr (12, [.int 0, .ref (ad 198), .ref (ad 199), .ref (ad 200), .ref (ad 201), .int 0, .ref (ad 202), .int 0, .int 0, .int 0, .int 0, .int 0, .int 0, .int (-1), .ref (ad 203), .ref (ad 204), .ref (ad 205), .int 0, .int 0, .ref (ad 206), .ref (ad 207), .ref (ad 208), .int 0, .int 0, .int 0, .int 0, .int 0, .ref (ad 209), .ref (ad 210), .ref (ad 211), .long 0, .long 0, .ref (ad 212), .ref (ad 213), .int 0, .int 0, .ref (ad 214), .ref (ad 215), .ref (ad 216), .ref (ad 217)])) (h198 : g 198 = .inl (cs 1, 118, .inl (fun _ => 0))) : cI l yX12_lates vX12_lates { frames := 1, cells := 0, slots := 0, locals := 20 } D cs ad nW [.ref (ad 197)] g (fun r g2 => r = (-2) ∧ g2 = g) := by
  refine Met.start (cc := cX12_lates) (maxL := 3) (ret := (some .int)) RX12 rfl (by decide) rfl (Nat.le_of_ble_eq_true rfl) ?_
  intro p e s m below meth c ls X hP hl
  have hx := X.1
  have hb := X.2.1
  have hS : va_S (wA ad nW) s.heap s.heap [] := va_S.rf
  have hA : ∀ i, i < nW → wA ad nW (ad i) := fun i h => ⟨i, h, rfl⟩
  have hl : lv_has ls 3 [(0, .ref (ad 197))] := hl
  refine lv_aload_n hx hb dX12_lates_0 rfl (lv_at hl 0 rfl) ?_
  refine q_calli (q := (RX12, TX12, 40)) (As := []) (rest := []) X (m_isStreet l D cs ad hj g  h197 h198) (cwV 0 X.2.2.2.2.1 gg_X12_lates_X12_isStreet rfl rfl rfl (by decide +kernel) ⟨Nat.le_of_ble_eq_true rfl, Nat.le_of_ble_eq_true rfl⟩) (by decide) h197 rfl hP hA hS rfl hl.1 rfl (Nat.le_of_ble_eq_true rfl) dX12_lates_1 ⟨Nat.le_of_ble_eq_true rfl, Nat.le_of_ble_eq_true rfl⟩ (fun r_3 g_2 H locs hw_1 hP hS => ?_)
  obtain ⟨hw_1a, hw_1b⟩ := hw_1
  subst hw_1a
  rw [hw_1b] at hP
  refine lv_if_ne (tgt := 10) hx hb dX12_lates_4 (by decide) (fun h => absurd h (by decide)) (fun _ => ?_)
  refine lv_bipush (v := (-2)) hx hb dX12_lates_7 (by decide) ?_
  exact q_iret X hP hS ⟨rfl, rfl⟩ dX12_lates_9

theorem dX12_off_0 : decode cX12_off 0 = .ok (.aload_n 0, 1) := by decide +kernel
theorem dX12_off_1 : decode cX12_off 1 = .ok (.invokevirtual 261, 3) := by decide +kernel
theorem dX12_off_4 : decode cX12_off 4 = .ok (.ifCond .ne 6, 3) := by decide +kernel
theorem dX12_off_7 : decode cX12_off 7 = .ok (.bipush (-2), 2) := by decide +kernel
theorem dX12_off_9 : decode cX12_off 9 = .ok (.ireturn, 1) := by decide +kernel
def vX12_off : List Cond := .code yX12_off cX12_off 1 (some .int) :: ([.methodLink RX12 261 yX12_isStreet, .instanceMethod yX12_isStreet, .selects RX12 yX12_isStreet yX12_isStreet, .initialized RX12, .code yX12_isStreet cX12_isStreet 1 (some .boolean), .fieldLink RX12 9 "IcicleClockModel" "world" "[I"] ++ wsX120)
theorem iX12_off_12 : ∀ w ∈ wsX120, w ∈ vX12_off := fun _ h => List.mem_cons_of_mem _ (List.mem_append_right _ h)
set_option maxRecDepth 20000 in
theorem gg_X12_off_X12_isStreet : GoodIn vX12_off (wsV RX12 261 RX12 yX12_isStreet vX12_isStreet) := goodIn_r _ [1, 2, 3, 4, 5, 6, 7, 8, 9, 10, 11, 12, 13, 14, 15, 16, 17, 18, 19, 20, 21, 22, 23, 24, 25, 26, 27, 28, 29, 30, 31, 32, 33, 34, 35, 36, 37, 38, 39, 40, 41, 42, 43, 44, 45, 46] (by decide +kernel) (by decide +kernel)
set_option maxHeartbeats 4000000 in
set_option maxRecDepth 100000 in
theorem m_off (l : Launch) (D : va_G) (cs : Nat → ClassId) (ad : Nat → Nat) (hj : wJ ad nW) (g : Nat → va_E) (h197 : g 197 = .inr (12, [.int 0, .ref (ad 198), .ref (ad 199), .ref (ad 200), .ref (ad 201), .int 0, .ref (ad 202), .int 0, .int 0, .int 0, .int 0, .int 0, .int 0, .int (-1), .ref (ad 203), .ref (ad 204), .ref (ad 205), .int 0, .int 0, .ref (ad 206), .ref (ad 207), .ref (ad 208), .int 0, .int 0, .int 0, .int 0, .int 0, .ref (ad 209), .ref (ad 210), .ref (ad 211), .long 0, .long 0, .ref (ad 212), .ref (ad 213), .int 0, .int 0, .ref (ad 214), .ref (ad 215), .ref (ad 216), .ref (ad 217)])) (h198 : g 198 = .inl (cs 1, 118, .inl (fun _ => 0))) : cI l yX12_off vX12_off { frames := 1, cells := 0, slots := 0, locals := 20 } D cs ad nW [.ref (ad 197)] g (fun r g2 => r = (-2) ∧ g2 = g) := by
  refine Met.start (cc := cX12_off) (maxL := 1) (ret := (some .int)) RX12 rfl (by decide) rfl (Nat.le_of_ble_eq_true rfl) ?_
  intro p e s m below meth c ls X hP hl
  have hx := X.1
  have hb := X.2.1
  have hS : va_S (wA ad nW) s.heap s.heap [] := va_S.rf
  have hA : ∀ i, i < nW → wA ad nW (ad i) := fun i h => ⟨i, h, rfl⟩
  have hl : lv_has ls 1 [(0, .ref (ad 197))] := hl
  refine lv_aload_n hx hb dX12_off_0 rfl (lv_at hl 0 rfl) ?_
  refine q_calli (q := (RX12, TX12, 40)) (As := []) (rest := []) X (m_isStreet l D cs ad hj g  h197 h198) (cwV 0 X.2.2.2.2.1 gg_X12_off_X12_isStreet rfl rfl rfl (by decide +kernel) ⟨Nat.le_of_ble_eq_true rfl, Nat.le_of_ble_eq_true rfl⟩) (by decide) h197 rfl hP hA hS rfl hl.1 rfl (Nat.le_of_ble_eq_true rfl) dX12_off_1 ⟨Nat.le_of_ble_eq_true rfl, Nat.le_of_ble_eq_true rfl⟩ (fun r_3 g_2 H locs hw_1 hP hS => ?_)
  obtain ⟨hw_1a, hw_1b⟩ := hw_1
  subst hw_1a
  rw [hw_1b] at hP
  refine lv_if_ne (tgt := 10) hx hb dX12_off_4 (by decide) (fun h => absurd h (by decide)) (fun _ => ?_)
  refine lv_bipush (v := (-2)) hx hb dX12_off_7 (by decide) ?_
  exact q_iret X hP hS ⟨rfl, rfl⟩ dX12_off_9

theorem dX12_worst_0 : decode cX12_worst 0 = .ok (.aload_n 0, 1) := by decide +kernel
theorem dX12_worst_1 : decode cX12_worst 1 = .ok (.invokevirtual 261, 3) := by decide +kernel
theorem dX12_worst_4 : decode cX12_worst 4 = .ok (.ifCond .ne 6, 3) := by decide +kernel
theorem dX12_worst_7 : decode cX12_worst 7 = .ok (.bipush (-2), 2) := by decide +kernel
theorem dX12_worst_9 : decode cX12_worst 9 = .ok (.ireturn, 1) := by decide +kernel
def vX12_worst : List Cond := .code yX12_worst cX12_worst 5 (some .int) :: ([.methodLink RX12 261 yX12_isStreet, .instanceMethod yX12_isStreet, .selects RX12 yX12_isStreet yX12_isStreet, .initialized RX12, .code yX12_isStreet cX12_isStreet 1 (some .boolean), .fieldLink RX12 9 "IcicleClockModel" "world" "[I"] ++ wsX120)
theorem iX12_worst_12 : ∀ w ∈ wsX120, w ∈ vX12_worst := fun _ h => List.mem_cons_of_mem _ (List.mem_append_right _ h)
set_option maxRecDepth 20000 in
theorem gg_X12_worst_X12_isStreet : GoodIn vX12_worst (wsV RX12 261 RX12 yX12_isStreet vX12_isStreet) := goodIn_r _ [1, 2, 3, 4, 5, 6, 7, 8, 9, 10, 11, 12, 13, 14, 15, 16, 17, 18, 19, 20, 21, 22, 23, 24, 25, 26, 27, 28, 29, 30, 31, 32, 33, 34, 35, 36, 37, 38, 39, 40, 41, 42, 43, 44, 45, 46] (by decide +kernel) (by decide +kernel)
set_option maxHeartbeats 4000000 in
set_option maxRecDepth 100000 in
theorem m_worst (l : Launch) (D : va_G) (cs : Nat → ClassId) (ad : Nat → Nat) (hj : wJ ad nW) (g : Nat → va_E) (h197 : g 197 = .inr (12, [.int 0, .ref (ad 198), .ref (ad 199), .ref (ad 200), .ref (ad 201), .int 0, .ref (ad 202), .int 0, .int 0, .int 0, .int 0, .int 0, .int 0, .int (-1), .ref (ad 203), .ref (ad 204), .ref (ad 205), .int 0, .int 0, .ref (ad 206), .ref (ad 207), .ref (ad 208), .int 0, .int 0, .int 0, .int 0, .int 0, .ref (ad 209), .ref (ad 210), .ref (ad 211), .long 0, .long 0, .ref (ad 212), .ref (ad 213), .int 0, .int 0, .ref (ad 214), .ref (ad 215), .ref (ad 216), .ref (ad 217)])) (h198 : g 198 = .inl (cs 1, 118, .inl (fun _ => 0))) : cI l yX12_worst vX12_worst { frames := 1, cells := 0, slots := 0, locals := 20 } D cs ad nW [.ref (ad 197)] g (fun r g2 => r = (-2) ∧ g2 = g) := by
  refine Met.start (cc := cX12_worst) (maxL := 5) (ret := (some .int)) RX12 rfl (by decide) rfl (Nat.le_of_ble_eq_true rfl) ?_
  intro p e s m below meth c ls X hP hl
  have hx := X.1
  have hb := X.2.1
  have hS : va_S (wA ad nW) s.heap s.heap [] := va_S.rf
  have hA : ∀ i, i < nW → wA ad nW (ad i) := fun i h => ⟨i, h, rfl⟩
  have hl : lv_has ls 5 [(0, .ref (ad 197))] := hl
  refine lv_aload_n hx hb dX12_worst_0 rfl (lv_at hl 0 rfl) ?_
  refine q_calli (q := (RX12, TX12, 40)) (As := []) (rest := []) X (m_isStreet l D cs ad hj g  h197 h198) (cwV 0 X.2.2.2.2.1 gg_X12_worst_X12_isStreet rfl rfl rfl (by decide +kernel) ⟨Nat.le_of_ble_eq_true rfl, Nat.le_of_ble_eq_true rfl⟩) (by decide) h197 rfl hP hA hS rfl hl.1 rfl (Nat.le_of_ble_eq_true rfl) dX12_worst_1 ⟨Nat.le_of_ble_eq_true rfl, Nat.le_of_ble_eq_true rfl⟩ (fun r_3 g_2 H locs hw_1 hP hS => ?_)
  obtain ⟨hw_1a, hw_1b⟩ := hw_1
  subst hw_1a
  rw [hw_1b] at hP
  refine lv_if_ne (tgt := 10) hx hb dX12_worst_4 (by decide) (fun h => absurd h (by decide)) (fun _ => ?_)
  refine lv_bipush (v := (-2)) hx hb dX12_worst_7 (by decide) ?_
  exact q_iret X hP hS ⟨rfl, rfl⟩ dX12_worst_9

theorem dX12_size_0 : decode cX12_size 0 = .ok (.aload_n 0, 1) := by decide +kernel
theorem dX12_size_1 : decode cX12_size 1 = .ok (.iload_n 1, 1) := by decide +kernel
theorem dX12_size_2 : decode cX12_size 2 = .ok (.iload_n 2, 1) := by decide +kernel
theorem dX12_size_3 : decode cX12_size 3 = .ok (.invokevirtual 282, 3) := by decide +kernel
theorem dX12_size_6 : decode cX12_size 6 = .ok (.ifCond .ne 6, 3) := by decide +kernel
theorem dX12_size_9 : decode cX12_size 9 = .ok (.bipush (-2), 2) := by decide +kernel
theorem dX12_size_11 : decode cX12_size 11 = .ok (.ireturn, 1) := by decide +kernel
def vX12_size : List Cond := .code yX12_size cX12_size 4 (some .int) :: ([.methodLink RX12 282 yX12_areThen, .instanceMethod yX12_areThen, .selects RX12 yX12_areThen yX12_areThen, .initialized RX12, .code yX12_areThen cX12_areThen 3 (some .boolean), .methodLink RX12 221 yX12_isIcicle, .instanceMethod yX12_isIcicle, .selects RX12 yX12_isIcicle yX12_isIcicle, .code yX12_isIcicle cX12_isIcicle 3 (some .boolean), .fieldLink RX12 9 "IcicleClockModel" "world" "[I", .methodLink RX12 82 yX12_in, .static yX12_in, .code yX12_in cX12_in 6 (some .boolean)] ++ wsX120)
theorem iX12_size_12 : ∀ w ∈ wsX120, w ∈ vX12_size := fun _ h => List.mem_cons_of_mem _ (List.mem_append_right _ h)
set_option maxRecDepth 20000 in
theorem gg_X12_size_X12_areThen : GoodIn vX12_size (wsV RX12 282 RX12 yX12_areThen vX12_areThen) := goodIn_r _ [1, 2, 3, 4, 5, 6, 7, 8, 4, 9, 10, 11, 12, 13, 14, 15, 16, 17, 18, 19, 20, 21, 22, 23, 24, 25, 26, 27, 28, 29, 30, 31, 32, 33, 34, 35, 36, 37, 38, 39, 40, 41, 42, 43, 44, 45, 46, 47, 48, 49, 50, 51, 52, 53] (by decide +kernel) (by decide +kernel)
set_option maxHeartbeats 4000000 in
set_option maxRecDepth 100000 in
theorem m_size (l : Launch) (D : va_G) (cs : Nat → ClassId) (ad : Nat → Nat) (hj : wJ ad nW) (g : Nat → va_E) (vi : Int32) (vd : Int32) (h197 : g 197 = .inr (12, [.int 0, .ref (ad 198), .ref (ad 199), .ref (ad 200), .ref (ad 201), .int 0, .ref (ad 202), .int 0, .int 0, .int 0, .int 0, .int 0, .int 0, .int (-1), .ref (ad 203), .ref (ad 204), .ref (ad 205), .int 0, .int 0, .ref (ad 206), .ref (ad 207), .ref (ad 208), .int 0, .int 0, .int 0, .int 0, .int 0, .ref (ad 209), .ref (ad 210), .ref (ad 211), .long 0, .long 0, .ref (ad 212), .ref (ad 213), .int 0, .int 0, .ref (ad 214), .ref (ad 215), .ref (ad 216), .ref (ad 217)])) (h198 : g 198 = .inl (cs 1, 118, .inl (fun _ => 0))) : cI l yX12_size vX12_size { frames := 3, cells := 0, slots := 0, locals := 69 } D cs ad nW [.ref (ad 197), .int vi, .int vd] g (fun r g2 => r = (-2) ∧ g2 = g) := by
  refine Met.start (cc := cX12_size) (maxL := 4) (ret := (some .int)) RX12 rfl (by decide) rfl (Nat.le_of_ble_eq_true rfl) ?_
  intro p e s m below meth c ls X hP hl
  have hx := X.1
  have hb := X.2.1
  have hS : va_S (wA ad nW) s.heap s.heap [] := va_S.rf
  have hA : ∀ i, i < nW → wA ad nW (ad i) := fun i h => ⟨i, h, rfl⟩
  have hl : lv_has ls 4 [(0, .ref (ad 197)), (1, .int vi), (2, .int vd)] := hl
  refine lv_aload_n hx hb dX12_size_0 rfl (lv_at hl 0 rfl) ?_
  refine lv_iload_n hx hb dX12_size_1 rfl (lv_at hl 1 rfl) ?_
  refine lv_iload_n hx hb dX12_size_2 rfl (lv_at hl 2 rfl) ?_
  refine q_calli (q := (RX12, TX12, 40)) (As := [.int vi, .int vd]) (rest := []) X (m_areThen l D cs ad hj g vi vd h197 h198) (cwV 2 X.2.2.2.2.1 gg_X12_size_X12_areThen rfl rfl rfl (by decide +kernel) ⟨Nat.le_of_ble_eq_true rfl, Nat.le_of_ble_eq_true rfl⟩) (by decide) h197 rfl hP hA hS rfl hl.1 rfl (Nat.le_of_ble_eq_true rfl) dX12_size_3 ⟨Nat.le_of_ble_eq_true rfl, Nat.le_of_ble_eq_true rfl⟩ (fun r_3 g_2 H locs hw_1 hP hS => ?_)
  obtain ⟨hw_1a, hw_1b⟩ := hw_1
  subst hw_1a
  rw [hw_1b] at hP
  refine lv_if_ne (tgt := 12) hx hb dX12_size_6 (by decide) (fun h => absurd h (by decide)) (fun _ => ?_)
  refine lv_bipush (v := (-2)) hx hb dX12_size_9 (by decide) ?_
  exact q_iret X hP hS ⟨rfl, rfl⟩ dX12_size_11

theorem dX12_sizes_0 : decode cX12_sizes 0 = .ok (.aload_n 0, 1) := by decide +kernel
theorem dX12_sizes_1 : decode cX12_sizes 1 = .ok (.iload_n 1, 1) := by decide +kernel
theorem dX12_sizes_2 : decode cX12_sizes 2 = .ok (.iload_n 2, 1) := by decide +kernel
theorem dX12_sizes_3 : decode cX12_sizes 3 = .ok (.invokevirtual 282, 3) := by decide +kernel
theorem dX12_sizes_6 : decode cX12_sizes 6 = .ok (.ifCond .ne 6, 3) := by decide +kernel
theorem dX12_sizes_9 : decode cX12_sizes 9 = .ok (.bipush (-2), 2) := by decide +kernel
theorem dX12_sizes_11 : decode cX12_sizes 11 = .ok (.ireturn, 1) := by decide +kernel
def vX12_sizes : List Cond := .code yX12_sizes cX12_sizes 5 (some .int) :: ([.methodLink RX12 282 yX12_areThen, .instanceMethod yX12_areThen, .selects RX12 yX12_areThen yX12_areThen, .initialized RX12, .code yX12_areThen cX12_areThen 3 (some .boolean), .methodLink RX12 221 yX12_isIcicle, .instanceMethod yX12_isIcicle, .selects RX12 yX12_isIcicle yX12_isIcicle, .code yX12_isIcicle cX12_isIcicle 3 (some .boolean), .fieldLink RX12 9 "IcicleClockModel" "world" "[I", .methodLink RX12 82 yX12_in, .static yX12_in, .code yX12_in cX12_in 6 (some .boolean)] ++ wsX120)
theorem iX12_sizes_12 : ∀ w ∈ wsX120, w ∈ vX12_sizes := fun _ h => List.mem_cons_of_mem _ (List.mem_append_right _ h)
set_option maxRecDepth 20000 in
theorem gg_X12_sizes_X12_areThen : GoodIn vX12_sizes (wsV RX12 282 RX12 yX12_areThen vX12_areThen) := goodIn_r _ [1, 2, 3, 4, 5, 6, 7, 8, 4, 9, 10, 11, 12, 13, 14, 15, 16, 17, 18, 19, 20, 21, 22, 23, 24, 25, 26, 27, 28, 29, 30, 31, 32, 33, 34, 35, 36, 37, 38, 39, 40, 41, 42, 43, 44, 45, 46, 47, 48, 49, 50, 51, 52, 53] (by decide +kernel) (by decide +kernel)
set_option maxHeartbeats 4000000 in
set_option maxRecDepth 100000 in
theorem m_sizes (l : Launch) (D : va_G) (cs : Nat → ClassId) (ad : Nat → Nat) (hj : wJ ad nW) (g : Nat → va_E) (vi : Int32) (vd : Int32) (h197 : g 197 = .inr (12, [.int 0, .ref (ad 198), .ref (ad 199), .ref (ad 200), .ref (ad 201), .int 0, .ref (ad 202), .int 0, .int 0, .int 0, .int 0, .int 0, .int 0, .int (-1), .ref (ad 203), .ref (ad 204), .ref (ad 205), .int 0, .int 0, .ref (ad 206), .ref (ad 207), .ref (ad 208), .int 0, .int 0, .int 0, .int 0, .int 0, .ref (ad 209), .ref (ad 210), .ref (ad 211), .long 0, .long 0, .ref (ad 212), .ref (ad 213), .int 0, .int 0, .ref (ad 214), .ref (ad 215), .ref (ad 216), .ref (ad 217)])) (h198 : g 198 = .inl (cs 1, 118, .inl (fun _ => 0))) : cI l yX12_sizes vX12_sizes { frames := 3, cells := 0, slots := 0, locals := 69 } D cs ad nW [.ref (ad 197), .int vi, .int vd] g (fun r g2 => r = (-2) ∧ g2 = g) := by
  refine Met.start (cc := cX12_sizes) (maxL := 5) (ret := (some .int)) RX12 rfl (by decide) rfl (Nat.le_of_ble_eq_true rfl) ?_
  intro p e s m below meth c ls X hP hl
  have hx := X.1
  have hb := X.2.1
  have hS : va_S (wA ad nW) s.heap s.heap [] := va_S.rf
  have hA : ∀ i, i < nW → wA ad nW (ad i) := fun i h => ⟨i, h, rfl⟩
  have hl : lv_has ls 5 [(0, .ref (ad 197)), (1, .int vi), (2, .int vd)] := hl
  refine lv_aload_n hx hb dX12_sizes_0 rfl (lv_at hl 0 rfl) ?_
  refine lv_iload_n hx hb dX12_sizes_1 rfl (lv_at hl 1 rfl) ?_
  refine lv_iload_n hx hb dX12_sizes_2 rfl (lv_at hl 2 rfl) ?_
  refine q_calli (q := (RX12, TX12, 40)) (As := [.int vi, .int vd]) (rest := []) X (m_areThen l D cs ad hj g vi vd h197 h198) (cwV 2 X.2.2.2.2.1 gg_X12_sizes_X12_areThen rfl rfl rfl (by decide +kernel) ⟨Nat.le_of_ble_eq_true rfl, Nat.le_of_ble_eq_true rfl⟩) (by decide) h197 rfl hP hA hS rfl hl.1 rfl (Nat.le_of_ble_eq_true rfl) dX12_sizes_3 ⟨Nat.le_of_ble_eq_true rfl, Nat.le_of_ble_eq_true rfl⟩ (fun r_3 g_2 H locs hw_1 hP hS => ?_)
  obtain ⟨hw_1a, hw_1b⟩ := hw_1
  subst hw_1a
  rw [hw_1b] at hP
  refine lv_if_ne (tgt := 12) hx hb dX12_sizes_6 (by decide) (fun h => absurd h (by decide)) (fun _ => ?_)
  refine lv_bipush (v := (-2)) hx hb dX12_sizes_9 (by decide) ?_
  exact q_iret X hP hS ⟨rfl, rfl⟩ dX12_sizes_11

theorem dX12_place_0 : decode cX12_place 0 = .ok (.aload_n 0, 1) := by decide +kernel
theorem dX12_place_1 : decode cX12_place 1 = .ok (.iload_n 1, 1) := by decide +kernel
theorem dX12_place_2 : decode cX12_place 2 = .ok (.iload_n 2, 1) := by decide +kernel
theorem dX12_place_3 : decode cX12_place 3 = .ok (.invokevirtual 282, 3) := by decide +kernel
theorem dX12_place_6 : decode cX12_place 6 = .ok (.ifCond .ne 6, 3) := by decide +kernel
theorem dX12_place_9 : decode cX12_place 9 = .ok (.bipush (-2), 2) := by decide +kernel
theorem dX12_place_11 : decode cX12_place 11 = .ok (.ireturn, 1) := by decide +kernel
def vX12_place : List Cond := .code yX12_place cX12_place 7 (some .int) :: ([.methodLink RX12 282 yX12_areThen, .instanceMethod yX12_areThen, .selects RX12 yX12_areThen yX12_areThen, .initialized RX12, .code yX12_areThen cX12_areThen 3 (some .boolean), .methodLink RX12 221 yX12_isIcicle, .instanceMethod yX12_isIcicle, .selects RX12 yX12_isIcicle yX12_isIcicle, .code yX12_isIcicle cX12_isIcicle 3 (some .boolean), .fieldLink RX12 9 "IcicleClockModel" "world" "[I", .methodLink RX12 82 yX12_in, .static yX12_in, .code yX12_in cX12_in 6 (some .boolean)] ++ wsX120)
theorem iX12_place_12 : ∀ w ∈ wsX120, w ∈ vX12_place := fun _ h => List.mem_cons_of_mem _ (List.mem_append_right _ h)
set_option maxRecDepth 20000 in
theorem gg_X12_place_X12_areThen : GoodIn vX12_place (wsV RX12 282 RX12 yX12_areThen vX12_areThen) := goodIn_r _ [1, 2, 3, 4, 5, 6, 7, 8, 4, 9, 10, 11, 12, 13, 14, 15, 16, 17, 18, 19, 20, 21, 22, 23, 24, 25, 26, 27, 28, 29, 30, 31, 32, 33, 34, 35, 36, 37, 38, 39, 40, 41, 42, 43, 44, 45, 46, 47, 48, 49, 50, 51, 52, 53] (by decide +kernel) (by decide +kernel)
set_option maxHeartbeats 4000000 in
set_option maxRecDepth 100000 in
theorem m_place (l : Launch) (D : va_G) (cs : Nat → ClassId) (ad : Nat → Nat) (hj : wJ ad nW) (g : Nat → va_E) (vi : Int32) (vd : Int32) (h197 : g 197 = .inr (12, [.int 0, .ref (ad 198), .ref (ad 199), .ref (ad 200), .ref (ad 201), .int 0, .ref (ad 202), .int 0, .int 0, .int 0, .int 0, .int 0, .int 0, .int (-1), .ref (ad 203), .ref (ad 204), .ref (ad 205), .int 0, .int 0, .ref (ad 206), .ref (ad 207), .ref (ad 208), .int 0, .int 0, .int 0, .int 0, .int 0, .ref (ad 209), .ref (ad 210), .ref (ad 211), .long 0, .long 0, .ref (ad 212), .ref (ad 213), .int 0, .int 0, .ref (ad 214), .ref (ad 215), .ref (ad 216), .ref (ad 217)])) (h198 : g 198 = .inl (cs 1, 118, .inl (fun _ => 0))) : cI l yX12_place vX12_place { frames := 3, cells := 0, slots := 0, locals := 69 } D cs ad nW [.ref (ad 197), .int vi, .int vd] g (fun r g2 => r = (-2) ∧ g2 = g) := by
  refine Met.start (cc := cX12_place) (maxL := 7) (ret := (some .int)) RX12 rfl (by decide) rfl (Nat.le_of_ble_eq_true rfl) ?_
  intro p e s m below meth c ls X hP hl
  have hx := X.1
  have hb := X.2.1
  have hS : va_S (wA ad nW) s.heap s.heap [] := va_S.rf
  have hA : ∀ i, i < nW → wA ad nW (ad i) := fun i h => ⟨i, h, rfl⟩
  have hl : lv_has ls 7 [(0, .ref (ad 197)), (1, .int vi), (2, .int vd)] := hl
  refine lv_aload_n hx hb dX12_place_0 rfl (lv_at hl 0 rfl) ?_
  refine lv_iload_n hx hb dX12_place_1 rfl (lv_at hl 1 rfl) ?_
  refine lv_iload_n hx hb dX12_place_2 rfl (lv_at hl 2 rfl) ?_
  refine q_calli (q := (RX12, TX12, 40)) (As := [.int vi, .int vd]) (rest := []) X (m_areThen l D cs ad hj g vi vd h197 h198) (cwV 2 X.2.2.2.2.1 gg_X12_place_X12_areThen rfl rfl rfl (by decide +kernel) ⟨Nat.le_of_ble_eq_true rfl, Nat.le_of_ble_eq_true rfl⟩) (by decide) h197 rfl hP hA hS rfl hl.1 rfl (Nat.le_of_ble_eq_true rfl) dX12_place_3 ⟨Nat.le_of_ble_eq_true rfl, Nat.le_of_ble_eq_true rfl⟩ (fun r_3 g_2 H locs hw_1 hP hS => ?_)
  obtain ⟨hw_1a, hw_1b⟩ := hw_1
  subst hw_1a
  rw [hw_1b] at hP
  refine lv_if_ne (tgt := 12) hx hb dX12_place_6 (by decide) (fun h => absurd h (by decide)) (fun _ => ?_)
  refine lv_bipush (v := (-2)) hx hb dX12_place_9 (by decide) ?_
  exact q_iret X hP hS ⟨rfl, rfl⟩ dX12_place_11

theorem dX12_best_0 : decode cX12_best 0 = .ok (.aload_n 0, 1) := by decide +kernel
theorem dX12_best_1 : decode cX12_best 1 = .ok (.iload_n 1, 1) := by decide +kernel
theorem dX12_best_2 : decode cX12_best 2 = .ok (.i2l, 1) := by decide +kernel
theorem dX12_best_3 : decode cX12_best 3 = .ok (.invokevirtual 221, 3) := by decide +kernel
theorem dX12_best_6 : decode cX12_best 6 = .ok (.ifCond .eq 11, 3) := by decide +kernel
theorem dX12_best_17 : decode cX12_best 17 = .ok (.bipush (-2), 2) := by decide +kernel
theorem dX12_best_19 : decode cX12_best 19 = .ok (.ireturn, 1) := by decide +kernel
def vX12_best : List Cond := .code yX12_best cX12_best 2 (some .int) :: ([.methodLink RX12 221 yX12_isIcicle, .instanceMethod yX12_isIcicle, .selects RX12 yX12_isIcicle yX12_isIcicle, .initialized RX12, .code yX12_isIcicle cX12_isIcicle 3 (some .boolean), .fieldLink RX12 9 "IcicleClockModel" "world" "[I", .methodLink RX12 82 yX12_in, .static yX12_in, .code yX12_in cX12_in 6 (some .boolean)] ++ wsX120)
theorem iX12_best_12 : ∀ w ∈ wsX120, w ∈ vX12_best := fun _ h => List.mem_cons_of_mem _ (List.mem_append_right _ h)
set_option maxRecDepth 20000 in
theorem gg_X12_best_X12_isIcicle : GoodIn vX12_best (wsV RX12 221 RX12 yX12_isIcicle vX12_isIcicle) := goodIn_r _ [1, 2, 3, 4, 5, 6, 7, 8, 4, 9, 10, 11, 12, 13, 14, 15, 16, 17, 18, 19, 20, 21, 22, 23, 24, 25, 26, 27, 28, 29, 30, 31, 32, 33, 34, 35, 36, 37, 38, 39, 40, 41, 42, 43, 44, 45, 46, 47, 48, 49] (by decide +kernel) (by decide +kernel)
set_option maxHeartbeats 4000000 in
set_option maxRecDepth 100000 in
theorem m_best (l : Launch) (D : va_G) (cs : Nat → ClassId) (ad : Nat → Nat) (hj : wJ ad nW) (g : Nat → va_E) (vi : Int32) (h197 : g 197 = .inr (12, [.int 0, .ref (ad 198), .ref (ad 199), .ref (ad 200), .ref (ad 201), .int 0, .ref (ad 202), .int 0, .int 0, .int 0, .int 0, .int 0, .int 0, .int (-1), .ref (ad 203), .ref (ad 204), .ref (ad 205), .int 0, .int 0, .ref (ad 206), .ref (ad 207), .ref (ad 208), .int 0, .int 0, .int 0, .int 0, .int 0, .ref (ad 209), .ref (ad 210), .ref (ad 211), .long 0, .long 0, .ref (ad 212), .ref (ad 213), .int 0, .int 0, .ref (ad 214), .ref (ad 215), .ref (ad 216), .ref (ad 217)])) (h198 : g 198 = .inl (cs 1, 118, .inl (fun _ => 0))) : cI l yX12_best vX12_best { frames := 2, cells := 0, slots := 0, locals := 47 } D cs ad nW [.ref (ad 197), .int vi] g (fun r g2 => r = (-2) ∧ g2 = g) := by
  refine Met.start (cc := cX12_best) (maxL := 2) (ret := (some .int)) RX12 rfl (by decide) rfl (Nat.le_of_ble_eq_true rfl) ?_
  intro p e s m below meth c ls X hP hl
  have hx := X.1
  have hb := X.2.1
  have hS : va_S (wA ad nW) s.heap s.heap [] := va_S.rf
  have hA : ∀ i, i < nW → wA ad nW (ad i) := fun i h => ⟨i, h, rfl⟩
  have hl : lv_has ls 2 [(0, .ref (ad 197)), (1, .int vi)] := hl
  refine lv_aload_n hx hb dX12_best_0 rfl (lv_at hl 0 rfl) ?_
  refine lv_iload_n hx hb dX12_best_1 rfl (lv_at hl 1 rfl) ?_
  refine lv_i2l (v := vi.toInt64) hx hb dX12_best_2 rfl ?_
  refine q_calli (q := (RX12, TX12, 40)) (As := [.long (vi.toInt64)]) (rest := []) X (m_isIcicle l D cs ad hj g (vi.toInt64) h197 h198) (cwV 1 X.2.2.2.2.1 gg_X12_best_X12_isIcicle rfl rfl rfl (by decide +kernel) ⟨Nat.le_of_ble_eq_true rfl, Nat.le_of_ble_eq_true rfl⟩) (by decide) h197 rfl hP hA hS rfl hl.1 rfl (Nat.le_of_ble_eq_true rfl) dX12_best_3 ⟨Nat.le_of_ble_eq_true rfl, Nat.le_of_ble_eq_true rfl⟩ (fun r_3 g_2 H locs hw_1 hP hS => ?_)
  obtain ⟨hw_1a, hw_1b⟩ := hw_1
  subst hw_1a
  rw [hw_1b] at hP
  refine lv_if_eq (tgt := 17) hx hb dX12_best_6 (by decide) (fun _ => ?_) (fun h => absurd h (by decide))
  refine lv_bipush (v := (-2)) hx hb dX12_best_17 (by decide) ?_
  exact q_iret X hP hS ⟨rfl, rfl⟩ dX12_best_19

theorem dX12_offs_0 : decode cX12_offs 0 = .ok (.aload_n 0, 1) := by decide +kernel
theorem dX12_offs_1 : decode cX12_offs 1 = .ok (.iload_n 1, 1) := by decide +kernel
theorem dX12_offs_2 : decode cX12_offs 2 = .ok (.i2l, 1) := by decide +kernel
theorem dX12_offs_3 : decode cX12_offs 3 = .ok (.invokevirtual 221, 3) := by decide +kernel
theorem dX12_offs_6 : decode cX12_offs 6 = .ok (.ifCond .ne 6, 3) := by decide +kernel
theorem dX12_offs_9 : decode cX12_offs 9 = .ok (.bipush (-2), 2) := by decide +kernel
theorem dX12_offs_11 : decode cX12_offs 11 = .ok (.ireturn, 1) := by decide +kernel
def vX12_offs : List Cond := .code yX12_offs cX12_offs 2 (some .int) :: ([.methodLink RX12 221 yX12_isIcicle, .instanceMethod yX12_isIcicle, .selects RX12 yX12_isIcicle yX12_isIcicle, .initialized RX12, .code yX12_isIcicle cX12_isIcicle 3 (some .boolean), .fieldLink RX12 9 "IcicleClockModel" "world" "[I", .methodLink RX12 82 yX12_in, .static yX12_in, .code yX12_in cX12_in 6 (some .boolean)] ++ wsX120)
theorem iX12_offs_12 : ∀ w ∈ wsX120, w ∈ vX12_offs := fun _ h => List.mem_cons_of_mem _ (List.mem_append_right _ h)
set_option maxRecDepth 20000 in
theorem gg_X12_offs_X12_isIcicle : GoodIn vX12_offs (wsV RX12 221 RX12 yX12_isIcicle vX12_isIcicle) := goodIn_r _ [1, 2, 3, 4, 5, 6, 7, 8, 4, 9, 10, 11, 12, 13, 14, 15, 16, 17, 18, 19, 20, 21, 22, 23, 24, 25, 26, 27, 28, 29, 30, 31, 32, 33, 34, 35, 36, 37, 38, 39, 40, 41, 42, 43, 44, 45, 46, 47, 48, 49] (by decide +kernel) (by decide +kernel)
set_option maxHeartbeats 4000000 in
set_option maxRecDepth 100000 in
theorem m_offs (l : Launch) (D : va_G) (cs : Nat → ClassId) (ad : Nat → Nat) (hj : wJ ad nW) (g : Nat → va_E) (vi : Int32) (h197 : g 197 = .inr (12, [.int 0, .ref (ad 198), .ref (ad 199), .ref (ad 200), .ref (ad 201), .int 0, .ref (ad 202), .int 0, .int 0, .int 0, .int 0, .int 0, .int 0, .int (-1), .ref (ad 203), .ref (ad 204), .ref (ad 205), .int 0, .int 0, .ref (ad 206), .ref (ad 207), .ref (ad 208), .int 0, .int 0, .int 0, .int 0, .int 0, .ref (ad 209), .ref (ad 210), .ref (ad 211), .long 0, .long 0, .ref (ad 212), .ref (ad 213), .int 0, .int 0, .ref (ad 214), .ref (ad 215), .ref (ad 216), .ref (ad 217)])) (h198 : g 198 = .inl (cs 1, 118, .inl (fun _ => 0))) : cI l yX12_offs vX12_offs { frames := 2, cells := 0, slots := 0, locals := 47 } D cs ad nW [.ref (ad 197), .int vi] g (fun r g2 => r = (-2) ∧ g2 = g) := by
  refine Met.start (cc := cX12_offs) (maxL := 2) (ret := (some .int)) RX12 rfl (by decide) rfl (Nat.le_of_ble_eq_true rfl) ?_
  intro p e s m below meth c ls X hP hl
  have hx := X.1
  have hb := X.2.1
  have hS : va_S (wA ad nW) s.heap s.heap [] := va_S.rf
  have hA : ∀ i, i < nW → wA ad nW (ad i) := fun i h => ⟨i, h, rfl⟩
  have hl : lv_has ls 2 [(0, .ref (ad 197)), (1, .int vi)] := hl
  refine lv_aload_n hx hb dX12_offs_0 rfl (lv_at hl 0 rfl) ?_
  refine lv_iload_n hx hb dX12_offs_1 rfl (lv_at hl 1 rfl) ?_
  refine lv_i2l (v := vi.toInt64) hx hb dX12_offs_2 rfl ?_
  refine q_calli (q := (RX12, TX12, 40)) (As := [.long (vi.toInt64)]) (rest := []) X (m_isIcicle l D cs ad hj g (vi.toInt64) h197 h198) (cwV 1 X.2.2.2.2.1 gg_X12_offs_X12_isIcicle rfl rfl rfl (by decide +kernel) ⟨Nat.le_of_ble_eq_true rfl, Nat.le_of_ble_eq_true rfl⟩) (by decide) h197 rfl hP hA hS rfl hl.1 rfl (Nat.le_of_ble_eq_true rfl) dX12_offs_3 ⟨Nat.le_of_ble_eq_true rfl, Nat.le_of_ble_eq_true rfl⟩ (fun r_3 g_2 H locs hw_1 hP hS => ?_)
  obtain ⟨hw_1a, hw_1b⟩ := hw_1
  subst hw_1a
  rw [hw_1b] at hP
  refine lv_if_ne (tgt := 12) hx hb dX12_offs_6 (by decide) (fun h => absurd h (by decide)) (fun _ => ?_)
  refine lv_bipush (v := (-2)) hx hb dX12_offs_9 (by decide) ?_
  exact q_iret X hP hS ⟨rfl, rfl⟩ dX12_offs_11

theorem dX12_doors_0 : decode cX12_doors 0 = .ok (.aload_n 0, 1) := by decide +kernel
theorem dX12_doors_1 : decode cX12_doors 1 = .ok (.iload_n 1, 1) := by decide +kernel
theorem dX12_doors_2 : decode cX12_doors 2 = .ok (.iload_n 2, 1) := by decide +kernel
theorem dX12_doors_3 : decode cX12_doors 3 = .ok (.invokevirtual 282, 3) := by decide +kernel
theorem dX12_doors_6 : decode cX12_doors 6 = .ok (.ifCond .ne 6, 3) := by decide +kernel
theorem dX12_doors_9 : decode cX12_doors 9 = .ok (.bipush (-2), 2) := by decide +kernel
theorem dX12_doors_11 : decode cX12_doors 11 = .ok (.ireturn, 1) := by decide +kernel
def vX12_doors : List Cond := .code yX12_doors cX12_doors 5 (some .int) :: ([.methodLink RX12 282 yX12_areThen, .instanceMethod yX12_areThen, .selects RX12 yX12_areThen yX12_areThen, .initialized RX12, .code yX12_areThen cX12_areThen 3 (some .boolean), .methodLink RX12 221 yX12_isIcicle, .instanceMethod yX12_isIcicle, .selects RX12 yX12_isIcicle yX12_isIcicle, .code yX12_isIcicle cX12_isIcicle 3 (some .boolean), .fieldLink RX12 9 "IcicleClockModel" "world" "[I", .methodLink RX12 82 yX12_in, .static yX12_in, .code yX12_in cX12_in 6 (some .boolean)] ++ wsX120)
theorem iX12_doors_12 : ∀ w ∈ wsX120, w ∈ vX12_doors := fun _ h => List.mem_cons_of_mem _ (List.mem_append_right _ h)
set_option maxRecDepth 20000 in
theorem gg_X12_doors_X12_areThen : GoodIn vX12_doors (wsV RX12 282 RX12 yX12_areThen vX12_areThen) := goodIn_r _ [1, 2, 3, 4, 5, 6, 7, 8, 4, 9, 10, 11, 12, 13, 14, 15, 16, 17, 18, 19, 20, 21, 22, 23, 24, 25, 26, 27, 28, 29, 30, 31, 32, 33, 34, 35, 36, 37, 38, 39, 40, 41, 42, 43, 44, 45, 46, 47, 48, 49, 50, 51, 52, 53] (by decide +kernel) (by decide +kernel)
set_option maxHeartbeats 4000000 in
set_option maxRecDepth 100000 in
theorem m_doors (l : Launch) (D : va_G) (cs : Nat → ClassId) (ad : Nat → Nat) (hj : wJ ad nW) (g : Nat → va_E) (vi : Int32) (vd : Int32) (h197 : g 197 = .inr (12, [.int 0, .ref (ad 198), .ref (ad 199), .ref (ad 200), .ref (ad 201), .int 0, .ref (ad 202), .int 0, .int 0, .int 0, .int 0, .int 0, .int 0, .int (-1), .ref (ad 203), .ref (ad 204), .ref (ad 205), .int 0, .int 0, .ref (ad 206), .ref (ad 207), .ref (ad 208), .int 0, .int 0, .int 0, .int 0, .int 0, .ref (ad 209), .ref (ad 210), .ref (ad 211), .long 0, .long 0, .ref (ad 212), .ref (ad 213), .int 0, .int 0, .ref (ad 214), .ref (ad 215), .ref (ad 216), .ref (ad 217)])) (h198 : g 198 = .inl (cs 1, 118, .inl (fun _ => 0))) : cI l yX12_doors vX12_doors { frames := 3, cells := 0, slots := 0, locals := 69 } D cs ad nW [.ref (ad 197), .int vi, .int vd] g (fun r g2 => r = (-2) ∧ g2 = g) := by
  refine Met.start (cc := cX12_doors) (maxL := 5) (ret := (some .int)) RX12 rfl (by decide) rfl (Nat.le_of_ble_eq_true rfl) ?_
  intro p e s m below meth c ls X hP hl
  have hx := X.1
  have hb := X.2.1
  have hS : va_S (wA ad nW) s.heap s.heap [] := va_S.rf
  have hA : ∀ i, i < nW → wA ad nW (ad i) := fun i h => ⟨i, h, rfl⟩
  have hl : lv_has ls 5 [(0, .ref (ad 197)), (1, .int vi), (2, .int vd)] := hl
  refine lv_aload_n hx hb dX12_doors_0 rfl (lv_at hl 0 rfl) ?_
  refine lv_iload_n hx hb dX12_doors_1 rfl (lv_at hl 1 rfl) ?_
  refine lv_iload_n hx hb dX12_doors_2 rfl (lv_at hl 2 rfl) ?_
  refine q_calli (q := (RX12, TX12, 40)) (As := [.int vi, .int vd]) (rest := []) X (m_areThen l D cs ad hj g vi vd h197 h198) (cwV 2 X.2.2.2.2.1 gg_X12_doors_X12_areThen rfl rfl rfl (by decide +kernel) ⟨Nat.le_of_ble_eq_true rfl, Nat.le_of_ble_eq_true rfl⟩) (by decide) h197 rfl hP hA hS rfl hl.1 rfl (Nat.le_of_ble_eq_true rfl) dX12_doors_3 ⟨Nat.le_of_ble_eq_true rfl, Nat.le_of_ble_eq_true rfl⟩ (fun r_3 g_2 H locs hw_1 hP hS => ?_)
  obtain ⟨hw_1a, hw_1b⟩ := hw_1
  subst hw_1a
  rw [hw_1b] at hP
  refine lv_if_ne (tgt := 12) hx hb dX12_doors_6 (by decide) (fun h => absurd h (by decide)) (fun _ => ?_)
  refine lv_bipush (v := (-2)) hx hb dX12_doors_9 (by decide) ?_
  exact q_iret X hP hS ⟨rfl, rfl⟩ dX12_doors_11

theorem dX12_round_0 : decode cX12_round 0 = .ok (.aload_n 0, 1) := by decide +kernel
theorem dX12_round_1 : decode cX12_round 1 = .ok (.iload_n 1, 1) := by decide +kernel
theorem dX12_round_2 : decode cX12_round 2 = .ok (.iload_n 2, 1) := by decide +kernel
theorem dX12_round_3 : decode cX12_round 3 = .ok (.invokevirtual 301, 3) := by decide +kernel
theorem dX12_round_6 : decode cX12_round 6 = .ok (.ifCond .eq 12, 3) := by decide +kernel
theorem dX12_round_18 : decode cX12_round 18 = .ok (.bipush (-2), 2) := by decide +kernel
theorem dX12_round_20 : decode cX12_round 20 = .ok (.ireturn, 1) := by decide +kernel
def vX12_round : List Cond := .code yX12_round cX12_round 3 (some .int) :: ([.methodLink RX12 301 yX12_isRound, .instanceMethod yX12_isRound, .selects RX12 yX12_isRound yX12_isRound, .initialized RX12, .code yX12_isRound cX12_isRound 3 (some .boolean), .methodLink RX12 212 yX12_isEave, .instanceMethod yX12_isEave, .selects RX12 yX12_isEave yX12_isEave, .code yX12_isEave cX12_isEave 2 (some .boolean), .fieldLink RX12 9 "IcicleClockModel" "world" "[I", .methodLink RX12 82 yX12_in, .static yX12_in, .code yX12_in cX12_in 6 (some .boolean)] ++ wsX120)
theorem iX12_round_12 : ∀ w ∈ wsX120, w ∈ vX12_round := fun _ h => List.mem_cons_of_mem _ (List.mem_append_right _ h)
set_option maxRecDepth 20000 in
theorem gg_X12_round_X12_isRound : GoodIn vX12_round (wsV RX12 301 RX12 yX12_isRound vX12_isRound) := goodIn_r _ [1, 2, 3, 4, 5, 6, 7, 8, 4, 9, 10, 11, 12, 13, 14, 15, 16, 17, 18, 19, 20, 21, 22, 23, 24, 25, 26, 27, 28, 29, 30, 31, 32, 33, 34, 35, 36, 37, 38, 39, 40, 41, 42, 43, 44, 45, 46, 47, 48, 49, 50, 51, 52, 53] (by decide +kernel) (by decide +kernel)
set_option maxHeartbeats 4000000 in
set_option maxRecDepth 100000 in
theorem m_round (l : Launch) (D : va_G) (cs : Nat → ClassId) (ad : Nat → Nat) (hj : wJ ad nW) (g : Nat → va_E) (vf : Int32) (vk : Int32) (h197 : g 197 = .inr (12, [.int 0, .ref (ad 198), .ref (ad 199), .ref (ad 200), .ref (ad 201), .int 0, .ref (ad 202), .int 0, .int 0, .int 0, .int 0, .int 0, .int 0, .int (-1), .ref (ad 203), .ref (ad 204), .ref (ad 205), .int 0, .int 0, .ref (ad 206), .ref (ad 207), .ref (ad 208), .int 0, .int 0, .int 0, .int 0, .int 0, .ref (ad 209), .ref (ad 210), .ref (ad 211), .long 0, .long 0, .ref (ad 212), .ref (ad 213), .int 0, .int 0, .ref (ad 214), .ref (ad 215), .ref (ad 216), .ref (ad 217)])) (h198 : g 198 = .inl (cs 1, 118, .inl (fun _ => 0))) : cI l yX12_round vX12_round { frames := 3, cells := 0, slots := 0, locals := 68 } D cs ad nW [.ref (ad 197), .int vf, .int vk] g (fun r g2 => r = (-2) ∧ g2 = g) := by
  refine Met.start (cc := cX12_round) (maxL := 3) (ret := (some .int)) RX12 rfl (by decide) rfl (Nat.le_of_ble_eq_true rfl) ?_
  intro p e s m below meth c ls X hP hl
  have hx := X.1
  have hb := X.2.1
  have hS : va_S (wA ad nW) s.heap s.heap [] := va_S.rf
  have hA : ∀ i, i < nW → wA ad nW (ad i) := fun i h => ⟨i, h, rfl⟩
  have hl : lv_has ls 3 [(0, .ref (ad 197)), (1, .int vf), (2, .int vk)] := hl
  refine lv_aload_n hx hb dX12_round_0 rfl (lv_at hl 0 rfl) ?_
  refine lv_iload_n hx hb dX12_round_1 rfl (lv_at hl 1 rfl) ?_
  refine lv_iload_n hx hb dX12_round_2 rfl (lv_at hl 2 rfl) ?_
  refine q_calli (q := (RX12, TX12, 40)) (As := [.int vf, .int vk]) (rest := []) X (m_isRound l D cs ad hj g vf vk h197 h198) (cwV 2 X.2.2.2.2.1 gg_X12_round_X12_isRound rfl rfl rfl (by decide +kernel) ⟨Nat.le_of_ble_eq_true rfl, Nat.le_of_ble_eq_true rfl⟩) (by decide) h197 rfl hP hA hS rfl hl.1 rfl (Nat.le_of_ble_eq_true rfl) dX12_round_3 ⟨Nat.le_of_ble_eq_true rfl, Nat.le_of_ble_eq_true rfl⟩ (fun r_3 g_2 H locs hw_1 hP hS => ?_)
  obtain ⟨hw_1a, hw_1b⟩ := hw_1
  subst hw_1a
  rw [hw_1b] at hP
  refine lv_if_eq (tgt := 18) hx hb dX12_round_6 (by decide) (fun _ => ?_) (fun h => absurd h (by decide))
  refine lv_bipush (v := (-2)) hx hb dX12_round_18 (by decide) ?_
  exact q_iret X hP hS ⟨rfl, rfl⟩ dX12_round_20

theorem dX12_rounds_0 : decode cX12_rounds 0 = .ok (.aload_n 0, 1) := by decide +kernel
theorem dX12_rounds_1 : decode cX12_rounds 1 = .ok (.iload_n 1, 1) := by decide +kernel
theorem dX12_rounds_2 : decode cX12_rounds 2 = .ok (.iload_n 2, 1) := by decide +kernel
theorem dX12_rounds_3 : decode cX12_rounds 3 = .ok (.invokevirtual 301, 3) := by decide +kernel
theorem dX12_rounds_6 : decode cX12_rounds 6 = .ok (.ifCond .ne 6, 3) := by decide +kernel
theorem dX12_rounds_9 : decode cX12_rounds 9 = .ok (.bipush (-2), 2) := by decide +kernel
theorem dX12_rounds_11 : decode cX12_rounds 11 = .ok (.ireturn, 1) := by decide +kernel
def vX12_rounds : List Cond := .code yX12_rounds cX12_rounds 8 (some .int) :: ([.methodLink RX12 301 yX12_isRound, .instanceMethod yX12_isRound, .selects RX12 yX12_isRound yX12_isRound, .initialized RX12, .code yX12_isRound cX12_isRound 3 (some .boolean), .methodLink RX12 212 yX12_isEave, .instanceMethod yX12_isEave, .selects RX12 yX12_isEave yX12_isEave, .code yX12_isEave cX12_isEave 2 (some .boolean), .fieldLink RX12 9 "IcicleClockModel" "world" "[I", .methodLink RX12 82 yX12_in, .static yX12_in, .code yX12_in cX12_in 6 (some .boolean)] ++ wsX120)
theorem iX12_rounds_12 : ∀ w ∈ wsX120, w ∈ vX12_rounds := fun _ h => List.mem_cons_of_mem _ (List.mem_append_right _ h)
set_option maxRecDepth 20000 in
theorem gg_X12_rounds_X12_isRound : GoodIn vX12_rounds (wsV RX12 301 RX12 yX12_isRound vX12_isRound) := goodIn_r _ [1, 2, 3, 4, 5, 6, 7, 8, 4, 9, 10, 11, 12, 13, 14, 15, 16, 17, 18, 19, 20, 21, 22, 23, 24, 25, 26, 27, 28, 29, 30, 31, 32, 33, 34, 35, 36, 37, 38, 39, 40, 41, 42, 43, 44, 45, 46, 47, 48, 49, 50, 51, 52, 53] (by decide +kernel) (by decide +kernel)
set_option maxHeartbeats 4000000 in
set_option maxRecDepth 100000 in
theorem m_rounds (l : Launch) (D : va_G) (cs : Nat → ClassId) (ad : Nat → Nat) (hj : wJ ad nW) (g : Nat → va_E) (vf : Int32) (vk : Int32) (vi : Int32) (h197 : g 197 = .inr (12, [.int 0, .ref (ad 198), .ref (ad 199), .ref (ad 200), .ref (ad 201), .int 0, .ref (ad 202), .int 0, .int 0, .int 0, .int 0, .int 0, .int 0, .int (-1), .ref (ad 203), .ref (ad 204), .ref (ad 205), .int 0, .int 0, .ref (ad 206), .ref (ad 207), .ref (ad 208), .int 0, .int 0, .int 0, .int 0, .int 0, .ref (ad 209), .ref (ad 210), .ref (ad 211), .long 0, .long 0, .ref (ad 212), .ref (ad 213), .int 0, .int 0, .ref (ad 214), .ref (ad 215), .ref (ad 216), .ref (ad 217)])) (h198 : g 198 = .inl (cs 1, 118, .inl (fun _ => 0))) : cI l yX12_rounds vX12_rounds { frames := 3, cells := 0, slots := 0, locals := 68 } D cs ad nW [.ref (ad 197), .int vf, .int vk, .int vi] g (fun r g2 => r = (-2) ∧ g2 = g) := by
  refine Met.start (cc := cX12_rounds) (maxL := 8) (ret := (some .int)) RX12 rfl (by decide) rfl (Nat.le_of_ble_eq_true rfl) ?_
  intro p e s m below meth c ls X hP hl
  have hx := X.1
  have hb := X.2.1
  have hS : va_S (wA ad nW) s.heap s.heap [] := va_S.rf
  have hA : ∀ i, i < nW → wA ad nW (ad i) := fun i h => ⟨i, h, rfl⟩
  have hl : lv_has ls 8 [(0, .ref (ad 197)), (1, .int vf), (2, .int vk), (3, .int vi)] := hl
  refine lv_aload_n hx hb dX12_rounds_0 rfl (lv_at hl 0 rfl) ?_
  refine lv_iload_n hx hb dX12_rounds_1 rfl (lv_at hl 1 rfl) ?_
  refine lv_iload_n hx hb dX12_rounds_2 rfl (lv_at hl 2 rfl) ?_
  refine q_calli (q := (RX12, TX12, 40)) (As := [.int vf, .int vk]) (rest := []) X (m_isRound l D cs ad hj g vf vk h197 h198) (cwV 2 X.2.2.2.2.1 gg_X12_rounds_X12_isRound rfl rfl rfl (by decide +kernel) ⟨Nat.le_of_ble_eq_true rfl, Nat.le_of_ble_eq_true rfl⟩) (by decide) h197 rfl hP hA hS rfl hl.1 rfl (Nat.le_of_ble_eq_true rfl) dX12_rounds_3 ⟨Nat.le_of_ble_eq_true rfl, Nat.le_of_ble_eq_true rfl⟩ (fun r_3 g_2 H locs hw_1 hP hS => ?_)
  obtain ⟨hw_1a, hw_1b⟩ := hw_1
  subst hw_1a
  rw [hw_1b] at hP
  refine lv_if_ne (tgt := 12) hx hb dX12_rounds_6 (by decide) (fun h => absurd h (by decide)) (fun _ => ?_)
  refine lv_bipush (v := (-2)) hx hb dX12_rounds_9 (by decide) ?_
  exact q_iret X hP hS ⟨rfl, rfl⟩ dX12_rounds_11
