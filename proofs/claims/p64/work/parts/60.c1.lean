theorem dX11_isDay_0 : decode cX11_isDay 0 = .ok (.iload_n 1, 1) := by decide +kernel
theorem dX11_isDay_1 : decode cX11_isDay 1 = .ok (.ifCond .lt 18, 3) := by decide +kernel
theorem dX11_isDay_4 : decode cX11_isDay 4 = .ok (.iload_n 1, 1) := by decide +kernel
theorem dX11_isDay_5 : decode cX11_isDay 5 = .ok (.aload_n 0, 1) := by decide +kernel
theorem dX11_isDay_6 : decode cX11_isDay 6 = .ok (.getfield 19, 3) := by decide +kernel
theorem dX11_isDay_9 : decode cX11_isDay 9 = .ok (.getfield 177, 3) := by decide +kernel
theorem dX11_isDay_12 : decode cX11_isDay 12 = .ok (.if_icmp .ge 7, 3) := by decide +kernel
theorem dX11_isDay_15 : decode cX11_isDay 15 = .ok (.iconst 1, 1) := by decide +kernel
theorem dX11_isDay_16 : decode cX11_isDay 16 = .ok (.goto 4, 3) := by decide +kernel
theorem dX11_isDay_19 : decode cX11_isDay 19 = .ok (.iconst 0, 1) := by decide +kernel
theorem dX11_isDay_20 : decode cX11_isDay 20 = .ok (.ireturn, 1) := by decide +kernel
noncomputable def vX11_isDay : List Cond := .code yX11_isDay cX11_isDay 2 (some .boolean) :: (([.fieldLink RX11 19 "IcicleClock" "now" "LIcicleClock$Street;", .fieldLink RX11 177 "IcicleClock$Street" "days" "I"] : List Cond) ++ (wsX110 ++ wsX60))
theorem iX11_isDay_11 : ∀ w ∈ wsX110, w ∈ vX11_isDay := fun _ h => List.mem_cons_of_mem _ (List.mem_append_right _ (List.mem_append_left _ h))
theorem iX11_isDay_6 : ∀ w ∈ wsX60, w ∈ vX11_isDay := fun _ h => List.mem_cons_of_mem _ (List.mem_append_right _ (List.mem_append_right _ (h)))
theorem gs_X11_isDay : Gd vX11_isDay := Gd.cons (by decide +kernel) (Gd.app (Gd.r (by decide +kernel)) (Gd.app gwX_11 gwX_6))
set_option maxHeartbeats 4000000 in
set_option maxRecDepth 100000 in
theorem s_X11_isDay (l : Launch) (D : va_G) (cs : Nat → ClassId) (ad : Nat → Nat) (kS : kSt) (K : sK) (hKO : KO K) (hj : wJ ad 218) (g : Nat → va_E) (hW : WF (shp ad K) ad cs g) (day : Int32) : sI l yX11_isDay vX11_isDay { frames := 0, cells := 0, slots := 0, locals := 0 } D cs ad kS [.ref (ad 0), .int day] g (fun r g2 => g2 = g ∧ (0 ≤ r.toInt ∧ r.toInt ≤ 1 ∧ (r.toInt ≠ 0 → 0 ≤ day.toInt ∧ day.toInt ≤ 13))) := by
  refine Met.startS (cc := cX11_isDay) (maxL := 2) (ret := (some .boolean)) RX11 rfl (by decide) rfl (Nat.le_of_ble_eq_true rfl) ?_
  intro p e s m below meth c ls X Z hP hl
  have hx := X.1
  have hb := X.2.1
  have hS : va_S (wA ad 218) s.heap s.heap [] := va_S.rf
  have hA : ∀ i, i < 218 → wA ad 218 (ad i) := fun i h => ⟨i, h, rfl⟩
  have hl : lv_has ls 2 [(0, .ref (ad 0)), (1, .int day)] := hl
  refine lv_iload_n hx hb dX11_isDay_0 rfl (lv_at hl 1 rfl) ?_
  have HJ19 : ∀ (H : Heap) (locs : List Loc) (ls : Array Slot), va_P D vwCl (wL ad g 218) H → va_S (wA ad 218) s.heap H locs → lv_has ls 2 [] → W p l e ({ frames := 0, cells := 0, slots := 0, locals := 0 } : Room) s m ([.ref (ad 0), .int day] : List Value).toArray below meth c H locs 0 0 (MQ below (qI D ad 218 (fun r g2 => g2 = g ∧ (0 ≤ r.toInt ∧ r.toInt ≤ 1 ∧ (r.toInt ≠ 0 → 0 ≤ day.toInt ∧ day.toInt ≤ 13)))) ([.ref (ad 0), .int day] : List Value).toArray s 0 0 (wA ad 218)) (F0 m 19 ls []) := by
    intro H locs ls hP hS hl
    refine lv_iconst (v := 0) hx hb dX11_isDay_19 (by decide) ?_
    have hr0 : (0 : Int32).toInt = 0 := by decide
    exact q_zret X hP hS rfl ⟨rfl, (by omega)⟩ dX11_isDay_20
  refine lv_if_lt (tgt := 19) hx hb dX11_isDay_1 (by decide) (fun hc_1 => ?_) (fun hc_1 => ?_)
  · have hhc_1 := n_lt (rfl : day.toInt = day.toInt) (by decide : (0 : Int32).toInt = 0) hc_1
    exact HJ19 _ _ ls hP hS (lv_sub hl [] rfl)
  · have hhc_1 := n_nlt (rfl : day.toInt = day.toInt) (by decide : (0 : Int32).toInt = 0) hc_1
    refine lv_iload_n hx hb dX11_isDay_4 rfl (lv_at hl 1 rfl) ?_
    refine lv_aload_n hx hb dX11_isDay_5 rfl (lv_at hl 0 rfl) ?_
    obtain ⟨fsc_2, hgc_2, hOc_2⟩ := hW.obj (i := 0) (by decide) (sh_0 ad K)
    have hk_3 := hOc_2.ref 1 rfl
    refine q_get X iX11_isDay_11 hP (by decide) hgc_2 rfl 1 (by decide) (List.mem_of_getElem? (i := 1) rfl) (v := .ref (ad 3)) hk_3 dX11_isDay_6 ?_
    obtain ⟨fsc_4, hgc_4, hOc_4⟩ := hW.obj (i := 3) (by decide) (sh_3 ad K)
    obtain ⟨x_6, hk_5, hlx_6, hhx_6⟩ := hOc_4.int 3 rfl
    refine q_get X iX11_isDay_6 hP (by decide) hgc_4 rfl 3 (by decide) (List.mem_of_getElem? (i := 2) rfl) (v := .int x_6) hk_5 dX11_isDay_9 ?_
    refine lv_icmp_ge (tgt := 19) hx hb dX11_isDay_12 (by decide) (fun hc_7 => ?_) (fun hc_7 => ?_)
    · have hhc_7 := n_le (rfl : x_6.toInt = x_6.toInt) (rfl : day.toInt = day.toInt) hc_7
      have := n_hi day
      exact HJ19 _ _ ls hP hS (lv_sub hl [] rfl)
    · have hhc_7 := n_nle (rfl : x_6.toInt = x_6.toInt) (rfl : day.toInt = day.toInt) hc_7
      have := n_hi day
      refine lv_iconst (v := 1) hx hb dX11_isDay_15 (by decide) ?_
      refine lv_goto (tgt := 20) hx hb dX11_isDay_16 (by decide) ?_
      have hr0 : (1 : Int32).toInt = 1 := by decide
      exact q_zret X hP hS rfl ⟨rfl, (by omega)⟩ dX11_isDay_20

theorem dX11_isEave_0 : decode cX11_isEave 0 = .ok (.iload_n 1, 1) := by decide +kernel
theorem dX11_isEave_1 : decode cX11_isEave 1 = .ok (.ifCond .lt 18, 3) := by decide +kernel
theorem dX11_isEave_4 : decode cX11_isEave 4 = .ok (.iload_n 1, 1) := by decide +kernel
theorem dX11_isEave_5 : decode cX11_isEave 5 = .ok (.aload_n 0, 1) := by decide +kernel
theorem dX11_isEave_6 : decode cX11_isEave 6 = .ok (.getfield 19, 3) := by decide +kernel
theorem dX11_isEave_9 : decode cX11_isEave 9 = .ok (.getfield 208, 3) := by decide +kernel
theorem dX11_isEave_12 : decode cX11_isEave 12 = .ok (.if_icmp .ge 7, 3) := by decide +kernel
theorem dX11_isEave_15 : decode cX11_isEave 15 = .ok (.iconst 1, 1) := by decide +kernel
theorem dX11_isEave_16 : decode cX11_isEave 16 = .ok (.goto 4, 3) := by decide +kernel
theorem dX11_isEave_19 : decode cX11_isEave 19 = .ok (.iconst 0, 1) := by decide +kernel
theorem dX11_isEave_20 : decode cX11_isEave 20 = .ok (.ireturn, 1) := by decide +kernel
noncomputable def vX11_isEave : List Cond := .code yX11_isEave cX11_isEave 2 (some .boolean) :: (([.fieldLink RX11 19 "IcicleClock" "now" "LIcicleClock$Street;", .fieldLink RX11 208 "IcicleClock$Street" "eaves" "I"] : List Cond) ++ (wsX110 ++ wsX60))
theorem iX11_isEave_11 : ∀ w ∈ wsX110, w ∈ vX11_isEave := fun _ h => List.mem_cons_of_mem _ (List.mem_append_right _ (List.mem_append_left _ h))
theorem iX11_isEave_6 : ∀ w ∈ wsX60, w ∈ vX11_isEave := fun _ h => List.mem_cons_of_mem _ (List.mem_append_right _ (List.mem_append_right _ (h)))
theorem gs_X11_isEave : Gd vX11_isEave := Gd.cons (by decide +kernel) (Gd.app (Gd.r (by decide +kernel)) (Gd.app gwX_11 gwX_6))
set_option maxHeartbeats 4000000 in
set_option maxRecDepth 100000 in
theorem s_X11_isEave (l : Launch) (D : va_G) (cs : Nat → ClassId) (ad : Nat → Nat) (kS : kSt) (K : sK) (hKO : KO K) (hj : wJ ad 218) (g : Nat → va_E) (hW : WF (shp ad K) ad cs g) (eave : Int32) : sI l yX11_isEave vX11_isEave { frames := 0, cells := 0, slots := 0, locals := 0 } D cs ad kS [.ref (ad 0), .int eave] g (fun r g2 => g2 = g ∧ (0 ≤ r.toInt ∧ r.toInt ≤ 1 ∧ (r.toInt ≠ 0 → 0 ≤ eave.toInt ∧ eave.toInt ≤ 4))) := by
  refine Met.startS (cc := cX11_isEave) (maxL := 2) (ret := (some .boolean)) RX11 rfl (by decide) rfl (Nat.le_of_ble_eq_true rfl) ?_
  intro p e s m below meth c ls X Z hP hl
  have hx := X.1
  have hb := X.2.1
  have hS : va_S (wA ad 218) s.heap s.heap [] := va_S.rf
  have hA : ∀ i, i < 218 → wA ad 218 (ad i) := fun i h => ⟨i, h, rfl⟩
  have hl : lv_has ls 2 [(0, .ref (ad 0)), (1, .int eave)] := hl
  refine lv_iload_n hx hb dX11_isEave_0 rfl (lv_at hl 1 rfl) ?_
  have HJ19 : ∀ (H : Heap) (locs : List Loc) (ls : Array Slot), va_P D vwCl (wL ad g 218) H → va_S (wA ad 218) s.heap H locs → lv_has ls 2 [] → W p l e ({ frames := 0, cells := 0, slots := 0, locals := 0 } : Room) s m ([.ref (ad 0), .int eave] : List Value).toArray below meth c H locs 0 0 (MQ below (qI D ad 218 (fun r g2 => g2 = g ∧ (0 ≤ r.toInt ∧ r.toInt ≤ 1 ∧ (r.toInt ≠ 0 → 0 ≤ eave.toInt ∧ eave.toInt ≤ 4)))) ([.ref (ad 0), .int eave] : List Value).toArray s 0 0 (wA ad 218)) (F0 m 19 ls []) := by
    intro H locs ls hP hS hl
    refine lv_iconst (v := 0) hx hb dX11_isEave_19 (by decide) ?_
    have hr0 : (0 : Int32).toInt = 0 := by decide
    exact q_zret X hP hS rfl ⟨rfl, (by omega)⟩ dX11_isEave_20
  refine lv_if_lt (tgt := 19) hx hb dX11_isEave_1 (by decide) (fun hc_1 => ?_) (fun hc_1 => ?_)
  · have hhc_1 := n_lt (rfl : eave.toInt = eave.toInt) (by decide : (0 : Int32).toInt = 0) hc_1
    exact HJ19 _ _ ls hP hS (lv_sub hl [] rfl)
  · have hhc_1 := n_nlt (rfl : eave.toInt = eave.toInt) (by decide : (0 : Int32).toInt = 0) hc_1
    refine lv_iload_n hx hb dX11_isEave_4 rfl (lv_at hl 1 rfl) ?_
    refine lv_aload_n hx hb dX11_isEave_5 rfl (lv_at hl 0 rfl) ?_
    obtain ⟨fsc_2, hgc_2, hOc_2⟩ := hW.obj (i := 0) (by decide) (sh_0 ad K)
    have hk_3 := hOc_2.ref 1 rfl
    refine q_get X iX11_isEave_11 hP (by decide) hgc_2 rfl 1 (by decide) (List.mem_of_getElem? (i := 1) rfl) (v := .ref (ad 3)) hk_3 dX11_isEave_6 ?_
    obtain ⟨fsc_4, hgc_4, hOc_4⟩ := hW.obj (i := 3) (by decide) (sh_3 ad K)
    obtain ⟨x_6, hk_5, hlx_6, hhx_6⟩ := hOc_4.int 4 rfl
    refine q_get X iX11_isEave_6 hP (by decide) hgc_4 rfl 4 (by decide) (List.mem_of_getElem? (i := 2) rfl) (v := .int x_6) hk_5 dX11_isEave_9 ?_
    refine lv_icmp_ge (tgt := 19) hx hb dX11_isEave_12 (by decide) (fun hc_7 => ?_) (fun hc_7 => ?_)
    · have hhc_7 := n_le (rfl : x_6.toInt = x_6.toInt) (rfl : eave.toInt = eave.toInt) hc_7
      have := n_hi eave
      exact HJ19 _ _ ls hP hS (lv_sub hl [] rfl)
    · have hhc_7 := n_nle (rfl : x_6.toInt = x_6.toInt) (rfl : eave.toInt = eave.toInt) hc_7
      have := n_hi eave
      refine lv_iconst (v := 1) hx hb dX11_isEave_15 (by decide) ?_
      refine lv_goto (tgt := 20) hx hb dX11_isEave_16 (by decide) ?_
      have hr0 : (1 : Int32).toInt = 1 := by decide
      exact q_zret X hP hS rfl ⟨rfl, (by omega)⟩ dX11_isEave_20

theorem dX11_isIcicle_0 : decode cX11_isIcicle 0 = .ok (.iload_n 1, 1) := by decide +kernel
theorem dX11_isIcicle_1 : decode cX11_isIcicle 1 = .ok (.ifCond .lt 18, 3) := by decide +kernel
theorem dX11_isIcicle_4 : decode cX11_isIcicle 4 = .ok (.iload_n 1, 1) := by decide +kernel
theorem dX11_isIcicle_5 : decode cX11_isIcicle 5 = .ok (.aload_n 0, 1) := by decide +kernel
theorem dX11_isIcicle_6 : decode cX11_isIcicle 6 = .ok (.getfield 19, 3) := by decide +kernel
theorem dX11_isIcicle_9 : decode cX11_isIcicle 9 = .ok (.getfield 160, 3) := by decide +kernel
theorem dX11_isIcicle_12 : decode cX11_isIcicle 12 = .ok (.if_icmp .ge 7, 3) := by decide +kernel
theorem dX11_isIcicle_15 : decode cX11_isIcicle 15 = .ok (.iconst 1, 1) := by decide +kernel
theorem dX11_isIcicle_16 : decode cX11_isIcicle 16 = .ok (.goto 4, 3) := by decide +kernel
theorem dX11_isIcicle_19 : decode cX11_isIcicle 19 = .ok (.iconst 0, 1) := by decide +kernel
theorem dX11_isIcicle_20 : decode cX11_isIcicle 20 = .ok (.ireturn, 1) := by decide +kernel
noncomputable def vX11_isIcicle : List Cond := .code yX11_isIcicle cX11_isIcicle 2 (some .boolean) :: (([.fieldLink RX11 19 "IcicleClock" "now" "LIcicleClock$Street;", .fieldLink RX11 160 "IcicleClock$Street" "icicles" "I"] : List Cond) ++ (wsX110 ++ wsX60))
theorem iX11_isIcicle_11 : ∀ w ∈ wsX110, w ∈ vX11_isIcicle := fun _ h => List.mem_cons_of_mem _ (List.mem_append_right _ (List.mem_append_left _ h))
theorem iX11_isIcicle_6 : ∀ w ∈ wsX60, w ∈ vX11_isIcicle := fun _ h => List.mem_cons_of_mem _ (List.mem_append_right _ (List.mem_append_right _ (h)))
theorem gs_X11_isIcicle : Gd vX11_isIcicle := Gd.cons (by decide +kernel) (Gd.app (Gd.r (by decide +kernel)) (Gd.app gwX_11 gwX_6))
set_option maxHeartbeats 4000000 in
set_option maxRecDepth 100000 in
theorem s_X11_isIcicle (l : Launch) (D : va_G) (cs : Nat → ClassId) (ad : Nat → Nat) (kS : kSt) (K : sK) (hKO : KO K) (hj : wJ ad 218) (g : Nat → va_E) (hW : WF (shp ad K) ad cs g) (ic : Int32) : sI l yX11_isIcicle vX11_isIcicle { frames := 0, cells := 0, slots := 0, locals := 0 } D cs ad kS [.ref (ad 0), .int ic] g (fun r g2 => g2 = g ∧ (0 ≤ r.toInt ∧ r.toInt ≤ 1 ∧ (r.toInt ≠ 0 → 0 ≤ ic.toInt ∧ ic.toInt ≤ 7))) := by
  refine Met.startS (cc := cX11_isIcicle) (maxL := 2) (ret := (some .boolean)) RX11 rfl (by decide) rfl (Nat.le_of_ble_eq_true rfl) ?_
  intro p e s m below meth c ls X Z hP hl
  have hx := X.1
  have hb := X.2.1
  have hS : va_S (wA ad 218) s.heap s.heap [] := va_S.rf
  have hA : ∀ i, i < 218 → wA ad 218 (ad i) := fun i h => ⟨i, h, rfl⟩
  have hl : lv_has ls 2 [(0, .ref (ad 0)), (1, .int ic)] := hl
  refine lv_iload_n hx hb dX11_isIcicle_0 rfl (lv_at hl 1 rfl) ?_
  have HJ19 : ∀ (H : Heap) (locs : List Loc) (ls : Array Slot), va_P D vwCl (wL ad g 218) H → va_S (wA ad 218) s.heap H locs → lv_has ls 2 [] → W p l e ({ frames := 0, cells := 0, slots := 0, locals := 0 } : Room) s m ([.ref (ad 0), .int ic] : List Value).toArray below meth c H locs 0 0 (MQ below (qI D ad 218 (fun r g2 => g2 = g ∧ (0 ≤ r.toInt ∧ r.toInt ≤ 1 ∧ (r.toInt ≠ 0 → 0 ≤ ic.toInt ∧ ic.toInt ≤ 7)))) ([.ref (ad 0), .int ic] : List Value).toArray s 0 0 (wA ad 218)) (F0 m 19 ls []) := by
    intro H locs ls hP hS hl
    refine lv_iconst (v := 0) hx hb dX11_isIcicle_19 (by decide) ?_
    have hr0 : (0 : Int32).toInt = 0 := by decide
    exact q_zret X hP hS rfl ⟨rfl, (by omega)⟩ dX11_isIcicle_20
  refine lv_if_lt (tgt := 19) hx hb dX11_isIcicle_1 (by decide) (fun hc_1 => ?_) (fun hc_1 => ?_)
  · have hhc_1 := n_lt (rfl : ic.toInt = ic.toInt) (by decide : (0 : Int32).toInt = 0) hc_1
    exact HJ19 _ _ ls hP hS (lv_sub hl [] rfl)
  · have hhc_1 := n_nlt (rfl : ic.toInt = ic.toInt) (by decide : (0 : Int32).toInt = 0) hc_1
    refine lv_iload_n hx hb dX11_isIcicle_4 rfl (lv_at hl 1 rfl) ?_
    refine lv_aload_n hx hb dX11_isIcicle_5 rfl (lv_at hl 0 rfl) ?_
    obtain ⟨fsc_2, hgc_2, hOc_2⟩ := hW.obj (i := 0) (by decide) (sh_0 ad K)
    have hk_3 := hOc_2.ref 1 rfl
    refine q_get X iX11_isIcicle_11 hP (by decide) hgc_2 rfl 1 (by decide) (List.mem_of_getElem? (i := 1) rfl) (v := .ref (ad 3)) hk_3 dX11_isIcicle_6 ?_
    obtain ⟨fsc_4, hgc_4, hOc_4⟩ := hW.obj (i := 3) (by decide) (sh_3 ad K)
    obtain ⟨x_6, hk_5, hlx_6, hhx_6⟩ := hOc_4.int 5 rfl
    refine q_get X iX11_isIcicle_6 hP (by decide) hgc_4 rfl 5 (by decide) (List.mem_of_getElem? (i := 2) rfl) (v := .int x_6) hk_5 dX11_isIcicle_9 ?_
    refine lv_icmp_ge (tgt := 19) hx hb dX11_isIcicle_12 (by decide) (fun hc_7 => ?_) (fun hc_7 => ?_)
    · have hhc_7 := n_le (rfl : x_6.toInt = x_6.toInt) (rfl : ic.toInt = ic.toInt) hc_7
      have := n_hi ic
      exact HJ19 _ _ ls hP hS (lv_sub hl [] rfl)
    · have hhc_7 := n_nle (rfl : x_6.toInt = x_6.toInt) (rfl : ic.toInt = ic.toInt) hc_7
      have := n_hi ic
      refine lv_iconst (v := 1) hx hb dX11_isIcicle_15 (by decide) ?_
      refine lv_goto (tgt := 20) hx hb dX11_isIcicle_16 (by decide) ?_
      have hr0 : (1 : Int32).toInt = 1 := by decide
      exact q_zret X hP hS rfl ⟨rfl, (by omega)⟩ dX11_isIcicle_20

theorem dX11_isWork_0 : decode cX11_isWork 0 = .ok (.iload_n 1, 1) := by decide +kernel
theorem dX11_isWork_1 : decode cX11_isWork 1 = .ok (.ifCond .lt 18, 3) := by decide +kernel
theorem dX11_isWork_4 : decode cX11_isWork 4 = .ok (.iload_n 1, 1) := by decide +kernel
theorem dX11_isWork_5 : decode cX11_isWork 5 = .ok (.aload_n 0, 1) := by decide +kernel
theorem dX11_isWork_6 : decode cX11_isWork 6 = .ok (.getfield 19, 3) := by decide +kernel
theorem dX11_isWork_9 : decode cX11_isWork 9 = .ok (.getfield 226, 3) := by decide +kernel
theorem dX11_isWork_12 : decode cX11_isWork 12 = .ok (.if_icmp .ge 7, 3) := by decide +kernel
theorem dX11_isWork_15 : decode cX11_isWork 15 = .ok (.iconst 1, 1) := by decide +kernel
theorem dX11_isWork_16 : decode cX11_isWork 16 = .ok (.goto 4, 3) := by decide +kernel
theorem dX11_isWork_19 : decode cX11_isWork 19 = .ok (.iconst 0, 1) := by decide +kernel
theorem dX11_isWork_20 : decode cX11_isWork 20 = .ok (.ireturn, 1) := by decide +kernel
noncomputable def vX11_isWork : List Cond := .code yX11_isWork cX11_isWork 2 (some .boolean) :: (([.fieldLink RX11 19 "IcicleClock" "now" "LIcicleClock$Street;", .fieldLink RX11 226 "IcicleClock$Street" "works" "I"] : List Cond) ++ (wsX110 ++ wsX60))
theorem iX11_isWork_11 : ∀ w ∈ wsX110, w ∈ vX11_isWork := fun _ h => List.mem_cons_of_mem _ (List.mem_append_right _ (List.mem_append_left _ h))
theorem iX11_isWork_6 : ∀ w ∈ wsX60, w ∈ vX11_isWork := fun _ h => List.mem_cons_of_mem _ (List.mem_append_right _ (List.mem_append_right _ (h)))
theorem gs_X11_isWork : Gd vX11_isWork := Gd.cons (by decide +kernel) (Gd.app (Gd.r (by decide +kernel)) (Gd.app gwX_11 gwX_6))
set_option maxHeartbeats 4000000 in
set_option maxRecDepth 100000 in
theorem s_X11_isWork (l : Launch) (D : va_G) (cs : Nat → ClassId) (ad : Nat → Nat) (kS : kSt) (K : sK) (hKO : KO K) (hj : wJ ad 218) (g : Nat → va_E) (hW : WF (shp ad K) ad cs g) (wk : Int32) : sI l yX11_isWork vX11_isWork { frames := 0, cells := 0, slots := 0, locals := 0 } D cs ad kS [.ref (ad 0), .int wk] g (fun r g2 => g2 = g ∧ (0 ≤ r.toInt ∧ r.toInt ≤ 1 ∧ (r.toInt ≠ 0 → 0 ≤ wk.toInt ∧ wk.toInt ≤ 5))) := by
  refine Met.startS (cc := cX11_isWork) (maxL := 2) (ret := (some .boolean)) RX11 rfl (by decide) rfl (Nat.le_of_ble_eq_true rfl) ?_
  intro p e s m below meth c ls X Z hP hl
  have hx := X.1
  have hb := X.2.1
  have hS : va_S (wA ad 218) s.heap s.heap [] := va_S.rf
  have hA : ∀ i, i < 218 → wA ad 218 (ad i) := fun i h => ⟨i, h, rfl⟩
  have hl : lv_has ls 2 [(0, .ref (ad 0)), (1, .int wk)] := hl
  refine lv_iload_n hx hb dX11_isWork_0 rfl (lv_at hl 1 rfl) ?_
  have HJ19 : ∀ (H : Heap) (locs : List Loc) (ls : Array Slot), va_P D vwCl (wL ad g 218) H → va_S (wA ad 218) s.heap H locs → lv_has ls 2 [] → W p l e ({ frames := 0, cells := 0, slots := 0, locals := 0 } : Room) s m ([.ref (ad 0), .int wk] : List Value).toArray below meth c H locs 0 0 (MQ below (qI D ad 218 (fun r g2 => g2 = g ∧ (0 ≤ r.toInt ∧ r.toInt ≤ 1 ∧ (r.toInt ≠ 0 → 0 ≤ wk.toInt ∧ wk.toInt ≤ 5)))) ([.ref (ad 0), .int wk] : List Value).toArray s 0 0 (wA ad 218)) (F0 m 19 ls []) := by
    intro H locs ls hP hS hl
    refine lv_iconst (v := 0) hx hb dX11_isWork_19 (by decide) ?_
    have hr0 : (0 : Int32).toInt = 0 := by decide
    exact q_zret X hP hS rfl ⟨rfl, (by omega)⟩ dX11_isWork_20
  refine lv_if_lt (tgt := 19) hx hb dX11_isWork_1 (by decide) (fun hc_1 => ?_) (fun hc_1 => ?_)
  · have hhc_1 := n_lt (rfl : wk.toInt = wk.toInt) (by decide : (0 : Int32).toInt = 0) hc_1
    exact HJ19 _ _ ls hP hS (lv_sub hl [] rfl)
  · have hhc_1 := n_nlt (rfl : wk.toInt = wk.toInt) (by decide : (0 : Int32).toInt = 0) hc_1
    refine lv_iload_n hx hb dX11_isWork_4 rfl (lv_at hl 1 rfl) ?_
    refine lv_aload_n hx hb dX11_isWork_5 rfl (lv_at hl 0 rfl) ?_
    obtain ⟨fsc_2, hgc_2, hOc_2⟩ := hW.obj (i := 0) (by decide) (sh_0 ad K)
    have hk_3 := hOc_2.ref 1 rfl
    refine q_get X iX11_isWork_11 hP (by decide) hgc_2 rfl 1 (by decide) (List.mem_of_getElem? (i := 1) rfl) (v := .ref (ad 3)) hk_3 dX11_isWork_6 ?_
    obtain ⟨fsc_4, hgc_4, hOc_4⟩ := hW.obj (i := 3) (by decide) (sh_3 ad K)
    obtain ⟨x_6, hk_5, hlx_6, hhx_6⟩ := hOc_4.int 6 rfl
    refine q_get X iX11_isWork_6 hP (by decide) hgc_4 rfl 6 (by decide) (List.mem_of_getElem? (i := 2) rfl) (v := .int x_6) hk_5 dX11_isWork_9 ?_
    refine lv_icmp_ge (tgt := 19) hx hb dX11_isWork_12 (by decide) (fun hc_7 => ?_) (fun hc_7 => ?_)
    · have hhc_7 := n_le (rfl : x_6.toInt = x_6.toInt) (rfl : wk.toInt = wk.toInt) hc_7
      have := n_hi wk
      exact HJ19 _ _ ls hP hS (lv_sub hl [] rfl)
    · have hhc_7 := n_nle (rfl : x_6.toInt = x_6.toInt) (rfl : wk.toInt = wk.toInt) hc_7
      have := n_hi wk
      refine lv_iconst (v := 1) hx hb dX11_isWork_15 (by decide) ?_
      refine lv_goto (tgt := 20) hx hb dX11_isWork_16 (by decide) ?_
      have hr0 : (1 : Int32).toInt = 1 := by decide
      exact q_zret X hP hS rfl ⟨rfl, (by omega)⟩ dX11_isWork_20

theorem dX11_isTold_0 : decode cX11_isTold 0 = .ok (.aload_n 0, 1) := by decide +kernel
theorem dX11_isTold_1 : decode cX11_isTold 1 = .ok (.getfield 19, 3) := by decide +kernel
theorem dX11_isTold_4 : decode cX11_isTold 4 = .ok (.getfield 112, 3) := by decide +kernel
theorem dX11_isTold_7 : decode cX11_isTold 7 = .ok (.ifCond .le 7, 3) := by decide +kernel
theorem dX11_isTold_10 : decode cX11_isTold 10 = .ok (.iconst 1, 1) := by decide +kernel
theorem dX11_isTold_11 : decode cX11_isTold 11 = .ok (.goto 4, 3) := by decide +kernel
theorem dX11_isTold_14 : decode cX11_isTold 14 = .ok (.iconst 0, 1) := by decide +kernel
theorem dX11_isTold_15 : decode cX11_isTold 15 = .ok (.ireturn, 1) := by decide +kernel
noncomputable def vX11_isTold : List Cond := .code yX11_isTold cX11_isTold 1 (some .boolean) :: (([.fieldLink RX11 19 "IcicleClock" "now" "LIcicleClock$Street;", .fieldLink RX11 112 "IcicleClock$Street" "lines" "I"] : List Cond) ++ (wsX110 ++ wsX60))
theorem iX11_isTold_11 : ∀ w ∈ wsX110, w ∈ vX11_isTold := fun _ h => List.mem_cons_of_mem _ (List.mem_append_right _ (List.mem_append_left _ h))
theorem iX11_isTold_6 : ∀ w ∈ wsX60, w ∈ vX11_isTold := fun _ h => List.mem_cons_of_mem _ (List.mem_append_right _ (List.mem_append_right _ (h)))
theorem gs_X11_isTold : Gd vX11_isTold := Gd.cons (by decide +kernel) (Gd.app (Gd.r (by decide +kernel)) (Gd.app gwX_11 gwX_6))
set_option maxHeartbeats 4000000 in
set_option maxRecDepth 100000 in
theorem s_X11_isTold (l : Launch) (D : va_G) (cs : Nat → ClassId) (ad : Nat → Nat) (kS : kSt) (K : sK) (hKO : KO K) (hj : wJ ad 218) (g : Nat → va_E) (hW : WF (shp ad K) ad cs g) : sI l yX11_isTold vX11_isTold { frames := 0, cells := 0, slots := 0, locals := 0 } D cs ad kS [.ref (ad 0)] g (fun r g2 => g2 = g ∧ (0 ≤ r.toInt ∧ r.toInt ≤ 1)) := by
  refine Met.startS (cc := cX11_isTold) (maxL := 1) (ret := (some .boolean)) RX11 rfl (by decide) rfl (Nat.le_of_ble_eq_true rfl) ?_
  intro p e s m below meth c ls X Z hP hl
  have hx := X.1
  have hb := X.2.1
  have hS : va_S (wA ad 218) s.heap s.heap [] := va_S.rf
  have hA : ∀ i, i < 218 → wA ad 218 (ad i) := fun i h => ⟨i, h, rfl⟩
  have hl : lv_has ls 1 [(0, .ref (ad 0))] := hl
  refine lv_aload_n hx hb dX11_isTold_0 rfl (lv_at hl 0 rfl) ?_
  obtain ⟨fsc_1, hgc_1, hOc_1⟩ := hW.obj (i := 0) (by decide) (sh_0 ad K)
  have hk_2 := hOc_1.ref 1 rfl
  refine q_get X iX11_isTold_11 hP (by decide) hgc_1 rfl 1 (by decide) (List.mem_of_getElem? (i := 1) rfl) (v := .ref (ad 3)) hk_2 dX11_isTold_1 ?_
  obtain ⟨fsc_3, hgc_3, hOc_3⟩ := hW.obj (i := 3) (by decide) (sh_3 ad K)
  obtain ⟨x_5, hk_4, -⟩ := hOc_3.int 7 rfl
  refine q_get X iX11_isTold_6 hP (by decide) hgc_3 rfl 7 (by decide) (List.mem_of_getElem? (i := 2) rfl) (v := .int x_5) hk_4 dX11_isTold_4 ?_
  refine lv_if_le (tgt := 14) hx hb dX11_isTold_7 (by decide) (fun hc_6 => ?_) (fun hc_6 => ?_)
  · have hhc_6 := n_le (rfl : x_5.toInt = x_5.toInt) (by decide : (0 : Int32).toInt = 0) hc_6
    refine lv_iconst (v := 0) hx hb dX11_isTold_14 (by decide) ?_
    have hr0 : (0 : Int32).toInt = 0 := by decide
    exact q_zret X hP hS rfl ⟨rfl, (by omega)⟩ dX11_isTold_15
  · have hhc_6 := n_nle (rfl : x_5.toInt = x_5.toInt) (by decide : (0 : Int32).toInt = 0) hc_6
    refine lv_iconst (v := 1) hx hb dX11_isTold_10 (by decide) ?_
    refine lv_goto (tgt := 15) hx hb dX11_isTold_11 (by decide) ?_
    have hr0 : (1 : Int32).toInt = 1 := by decide
    exact q_zret X hP hS rfl ⟨rfl, (by omega)⟩ dX11_isTold_15

theorem dX11_isEither_0 : decode cX11_isEither 0 = .ok (.iload_n 0, 1) := by decide +kernel
theorem dX11_isEither_1 : decode cX11_isEither 1 = .ok (.ifCond .eq 8, 3) := by decide +kernel
theorem dX11_isEither_4 : decode cX11_isEither 4 = .ok (.iload_n 0, 1) := by decide +kernel
theorem dX11_isEither_5 : decode cX11_isEither 5 = .ok (.iconst 1, 1) := by decide +kernel
theorem dX11_isEither_6 : decode cX11_isEither 6 = .ok (.if_icmp .ne 7, 3) := by decide +kernel
theorem dX11_isEither_13 : decode cX11_isEither 13 = .ok (.iconst 0, 1) := by decide +kernel
theorem dX11_isEither_9 : decode cX11_isEither 9 = .ok (.iconst 1, 1) := by decide +kernel
theorem dX11_isEither_10 : decode cX11_isEither 10 = .ok (.goto 4, 3) := by decide +kernel
theorem dX11_isEither_14 : decode cX11_isEither 14 = .ok (.ireturn, 1) := by decide +kernel
noncomputable def vX11_isEither : List Cond := .code yX11_isEither cX11_isEither 1 (some .boolean) :: ([] : List Cond)
theorem gs_X11_isEither : Gd vX11_isEither := Gd.cons (by decide +kernel) (Gd.r (by decide +kernel))
set_option maxHeartbeats 4000000 in
set_option maxRecDepth 100000 in
theorem s_X11_isEither (l : Launch) (D : va_G) (cs : Nat → ClassId) (ad : Nat → Nat) (kS : kSt) (K : sK) (hKO : KO K) (hj : wJ ad 218) (g : Nat → va_E) (hW : WF (shp ad K) ad cs g) (w : Int32) : sI l yX11_isEither vX11_isEither { frames := 0, cells := 0, slots := 0, locals := 0 } D cs ad kS [.int w] g (fun r g2 => g2 = g ∧ (0 ≤ r.toInt ∧ r.toInt ≤ 1 ∧ (r.toInt ≠ 0 → 0 ≤ w.toInt ∧ w.toInt ≤ 1))) := by
  refine Met.startS (cc := cX11_isEither) (maxL := 1) (ret := (some .boolean)) RX11 rfl (by decide) rfl (Nat.le_of_ble_eq_true rfl) ?_
  intro p e s m below meth c ls X Z hP hl
  have hx := X.1
  have hb := X.2.1
  have hS : va_S (wA ad 218) s.heap s.heap [] := va_S.rf
  have hA : ∀ i, i < 218 → wA ad 218 (ad i) := fun i h => ⟨i, h, rfl⟩
  have hl : lv_has ls 1 [(0, .int w)] := hl
  refine lv_iload_n hx hb dX11_isEither_0 rfl (lv_at hl 0 rfl) ?_
  have HJ9 : ∀ (H : Heap) (locs : List Loc) (ls : Array Slot), (0 ≤ w.toInt ∧ w.toInt ≤ 1) → va_P D vwCl (wL ad g 218) H → va_S (wA ad 218) s.heap H locs → lv_has ls 1 [] → W p l e ({ frames := 0, cells := 0, slots := 0, locals := 0 } : Room) s m ([.int w] : List Value).toArray below meth c H locs 0 0 (MQ below (qI D ad 218 (fun r g2 => g2 = g ∧ (0 ≤ r.toInt ∧ r.toInt ≤ 1 ∧ (r.toInt ≠ 0 → 0 ≤ w.toInt ∧ w.toInt ≤ 1)))) ([.int w] : List Value).toArray s 0 0 (wA ad 218)) (F0 m 9 ls []) := by
    intro H locs ls hv9_0 hP hS hl
    refine lv_iconst (v := 1) hx hb dX11_isEither_9 (by decide) ?_
    refine lv_goto (tgt := 14) hx hb dX11_isEither_10 (by decide) ?_
    have hr0 : (1 : Int32).toInt = 1 := by decide
    exact q_zret X hP hS rfl ⟨rfl, (by omega)⟩ dX11_isEither_14
  refine lv_if_eq (tgt := 9) hx hb dX11_isEither_1 (by decide) (fun hc_1 => ?_) (fun hc_1 => ?_)
  · have hhc_1 := n_eq (rfl : w.toInt = w.toInt) (by decide : (0 : Int32).toInt = 0) hc_1
    exact HJ9 _ _ ls (by omega) hP hS (lv_sub hl [] rfl)
  · have hhc_1 := n_ne (rfl : w.toInt = w.toInt) (by decide : (0 : Int32).toInt = 0) hc_1
    refine lv_iload_n hx hb dX11_isEither_4 rfl (lv_at hl 0 rfl) ?_
    refine lv_iconst (v := 1) hx hb dX11_isEither_5 (by decide) ?_
    refine lv_icmp_ne (tgt := 13) hx hb dX11_isEither_6 (by decide) (fun hc_2 => ?_) (fun hc_2 => ?_)
    · have hhc_2 := n_ne (rfl : w.toInt = w.toInt) (by decide : (1 : Int32).toInt = 1) hc_2
      refine lv_iconst (v := 0) hx hb dX11_isEither_13 (by decide) ?_
      have hr0 : (0 : Int32).toInt = 0 := by decide
      exact q_zret X hP hS rfl ⟨rfl, (by omega)⟩ dX11_isEither_14
    · have hhc_2 := n_eq (rfl : w.toInt = w.toInt) (by decide : (1 : Int32).toInt = 1) hc_2
      exact HJ9 _ _ ls (by omega) hP hS (lv_sub hl [] rfl)

theorem dX11_isSeed_0 : decode cX11_isSeed 0 = .ok (.iload_n 0, 1) := by decide +kernel
theorem dX11_isSeed_1 : decode cX11_isSeed 1 = .ok (.ifCond .lt 14, 3) := by decide +kernel
theorem dX11_isSeed_4 : decode cX11_isSeed 4 = .ok (.iload_n 0, 1) := by decide +kernel
theorem dX11_isSeed_5 : decode cX11_isSeed 5 = .ok (.ldc_w 410, 3) := by decide +kernel
theorem dX11_isSeed_8 : decode cX11_isSeed 8 = .ok (.if_icmp .gt 7, 3) := by decide +kernel
theorem dX11_isSeed_11 : decode cX11_isSeed 11 = .ok (.iconst 1, 1) := by decide +kernel
theorem dX11_isSeed_12 : decode cX11_isSeed 12 = .ok (.goto 4, 3) := by decide +kernel
theorem dX11_isSeed_15 : decode cX11_isSeed 15 = .ok (.iconst 0, 1) := by decide +kernel
theorem dX11_isSeed_16 : decode cX11_isSeed 16 = .ok (.ireturn, 1) := by decide +kernel
noncomputable def vX11_isSeed : List Cond := .code yX11_isSeed cX11_isSeed 1 (some .boolean) :: ([.constant RX11 410 (2000000000)] : List Cond)
theorem gs_X11_isSeed : Gd vX11_isSeed := Gd.cons (by decide +kernel) (Gd.r (by decide +kernel))
set_option maxHeartbeats 4000000 in
set_option maxRecDepth 100000 in
theorem s_X11_isSeed (l : Launch) (D : va_G) (cs : Nat → ClassId) (ad : Nat → Nat) (kS : kSt) (K : sK) (hKO : KO K) (hj : wJ ad 218) (g : Nat → va_E) (hW : WF (shp ad K) ad cs g) (sd : Int32) : sI l yX11_isSeed vX11_isSeed { frames := 0, cells := 0, slots := 0, locals := 0 } D cs ad kS [.int sd] g (fun r g2 => g2 = g ∧ (0 ≤ r.toInt ∧ r.toInt ≤ 1 ∧ (r.toInt ≠ 0 → 0 ≤ sd.toInt ∧ sd.toInt ≤ 2000000000))) := by
  refine Met.startS (cc := cX11_isSeed) (maxL := 1) (ret := (some .boolean)) RX11 rfl (by decide) rfl (Nat.le_of_ble_eq_true rfl) ?_
  intro p e s m below meth c ls X Z hP hl
  have hx := X.1
  have hb := X.2.1
  have hS : va_S (wA ad 218) s.heap s.heap [] := va_S.rf
  have hA : ∀ i, i < 218 → wA ad 218 (ad i) := fun i h => ⟨i, h, rfl⟩
  have hl : lv_has ls 1 [(0, .int sd)] := hl
  refine lv_iload_n hx hb dX11_isSeed_0 rfl (lv_at hl 0 rfl) ?_
  have HJ15 : ∀ (H : Heap) (locs : List Loc) (ls : Array Slot), va_P D vwCl (wL ad g 218) H → va_S (wA ad 218) s.heap H locs → lv_has ls 1 [] → W p l e ({ frames := 0, cells := 0, slots := 0, locals := 0 } : Room) s m ([.int sd] : List Value).toArray below meth c H locs 0 0 (MQ below (qI D ad 218 (fun r g2 => g2 = g ∧ (0 ≤ r.toInt ∧ r.toInt ≤ 1 ∧ (r.toInt ≠ 0 → 0 ≤ sd.toInt ∧ sd.toInt ≤ 2000000000)))) ([.int sd] : List Value).toArray s 0 0 (wA ad 218)) (F0 m 15 ls []) := by
    intro H locs ls hP hS hl
    refine lv_iconst (v := 0) hx hb dX11_isSeed_15 (by decide) ?_
    have hr0 : (0 : Int32).toInt = 0 := by decide
    exact q_zret X hP hS rfl ⟨rfl, (by omega)⟩ dX11_isSeed_16
  refine lv_if_lt (tgt := 15) hx hb dX11_isSeed_1 (by decide) (fun hc_1 => ?_) (fun hc_1 => ?_)
  · have hhc_1 := n_lt (rfl : sd.toInt = sd.toInt) (by decide : (0 : Int32).toInt = 0) hc_1
    exact HJ15 _ _ ls hP hS (lv_sub hl [] rfl)
  · have hhc_1 := n_nlt (rfl : sd.toInt = sd.toInt) (by decide : (0 : Int32).toInt = 0) hc_1
    refine lv_iload_n hx hb dX11_isSeed_4 rfl (lv_at hl 0 rfl) ?_
    refine lv_ldcw (v := 2000000000) hx hb X.2.2.2.2.2.1 (X.2.2.2.2.1 _ (List.mem_of_getElem? (i := 1) rfl)) dX11_isSeed_5 ?_
    refine lv_icmp_gt (tgt := 15) hx hb dX11_isSeed_8 (by decide) (fun hc_2 => ?_) (fun hc_2 => ?_)
    · have hhc_2 := n_lt (by decide : (2000000000 : Int32).toInt = 2000000000) (rfl : sd.toInt = sd.toInt) hc_2
      exact HJ15 _ _ ls hP hS (lv_sub hl [] rfl)
    · have hhc_2 := n_nlt (by decide : (2000000000 : Int32).toInt = 2000000000) (rfl : sd.toInt = sd.toInt) hc_2
      refine lv_iconst (v := 1) hx hb dX11_isSeed_11 (by decide) ?_
      refine lv_goto (tgt := 16) hx hb dX11_isSeed_12 (by decide) ?_
      have hr0 : (1 : Int32).toInt = 1 := by decide
      exact q_zret X hP hS rfl ⟨rfl, (by omega)⟩ dX11_isSeed_16

theorem dX11_isSlot_0 : decode cX11_isSlot 0 = .ok (.iload_n 0, 1) := by decide +kernel
theorem dX11_isSlot_1 : decode cX11_isSlot 1 = .ok (.ifCond .lt 12, 3) := by decide +kernel
theorem dX11_isSlot_4 : decode cX11_isSlot 4 = .ok (.iload_n 0, 1) := by decide +kernel
theorem dX11_isSlot_5 : decode cX11_isSlot 5 = .ok (.iconst 4, 1) := by decide +kernel
theorem dX11_isSlot_6 : decode cX11_isSlot 6 = .ok (.if_icmp .ge 7, 3) := by decide +kernel
theorem dX11_isSlot_9 : decode cX11_isSlot 9 = .ok (.iconst 1, 1) := by decide +kernel
theorem dX11_isSlot_10 : decode cX11_isSlot 10 = .ok (.goto 4, 3) := by decide +kernel
theorem dX11_isSlot_13 : decode cX11_isSlot 13 = .ok (.iconst 0, 1) := by decide +kernel
theorem dX11_isSlot_14 : decode cX11_isSlot 14 = .ok (.ireturn, 1) := by decide +kernel
noncomputable def vX11_isSlot : List Cond := .code yX11_isSlot cX11_isSlot 1 (some .boolean) :: ([] : List Cond)
theorem gs_X11_isSlot : Gd vX11_isSlot := Gd.cons (by decide +kernel) (Gd.r (by decide +kernel))
set_option maxHeartbeats 4000000 in
set_option maxRecDepth 100000 in
theorem s_X11_isSlot (l : Launch) (D : va_G) (cs : Nat → ClassId) (ad : Nat → Nat) (kS : kSt) (K : sK) (hKO : KO K) (hj : wJ ad 218) (g : Nat → va_E) (hW : WF (shp ad K) ad cs g) (sl : Int32) : sI l yX11_isSlot vX11_isSlot { frames := 0, cells := 0, slots := 0, locals := 0 } D cs ad kS [.int sl] g (fun r g2 => g2 = g ∧ (0 ≤ r.toInt ∧ r.toInt ≤ 1 ∧ (r.toInt ≠ 0 → 0 ≤ sl.toInt ∧ sl.toInt ≤ 3))) := by
  refine Met.startS (cc := cX11_isSlot) (maxL := 1) (ret := (some .boolean)) RX11 rfl (by decide) rfl (Nat.le_of_ble_eq_true rfl) ?_
  intro p e s m below meth c ls X Z hP hl
  have hx := X.1
  have hb := X.2.1
  have hS : va_S (wA ad 218) s.heap s.heap [] := va_S.rf
  have hA : ∀ i, i < 218 → wA ad 218 (ad i) := fun i h => ⟨i, h, rfl⟩
  have hl : lv_has ls 1 [(0, .int sl)] := hl
  refine lv_iload_n hx hb dX11_isSlot_0 rfl (lv_at hl 0 rfl) ?_
  have HJ13 : ∀ (H : Heap) (locs : List Loc) (ls : Array Slot), va_P D vwCl (wL ad g 218) H → va_S (wA ad 218) s.heap H locs → lv_has ls 1 [] → W p l e ({ frames := 0, cells := 0, slots := 0, locals := 0 } : Room) s m ([.int sl] : List Value).toArray below meth c H locs 0 0 (MQ below (qI D ad 218 (fun r g2 => g2 = g ∧ (0 ≤ r.toInt ∧ r.toInt ≤ 1 ∧ (r.toInt ≠ 0 → 0 ≤ sl.toInt ∧ sl.toInt ≤ 3)))) ([.int sl] : List Value).toArray s 0 0 (wA ad 218)) (F0 m 13 ls []) := by
    intro H locs ls hP hS hl
    refine lv_iconst (v := 0) hx hb dX11_isSlot_13 (by decide) ?_
    have hr0 : (0 : Int32).toInt = 0 := by decide
    exact q_zret X hP hS rfl ⟨rfl, (by omega)⟩ dX11_isSlot_14
  refine lv_if_lt (tgt := 13) hx hb dX11_isSlot_1 (by decide) (fun hc_1 => ?_) (fun hc_1 => ?_)
  · have hhc_1 := n_lt (rfl : sl.toInt = sl.toInt) (by decide : (0 : Int32).toInt = 0) hc_1
    exact HJ13 _ _ ls hP hS (lv_sub hl [] rfl)
  · have hhc_1 := n_nlt (rfl : sl.toInt = sl.toInt) (by decide : (0 : Int32).toInt = 0) hc_1
    refine lv_iload_n hx hb dX11_isSlot_4 rfl (lv_at hl 0 rfl) ?_
    refine lv_iconst (v := 4) hx hb dX11_isSlot_5 (by decide) ?_
    refine lv_icmp_ge (tgt := 13) hx hb dX11_isSlot_6 (by decide) (fun hc_2 => ?_) (fun hc_2 => ?_)
    · have hhc_2 := n_le (by decide : (4 : Int32).toInt = 4) (rfl : sl.toInt = sl.toInt) hc_2
      exact HJ13 _ _ ls hP hS (lv_sub hl [] rfl)
    · have hhc_2 := n_nle (by decide : (4 : Int32).toInt = 4) (rfl : sl.toInt = sl.toInt) hc_2
      refine lv_iconst (v := 1) hx hb dX11_isSlot_9 (by decide) ?_
      refine lv_goto (tgt := 14) hx hb dX11_isSlot_10 (by decide) ?_
      have hr0 : (1 : Int32).toInt = 1 := by decide
      exact q_zret X hP hS rfl ⟨rfl, (by omega)⟩ dX11_isSlot_14

theorem dX6_meltOn_0 : decode cX6_meltOn 0 = .ok (.aload_n 0, 1) := by decide +kernel
theorem dX6_meltOn_1 : decode cX6_meltOn 1 = .ok (.getfield 9, 3) := by decide +kernel
theorem dX6_meltOn_4 : decode cX6_meltOn 4 = .ok (.iload_n 2, 1) := by decide +kernel
theorem dX6_meltOn_5 : decode cX6_meltOn 5 = .ok (.iaload, 1) := by decide +kernel
theorem dX6_meltOn_6 : decode cX6_meltOn 6 = .ok (.ifCond .ge 12, 3) := by decide +kernel
theorem dX6_meltOn_9 : decode cX6_meltOn 9 = .ok (.aload_n 0, 1) := by decide +kernel
theorem dX6_meltOn_10 : decode cX6_meltOn 10 = .ok (.getfield 9, 3) := by decide +kernel
theorem dX6_meltOn_13 : decode cX6_meltOn 13 = .ok (.iload_n 2, 1) := by decide +kernel
theorem dX6_meltOn_14 : decode cX6_meltOn 14 = .ok (.iaload, 1) := by decide +kernel
theorem dX6_meltOn_15 : decode cX6_meltOn 15 = .ok (.goto 16, 3) := by decide +kernel
theorem dX6_meltOn_18 : decode cX6_meltOn 18 = .ok (.aload_n 0, 1) := by decide +kernel
theorem dX6_meltOn_19 : decode cX6_meltOn 19 = .ok (.getfield 9, 3) := by decide +kernel
theorem dX6_meltOn_22 : decode cX6_meltOn 22 = .ok (.iload_n 2, 1) := by decide +kernel
theorem dX6_meltOn_23 : decode cX6_meltOn 23 = .ok (.iaload, 1) := by decide +kernel
theorem dX6_meltOn_24 : decode cX6_meltOn 24 = .ok (.aload_n 0, 1) := by decide +kernel
theorem dX6_meltOn_25 : decode cX6_meltOn 25 = .ok (.getfield 19, 3) := by decide +kernel
theorem dX6_meltOn_28 : decode cX6_meltOn 28 = .ok (.iload_n 1, 1) := by decide +kernel
theorem dX6_meltOn_29 : decode cX6_meltOn 29 = .ok (.iaload, 1) := by decide +kernel
theorem dX6_meltOn_30 : decode cX6_meltOn 30 = .ok (.imul, 1) := by decide +kernel
theorem dX6_meltOn_31 : decode cX6_meltOn 31 = .ok (.ireturn, 1) := by decide +kernel
noncomputable def vX6_meltOn : List Cond := .code yX6_meltOn cX6_meltOn 3 (some .int) :: (([.fieldLink RX6 9 "IcicleClock$Street" "thaw" "[I", .fieldLink RX6 19 "IcicleClock$Street" "sun" "[I"] : List Cond) ++ wsX60)
theorem iX6_meltOn_6 : ∀ w ∈ wsX60, w ∈ vX6_meltOn := fun _ h => List.mem_cons_of_mem _ (List.mem_append_right _ (h))
theorem gs_X6_meltOn : Gd vX6_meltOn := Gd.cons (by decide +kernel) (Gd.app (Gd.r (by decide +kernel)) gwX_6)
set_option maxHeartbeats 4000000 in
set_option maxRecDepth 100000 in
theorem s_X6_meltOn (l : Launch) (D : va_G) (cs : Nat → ClassId) (ad : Nat → Nat) (kS : kSt) (K : sK) (hKO : KO K) (hj : wJ ad 218) (g : Nat → va_E) (hW : WF (shp ad K) ad cs g) (ev : Int32) (dy : Int32) (hp0 : 0 ≤ ev.toInt ∧ ev.toInt ≤ 4) (hp1 : 0 ≤ dy.toInt ∧ dy.toInt ≤ 13) : sI l yX6_meltOn vX6_meltOn { frames := 0, cells := 0, slots := 0, locals := 0 } D cs ad kS [.ref (ad 3), .int ev, .int dy] g (fun r g2 => g2 = g) := by
  refine Met.startS (cc := cX6_meltOn) (maxL := 3) (ret := (some .int)) RX6 rfl (by decide) rfl (Nat.le_of_ble_eq_true rfl) ?_
  intro p e s m below meth c ls X Z hP hl
  have hx := X.1
  have hb := X.2.1
  have hS : va_S (wA ad 218) s.heap s.heap [] := va_S.rf
  have hA : ∀ i, i < 218 → wA ad 218 (ad i) := fun i h => ⟨i, h, rfl⟩
  have hl : lv_has ls 3 [(0, .ref (ad 3)), (1, .int ev), (2, .int dy)] := hl
  refine lv_aload_n hx hb dX6_meltOn_0 rfl (lv_at hl 0 rfl) ?_
  obtain ⟨fsc_1, hgc_1, hOc_1⟩ := hW.obj (i := 3) (by decide) (sh_3 ad K)
  have hk_2 := hOc_1.ref 8 rfl
  refine q_get X iX6_meltOn_6 hP (by decide) hgc_1 rfl 8 (by decide) (List.mem_of_getElem? (i := 1) rfl) (v := .ref (ad 4)) hk_2 dX6_meltOn_1 ?_
  refine lv_iload_n hx hb dX6_meltOn_4 rfl (lv_at hl 2 rfl) ?_
  obtain ⟨fc_3, hgc_3, hFc_3⟩ := hW.arr (i := 4) (by decide) (sh_4 ad K)
  refine q_iald X hP (by decide) hgc_3 (n_in (rfl : dy.toInt = dy.toInt) (by omega) (by omega)) dX6_meltOn_5 ?_
  refine lv_topi (fun z_4 ez_4 => ?_)
  refine lv_if_ge (tgt := 18) hx hb dX6_meltOn_6 (by decide) (fun hc_5 => ?_) (fun hc_5 => ?_)
  · have hhc_5 := n_le (by decide : (0 : Int32).toInt = 0) (rfl : z_4.toInt = z_4.toInt) hc_5
    refine lv_aload_n hx hb dX6_meltOn_18 rfl (lv_at hl 0 rfl) ?_
    refine q_get X iX6_meltOn_6 hP (by decide) hgc_1 rfl 8 (by decide) (List.mem_of_getElem? (i := 1) rfl) (v := .ref (ad 4)) hk_2 dX6_meltOn_19 ?_
    refine lv_iload_n hx hb dX6_meltOn_22 rfl (lv_at hl 2 rfl) ?_
    refine q_iald X hP (by decide) hgc_3 (n_in (rfl : dy.toInt = dy.toInt) (by omega) (by omega)) dX6_meltOn_23 ?_
    refine lv_topi (fun z_6 ez_6 => ?_)
    have hsz_6 : z_6.toInt = z_4.toInt := by rw [ez_6, ez_4]
    refine lv_aload_n hx hb dX6_meltOn_24 rfl (lv_at hl 0 rfl) ?_
    have hk_7 := hOc_1.ref 10 rfl
    refine q_get X iX6_meltOn_6 hP (by decide) hgc_1 rfl 10 (by decide) (List.mem_of_getElem? (i := 2) rfl) (v := .ref (ad 6)) hk_7 dX6_meltOn_25 ?_
    refine lv_iload_n hx hb dX6_meltOn_28 rfl (lv_at hl 1 rfl) ?_
    obtain ⟨fc_8, hgc_8, hFc_8⟩ := hW.arr (i := 6) (by decide) (sh_6 ad K)
    refine q_iald X hP (by decide) hgc_8 (n_in (rfl : ev.toInt = ev.toInt) (by omega) (by omega)) dX6_meltOn_29 ?_
    refine lv_topi (fun z_9 ez_9 => ?_)
    refine lv_imul hx hb dX6_meltOn_30 ?_
    refine lv_topi (fun z_10 ez_10 => ?_)
    exact q_iret X hP hS rfl dX6_meltOn_31
  · have hhc_5 := n_nle (by decide : (0 : Int32).toInt = 0) (rfl : z_4.toInt = z_4.toInt) hc_5
    refine lv_aload_n hx hb dX6_meltOn_9 rfl (lv_at hl 0 rfl) ?_
    refine q_get X iX6_meltOn_6 hP (by decide) hgc_1 rfl 8 (by decide) (List.mem_of_getElem? (i := 1) rfl) (v := .ref (ad 4)) hk_2 dX6_meltOn_10 ?_
    refine lv_iload_n hx hb dX6_meltOn_13 rfl (lv_at hl 2 rfl) ?_
    refine q_iald X hP (by decide) hgc_3 (n_in (rfl : dy.toInt = dy.toInt) (by omega) (by omega)) dX6_meltOn_14 ?_
    refine lv_topi (fun z_11 ez_11 => ?_)
    have hsz_11 : z_11.toInt = z_4.toInt := by rw [ez_11, ez_4]
    refine lv_goto (tgt := 31) hx hb dX6_meltOn_15 (by decide) ?_
    exact q_iret X hP hS rfl dX6_meltOn_31

theorem dX6_takenByActs_0 : decode cX6_takenByActs 0 = .ok (.aload_n 0, 1) := by decide +kernel
theorem dX6_takenByActs_1 : decode cX6_takenByActs 1 = .ok (.getfield 47, 3) := by decide +kernel
theorem dX6_takenByActs_4 : decode cX6_takenByActs 4 = .ok (.aload_n 0, 1) := by decide +kernel
theorem dX6_takenByActs_5 : decode cX6_takenByActs 5 = .ok (.getfield 43, 3) := by decide +kernel
theorem dX6_takenByActs_8 : decode cX6_takenByActs 8 = .ok (.getfield 85, 3) := by decide +kernel
theorem dX6_takenByActs_11 : decode cX6_takenByActs 11 = .ok (.iload_n 1, 1) := by decide +kernel
theorem dX6_takenByActs_12 : decode cX6_takenByActs 12 = .ok (.aaload, 1) := by decide +kernel
theorem dX6_takenByActs_13 : decode cX6_takenByActs 13 = .ok (.iload_n 2, 1) := by decide +kernel
theorem dX6_takenByActs_14 : decode cX6_takenByActs 14 = .ok (.iaload, 1) := by decide +kernel
theorem dX6_takenByActs_15 : decode cX6_takenByActs 15 = .ok (.imul, 1) := by decide +kernel
theorem dX6_takenByActs_16 : decode cX6_takenByActs 16 = .ok (.aload_n 0, 1) := by decide +kernel
theorem dX6_takenByActs_17 : decode cX6_takenByActs 17 = .ok (.getfield 51, 3) := by decide +kernel
theorem dX6_takenByActs_20 : decode cX6_takenByActs 20 = .ok (.aload_n 0, 1) := by decide +kernel
theorem dX6_takenByActs_21 : decode cX6_takenByActs 21 = .ok (.getfield 43, 3) := by decide +kernel
theorem dX6_takenByActs_24 : decode cX6_takenByActs 24 = .ok (.getfield 89, 3) := by decide +kernel
theorem dX6_takenByActs_27 : decode cX6_takenByActs 27 = .ok (.iload_n 2, 1) := by decide +kernel
theorem dX6_takenByActs_28 : decode cX6_takenByActs 28 = .ok (.iaload, 1) := by decide +kernel
theorem dX6_takenByActs_29 : decode cX6_takenByActs 29 = .ok (.imul, 1) := by decide +kernel
theorem dX6_takenByActs_30 : decode cX6_takenByActs 30 = .ok (.iadd, 1) := by decide +kernel
theorem dX6_takenByActs_31 : decode cX6_takenByActs 31 = .ok (.ireturn, 1) := by decide +kernel
noncomputable def vX6_takenByActs : List Cond := .code yX6_takenByActs cX6_takenByActs 3 (some .int) :: (([.fieldLink RX6 47 "IcicleClock$Street" "slamTakes" "I", .fieldLink RX6 43 "IcicleClock$Street" "acts" "LIcicleClock$Acts;", .fieldLink RX6 85 "IcicleClock$Acts" "slammed" "[[I", .fieldLink RX6 51 "IcicleClock$Street" "bellTakes" "I", .fieldLink RX6 89 "IcicleClock$Acts" "rung" "[I"] : List Cond) ++ (wsX60 ++ wsX00))
theorem iX6_takenByActs_6 : ∀ w ∈ wsX60, w ∈ vX6_takenByActs := fun _ h => List.mem_cons_of_mem _ (List.mem_append_right _ (List.mem_append_left _ h))
theorem iX6_takenByActs_0 : ∀ w ∈ wsX00, w ∈ vX6_takenByActs := fun _ h => List.mem_cons_of_mem _ (List.mem_append_right _ (List.mem_append_right _ (h)))
theorem gs_X6_takenByActs : Gd vX6_takenByActs := Gd.cons (by decide +kernel) (Gd.app (Gd.r (by decide +kernel)) (Gd.app gwX_6 gwX_0))
set_option maxHeartbeats 4000000 in
set_option maxRecDepth 100000 in
theorem s_X6_takenByActs (l : Launch) (D : va_G) (cs : Nat → ClassId) (ad : Nat → Nat) (kS : kSt) (K : sK) (hKO : KO K) (hj : wJ ad 218) (g : Nat → va_E) (hW : WF (shp ad K) ad cs g) (ev : Int32) (dy : Int32) (hp0 : 0 ≤ ev.toInt ∧ ev.toInt ≤ 4) (hp1 : 0 ≤ dy.toInt ∧ dy.toInt ≤ 13) : sI l yX6_takenByActs vX6_takenByActs { frames := 0, cells := 0, slots := 0, locals := 0 } D cs ad kS [.ref (ad 3), .int ev, .int dy] g (fun r g2 => g2 = g) := by
  refine Met.startS (cc := cX6_takenByActs) (maxL := 3) (ret := (some .int)) RX6 rfl (by decide) rfl (Nat.le_of_ble_eq_true rfl) ?_
  intro p e s m below meth c ls X Z hP hl
  have hx := X.1
  have hb := X.2.1
  have hS : va_S (wA ad 218) s.heap s.heap [] := va_S.rf
  have hA : ∀ i, i < 218 → wA ad 218 (ad i) := fun i h => ⟨i, h, rfl⟩
  have hl : lv_has ls 3 [(0, .ref (ad 3)), (1, .int ev), (2, .int dy)] := hl
  refine lv_aload_n hx hb dX6_takenByActs_0 rfl (lv_at hl 0 rfl) ?_
  obtain ⟨fsc_1, hgc_1, hOc_1⟩ := hW.obj (i := 3) (by decide) (sh_3 ad K)
  obtain ⟨x_3, hk_2, -⟩ := hOc_1.int 0 rfl
  refine q_get X iX6_takenByActs_6 hP (by decide) hgc_1 rfl 0 (by decide) (List.mem_of_getElem? (i := 1) rfl) (v := .int x_3) hk_2 dX6_takenByActs_1 ?_
  refine lv_aload_n hx hb dX6_takenByActs_4 rfl (lv_at hl 0 rfl) ?_
  have hk_4 := hOc_1.ref 17 rfl
  refine q_get X iX6_takenByActs_6 hP (by decide) hgc_1 rfl 17 (by decide) (List.mem_of_getElem? (i := 2) rfl) (v := .ref (ad 13)) hk_4 dX6_takenByActs_5 ?_
  obtain ⟨fsc_5, hgc_5, hOc_5⟩ := hW.obj (i := 13) (by decide) (sh_13 ad K)
  have hk_6 := hOc_5.ref 3 rfl
  refine q_get X iX6_takenByActs_0 hP (by decide) hgc_5 rfl 3 (by decide) (List.mem_of_getElem? (i := 3) rfl) (v := .ref (ad 16)) hk_6 dX6_takenByActs_8 ?_
  refine lv_iload_n hx hb dX6_takenByActs_11 rfl (lv_at hl 1 rfl) ?_
  obtain ⟨fc_7, hgc_7, hFc_7⟩ := hW.aref (i := 16) (by decide) (sh_16 ad K)
  obtain ⟨e_8, h_e_8, e_e_8⟩ : ∃ q : Nat, q < 5 ∧ ev.toNatClampNeg = q := ⟨_, by have := n_cl (rfl : ev.toInt = ev.toInt) (by omega); omega, rfl⟩
  refine s_aald X hP 6 rfl rfl (by decide) hgc_7 (n_in (rfl : ev.toInt = ev.toInt) (by omega) (by omega)) (v := ad (3 + 14 + e_8)) (by rw [e_e_8, hFc_7 _ h_e_8, Nat.one_mul]) dX6_takenByActs_12 ?_
  refine lv_iload_n hx hb dX6_takenByActs_13 rfl (lv_at hl 2 rfl) ?_
  obtain ⟨fc_9, hgc_9, hFc_9⟩ := hW.arr (i := (3 + 14 + e_8)) (by omega) (shSR ad K (by omega) h_e_8)
  refine q_iald X hP (by omega) hgc_9 (n_in (rfl : dy.toInt = dy.toInt) (by omega) (by omega)) dX6_takenByActs_14 ?_
  refine lv_topi (fun z_10 ez_10 => ?_)
  refine lv_imul hx hb dX6_takenByActs_15 ?_
  refine lv_topi (fun z_11 ez_11 => ?_)
  refine lv_aload_n hx hb dX6_takenByActs_16 rfl (lv_at hl 0 rfl) ?_
  obtain ⟨x_13, hk_12, -⟩ := hOc_1.int 1 rfl
  refine q_get X iX6_takenByActs_6 hP (by decide) hgc_1 rfl 1 (by decide) (List.mem_of_getElem? (i := 4) rfl) (v := .int x_13) hk_12 dX6_takenByActs_17 ?_
  refine lv_aload_n hx hb dX6_takenByActs_20 rfl (lv_at hl 0 rfl) ?_
  refine q_get X iX6_takenByActs_6 hP (by decide) hgc_1 rfl 17 (by decide) (List.mem_of_getElem? (i := 2) rfl) (v := .ref (ad 13)) hk_4 dX6_takenByActs_21 ?_
  have hk_14 := hOc_5.ref 4 rfl
  refine q_get X iX6_takenByActs_0 hP (by decide) hgc_5 rfl 4 (by decide) (List.mem_of_getElem? (i := 5) rfl) (v := .ref (ad 22)) hk_14 dX6_takenByActs_24 ?_
  refine lv_iload_n hx hb dX6_takenByActs_27 rfl (lv_at hl 2 rfl) ?_
  obtain ⟨fc_15, hgc_15, hFc_15⟩ := hW.arr (i := 22) (by decide) (sh_22 ad K)
  refine q_iald X hP (by decide) hgc_15 (n_in (rfl : dy.toInt = dy.toInt) (by omega) (by omega)) dX6_takenByActs_28 ?_
  refine lv_topi (fun z_16 ez_16 => ?_)
  refine lv_imul hx hb dX6_takenByActs_29 ?_
  refine lv_topi (fun z_17 ez_17 => ?_)
  refine lv_iadd hx hb dX6_takenByActs_30 ?_
  refine lv_topi (fun z_18 ez_18 => ?_)
  exact q_iret X hP hS rfl dX6_takenByActs_31

theorem dX10_lossOn_0 : decode cX10_lossOn 0 = .ok (.aload_n 1, 1) := by decide +kernel
theorem dX10_lossOn_1 : decode cX10_lossOn 1 = .ok (.iload_n 2, 1) := by decide +kernel
theorem dX10_lossOn_2 : decode cX10_lossOn 2 = .ok (.iload_n 3, 1) := by decide +kernel
theorem dX10_lossOn_3 : decode cX10_lossOn 3 = .ok (.invokevirtual 43, 3) := by decide +kernel
theorem dX10_lossOn_6 : decode cX10_lossOn 6 = .ok (.aload_n 1, 1) := by decide +kernel
theorem dX10_lossOn_7 : decode cX10_lossOn 7 = .ok (.iload_n 2, 1) := by decide +kernel
theorem dX10_lossOn_8 : decode cX10_lossOn 8 = .ok (.iload_n 3, 1) := by decide +kernel
theorem dX10_lossOn_9 : decode cX10_lossOn 9 = .ok (.invokevirtual 47, 3) := by decide +kernel
theorem dX10_lossOn_12 : decode cX10_lossOn 12 = .ok (.iadd, 1) := by decide +kernel
theorem dX10_lossOn_13 : decode cX10_lossOn 13 = .ok (.istore 4, 2) := by decide +kernel
theorem dX10_lossOn_15 : decode cX10_lossOn 15 = .ok (.aload_n 0, 1) := by decide +kernel
theorem dX10_lossOn_16 : decode cX10_lossOn 16 = .ok (.getfield 50, 3) := by decide +kernel
theorem dX10_lossOn_19 : decode cX10_lossOn 19 = .ok (.iload_n 3, 1) := by decide +kernel
theorem dX10_lossOn_20 : decode cX10_lossOn 20 = .ok (.ishr, 1) := by decide +kernel
theorem dX10_lossOn_21 : decode cX10_lossOn 21 = .ok (.iconst 1, 1) := by decide +kernel
theorem dX10_lossOn_22 : decode cX10_lossOn 22 = .ok (.iand, 1) := by decide +kernel
theorem dX10_lossOn_23 : decode cX10_lossOn 23 = .ok (.ifCond .eq 14, 3) := by decide +kernel
theorem dX10_lossOn_26 : decode cX10_lossOn 26 = .ok (.iload 4, 2) := by decide +kernel
theorem dX10_lossOn_28 : decode cX10_lossOn 28 = .ok (.aload_n 1, 1) := by decide +kernel
theorem dX10_lossOn_29 : decode cX10_lossOn 29 = .ok (.getfield 53, 3) := by decide +kernel
theorem dX10_lossOn_32 : decode cX10_lossOn 32 = .ok (.iload_n 2, 1) := by decide +kernel
theorem dX10_lossOn_33 : decode cX10_lossOn 33 = .ok (.iaload, 1) := by decide +kernel
theorem dX10_lossOn_34 : decode cX10_lossOn 34 = .ok (.iadd, 1) := by decide +kernel
theorem dX10_lossOn_35 : decode cX10_lossOn 35 = .ok (.istore 4, 2) := by decide +kernel
theorem dX10_lossOn_37 : decode cX10_lossOn 37 = .ok (.iload_n 2, 1) := by decide +kernel
theorem dX10_lossOn_38 : decode cX10_lossOn 38 = .ok (.aload_n 0, 1) := by decide +kernel
theorem dX10_lossOn_39 : decode cX10_lossOn 39 = .ok (.getfield 9, 3) := by decide +kernel
theorem dX10_lossOn_42 : decode cX10_lossOn 42 = .ok (.if_icmp .ne 20, 3) := by decide +kernel
theorem dX10_lossOn_45 : decode cX10_lossOn 45 = .ok (.iload_n 3, 1) := by decide +kernel
theorem dX10_lossOn_46 : decode cX10_lossOn 46 = .ok (.aload_n 0, 1) := by decide +kernel
theorem dX10_lossOn_47 : decode cX10_lossOn 47 = .ok (.getfield 15, 3) := by decide +kernel
theorem dX10_lossOn_50 : decode cX10_lossOn 50 = .ok (.if_icmp .ne 12, 3) := by decide +kernel
theorem dX10_lossOn_53 : decode cX10_lossOn 53 = .ok (.iload 4, 2) := by decide +kernel
theorem dX10_lossOn_55 : decode cX10_lossOn 55 = .ok (.aload_n 1, 1) := by decide +kernel
theorem dX10_lossOn_56 : decode cX10_lossOn 56 = .ok (.getfield 56, 3) := by decide +kernel
theorem dX10_lossOn_59 : decode cX10_lossOn 59 = .ok (.iadd, 1) := by decide +kernel
theorem dX10_lossOn_60 : decode cX10_lossOn 60 = .ok (.istore 4, 2) := by decide +kernel
theorem dX10_lossOn_62 : decode cX10_lossOn 62 = .ok (.iload 4, 2) := by decide +kernel
theorem dX10_lossOn_64 : decode cX10_lossOn 64 = .ok (.ireturn, 1) := by decide +kernel
noncomputable def vX10_lossOn : List Cond := .code yX10_lossOn cX10_lossOn 5 (some .int) :: (([.methodLink RX10 43 yX6_meltOn, .instanceMethod yX6_meltOn, .selects RX6 yX6_meltOn yX6_meltOn, .initialized RX6, .methodLink RX10 47 yX6_takenByActs, .instanceMethod yX6_takenByActs, .selects RX6 yX6_takenByActs yX6_takenByActs, .fieldLink RX10 50 "IcicleClock$Winter" "warm" "I", .fieldLink RX10 53 "IcicleClock$Street" "sun" "[I", .fieldLink RX10 9 "IcicleClock$Winter" "doorEave" "I", .fieldLink RX10 15 "IcicleClock$Winter" "doorDay" "I", .fieldLink RX10 56 "IcicleClock$Street" "slamTakes" "I"] : List Cond) ++ (wsX100 ++ (wsX60 ++ (vX6_meltOn ++ vX6_takenByActs))))
theorem iX10_lossOn_10 : ∀ w ∈ wsX100, w ∈ vX10_lossOn := fun _ h => List.mem_cons_of_mem _ (List.mem_append_right _ (List.mem_append_left _ h))
theorem iX10_lossOn_6 : ∀ w ∈ wsX60, w ∈ vX10_lossOn := fun _ h => List.mem_cons_of_mem _ (List.mem_append_right _ (List.mem_append_right _ (List.mem_append_left _ h)))
theorem gs_X10_lossOn : Gd vX10_lossOn := Gd.cons (by decide +kernel) (Gd.app (Gd.r (by decide +kernel)) (Gd.app gwX_10 (Gd.app gwX_6 (Gd.app gs_X6_meltOn gs_X6_takenByActs))))
theorem gg_X10_lossOn_X6_meltOn : GoodIn vX10_lossOn (wsV RX10 43 RX6 yX6_meltOn vX6_meltOn) := goodIn_app (goodIn_r _ [1, 2, 3, 4] (by decide +kernel) (by decide +kernel)) (fun w h => ⟨List.mem_cons_of_mem _ (List.mem_append_right _ (List.mem_append_right _ (List.mem_append_right _ (List.mem_append_left _ h)))), gs_X6_meltOn w h⟩)
theorem gg_X10_lossOn_X6_takenByActs : GoodIn vX10_lossOn (wsV RX10 47 RX6 yX6_takenByActs vX6_takenByActs) := goodIn_app (goodIn_r _ [5, 6, 7, 4] (by decide +kernel) (by decide +kernel)) (fun w h => ⟨List.mem_cons_of_mem _ (List.mem_append_right _ (List.mem_append_right _ (List.mem_append_right _ (List.mem_append_right _ (h))))), gs_X6_takenByActs w h⟩)
set_option maxHeartbeats 4000000 in
set_option maxRecDepth 100000 in
theorem s_X10_lossOn (l : Launch) (D : va_G) (cs : Nat → ClassId) (ad : Nat → Nat) (kS : kSt) (K : sK) (hKO : KO K) (hj : wJ ad 218) (g : Nat → va_E) (hW : WF (shp ad K) ad cs g) (w : Nat) (ev : Int32) (dy : Int32) (hp0 : w = 114 ∨ w = 116) (hp1 : 0 ≤ ev.toInt ∧ ev.toInt ≤ 4) (hp2 : 0 ≤ dy.toInt ∧ dy.toInt ≤ 13) : sI l yX10_lossOn vX10_lossOn { frames := 1, cells := 0, slots := 0, locals := 22 } D cs ad kS [.ref (ad w), .ref (ad 3), .int ev, .int dy] g (fun r g2 => g2 = g) := by
  refine Met.startS (cc := cX10_lossOn) (maxL := 5) (ret := (some .int)) RX10 rfl (by decide) rfl (Nat.le_of_ble_eq_true rfl) ?_
  intro p e s m below meth c ls X Z hP hl
  have hx := X.1
  have hb := X.2.1
  have hS : va_S (wA ad 218) s.heap s.heap [] := va_S.rf
  have hA : ∀ i, i < 218 → wA ad 218 (ad i) := fun i h => ⟨i, h, rfl⟩
  have hw_w := hp0
  have hl : lv_has ls 5 [(0, .ref (ad w)), (1, .ref (ad 3)), (2, .int ev), (3, .int dy)] := hl
  refine lv_aload_n hx hb dX10_lossOn_0 rfl (lv_at hl 1 rfl) ?_
  refine lv_iload_n hx hb dX10_lossOn_1 rfl (lv_at hl 2 rfl) ?_
  refine lv_iload_n hx hb dX10_lossOn_2 rfl (lv_at hl 3 rfl) ?_
  obtain ⟨fsc_4, hgc_4, hOc_4⟩ := hW.obj (i := 3) (by decide) (sh_3 ad K)
  refine s_calli (q := (RX6, TX6, 18)) (As := [.int ev, .int dy]) (rest := []) X Z (s_X6_meltOn l D cs ad kS K hKO hj g hW ev dy (by omega) (by omega)) (cwV 2 X.2.2.2.2.1 gg_X10_lossOn_X6_meltOn rfl rfl rfl (by decide +kernel) ⟨Nat.le_of_ble_eq_true rfl, Nat.le_of_ble_eq_true rfl⟩) (by decide) hgc_4 rfl hP hA hS.2.1 hS rfl hl.1 rfl (Nat.le_of_ble_eq_true rfl) dX10_lossOn_3 ⟨Nat.le_of_ble_eq_true rfl, Nat.le_of_ble_eq_true rfl⟩ (fun r_3 g_2 H locs hw_1 hP hS => ?_)
  rw [hw_1] at hP
  refine lv_aload_n hx hb dX10_lossOn_6 rfl (lv_at hl 1 rfl) ?_
  refine lv_iload_n hx hb dX10_lossOn_7 rfl (lv_at hl 2 rfl) ?_
  refine lv_iload_n hx hb dX10_lossOn_8 rfl (lv_at hl 3 rfl) ?_
  refine s_calli (q := (RX6, TX6, 18)) (As := [.int ev, .int dy]) (rest := [.int r_3]) X Z (s_X6_takenByActs l D cs ad kS K hKO hj g hW ev dy (by omega) (by omega)) (cwV 2 X.2.2.2.2.1 gg_X10_lossOn_X6_takenByActs rfl rfl rfl (by decide +kernel) ⟨Nat.le_of_ble_eq_true rfl, Nat.le_of_ble_eq_true rfl⟩) (by decide) hgc_4 rfl hP hA hS.2.1 hS rfl hl.1 rfl (Nat.le_of_ble_eq_true rfl) dX10_lossOn_9 ⟨Nat.le_of_ble_eq_true rfl, Nat.le_of_ble_eq_true rfl⟩ (fun r_7 g_6 H locs hw_5 hP hS => ?_)
  rw [hw_5] at hP
  refine lv_iadd hx hb dX10_lossOn_12 ?_
  refine lv_topi (fun z_8 ez_8 => ?_)
  refine lv_istore (lv' := [(4, .int z_8), (0, .ref (ad w)), (1, .ref (ad 3)), (2, .int ev), (3, .int dy)]) hx hb dX10_lossOn_13 hl (by decide) rfl (fun ls hl => ?_)
  refine lv_aload_n hx hb dX10_lossOn_15 rfl (lv_at hl 1 rfl) ?_
  obtain ⟨fsc_9, hgc_9, hOc_9⟩ := hW.obj (i := w) (by omega) (shW_0 ad K hw_w)
  obtain ⟨x_11, hk_10, -⟩ := hOc_9.int 0 rfl
  refine q_get X iX10_lossOn_10 hP (by omega) hgc_9 rfl 0 (by decide) (List.mem_of_getElem? (i := 8) rfl) (v := .int x_11) hk_10 dX10_lossOn_16 ?_
  refine lv_iload_n hx hb dX10_lossOn_19 rfl (lv_at hl 4 rfl) ?_
  refine lv_ishr hx hb dX10_lossOn_20 ?_
  refine lv_topi (fun z_12 ez_12 => ?_)
  refine lv_iconst (v := 1) hx hb dX10_lossOn_21 (by decide) ?_
  refine lv_iand hx hb dX10_lossOn_22 ?_
  refine lv_topi (fun z_13 ez_13 => ?_)
  have hz_13 : 0 ≤ z_13.toInt ∧ z_13.toInt ≤ 1 := n_and 1 (by decide) (by decide) (by decide) ez_13
  have HJ37 : ∀ (v37_4 : Int32) (H : Heap) (locs : List Loc) (ls : Array Slot), va_P D vwCl (wL ad g 218) H → va_S (wA ad 218) s.heap H locs → lv_has ls 5 [(4, .int v37_4), (0, .ref (ad w)), (1, .ref (ad 3)), (2, .int ev), (3, .int dy)] → W p l e ({ frames := 1, cells := 0, slots := 0, locals := 22 } : Room) s m ([.ref (ad w), .ref (ad 3), .int ev, .int dy] : List Value).toArray below meth c H locs 0 0 (MQ below (qI D ad 218 (fun r g2 => g2 = g)) ([.ref (ad w), .ref (ad 3), .int ev, .int dy] : List Value).toArray s 0 0 (wA ad 218)) (F0 m 37 ls []) := by
    intro v37_4 H locs ls hP hS hl
    refine lv_iload_n hx hb dX10_lossOn_37 rfl (lv_at hl 3 rfl) ?_
    refine lv_aload_n hx hb dX10_lossOn_38 rfl (lv_at hl 1 rfl) ?_
    obtain ⟨x_15, hk_14, -⟩ := hOc_9.int 1 rfl
    refine q_get X iX10_lossOn_10 hP (by omega) hgc_9 rfl 1 (by decide) (List.mem_of_getElem? (i := 10) rfl) (v := .int x_15) hk_14 dX10_lossOn_39 ?_
    have HJ62 : ∀ (v62_4 : Int32) (H : Heap) (locs : List Loc) (ls : Array Slot), va_P D vwCl (wL ad g 218) H → va_S (wA ad 218) s.heap H locs → lv_has ls 5 [(4, .int v62_4)] → W p l e ({ frames := 1, cells := 0, slots := 0, locals := 22 } : Room) s m ([.ref (ad w), .ref (ad 3), .int ev, .int dy] : List Value).toArray below meth c H locs 0 0 (MQ below (qI D ad 218 (fun r g2 => g2 = g)) ([.ref (ad w), .ref (ad 3), .int ev, .int dy] : List Value).toArray s 0 0 (wA ad 218)) (F0 m 62 ls []) := by
      intro v62_4 H locs ls hP hS hl
      refine lv_iload hx hb dX10_lossOn_62 (lv_at hl 0 rfl) ?_
      exact q_iret X hP hS rfl dX10_lossOn_64
    refine lv_icmp_ne (tgt := 62) hx hb dX10_lossOn_42 (by decide) (fun hc_16 => ?_) (fun hc_16 => ?_)
    · have hhc_16 := n_ne (rfl : ev.toInt = ev.toInt) (rfl : x_15.toInt = x_15.toInt) hc_16
      exact HJ62 v37_4 _ _ ls hP hS (lv_sub hl [0] rfl)
    · have hhc_16 := n_eq (rfl : ev.toInt = ev.toInt) (rfl : x_15.toInt = x_15.toInt) hc_16
      refine lv_iload_n hx hb dX10_lossOn_45 rfl (lv_at hl 4 rfl) ?_
      refine lv_aload_n hx hb dX10_lossOn_46 rfl (lv_at hl 1 rfl) ?_
      obtain ⟨x_18, hk_17, -⟩ := hOc_9.int 2 rfl
      refine q_get X iX10_lossOn_10 hP (by omega) hgc_9 rfl 2 (by decide) (List.mem_of_getElem? (i := 11) rfl) (v := .int x_18) hk_17 dX10_lossOn_47 ?_
      refine lv_icmp_ne (tgt := 62) hx hb dX10_lossOn_50 (by decide) (fun hc_19 => ?_) (fun hc_19 => ?_)
      · have hhc_19 := n_ne (rfl : dy.toInt = dy.toInt) (rfl : x_18.toInt = x_18.toInt) hc_19
        exact HJ62 v37_4 _ _ ls hP hS (lv_sub hl [0] rfl)
      · have hhc_19 := n_eq (rfl : dy.toInt = dy.toInt) (rfl : x_18.toInt = x_18.toInt) hc_19
        refine lv_iload hx hb dX10_lossOn_53 (lv_at hl 0 rfl) ?_
        refine lv_aload_n hx hb dX10_lossOn_55 rfl (lv_at hl 2 rfl) ?_
        obtain ⟨x_21, hk_20, -⟩ := hOc_4.int 0 rfl
        refine q_get X iX10_lossOn_6 hP (by decide) hgc_4 rfl 0 (by decide) (List.mem_of_getElem? (i := 12) rfl) (v := .int x_21) hk_20 dX10_lossOn_56 ?_
        refine lv_iadd hx hb dX10_lossOn_59 ?_
        refine lv_topi (fun z_22 ez_22 => ?_)
        refine lv_istore (lv' := [(4, .int z_22), (0, .ref (ad w)), (1, .ref (ad 3)), (2, .int ev), (3, .int dy)]) hx hb dX10_lossOn_60 hl (by decide) rfl (fun ls hl => ?_)
        exact HJ62 z_22 _ _ ls hP hS (lv_sub hl [0] rfl)
  refine lv_if_eq (tgt := 37) hx hb dX10_lossOn_23 (by decide) (fun hc_23 => ?_) (fun hc_23 => ?_)
  · have hhc_23 := n_eq (rfl : z_13.toInt = z_13.toInt) (by decide : (0 : Int32).toInt = 0) hc_23
    exact HJ37 z_8 _ _ ls hP hS (lv_sub hl [0, 1, 2, 3, 4] rfl)
  · have hhc_23 := n_ne (rfl : z_13.toInt = z_13.toInt) (by decide : (0 : Int32).toInt = 0) hc_23
    refine lv_iload hx hb dX10_lossOn_26 (lv_at hl 0 rfl) ?_
    refine lv_aload_n hx hb dX10_lossOn_28 rfl (lv_at hl 2 rfl) ?_
    have hk_24 := hOc_4.ref 10 rfl
    refine q_get X iX10_lossOn_6 hP (by decide) hgc_4 rfl 10 (by decide) (List.mem_of_getElem? (i := 9) rfl) (v := .ref (ad 6)) hk_24 dX10_lossOn_29 ?_
    refine lv_iload_n hx hb dX10_lossOn_32 rfl (lv_at hl 3 rfl) ?_
    obtain ⟨fc_25, hgc_25, hFc_25⟩ := hW.arr (i := 6) (by decide) (sh_6 ad K)
    refine q_iald X hP (by decide) hgc_25 (n_in (rfl : ev.toInt = ev.toInt) (by omega) (by omega)) dX10_lossOn_33 ?_
    refine lv_topi (fun z_26 ez_26 => ?_)
    refine lv_iadd hx hb dX10_lossOn_34 ?_
    refine lv_topi (fun z_27 ez_27 => ?_)
    refine lv_istore (lv' := [(4, .int z_27), (0, .ref (ad w)), (1, .ref (ad 3)), (2, .int ev), (3, .int dy)]) hx hb dX10_lossOn_35 hl (by decide) rfl (fun ls hl => ?_)
    exact HJ37 z_27 _ _ ls hP hS (lv_sub hl [0, 1, 2, 3, 4] rfl)

theorem dX10_fallOf_0 : decode cX10_fallOf 0 = .ok (.iload_n 3, 1) := by decide +kernel
theorem dX10_fallOf_1 : decode cX10_fallOf 1 = .ok (.istore 4, 2) := by decide +kernel
theorem dX10_fallOf_3 : decode cX10_fallOf 3 = .ok (.iconst 0, 1) := by decide +kernel
theorem dX10_fallOf_4 : decode cX10_fallOf 4 = .ok (.istore 5, 2) := by decide +kernel
theorem dX10_fallOf_6 : decode cX10_fallOf 6 = .ok (.iload 5, 2) := by decide +kernel
theorem dX10_fallOf_8 : decode cX10_fallOf 8 = .ok (.aload_n 1, 1) := by decide +kernel
theorem dX10_fallOf_9 : decode cX10_fallOf 9 = .ok (.getfield 37, 3) := by decide +kernel
theorem dX10_fallOf_12 : decode cX10_fallOf 12 = .ok (.if_icmp .ge 30, 3) := by decide +kernel
theorem dX10_fallOf_15 : decode cX10_fallOf 15 = .ok (.iload 4, 2) := by decide +kernel
theorem dX10_fallOf_17 : decode cX10_fallOf 17 = .ok (.aload_n 0, 1) := by decide +kernel
theorem dX10_fallOf_18 : decode cX10_fallOf 18 = .ok (.aload_n 1, 1) := by decide +kernel
theorem dX10_fallOf_19 : decode cX10_fallOf 19 = .ok (.iload_n 2, 1) := by decide +kernel
theorem dX10_fallOf_20 : decode cX10_fallOf 20 = .ok (.iload 5, 2) := by decide +kernel
theorem dX10_fallOf_22 : decode cX10_fallOf 22 = .ok (.invokevirtual 40, 3) := by decide +kernel
theorem dX10_fallOf_25 : decode cX10_fallOf 25 = .ok (.isub, 1) := by decide +kernel
theorem dX10_fallOf_26 : decode cX10_fallOf 26 = .ok (.istore 4, 2) := by decide +kernel
theorem dX10_fallOf_28 : decode cX10_fallOf 28 = .ok (.iload 4, 2) := by decide +kernel
theorem dX10_fallOf_30 : decode cX10_fallOf 30 = .ok (.ifCond .gt 6, 3) := by decide +kernel
theorem dX10_fallOf_33 : decode cX10_fallOf 33 = .ok (.iload 5, 2) := by decide +kernel
theorem dX10_fallOf_35 : decode cX10_fallOf 35 = .ok (.ireturn, 1) := by decide +kernel
theorem dX10_fallOf_36 : decode cX10_fallOf 36 = .ok (.iinc 5 1, 3) := by decide +kernel
theorem dX10_fallOf_39 : decode cX10_fallOf 39 = .ok (.goto (-33), 3) := by decide +kernel
theorem dX10_fallOf_42 : decode cX10_fallOf 42 = .ok (.iconst (-1), 1) := by decide +kernel
theorem dX10_fallOf_43 : decode cX10_fallOf 43 = .ok (.ireturn, 1) := by decide +kernel
noncomputable def vX10_fallOf : List Cond := .code yX10_fallOf cX10_fallOf 6 (some .int) :: (([.fieldLink RX10 37 "IcicleClock$Street" "days" "I", .methodLink RX10 40 yX10_lossOn, .instanceMethod yX10_lossOn, .selects RX10 yX10_lossOn yX10_lossOn, .initialized RX10] : List Cond) ++ (wsX60 ++ vX10_lossOn))
theorem iX10_fallOf_6 : ∀ w ∈ wsX60, w ∈ vX10_fallOf := fun _ h => List.mem_cons_of_mem _ (List.mem_append_right _ (List.mem_append_left _ h))
theorem gs_X10_fallOf : Gd vX10_fallOf := Gd.cons (by decide +kernel) (Gd.app (Gd.r (by decide +kernel)) (Gd.app gwX_6 gs_X10_lossOn))
theorem gg_X10_fallOf_X10_lossOn : GoodIn vX10_fallOf (wsV RX10 40 RX10 yX10_lossOn vX10_lossOn) := goodIn_app (goodIn_r _ [2, 3, 4, 5] (by decide +kernel) (by decide +kernel)) (fun w h => ⟨List.mem_cons_of_mem _ (List.mem_append_right _ (List.mem_append_right _ (h))), gs_X10_lossOn w h⟩)
set_option maxHeartbeats 4000000 in
set_option maxRecDepth 100000 in
theorem s_X10_fallOf (l : Launch) (D : va_G) (cs : Nat → ClassId) (ad : Nat → Nat) (kS : kSt) (K : sK) (hKO : KO K) (hj : wJ ad 218) (g : Nat → va_E) (hW : WF (shp ad K) ad cs g) (w : Nat) (ev : Int32) (len : Int32) (hp0 : w = 114 ∨ w = 116) (hp1 : 0 ≤ ev.toInt ∧ ev.toInt ≤ 4) : sI l yX10_fallOf vX10_fallOf { frames := 2, cells := 0, slots := 0, locals := 46 } D cs ad kS [.ref (ad w), .ref (ad 3), .int ev, .int len] g (fun r g2 => g2 = g ∧ (-1 ≤ r.toInt ∧ r.toInt ≤ 13)) := by
  refine Met.startS (cc := cX10_fallOf) (maxL := 6) (ret := (some .int)) RX10 rfl (by decide) rfl (Nat.le_of_ble_eq_true rfl) ?_
  intro p e s m below meth c ls X Z hP hl
  have hx := X.1
  have hb := X.2.1
  have hS : va_S (wA ad 218) s.heap s.heap [] := va_S.rf
  have hA : ∀ i, i < 218 → wA ad 218 (ad i) := fun i h => ⟨i, h, rfl⟩
  have hw_w := hp0
  have hl : lv_has ls 6 [(0, .ref (ad w)), (1, .ref (ad 3)), (2, .int ev), (3, .int len)] := hl
  refine lv_iload_n hx hb dX10_fallOf_0 rfl (lv_at hl 3 rfl) ?_
  refine lv_istore (lv' := [(4, .int len), (0, .ref (ad w)), (1, .ref (ad 3)), (2, .int ev), (3, .int len)]) hx hb dX10_fallOf_1 hl (by decide) rfl (fun ls hl => ?_)
  refine lv_iconst (v := 0) hx hb dX10_fallOf_3 (by decide) ?_
  refine lv_istore (lv' := [(5, .int 0), (4, .int len), (0, .ref (ad w)), (1, .ref (ad 3)), (2, .int ev), (3, .int len)]) hx hb dX10_fallOf_4 hl (by decide) rfl (fun ls hl => ?_)
  have HL6 : ∀ (n6 : Nat) (v6_5 : Int32) (v6_4 : Int32) (H : Heap) (locs : List Loc) (ls : Array Slot), (14 - v6_5.toInt).toNat < n6 → (0 ≤ v6_5.toInt ∧ v6_5.toInt ≤ 14) → va_P D vwCl (wL ad g 218) H → va_S (wA ad 218) s.heap H locs → lv_has ls 6 [(5, .int v6_5), (4, .int v6_4), (0, .ref (ad w)), (1, .ref (ad 3)), (2, .int ev)] → W p l e ({ frames := 2, cells := 0, slots := 0, locals := 46 } : Room) s m ([.ref (ad w), .ref (ad 3), .int ev, .int len] : List Value).toArray below meth c H locs 0 0 (MQ below (qI D ad 218 (fun r g2 => g2 = g ∧ (-1 ≤ r.toInt ∧ r.toInt ≤ 13))) ([.ref (ad w), .ref (ad 3), .int ev, .int len] : List Value).toArray s 0 0 (wA ad 218)) (F0 m 6 ls []) := by
    intro n6
    induction n6 with
    | zero =>
      intro v6_5 v6_4 H locs ls hm6 hv6_0 hP hS hl
      exact absurd hm6 (Nat.not_lt_zero _)
    | succ n6 ih6 =>
      intro v6_5 v6_4 H locs ls hm6 hv6_0 hP hS hl
      refine lv_iload hx hb dX10_fallOf_6 (lv_at hl 0 rfl) ?_
      refine lv_aload_n hx hb dX10_fallOf_8 rfl (lv_at hl 3 rfl) ?_
      obtain ⟨fsc_1, hgc_1, hOc_1⟩ := hW.obj (i := 3) (by decide) (sh_3 ad K)
      obtain ⟨x_3, hk_2, hlx_3, hhx_3⟩ := hOc_1.int 3 rfl
      refine q_get X iX10_fallOf_6 hP (by decide) hgc_1 rfl 3 (by decide) (List.mem_of_getElem? (i := 1) rfl) (v := .int x_3) hk_2 dX10_fallOf_9 ?_
      refine lv_icmp_ge (tgt := 42) hx hb dX10_fallOf_12 (by decide) (fun hc_4 => ?_) (fun hc_4 => ?_)
      · have hhc_4 := n_le (rfl : x_3.toInt = x_3.toInt) (rfl : v6_5.toInt = v6_5.toInt) hc_4
        refine lv_iconst (v := (-1)) hx hb dX10_fallOf_42 (by decide) ?_
        have hr0 : ((-1) : Int32).toInt = -1 := by decide
        exact q_iret X hP hS ⟨rfl, (by omega)⟩ dX10_fallOf_43
      · have hhc_4 := n_nle (rfl : x_3.toInt = x_3.toInt) (rfl : v6_5.toInt = v6_5.toInt) hc_4
        refine lv_iload hx hb dX10_fallOf_15 (lv_at hl 1 rfl) ?_
        refine lv_aload_n hx hb dX10_fallOf_17 rfl (lv_at hl 2 rfl) ?_
        refine lv_aload_n hx hb dX10_fallOf_18 rfl (lv_at hl 3 rfl) ?_
        refine lv_iload_n hx hb dX10_fallOf_19 rfl (lv_at hl 4 rfl) ?_
        refine lv_iload hx hb dX10_fallOf_20 (lv_at hl 0 rfl) ?_
        obtain ⟨fsc_8, hgc_8, hOc_8⟩ := hW.obj (i := w) (by omega) (shW_0 ad K hw_w)
        refine s_calli (q := (RX10, TX10, 4)) (As := [.ref (ad 3), .int ev, .int v6_5]) (rest := [.int v6_4]) X Z (s_X10_lossOn l D cs ad kS K hKO hj g hW w ev v6_5 (by omega) (by omega) (by omega)) (cwV 3 X.2.2.2.2.1 gg_X10_fallOf_X10_lossOn rfl rfl rfl (by decide +kernel) ⟨Nat.le_of_ble_eq_true rfl, Nat.le_of_ble_eq_true rfl⟩) (by omega) hgc_8 rfl hP hA hS.2.1 hS rfl hl.1 rfl (Nat.le_of_ble_eq_true rfl) dX10_fallOf_22 ⟨Nat.le_of_ble_eq_true rfl, Nat.le_of_ble_eq_true rfl⟩ (fun r_7 g_6 H locs hw_5 hP hS => ?_)
        rw [hw_5] at hP
        refine lv_isub hx hb dX10_fallOf_25 ?_
        refine lv_topi (fun z_9 ez_9 => ?_)
        refine lv_istore (lv' := [(4, .int z_9), (5, .int v6_5), (0, .ref (ad w)), (1, .ref (ad 3)), (2, .int ev)]) hx hb dX10_fallOf_26 hl (by decide) rfl (fun ls hl => ?_)
        refine lv_iload hx hb dX10_fallOf_28 (lv_at hl 0 rfl) ?_
        refine lv_if_gt (tgt := 36) hx hb dX10_fallOf_30 (by decide) (fun hc_10 => ?_) (fun hc_10 => ?_)
        · have hhc_10 := n_lt (by decide : (0 : Int32).toInt = 0) (rfl : z_9.toInt = z_9.toInt) hc_10
          obtain ⟨x_11, ex_11⟩ : ∃ y : Int32, y = v6_5 + 1 := ⟨_, rfl⟩
          have hx_11 : x_11.toInt = v6_5.toInt + 1 := n_add rfl (by decide : (1 : Int32).toInt = 1) ex_11 (by omega) (by omega)
          refine lv_iinc (v := x_11) (lv' := [(5, .int x_11), (4, .int z_9), (0, .ref (ad w)), (1, .ref (ad 3)), (2, .int ev)]) hx hb dX10_fallOf_36 hl (k := 1) rfl (by rw [ex_11]; rfl) (by decide) rfl (fun ls hl => ?_)
          refine lv_goto (tgt := 6) hx hb dX10_fallOf_39 (by decide) ?_
          exact ih6 x_11 z_9 _ _ ls (by omega) (by omega) hP hS (lv_sub hl [0, 1, 2, 3, 4] rfl)
        · have hhc_10 := n_nlt (by decide : (0 : Int32).toInt = 0) (rfl : z_9.toInt = z_9.toInt) hc_10
          refine lv_iload hx hb dX10_fallOf_33 (lv_at hl 1 rfl) ?_
          exact q_iret X hP hS ⟨rfl, (by omega)⟩ dX10_fallOf_35
  have hiv6_5 : (0 : Int32).toInt = 0 := by decide
  exact HL6 _ 0 len _ _ ls (Nat.lt_succ_self _) (by omega) hP hS (lv_sub hl [0, 1, 2, 3, 4] rfl)

theorem dX10_lossThrough_0 : decode cX10_lossThrough 0 = .ok (.iconst 0, 1) := by decide +kernel
theorem dX10_lossThrough_1 : decode cX10_lossThrough 1 = .ok (.istore 4, 2) := by decide +kernel
theorem dX10_lossThrough_3 : decode cX10_lossThrough 3 = .ok (.iconst 0, 1) := by decide +kernel
theorem dX10_lossThrough_4 : decode cX10_lossThrough 4 = .ok (.istore 5, 2) := by decide +kernel
theorem dX10_lossThrough_6 : decode cX10_lossThrough 6 = .ok (.iload 5, 2) := by decide +kernel
theorem dX10_lossThrough_8 : decode cX10_lossThrough 8 = .ok (.iload_n 3, 1) := by decide +kernel
theorem dX10_lossThrough_9 : decode cX10_lossThrough 9 = .ok (.if_icmp .gt 22, 3) := by decide +kernel
theorem dX10_lossThrough_12 : decode cX10_lossThrough 12 = .ok (.iload 4, 2) := by decide +kernel
theorem dX10_lossThrough_14 : decode cX10_lossThrough 14 = .ok (.aload_n 0, 1) := by decide +kernel
theorem dX10_lossThrough_15 : decode cX10_lossThrough 15 = .ok (.aload_n 1, 1) := by decide +kernel
theorem dX10_lossThrough_16 : decode cX10_lossThrough 16 = .ok (.iload_n 2, 1) := by decide +kernel
theorem dX10_lossThrough_17 : decode cX10_lossThrough 17 = .ok (.iload 5, 2) := by decide +kernel
theorem dX10_lossThrough_19 : decode cX10_lossThrough 19 = .ok (.invokevirtual 40, 3) := by decide +kernel
theorem dX10_lossThrough_22 : decode cX10_lossThrough 22 = .ok (.iadd, 1) := by decide +kernel
theorem dX10_lossThrough_23 : decode cX10_lossThrough 23 = .ok (.istore 4, 2) := by decide +kernel
theorem dX10_lossThrough_25 : decode cX10_lossThrough 25 = .ok (.iinc 5 1, 3) := by decide +kernel
theorem dX10_lossThrough_28 : decode cX10_lossThrough 28 = .ok (.goto (-22), 3) := by decide +kernel
theorem dX10_lossThrough_31 : decode cX10_lossThrough 31 = .ok (.iload 4, 2) := by decide +kernel
theorem dX10_lossThrough_33 : decode cX10_lossThrough 33 = .ok (.ireturn, 1) := by decide +kernel
noncomputable def vX10_lossThrough : List Cond := .code yX10_lossThrough cX10_lossThrough 6 (some .int) :: (([.methodLink RX10 40 yX10_lossOn, .instanceMethod yX10_lossOn, .selects RX10 yX10_lossOn yX10_lossOn, .initialized RX10] : List Cond) ++ vX10_lossOn)
theorem gs_X10_lossThrough : Gd vX10_lossThrough := Gd.cons (by decide +kernel) (Gd.app (Gd.r (by decide +kernel)) gs_X10_lossOn)
theorem gg_X10_lossThrough_X10_lossOn : GoodIn vX10_lossThrough (wsV RX10 40 RX10 yX10_lossOn vX10_lossOn) := goodIn_app (goodIn_r _ [1, 2, 3, 4] (by decide +kernel) (by decide +kernel)) (fun w h => ⟨List.mem_cons_of_mem _ (List.mem_append_right _ (h)), gs_X10_lossOn w h⟩)
set_option maxHeartbeats 4000000 in
set_option maxRecDepth 100000 in
theorem s_X10_lossThrough (l : Launch) (D : va_G) (cs : Nat → ClassId) (ad : Nat → Nat) (kS : kSt) (K : sK) (hKO : KO K) (hj : wJ ad 218) (g : Nat → va_E) (hW : WF (shp ad K) ad cs g) (w : Nat) (ev : Int32) (la : Int32) (hp0 : w = 114 ∨ w = 116) (hp1 : 0 ≤ ev.toInt ∧ ev.toInt ≤ 4) (hp2 : (-1) ≤ la.toInt ∧ la.toInt ≤ 13) : sI l yX10_lossThrough vX10_lossThrough { frames := 2, cells := 0, slots := 0, locals := 46 } D cs ad kS [.ref (ad w), .ref (ad 3), .int ev, .int la] g (fun r g2 => g2 = g) := by
  refine Met.startS (cc := cX10_lossThrough) (maxL := 6) (ret := (some .int)) RX10 rfl (by decide) rfl (Nat.le_of_ble_eq_true rfl) ?_
  intro p e s m below meth c ls X Z hP hl
  have hx := X.1
  have hb := X.2.1
  have hS : va_S (wA ad 218) s.heap s.heap [] := va_S.rf
  have hA : ∀ i, i < 218 → wA ad 218 (ad i) := fun i h => ⟨i, h, rfl⟩
  have hw_w := hp0
  have hl : lv_has ls 6 [(0, .ref (ad w)), (1, .ref (ad 3)), (2, .int ev), (3, .int la)] := hl
  refine lv_iconst (v := 0) hx hb dX10_lossThrough_0 (by decide) ?_
  refine lv_istore (lv' := [(4, .int 0), (0, .ref (ad w)), (1, .ref (ad 3)), (2, .int ev), (3, .int la)]) hx hb dX10_lossThrough_1 hl (by decide) rfl (fun ls hl => ?_)
  refine lv_iconst (v := 0) hx hb dX10_lossThrough_3 (by decide) ?_
  refine lv_istore (lv' := [(5, .int 0), (4, .int 0), (0, .ref (ad w)), (1, .ref (ad 3)), (2, .int ev), (3, .int la)]) hx hb dX10_lossThrough_4 hl (by decide) rfl (fun ls hl => ?_)
  have HL6 : ∀ (n6 : Nat) (v6_5 : Int32) (v6_4 : Int32) (H : Heap) (locs : List Loc) (ls : Array Slot), (14 - v6_5.toInt).toNat < n6 → (0 ≤ v6_5.toInt ∧ v6_5.toInt ≤ 14) → va_P D vwCl (wL ad g 218) H → va_S (wA ad 218) s.heap H locs → lv_has ls 6 [(5, .int v6_5), (4, .int v6_4), (0, .ref (ad w)), (1, .ref (ad 3)), (2, .int ev), (3, .int la)] → W p l e ({ frames := 2, cells := 0, slots := 0, locals := 46 } : Room) s m ([.ref (ad w), .ref (ad 3), .int ev, .int la] : List Value).toArray below meth c H locs 0 0 (MQ below (qI D ad 218 (fun r g2 => g2 = g)) ([.ref (ad w), .ref (ad 3), .int ev, .int la] : List Value).toArray s 0 0 (wA ad 218)) (F0 m 6 ls []) := by
    intro n6
    induction n6 with
    | zero =>
      intro v6_5 v6_4 H locs ls hm6 hv6_0 hP hS hl
      exact absurd hm6 (Nat.not_lt_zero _)
    | succ n6 ih6 =>
      intro v6_5 v6_4 H locs ls hm6 hv6_0 hP hS hl
      refine lv_iload hx hb dX10_lossThrough_6 (lv_at hl 0 rfl) ?_
      refine lv_iload_n hx hb dX10_lossThrough_8 rfl (lv_at hl 5 rfl) ?_
      refine lv_icmp_gt (tgt := 31) hx hb dX10_lossThrough_9 (by decide) (fun hc_1 => ?_) (fun hc_1 => ?_)
      · have hhc_1 := n_lt (rfl : la.toInt = la.toInt) (rfl : v6_5.toInt = v6_5.toInt) hc_1
        refine lv_iload hx hb dX10_lossThrough_31 (lv_at hl 1 rfl) ?_
        exact q_iret X hP hS rfl dX10_lossThrough_33
      · have hhc_1 := n_nlt (rfl : la.toInt = la.toInt) (rfl : v6_5.toInt = v6_5.toInt) hc_1
        refine lv_iload hx hb dX10_lossThrough_12 (lv_at hl 1 rfl) ?_
        refine lv_aload_n hx hb dX10_lossThrough_14 rfl (lv_at hl 2 rfl) ?_
        refine lv_aload_n hx hb dX10_lossThrough_15 rfl (lv_at hl 3 rfl) ?_
        refine lv_iload_n hx hb dX10_lossThrough_16 rfl (lv_at hl 4 rfl) ?_
        refine lv_iload hx hb dX10_lossThrough_17 (lv_at hl 0 rfl) ?_
        obtain ⟨fsc_5, hgc_5, hOc_5⟩ := hW.obj (i := w) (by omega) (shW_0 ad K hw_w)
        refine s_calli (q := (RX10, TX10, 4)) (As := [.ref (ad 3), .int ev, .int v6_5]) (rest := [.int v6_4]) X Z (s_X10_lossOn l D cs ad kS K hKO hj g hW w ev v6_5 (by omega) (by omega) (by omega)) (cwV 3 X.2.2.2.2.1 gg_X10_lossThrough_X10_lossOn rfl rfl rfl (by decide +kernel) ⟨Nat.le_of_ble_eq_true rfl, Nat.le_of_ble_eq_true rfl⟩) (by omega) hgc_5 rfl hP hA hS.2.1 hS rfl hl.1 rfl (Nat.le_of_ble_eq_true rfl) dX10_lossThrough_19 ⟨Nat.le_of_ble_eq_true rfl, Nat.le_of_ble_eq_true rfl⟩ (fun r_4 g_3 H locs hw_2 hP hS => ?_)
        rw [hw_2] at hP
        refine lv_iadd hx hb dX10_lossThrough_22 ?_
        refine lv_topi (fun z_6 ez_6 => ?_)
        refine lv_istore (lv' := [(4, .int z_6), (5, .int v6_5), (0, .ref (ad w)), (1, .ref (ad 3)), (2, .int ev), (3, .int la)]) hx hb dX10_lossThrough_23 hl (by decide) rfl (fun ls hl => ?_)
        obtain ⟨x_7, ex_7⟩ : ∃ y : Int32, y = v6_5 + 1 := ⟨_, rfl⟩
        have hx_7 : x_7.toInt = v6_5.toInt + 1 := n_add rfl (by decide : (1 : Int32).toInt = 1) ex_7 (by omega) (by omega)
        refine lv_iinc (v := x_7) (lv' := [(5, .int x_7), (4, .int z_6), (0, .ref (ad w)), (1, .ref (ad 3)), (2, .int ev), (3, .int la)]) hx hb dX10_lossThrough_25 hl (k := 1) rfl (by rw [ex_7]; rfl) (by decide) rfl (fun ls hl => ?_)
        refine lv_goto (tgt := 6) hx hb dX10_lossThrough_28 (by decide) ?_
        exact ih6 x_7 z_6 _ _ ls (by omega) (by omega) hP hS (lv_sub hl [0, 1, 2, 3, 4, 5] rfl)
  have hiv6_5 : (0 : Int32).toInt = 0 := by decide
  have hiv6_4 : (0 : Int32).toInt = 0 := by decide
  exact HL6 _ 0 0 _ _ ls (Nat.lt_succ_self _) (by omega) hP hS (lv_sub hl [0, 1, 2, 3, 4, 5] rfl)

theorem dX10_fellBy_0 : decode cX10_fellBy 0 = .ok (.aload_n 0, 1) := by decide +kernel
theorem dX10_fellBy_1 : decode cX10_fellBy 1 = .ok (.getfield 18, 3) := by decide +kernel
theorem dX10_fellBy_4 : decode cX10_fellBy 4 = .ok (.iload_n 1, 1) := by decide +kernel
theorem dX10_fellBy_5 : decode cX10_fellBy 5 = .ok (.iaload, 1) := by decide +kernel
theorem dX10_fellBy_6 : decode cX10_fellBy 6 = .ok (.iconst (-1), 1) := by decide +kernel
theorem dX10_fellBy_7 : decode cX10_fellBy 7 = .ok (.if_icmp .eq 17, 3) := by decide +kernel
theorem dX10_fellBy_10 : decode cX10_fellBy 10 = .ok (.aload_n 0, 1) := by decide +kernel
theorem dX10_fellBy_11 : decode cX10_fellBy 11 = .ok (.getfield 18, 3) := by decide +kernel
theorem dX10_fellBy_14 : decode cX10_fellBy 14 = .ok (.iload_n 1, 1) := by decide +kernel
theorem dX10_fellBy_15 : decode cX10_fellBy 15 = .ok (.iaload, 1) := by decide +kernel
theorem dX10_fellBy_16 : decode cX10_fellBy 16 = .ok (.iload_n 2, 1) := by decide +kernel
theorem dX10_fellBy_17 : decode cX10_fellBy 17 = .ok (.if_icmp .gt 7, 3) := by decide +kernel
theorem dX10_fellBy_20 : decode cX10_fellBy 20 = .ok (.iconst 1, 1) := by decide +kernel
theorem dX10_fellBy_21 : decode cX10_fellBy 21 = .ok (.goto 4, 3) := by decide +kernel
theorem dX10_fellBy_24 : decode cX10_fellBy 24 = .ok (.iconst 0, 1) := by decide +kernel
theorem dX10_fellBy_25 : decode cX10_fellBy 25 = .ok (.ireturn, 1) := by decide +kernel
noncomputable def vX10_fellBy : List Cond := .code yX10_fellBy cX10_fellBy 3 (some .boolean) :: (([.fieldLink RX10 18 "IcicleClock$Winter" "fall" "[I"] : List Cond) ++ wsX100)
theorem iX10_fellBy_10 : ∀ w ∈ wsX100, w ∈ vX10_fellBy := fun _ h => List.mem_cons_of_mem _ (List.mem_append_right _ (h))
theorem gs_X10_fellBy : Gd vX10_fellBy := Gd.cons (by decide +kernel) (Gd.app (Gd.r (by decide +kernel)) gwX_10)
set_option maxHeartbeats 4000000 in
set_option maxRecDepth 100000 in
theorem s_X10_fellBy (l : Launch) (D : va_G) (cs : Nat → ClassId) (ad : Nat → Nat) (kS : kSt) (K : sK) (hKO : KO K) (hj : wJ ad 218) (g : Nat → va_E) (hW : WF (shp ad K) ad cs g) (w : Nat) (ic : Int32) (dy : Int32) (hp0 : w = 114 ∨ w = 116) (hp1 : 0 ≤ ic.toInt ∧ ic.toInt ≤ 7) : sI l yX10_fellBy vX10_fellBy { frames := 0, cells := 0, slots := 0, locals := 0 } D cs ad kS [.ref (ad w), .int ic, .int dy] g (fun r g2 => g2 = g ∧ (0 ≤ r.toInt ∧ r.toInt ≤ 1)) := by
  refine Met.startS (cc := cX10_fellBy) (maxL := 3) (ret := (some .boolean)) RX10 rfl (by decide) rfl (Nat.le_of_ble_eq_true rfl) ?_
  intro p e s m below meth c ls X Z hP hl
  have hx := X.1
  have hb := X.2.1
  have hS : va_S (wA ad 218) s.heap s.heap [] := va_S.rf
  have hA : ∀ i, i < 218 → wA ad 218 (ad i) := fun i h => ⟨i, h, rfl⟩
  have hw_w := hp0
  have hl : lv_has ls 3 [(0, .ref (ad w)), (1, .int ic), (2, .int dy)] := hl
  refine lv_aload_n hx hb dX10_fellBy_0 rfl (lv_at hl 0 rfl) ?_
  obtain ⟨fsc_1, hgc_1, hOc_1⟩ := hW.obj (i := w) (by omega) (shW_0 ad K hw_w)
  have hk_2 := hOc_1.ref 3 rfl
  refine q_get X iX10_fellBy_10 hP (by omega) hgc_1 rfl 3 (by decide) (List.mem_of_getElem? (i := 1) rfl) (v := .ref (ad (w + 1))) hk_2 dX10_fellBy_1 ?_
  refine lv_iload_n hx hb dX10_fellBy_4 rfl (lv_at hl 1 rfl) ?_
  obtain ⟨fc_3, hgc_3, hFc_3⟩ := hW.arr (i := (w + 1)) (by omega) (shW_1 ad K hw_w)
  refine q_iald X hP (by omega) hgc_3 (n_in (rfl : ic.toInt = ic.toInt) (by omega) (by omega)) dX10_fellBy_5 ?_
  refine lv_topi (fun z_4 ez_4 => ?_)
  have hz_4 : (-1) ≤ z_4.toInt ∧ z_4.toInt ≤ 13 := ez_4 ▸ hFc_3 _
  refine lv_iconst (v := (-1)) hx hb dX10_fellBy_6 (by decide) ?_
  have HJ24 : ∀ (H : Heap) (locs : List Loc) (ls : Array Slot), va_P D vwCl (wL ad g 218) H → va_S (wA ad 218) s.heap H locs → lv_has ls 3 [] → W p l e ({ frames := 0, cells := 0, slots := 0, locals := 0 } : Room) s m ([.ref (ad w), .int ic, .int dy] : List Value).toArray below meth c H locs 0 0 (MQ below (qI D ad 218 (fun r g2 => g2 = g ∧ (0 ≤ r.toInt ∧ r.toInt ≤ 1))) ([.ref (ad w), .int ic, .int dy] : List Value).toArray s 0 0 (wA ad 218)) (F0 m 24 ls []) := by
    intro H locs ls hP hS hl
    refine lv_iconst (v := 0) hx hb dX10_fellBy_24 (by decide) ?_
    have hr0 : (0 : Int32).toInt = 0 := by decide
    exact q_zret X hP hS rfl ⟨rfl, (by omega)⟩ dX10_fellBy_25
  refine lv_icmp_eq (tgt := 24) hx hb dX10_fellBy_7 (by decide) (fun hc_5 => ?_) (fun hc_5 => ?_)
  · have hhc_5 := n_eq (rfl : z_4.toInt = z_4.toInt) (by decide : (-1 : Int32).toInt = -1) hc_5
    exact HJ24 _ _ ls hP hS (lv_sub hl [] rfl)
  · have hhc_5 := n_ne (rfl : z_4.toInt = z_4.toInt) (by decide : (-1 : Int32).toInt = -1) hc_5
    refine lv_aload_n hx hb dX10_fellBy_10 rfl (lv_at hl 0 rfl) ?_
    refine q_get X iX10_fellBy_10 hP (by omega) hgc_1 rfl 3 (by decide) (List.mem_of_getElem? (i := 1) rfl) (v := .ref (ad (w + 1))) hk_2 dX10_fellBy_11 ?_
    refine lv_iload_n hx hb dX10_fellBy_14 rfl (lv_at hl 1 rfl) ?_
    refine q_iald X hP (by omega) hgc_3 (n_in (rfl : ic.toInt = ic.toInt) (by omega) (by omega)) dX10_fellBy_15 ?_
    refine lv_topi (fun z_6 ez_6 => ?_)
    have hz_6 : (-1) ≤ z_6.toInt ∧ z_6.toInt ≤ 13 := ez_6 ▸ hFc_3 _
    have hsz_6 : z_6.toInt = z_4.toInt := by rw [ez_6, ez_4]
    refine lv_iload_n hx hb dX10_fellBy_16 rfl (lv_at hl 2 rfl) ?_
    refine lv_icmp_gt (tgt := 24) hx hb dX10_fellBy_17 (by decide) (fun hc_7 => ?_) (fun hc_7 => ?_)
    · have hhc_7 := n_lt (rfl : dy.toInt = dy.toInt) (rfl : z_6.toInt = z_6.toInt) hc_7
      have := n_hi dy
      have := n_lo dy
      exact HJ24 _ _ ls hP hS (lv_sub hl [] rfl)
    · have hhc_7 := n_nlt (rfl : dy.toInt = dy.toInt) (rfl : z_6.toInt = z_6.toInt) hc_7
      have := n_hi dy
      have := n_lo dy
      refine lv_iconst (v := 1) hx hb dX10_fellBy_20 (by decide) ?_
      refine lv_goto (tgt := 25) hx hb dX10_fellBy_21 (by decide) ?_
      have hr0 : (1 : Int32).toInt = 1 := by decide
      exact q_zret X hP hS rfl ⟨rfl, (by omega)⟩ dX10_fellBy_25
