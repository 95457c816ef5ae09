theorem dX12_in_0 : decode cX12_in 0 = .ok (.lload_n 0, 1) := by decide +kernel
theorem dX12_in_1 : decode cX12_in 1 = .ok (.lload_n 2, 1) := by decide +kernel
theorem dX12_in_2 : decode cX12_in 2 = .ok (.lcmp, 1) := by decide +kernel
theorem dX12_in_3 : decode cX12_in 3 = .ok (.ifCond .lt 14, 3) := by decide +kernel
theorem dX12_in_6 : decode cX12_in 6 = .ok (.lload_n 0, 1) := by decide +kernel
theorem dX12_in_7 : decode cX12_in 7 = .ok (.lload 4, 2) := by decide +kernel
theorem dX12_in_9 : decode cX12_in 9 = .ok (.lcmp, 1) := by decide +kernel
theorem dX12_in_10 : decode cX12_in 10 = .ok (.ifCond .gt 7, 3) := by decide +kernel
theorem dX12_in_13 : decode cX12_in 13 = .ok (.iconst 1, 1) := by decide +kernel
theorem dX12_in_14 : decode cX12_in 14 = .ok (.goto 4, 3) := by decide +kernel
theorem dX12_in_17 : decode cX12_in 17 = .ok (.iconst 0, 1) := by decide +kernel
theorem dX12_in_18 : decode cX12_in 18 = .ok (.ireturn, 1) := by decide +kernel
noncomputable def vX12_in : List Cond := .code yX12_in cX12_in 6 (some .boolean) :: ([] : List Cond)
theorem gs_X12_in : Gd vX12_in := Gd.cons (by decide +kernel) (Gd.r (by decide +kernel))
set_option maxHeartbeats 4000000 in
set_option maxRecDepth 100000 in
theorem s_X12_in (l : Launch) (D : va_G) (cs : Nat → ClassId) (ad : Nat → Nat) (kS : kSt) (K : sK) (hKO : KO K) (hj : wJ ad 218) (g : Nat → va_E) (hW : WF (shp ad K) ad cs g) (jv : Int64) (jl : Int64) (jh : Int64) : sI l yX12_in vX12_in { frames := 0, cells := 0, slots := 0, locals := 0 } D cs ad kS [.long jv, .long jl, .long jh] g (fun r g2 => g2 = g ∧ (0 ≤ r.toInt ∧ r.toInt ≤ 1 ∧ (r.toInt ≠ 0 → jl.toInt ≤ jv.toInt ∧ jv.toInt ≤ jh.toInt) ∧ (r.toInt = 0 → jv.toInt < jl.toInt ∨ jh.toInt < jv.toInt))) := by
  refine Met.startS (cc := cX12_in) (maxL := 6) (ret := (some .boolean)) RX12 rfl (by decide) rfl (Nat.le_of_ble_eq_true rfl) ?_
  intro p e s m below meth c ls X Z hP hl
  have hx := X.1
  have hb := X.2.1
  have hS : va_S (wA ad 218) s.heap s.heap [] := va_S.rf
  have hA : ∀ i, i < 218 → wA ad 218 (ad i) := fun i h => ⟨i, h, rfl⟩
  have hl : lv_has ls 6 [(0, .long jv), (2, .long jl), (4, .long jh)] := hl
  refine lv_lload_n hx hb dX12_in_0 rfl (lv_at hl 0 rfl) ?_
  refine lv_lload_n hx hb dX12_in_1 rfl (lv_at hl 1 rfl) ?_
  refine W.lcmp hx hb dX12_in_2 ?_
  have HJ17 : ∀ (H : Heap) (locs : List Loc) (ls : Array Slot), (jv.toInt < jl.toInt ∨ jh.toInt < jv.toInt) → va_P D vwCl (wL ad g 218) H → va_S (wA ad 218) s.heap H locs → lv_has ls 6 [] → W p l e ({ frames := 0, cells := 0, slots := 0, locals := 0 } : Room) s m ([.long jv, .long jl, .long jh] : List Value).toArray below meth c H locs 0 0 (MQ below (qI D ad 218 (fun r g2 => g2 = g ∧ (0 ≤ r.toInt ∧ r.toInt ≤ 1 ∧ (r.toInt ≠ 0 → jl.toInt ≤ jv.toInt ∧ jv.toInt ≤ jh.toInt) ∧ (r.toInt = 0 → jv.toInt < jl.toInt ∨ jh.toInt < jv.toInt)))) ([.long jv, .long jl, .long jh] : List Value).toArray s 0 0 (wA ad 218)) (F0 m 17 ls []) := by
    intro H locs ls he17_0 hP hS hl
    refine lv_iconst (v := 0) hx hb dX12_in_17 (by decide) ?_
    have hr0 : (0 : Int32).toInt = 0 := by decide
    exact q_zret X hP hS rfl ⟨rfl, (by omega)⟩ dX12_in_18
  refine lv_if_lt (tgt := 17) hx hb dX12_in_3 (by decide) (fun hc_1 => ?_) (fun hc_1 => ?_)
  · have hhc_1 := j_clt (rfl : jv.toInt = jv.toInt) (rfl : jl.toInt = jl.toInt) hc_1
    exact HJ17 _ _ ls (by omega) hP hS (lv_sub hl [] rfl)
  · have hhc_1 := j_cge (rfl : jv.toInt = jv.toInt) (rfl : jl.toInt = jl.toInt) hc_1
    refine lv_lload_n hx hb dX12_in_6 rfl (lv_at hl 0 rfl) ?_
    refine lv_lload hx hb dX12_in_7 (lv_at hl 2 rfl) ?_
    refine W.lcmp hx hb dX12_in_9 ?_
    refine lv_if_gt (tgt := 17) hx hb dX12_in_10 (by decide) (fun hc_2 => ?_) (fun hc_2 => ?_)
    · have hhc_2 := j_cgt (rfl : jv.toInt = jv.toInt) (rfl : jh.toInt = jh.toInt) hc_2
      exact HJ17 _ _ ls (by omega) hP hS (lv_sub hl [] rfl)
    · have hhc_2 := j_cle (rfl : jv.toInt = jv.toInt) (rfl : jh.toInt = jh.toInt) hc_2
      refine lv_iconst (v := 1) hx hb dX12_in_13 (by decide) ?_
      refine lv_goto (tgt := 18) hx hb dX12_in_14 (by decide) ?_
      have hr0 : (1 : Int32).toInt = 1 := by decide
      exact q_zret X hP hS rfl ⟨rfl, (by omega)⟩ dX12_in_18

theorem dX12_isStreet_0 : decode cX12_isStreet 0 = .ok (.aload_n 0, 1) := by decide +kernel
theorem dX12_isStreet_1 : decode cX12_isStreet 1 = .ok (.getfield 9, 3) := by decide +kernel
theorem dX12_isStreet_4 : decode cX12_isStreet 4 = .ok (.bipush 8, 2) := by decide +kernel
theorem dX12_isStreet_6 : decode cX12_isStreet 6 = .ok (.iaload, 1) := by decide +kernel
theorem dX12_isStreet_7 : decode cX12_isStreet 7 = .ok (.ifCond .le 7, 3) := by decide +kernel
theorem dX12_isStreet_10 : decode cX12_isStreet 10 = .ok (.iconst 1, 1) := by decide +kernel
theorem dX12_isStreet_11 : decode cX12_isStreet 11 = .ok (.goto 4, 3) := by decide +kernel
theorem dX12_isStreet_14 : decode cX12_isStreet 14 = .ok (.iconst 0, 1) := by decide +kernel
theorem dX12_isStreet_15 : decode cX12_isStreet 15 = .ok (.ireturn, 1) := by decide +kernel
noncomputable def vX12_isStreet : List Cond := .code yX12_isStreet cX12_isStreet 1 (some .boolean) :: (([.fieldLink RX12 9 "IcicleClockModel" "world" "[I"] : List Cond) ++ wsX120)
theorem iX12_isStreet_12 : ∀ w ∈ wsX120, w ∈ vX12_isStreet := fun _ h => List.mem_cons_of_mem _ (List.mem_append_right _ (h))
theorem gs_X12_isStreet : Gd vX12_isStreet := Gd.cons (by decide +kernel) (Gd.app (Gd.r (by decide +kernel)) gwX_12)
set_option maxHeartbeats 4000000 in
set_option maxRecDepth 100000 in
theorem s_X12_isStreet (l : Launch) (D : va_G) (cs : Nat → ClassId) (ad : Nat → Nat) (kS : kSt) (K : sK) (hKO : KO K) (hj : wJ ad 218) (g : Nat → va_E) (hW : WF (shp ad K) ad cs g) : sI l yX12_isStreet vX12_isStreet { frames := 0, cells := 0, slots := 0, locals := 0 } D cs ad kS [.ref (ad 197)] g (fun r g2 => g2 = g ∧ (0 ≤ r.toInt ∧ r.toInt ≤ 1)) := by
  refine Met.startS (cc := cX12_isStreet) (maxL := 1) (ret := (some .boolean)) RX12 rfl (by decide) rfl (Nat.le_of_ble_eq_true rfl) ?_
  intro p e s m below meth c ls X Z hP hl
  have hx := X.1
  have hb := X.2.1
  have hS : va_S (wA ad 218) s.heap s.heap [] := va_S.rf
  have hA : ∀ i, i < 218 → wA ad 218 (ad i) := fun i h => ⟨i, h, rfl⟩
  have hl : lv_has ls 1 [(0, .ref (ad 197))] := hl
  refine lv_aload_n hx hb dX12_isStreet_0 rfl (lv_at hl 0 rfl) ?_
  obtain ⟨fsc_1, hgc_1, hOc_1⟩ := hW.obj (i := 197) (by decide) (sh_197 ad K)
  have hk_2 := hOc_1.ref 1 rfl
  refine q_get X iX12_isStreet_12 hP (by decide) hgc_1 rfl 1 (by decide) (List.mem_of_getElem? (i := 1) rfl) (v := .ref (ad 198)) hk_2 dX12_isStreet_1 ?_
  refine lv_bipush (v := 8) hx hb dX12_isStreet_4 (by decide) ?_
  obtain ⟨fc_3, hgc_3, hFc_3⟩ := hW.arr (i := 198) (by decide) (sh_198 ad K)
  refine q_iald X hP (by decide) hgc_3 (by unfold vp_in; decide) dX12_isStreet_6 ?_
  refine lv_topi (fun z_4 ez_4 => ?_)
  have hqz_4 : wq (8) z_4.toInt := ez_4 ▸ hFc_3 _
  clear hqz_4
  refine lv_if_le (tgt := 14) hx hb dX12_isStreet_7 (by decide) (fun hc_5 => ?_) (fun hc_5 => ?_)
  · have hhc_5 := n_le (rfl : z_4.toInt = z_4.toInt) (by decide : (0 : Int32).toInt = 0) hc_5
    refine lv_iconst (v := 0) hx hb dX12_isStreet_14 (by decide) ?_
    have hr0 : (0 : Int32).toInt = 0 := by decide
    exact q_zret X hP hS rfl ⟨rfl, (by omega)⟩ dX12_isStreet_15
  · have hhc_5 := n_nle (rfl : z_4.toInt = z_4.toInt) (by decide : (0 : Int32).toInt = 0) hc_5
    refine lv_iconst (v := 1) hx hb dX12_isStreet_10 (by decide) ?_
    refine lv_goto (tgt := 15) hx hb dX12_isStreet_11 (by decide) ?_
    have hr0 : (1 : Int32).toInt = 1 := by decide
    exact q_zret X hP hS rfl ⟨rfl, (by omega)⟩ dX12_isStreet_15

theorem dX12_isDay_0 : decode cX12_isDay 0 = .ok (.iload_n 1, 1) := by decide +kernel
theorem dX12_isDay_1 : decode cX12_isDay 1 = .ok (.i2l, 1) := by decide +kernel
theorem dX12_isDay_2 : decode cX12_isDay 2 = .ok (.lconst 0, 1) := by decide +kernel
theorem dX12_isDay_3 : decode cX12_isDay 3 = .ok (.aload_n 0, 1) := by decide +kernel
theorem dX12_isDay_4 : decode cX12_isDay 4 = .ok (.getfield 9, 3) := by decide +kernel
theorem dX12_isDay_7 : decode cX12_isDay 7 = .ok (.iconst 3, 1) := by decide +kernel
theorem dX12_isDay_8 : decode cX12_isDay 8 = .ok (.iaload, 1) := by decide +kernel
theorem dX12_isDay_9 : decode cX12_isDay 9 = .ok (.iconst 1, 1) := by decide +kernel
theorem dX12_isDay_10 : decode cX12_isDay 10 = .ok (.isub, 1) := by decide +kernel
theorem dX12_isDay_11 : decode cX12_isDay 11 = .ok (.i2l, 1) := by decide +kernel
theorem dX12_isDay_12 : decode cX12_isDay 12 = .ok (.invokestatic 82, 3) := by decide +kernel
theorem dX12_isDay_15 : decode cX12_isDay 15 = .ok (.ireturn, 1) := by decide +kernel
noncomputable def vX12_isDay : List Cond := .code yX12_isDay cX12_isDay 2 (some .boolean) :: (([.fieldLink RX12 9 "IcicleClockModel" "world" "[I", .methodLink RX12 82 yX12_in, .static yX12_in, .initialized RX12] : List Cond) ++ (wsX120 ++ vX12_in))
theorem iX12_isDay_12 : ∀ w ∈ wsX120, w ∈ vX12_isDay := fun _ h => List.mem_cons_of_mem _ (List.mem_append_right _ (List.mem_append_left _ h))
theorem gs_X12_isDay : Gd vX12_isDay := Gd.cons (by decide +kernel) (Gd.app (Gd.r (by decide +kernel)) (Gd.app gwX_12 gs_X12_in))
theorem gg_X12_isDay_X12_in : GoodIn vX12_isDay (wsS RX12 82 yX12_in vX12_in) := goodIn_app (goodIn_r _ [2, 3, 4] (by decide +kernel) (by decide +kernel)) (fun w h => ⟨List.mem_cons_of_mem _ (List.mem_append_right _ (List.mem_append_right _ (h))), gs_X12_in w h⟩)
set_option maxHeartbeats 4000000 in
set_option maxRecDepth 100000 in
theorem s_X12_isDay (l : Launch) (D : va_G) (cs : Nat → ClassId) (ad : Nat → Nat) (kS : kSt) (K : sK) (hKO : KO K) (hj : wJ ad 218) (g : Nat → va_E) (hW : WF (shp ad K) ad cs g) (dy : Int32) : sI l yX12_isDay vX12_isDay { frames := 1, cells := 0, slots := 0, locals := 25 } D cs ad kS [.ref (ad 197), .int dy] g (fun r g2 => g2 = g ∧ (0 ≤ r.toInt ∧ r.toInt ≤ 1 ∧ (r.toInt ≠ 0 → 0 ≤ dy.toInt ∧ dy.toInt ≤ 13 ∧ dy.toInt < gA g 198 3))) := by
  refine Met.startS (cc := cX12_isDay) (maxL := 2) (ret := (some .boolean)) RX12 rfl (by decide) rfl (Nat.le_of_ble_eq_true rfl) ?_
  intro p e s m below meth c ls X Z hP hl
  have hx := X.1
  have hb := X.2.1
  have hS : va_S (wA ad 218) s.heap s.heap [] := va_S.rf
  have hA : ∀ i, i < 218 → wA ad 218 (ad i) := fun i h => ⟨i, h, rfl⟩
  have hl : lv_has ls 2 [(0, .ref (ad 197)), (1, .int dy)] := hl
  refine lv_iload_n hx hb dX12_isDay_0 rfl (lv_at hl 1 rfl) ?_
  refine lv_i2l hx hb dX12_isDay_1 rfl ?_
  refine lv_topl (fun z_1 ez_1 => ?_)
  have hz_1 : z_1.toInt = dy.toInt := ez_1 ▸ j_of rfl
  have := n_hi dy
  have := n_lo dy
  refine lv_lconst (v := 0) hx hb dX12_isDay_2 (by decide) ?_
  refine lv_aload_n hx hb dX12_isDay_3 rfl (lv_at hl 0 rfl) ?_
  obtain ⟨fsc_2, hgc_2, hOc_2⟩ := hW.obj (i := 197) (by decide) (sh_197 ad K)
  have hk_3 := hOc_2.ref 1 rfl
  refine q_get X iX12_isDay_12 hP (by decide) hgc_2 rfl 1 (by decide) (List.mem_of_getElem? (i := 1) rfl) (v := .ref (ad 198)) hk_3 dX12_isDay_4 ?_
  refine lv_iconst (v := 3) hx hb dX12_isDay_7 (by decide) ?_
  obtain ⟨fc_4, hgc_4, hFc_4⟩ := hW.arr (i := 198) (by decide) (sh_198 ad K)
  refine q_iald X hP (by decide) hgc_4 (by unfold vp_in; decide) dX12_isDay_8 ?_
  refine lv_topi (fun z_5 ez_5 => ?_)
  have hqz_5 : wq (3) z_5.toInt := ez_5 ▸ hFc_4 _
  have hz_5 : 0 ≤ z_5.toInt ∧ z_5.toInt ≤ 14 := by unfold wq at hqz_5; omega
  clear hqz_5
  have hgaz_5 : gA g 198 ((3 : Int32).toNatClampNeg) = z_5.toInt := by rw [ez_5]; exact gA_of hgc_4 _
  rw [(by decide : (3 : Int32).toNatClampNeg = 3)] at hgaz_5
  refine lv_iconst (v := 1) hx hb dX12_isDay_9 (by decide) ?_
  refine lv_isub hx hb dX12_isDay_10 ?_
  refine lv_topi (fun z_6 ez_6 => ?_)
  have hz_6 : z_6.toInt = z_5.toInt - 1 := n_sub (rfl : z_5.toInt = z_5.toInt) (by decide : (1 : Int32).toInt = 1) ez_6 (by omega) (by omega)
  refine lv_i2l hx hb dX12_isDay_11 rfl ?_
  refine lv_topl (fun z_7 ez_7 => ?_)
  have hz_7 : z_7.toInt = z_6.toInt := ez_7 ▸ j_of rfl
  refine s_callSi (As := [.long z_1, .long 0, .long z_7]) (rest := []) X Z (s_X12_in l D cs ad kS K hKO hj g hW z_1 0 z_7) (cwS 3 X.2.2.2.2.1 gg_X12_isDay_X12_in rfl rfl rfl (by decide +kernel) ⟨Nat.le_of_ble_eq_true rfl, Nat.le_of_ble_eq_true rfl⟩) hP hA hS.2.1 hS rfl hl.1 rfl (Nat.le_of_ble_eq_true rfl) dX12_isDay_12 ⟨Nat.le_of_ble_eq_true rfl, Nat.le_of_ble_eq_true rfl⟩ (fun r_10 g_9 H locs hw_8 hP hS => ?_)
  obtain ⟨hw_8g, hw_8⟩ := hw_8
  rw [hw_8g] at hP
  have hqk_11 : (0 : Int64).toInt = 0 := by decide
  exact q_zret X hP hS (n_bool (by omega) (by omega)) ⟨rfl, (by omega)⟩ dX12_isDay_15

theorem dX12_isEave_0 : decode cX12_isEave 0 = .ok (.iload_n 1, 1) := by decide +kernel
theorem dX12_isEave_1 : decode cX12_isEave 1 = .ok (.i2l, 1) := by decide +kernel
theorem dX12_isEave_2 : decode cX12_isEave 2 = .ok (.lconst 0, 1) := by decide +kernel
theorem dX12_isEave_3 : decode cX12_isEave 3 = .ok (.aload_n 0, 1) := by decide +kernel
theorem dX12_isEave_4 : decode cX12_isEave 4 = .ok (.getfield 9, 3) := by decide +kernel
theorem dX12_isEave_7 : decode cX12_isEave 7 = .ok (.iconst 4, 1) := by decide +kernel
theorem dX12_isEave_8 : decode cX12_isEave 8 = .ok (.iaload, 1) := by decide +kernel
theorem dX12_isEave_9 : decode cX12_isEave 9 = .ok (.iconst 1, 1) := by decide +kernel
theorem dX12_isEave_10 : decode cX12_isEave 10 = .ok (.isub, 1) := by decide +kernel
theorem dX12_isEave_11 : decode cX12_isEave 11 = .ok (.i2l, 1) := by decide +kernel
theorem dX12_isEave_12 : decode cX12_isEave 12 = .ok (.invokestatic 82, 3) := by decide +kernel
theorem dX12_isEave_15 : decode cX12_isEave 15 = .ok (.ireturn, 1) := by decide +kernel
noncomputable def vX12_isEave : List Cond := .code yX12_isEave cX12_isEave 2 (some .boolean) :: (([.fieldLink RX12 9 "IcicleClockModel" "world" "[I", .methodLink RX12 82 yX12_in, .static yX12_in, .initialized RX12] : List Cond) ++ (wsX120 ++ vX12_in))
theorem iX12_isEave_12 : ∀ w ∈ wsX120, w ∈ vX12_isEave := fun _ h => List.mem_cons_of_mem _ (List.mem_append_right _ (List.mem_append_left _ h))
theorem gs_X12_isEave : Gd vX12_isEave := Gd.cons (by decide +kernel) (Gd.app (Gd.r (by decide +kernel)) (Gd.app gwX_12 gs_X12_in))
theorem gg_X12_isEave_X12_in : GoodIn vX12_isEave (wsS RX12 82 yX12_in vX12_in) := goodIn_app (goodIn_r _ [2, 3, 4] (by decide +kernel) (by decide +kernel)) (fun w h => ⟨List.mem_cons_of_mem _ (List.mem_append_right _ (List.mem_append_right _ (h))), gs_X12_in w h⟩)
set_option maxHeartbeats 4000000 in
set_option maxRecDepth 100000 in
theorem s_X12_isEave (l : Launch) (D : va_G) (cs : Nat → ClassId) (ad : Nat → Nat) (kS : kSt) (K : sK) (hKO : KO K) (hj : wJ ad 218) (g : Nat → va_E) (hW : WF (shp ad K) ad cs g) (ev : Int32) : sI l yX12_isEave vX12_isEave { frames := 1, cells := 0, slots := 0, locals := 25 } D cs ad kS [.ref (ad 197), .int ev] g (fun r g2 => g2 = g ∧ (0 ≤ r.toInt ∧ r.toInt ≤ 1 ∧ (r.toInt ≠ 0 → 0 ≤ ev.toInt ∧ ev.toInt ≤ 4 ∧ ev.toInt < gA g 198 4))) := by
  refine Met.startS (cc := cX12_isEave) (maxL := 2) (ret := (some .boolean)) RX12 rfl (by decide) rfl (Nat.le_of_ble_eq_true rfl) ?_
  intro p e s m below meth c ls X Z hP hl
  have hx := X.1
  have hb := X.2.1
  have hS : va_S (wA ad 218) s.heap s.heap [] := va_S.rf
  have hA : ∀ i, i < 218 → wA ad 218 (ad i) := fun i h => ⟨i, h, rfl⟩
  have hl : lv_has ls 2 [(0, .ref (ad 197)), (1, .int ev)] := hl
  refine lv_iload_n hx hb dX12_isEave_0 rfl (lv_at hl 1 rfl) ?_
  refine lv_i2l hx hb dX12_isEave_1 rfl ?_
  refine lv_topl (fun z_1 ez_1 => ?_)
  have hz_1 : z_1.toInt = ev.toInt := ez_1 ▸ j_of rfl
  have := n_hi ev
  have := n_lo ev
  refine lv_lconst (v := 0) hx hb dX12_isEave_2 (by decide) ?_
  refine lv_aload_n hx hb dX12_isEave_3 rfl (lv_at hl 0 rfl) ?_
  obtain ⟨fsc_2, hgc_2, hOc_2⟩ := hW.obj (i := 197) (by decide) (sh_197 ad K)
  have hk_3 := hOc_2.ref 1 rfl
  refine q_get X iX12_isEave_12 hP (by decide) hgc_2 rfl 1 (by decide) (List.mem_of_getElem? (i := 1) rfl) (v := .ref (ad 198)) hk_3 dX12_isEave_4 ?_
  refine lv_iconst (v := 4) hx hb dX12_isEave_7 (by decide) ?_
  obtain ⟨fc_4, hgc_4, hFc_4⟩ := hW.arr (i := 198) (by decide) (sh_198 ad K)
  refine q_iald X hP (by decide) hgc_4 (by unfold vp_in; decide) dX12_isEave_8 ?_
  refine lv_topi (fun z_5 ez_5 => ?_)
  have hqz_5 : wq (4) z_5.toInt := ez_5 ▸ hFc_4 _
  have hz_5 : 0 ≤ z_5.toInt ∧ z_5.toInt ≤ 5 := by unfold wq at hqz_5; omega
  clear hqz_5
  have hgaz_5 : gA g 198 ((4 : Int32).toNatClampNeg) = z_5.toInt := by rw [ez_5]; exact gA_of hgc_4 _
  rw [(by decide : (4 : Int32).toNatClampNeg = 4)] at hgaz_5
  refine lv_iconst (v := 1) hx hb dX12_isEave_9 (by decide) ?_
  refine lv_isub hx hb dX12_isEave_10 ?_
  refine lv_topi (fun z_6 ez_6 => ?_)
  have hz_6 : z_6.toInt = z_5.toInt - 1 := n_sub (rfl : z_5.toInt = z_5.toInt) (by decide : (1 : Int32).toInt = 1) ez_6 (by omega) (by omega)
  refine lv_i2l hx hb dX12_isEave_11 rfl ?_
  refine lv_topl (fun z_7 ez_7 => ?_)
  have hz_7 : z_7.toInt = z_6.toInt := ez_7 ▸ j_of rfl
  refine s_callSi (As := [.long z_1, .long 0, .long z_7]) (rest := []) X Z (s_X12_in l D cs ad kS K hKO hj g hW z_1 0 z_7) (cwS 3 X.2.2.2.2.1 gg_X12_isEave_X12_in rfl rfl rfl (by decide +kernel) ⟨Nat.le_of_ble_eq_true rfl, Nat.le_of_ble_eq_true rfl⟩) hP hA hS.2.1 hS rfl hl.1 rfl (Nat.le_of_ble_eq_true rfl) dX12_isEave_12 ⟨Nat.le_of_ble_eq_true rfl, Nat.le_of_ble_eq_true rfl⟩ (fun r_10 g_9 H locs hw_8 hP hS => ?_)
  obtain ⟨hw_8g, hw_8⟩ := hw_8
  rw [hw_8g] at hP
  have hqk_11 : (0 : Int64).toInt = 0 := by decide
  exact q_zret X hP hS (n_bool (by omega) (by omega)) ⟨rfl, (by omega)⟩ dX12_isEave_15

theorem dX12_isIcicle_0 : decode cX12_isIcicle 0 = .ok (.lload_n 1, 1) := by decide +kernel
theorem dX12_isIcicle_1 : decode cX12_isIcicle 1 = .ok (.lconst 0, 1) := by decide +kernel
theorem dX12_isIcicle_2 : decode cX12_isIcicle 2 = .ok (.aload_n 0, 1) := by decide +kernel
theorem dX12_isIcicle_3 : decode cX12_isIcicle 3 = .ok (.getfield 9, 3) := by decide +kernel
theorem dX12_isIcicle_6 : decode cX12_isIcicle 6 = .ok (.iconst 5, 1) := by decide +kernel
theorem dX12_isIcicle_7 : decode cX12_isIcicle 7 = .ok (.iaload, 1) := by decide +kernel
theorem dX12_isIcicle_8 : decode cX12_isIcicle 8 = .ok (.iconst 1, 1) := by decide +kernel
theorem dX12_isIcicle_9 : decode cX12_isIcicle 9 = .ok (.isub, 1) := by decide +kernel
theorem dX12_isIcicle_10 : decode cX12_isIcicle 10 = .ok (.i2l, 1) := by decide +kernel
theorem dX12_isIcicle_11 : decode cX12_isIcicle 11 = .ok (.invokestatic 82, 3) := by decide +kernel
theorem dX12_isIcicle_14 : decode cX12_isIcicle 14 = .ok (.ireturn, 1) := by decide +kernel
noncomputable def vX12_isIcicle : List Cond := .code yX12_isIcicle cX12_isIcicle 3 (some .boolean) :: (([.fieldLink RX12 9 "IcicleClockModel" "world" "[I", .methodLink RX12 82 yX12_in, .static yX12_in, .initialized RX12] : List Cond) ++ (wsX120 ++ vX12_in))
theorem iX12_isIcicle_12 : ∀ w ∈ wsX120, w ∈ vX12_isIcicle := fun _ h => List.mem_cons_of_mem _ (List.mem_append_right _ (List.mem_append_left _ h))
theorem gs_X12_isIcicle : Gd vX12_isIcicle := Gd.cons (by decide +kernel) (Gd.app (Gd.r (by decide +kernel)) (Gd.app gwX_12 gs_X12_in))
theorem gg_X12_isIcicle_X12_in : GoodIn vX12_isIcicle (wsS RX12 82 yX12_in vX12_in) := goodIn_app (goodIn_r _ [2, 3, 4] (by decide +kernel) (by decide +kernel)) (fun w h => ⟨List.mem_cons_of_mem _ (List.mem_append_right _ (List.mem_append_right _ (h))), gs_X12_in w h⟩)
set_option maxHeartbeats 4000000 in
set_option maxRecDepth 100000 in
theorem s_X12_isIcicle (l : Launch) (D : va_G) (cs : Nat → ClassId) (ad : Nat → Nat) (kS : kSt) (K : sK) (hKO : KO K) (hj : wJ ad 218) (g : Nat → va_E) (hW : WF (shp ad K) ad cs g) (ic : Int64) : sI l yX12_isIcicle vX12_isIcicle { frames := 1, cells := 0, slots := 0, locals := 25 } D cs ad kS [.ref (ad 197), .long ic] g (fun r g2 => g2 = g ∧ (0 ≤ r.toInt ∧ r.toInt ≤ 1 ∧ (r.toInt ≠ 0 → 0 ≤ ic.toInt ∧ ic.toInt ≤ 7 ∧ ic.toInt < gA g 198 5))) := by
  refine Met.startS (cc := cX12_isIcicle) (maxL := 3) (ret := (some .boolean)) RX12 rfl (by decide) rfl (Nat.le_of_ble_eq_true rfl) ?_
  intro p e s m below meth c ls X Z hP hl
  have hx := X.1
  have hb := X.2.1
  have hS : va_S (wA ad 218) s.heap s.heap [] := va_S.rf
  have hA : ∀ i, i < 218 → wA ad 218 (ad i) := fun i h => ⟨i, h, rfl⟩
  have hl : lv_has ls 3 [(0, .ref (ad 197)), (1, .long ic)] := hl
  refine lv_lload_n hx hb dX12_isIcicle_0 rfl (lv_at hl 1 rfl) ?_
  refine lv_lconst (v := 0) hx hb dX12_isIcicle_1 (by decide) ?_
  refine lv_aload_n hx hb dX12_isIcicle_2 rfl (lv_at hl 0 rfl) ?_
  obtain ⟨fsc_1, hgc_1, hOc_1⟩ := hW.obj (i := 197) (by decide) (sh_197 ad K)
  have hk_2 := hOc_1.ref 1 rfl
  refine q_get X iX12_isIcicle_12 hP (by decide) hgc_1 rfl 1 (by decide) (List.mem_of_getElem? (i := 1) rfl) (v := .ref (ad 198)) hk_2 dX12_isIcicle_3 ?_
  refine lv_iconst (v := 5) hx hb dX12_isIcicle_6 (by decide) ?_
  obtain ⟨fc_3, hgc_3, hFc_3⟩ := hW.arr (i := 198) (by decide) (sh_198 ad K)
  refine q_iald X hP (by decide) hgc_3 (by unfold vp_in; decide) dX12_isIcicle_7 ?_
  refine lv_topi (fun z_4 ez_4 => ?_)
  have hqz_4 : wq (5) z_4.toInt := ez_4 ▸ hFc_3 _
  have hz_4 : 0 ≤ z_4.toInt ∧ z_4.toInt ≤ 8 := by unfold wq at hqz_4; omega
  clear hqz_4
  have hgaz_4 : gA g 198 ((5 : Int32).toNatClampNeg) = z_4.toInt := by rw [ez_4]; exact gA_of hgc_3 _
  rw [(by decide : (5 : Int32).toNatClampNeg = 5)] at hgaz_4
  refine lv_iconst (v := 1) hx hb dX12_isIcicle_8 (by decide) ?_
  refine lv_isub hx hb dX12_isIcicle_9 ?_
  refine lv_topi (fun z_5 ez_5 => ?_)
  have hz_5 : z_5.toInt = z_4.toInt - 1 := n_sub (rfl : z_4.toInt = z_4.toInt) (by decide : (1 : Int32).toInt = 1) ez_5 (by omega) (by omega)
  refine lv_i2l hx hb dX12_isIcicle_10 rfl ?_
  refine lv_topl (fun z_6 ez_6 => ?_)
  have hz_6 : z_6.toInt = z_5.toInt := ez_6 ▸ j_of rfl
  refine s_callSi (As := [.long ic, .long 0, .long z_6]) (rest := []) X Z (s_X12_in l D cs ad kS K hKO hj g hW ic 0 z_6) (cwS 3 X.2.2.2.2.1 gg_X12_isIcicle_X12_in rfl rfl rfl (by decide +kernel) ⟨Nat.le_of_ble_eq_true rfl, Nat.le_of_ble_eq_true rfl⟩) hP hA hS.2.1 hS rfl hl.1 rfl (Nat.le_of_ble_eq_true rfl) dX12_isIcicle_11 ⟨Nat.le_of_ble_eq_true rfl, Nat.le_of_ble_eq_true rfl⟩ (fun r_9 g_8 H locs hw_7 hP hS => ?_)
  obtain ⟨hw_7g, hw_7⟩ := hw_7
  rw [hw_7g] at hP
  have hqk_10 : (0 : Int64).toInt = 0 := by decide
  exact q_zret X hP hS (n_bool (by omega) (by omega)) ⟨rfl, (by omega)⟩ dX12_isIcicle_14

theorem dX12_isWork_0 : decode cX12_isWork 0 = .ok (.iload_n 1, 1) := by decide +kernel
theorem dX12_isWork_1 : decode cX12_isWork 1 = .ok (.i2l, 1) := by decide +kernel
theorem dX12_isWork_2 : decode cX12_isWork 2 = .ok (.lconst 0, 1) := by decide +kernel
theorem dX12_isWork_3 : decode cX12_isWork 3 = .ok (.aload_n 0, 1) := by decide +kernel
theorem dX12_isWork_4 : decode cX12_isWork 4 = .ok (.getfield 9, 3) := by decide +kernel
theorem dX12_isWork_7 : decode cX12_isWork 7 = .ok (.bipush 6, 2) := by decide +kernel
theorem dX12_isWork_9 : decode cX12_isWork 9 = .ok (.iaload, 1) := by decide +kernel
theorem dX12_isWork_10 : decode cX12_isWork 10 = .ok (.iconst 1, 1) := by decide +kernel
theorem dX12_isWork_11 : decode cX12_isWork 11 = .ok (.isub, 1) := by decide +kernel
theorem dX12_isWork_12 : decode cX12_isWork 12 = .ok (.i2l, 1) := by decide +kernel
theorem dX12_isWork_13 : decode cX12_isWork 13 = .ok (.invokestatic 82, 3) := by decide +kernel
theorem dX12_isWork_16 : decode cX12_isWork 16 = .ok (.ireturn, 1) := by decide +kernel
noncomputable def vX12_isWork : List Cond := .code yX12_isWork cX12_isWork 2 (some .boolean) :: (([.fieldLink RX12 9 "IcicleClockModel" "world" "[I", .methodLink RX12 82 yX12_in, .static yX12_in, .initialized RX12] : List Cond) ++ (wsX120 ++ vX12_in))
theorem iX12_isWork_12 : ∀ w ∈ wsX120, w ∈ vX12_isWork := fun _ h => List.mem_cons_of_mem _ (List.mem_append_right _ (List.mem_append_left _ h))
theorem gs_X12_isWork : Gd vX12_isWork := Gd.cons (by decide +kernel) (Gd.app (Gd.r (by decide +kernel)) (Gd.app gwX_12 gs_X12_in))
theorem gg_X12_isWork_X12_in : GoodIn vX12_isWork (wsS RX12 82 yX12_in vX12_in) := goodIn_app (goodIn_r _ [2, 3, 4] (by decide +kernel) (by decide +kernel)) (fun w h => ⟨List.mem_cons_of_mem _ (List.mem_append_right _ (List.mem_append_right _ (h))), gs_X12_in w h⟩)
set_option maxHeartbeats 4000000 in
set_option maxRecDepth 100000 in
theorem s_X12_isWork (l : Launch) (D : va_G) (cs : Nat → ClassId) (ad : Nat → Nat) (kS : kSt) (K : sK) (hKO : KO K) (hj : wJ ad 218) (g : Nat → va_E) (hW : WF (shp ad K) ad cs g) (wk : Int32) : sI l yX12_isWork vX12_isWork { frames := 1, cells := 0, slots := 0, locals := 25 } D cs ad kS [.ref (ad 197), .int wk] g (fun r g2 => g2 = g ∧ (0 ≤ r.toInt ∧ r.toInt ≤ 1 ∧ (r.toInt ≠ 0 → 0 ≤ wk.toInt ∧ wk.toInt ≤ 5 ∧ wk.toInt < gA g 198 6))) := by
  refine Met.startS (cc := cX12_isWork) (maxL := 2) (ret := (some .boolean)) RX12 rfl (by decide) rfl (Nat.le_of_ble_eq_true rfl) ?_
  intro p e s m below meth c ls X Z hP hl
  have hx := X.1
  have hb := X.2.1
  have hS : va_S (wA ad 218) s.heap s.heap [] := va_S.rf
  have hA : ∀ i, i < 218 → wA ad 218 (ad i) := fun i h => ⟨i, h, rfl⟩
  have hl : lv_has ls 2 [(0, .ref (ad 197)), (1, .int wk)] := hl
  refine lv_iload_n hx hb dX12_isWork_0 rfl (lv_at hl 1 rfl) ?_
  refine lv_i2l hx hb dX12_isWork_1 rfl ?_
  refine lv_topl (fun z_1 ez_1 => ?_)
  have hz_1 : z_1.toInt = wk.toInt := ez_1 ▸ j_of rfl
  have := n_hi wk
  have := n_lo wk
  refine lv_lconst (v := 0) hx hb dX12_isWork_2 (by decide) ?_
  refine lv_aload_n hx hb dX12_isWork_3 rfl (lv_at hl 0 rfl) ?_
  obtain ⟨fsc_2, hgc_2, hOc_2⟩ := hW.obj (i := 197) (by decide) (sh_197 ad K)
  have hk_3 := hOc_2.ref 1 rfl
  refine q_get X iX12_isWork_12 hP (by decide) hgc_2 rfl 1 (by decide) (List.mem_of_getElem? (i := 1) rfl) (v := .ref (ad 198)) hk_3 dX12_isWork_4 ?_
  refine lv_bipush (v := 6) hx hb dX12_isWork_7 (by decide) ?_
  obtain ⟨fc_4, hgc_4, hFc_4⟩ := hW.arr (i := 198) (by decide) (sh_198 ad K)
  refine q_iald X hP (by decide) hgc_4 (by unfold vp_in; decide) dX12_isWork_9 ?_
  refine lv_topi (fun z_5 ez_5 => ?_)
  have hqz_5 : wq (6) z_5.toInt := ez_5 ▸ hFc_4 _
  have hz_5 : 0 ≤ z_5.toInt ∧ z_5.toInt ≤ 6 := by unfold wq at hqz_5; omega
  clear hqz_5
  have hgaz_5 : gA g 198 ((6 : Int32).toNatClampNeg) = z_5.toInt := by rw [ez_5]; exact gA_of hgc_4 _
  rw [(by decide : (6 : Int32).toNatClampNeg = 6)] at hgaz_5
  refine lv_iconst (v := 1) hx hb dX12_isWork_10 (by decide) ?_
  refine lv_isub hx hb dX12_isWork_11 ?_
  refine lv_topi (fun z_6 ez_6 => ?_)
  have hz_6 : z_6.toInt = z_5.toInt - 1 := n_sub (rfl : z_5.toInt = z_5.toInt) (by decide : (1 : Int32).toInt = 1) ez_6 (by omega) (by omega)
  refine lv_i2l hx hb dX12_isWork_12 rfl ?_
  refine lv_topl (fun z_7 ez_7 => ?_)
  have hz_7 : z_7.toInt = z_6.toInt := ez_7 ▸ j_of rfl
  refine s_callSi (As := [.long z_1, .long 0, .long z_7]) (rest := []) X Z (s_X12_in l D cs ad kS K hKO hj g hW z_1 0 z_7) (cwS 3 X.2.2.2.2.1 gg_X12_isWork_X12_in rfl rfl rfl (by decide +kernel) ⟨Nat.le_of_ble_eq_true rfl, Nat.le_of_ble_eq_true rfl⟩) hP hA hS.2.1 hS rfl hl.1 rfl (Nat.le_of_ble_eq_true rfl) dX12_isWork_13 ⟨Nat.le_of_ble_eq_true rfl, Nat.le_of_ble_eq_true rfl⟩ (fun r_10 g_9 H locs hw_8 hP hS => ?_)
  obtain ⟨hw_8g, hw_8⟩ := hw_8
  rw [hw_8g] at hP
  have hqk_11 : (0 : Int64).toInt = 0 := by decide
  exact q_zret X hP hS (n_bool (by omega) (by omega)) ⟨rfl, (by omega)⟩ dX12_isWork_16

theorem dX12_thawOf_0 : decode cX12_thawOf 0 = .ok (.aload_n 0, 1) := by decide +kernel
theorem dX12_thawOf_1 : decode cX12_thawOf 1 = .ok (.getfield 9, 3) := by decide +kernel
theorem dX12_thawOf_4 : decode cX12_thawOf 4 = .ok (.bipush 9, 2) := by decide +kernel
theorem dX12_thawOf_6 : decode cX12_thawOf 6 = .ok (.iconst 2, 1) := by decide +kernel
theorem dX12_thawOf_7 : decode cX12_thawOf 7 = .ok (.iload_n 1, 1) := by decide +kernel
theorem dX12_thawOf_8 : decode cX12_thawOf 8 = .ok (.imul, 1) := by decide +kernel
theorem dX12_thawOf_9 : decode cX12_thawOf 9 = .ok (.iadd, 1) := by decide +kernel
theorem dX12_thawOf_10 : decode cX12_thawOf 10 = .ok (.iaload, 1) := by decide +kernel
theorem dX12_thawOf_11 : decode cX12_thawOf 11 = .ok (.ireturn, 1) := by decide +kernel
noncomputable def vX12_thawOf : List Cond := .code yX12_thawOf cX12_thawOf 2 (some .int) :: (([.fieldLink RX12 9 "IcicleClockModel" "world" "[I"] : List Cond) ++ wsX120)
theorem iX12_thawOf_12 : ∀ w ∈ wsX120, w ∈ vX12_thawOf := fun _ h => List.mem_cons_of_mem _ (List.mem_append_right _ (h))
theorem gs_X12_thawOf : Gd vX12_thawOf := Gd.cons (by decide +kernel) (Gd.app (Gd.r (by decide +kernel)) gwX_12)
set_option maxHeartbeats 4000000 in
set_option maxRecDepth 100000 in
theorem s_X12_thawOf (l : Launch) (D : va_G) (cs : Nat → ClassId) (ad : Nat → Nat) (kS : kSt) (K : sK) (hKO : KO K) (hj : wJ ad 218) (g : Nat → va_E) (hW : WF (shp ad K) ad cs g) (dy : Int32) (hp0 : 0 ≤ dy.toInt ∧ dy.toInt ≤ 13) : sI l yX12_thawOf vX12_thawOf { frames := 0, cells := 0, slots := 0, locals := 0 } D cs ad kS [.ref (ad 197), .int dy] g (fun r g2 => g2 = g) := by
  refine Met.startS (cc := cX12_thawOf) (maxL := 2) (ret := (some .int)) RX12 rfl (by decide) rfl (Nat.le_of_ble_eq_true rfl) ?_
  intro p e s m below meth c ls X Z hP hl
  have hx := X.1
  have hb := X.2.1
  have hS : va_S (wA ad 218) s.heap s.heap [] := va_S.rf
  have hA : ∀ i, i < 218 → wA ad 218 (ad i) := fun i h => ⟨i, h, rfl⟩
  have hl : lv_has ls 2 [(0, .ref (ad 197)), (1, .int dy)] := hl
  refine lv_aload_n hx hb dX12_thawOf_0 rfl (lv_at hl 0 rfl) ?_
  obtain ⟨fsc_1, hgc_1, hOc_1⟩ := hW.obj (i := 197) (by decide) (sh_197 ad K)
  have hk_2 := hOc_1.ref 1 rfl
  refine q_get X iX12_thawOf_12 hP (by decide) hgc_1 rfl 1 (by decide) (List.mem_of_getElem? (i := 1) rfl) (v := .ref (ad 198)) hk_2 dX12_thawOf_1 ?_
  refine lv_bipush (v := 9) hx hb dX12_thawOf_4 (by decide) ?_
  refine lv_iconst (v := 2) hx hb dX12_thawOf_6 (by decide) ?_
  refine lv_iload_n hx hb dX12_thawOf_7 rfl (lv_at hl 1 rfl) ?_
  refine lv_imul hx hb dX12_thawOf_8 ?_
  refine lv_topi (fun z_3 ez_3 => ?_)
  have hz_3 : z_3.toInt = 2 * dy.toInt := n_mul (by decide : (2 : Int32).toInt = 2) (rfl : dy.toInt = dy.toInt) ez_3 (by omega) (by omega)
  refine lv_iadd hx hb dX12_thawOf_9 ?_
  refine lv_topi (fun z_4 ez_4 => ?_)
  have hz_4 : z_4.toInt = 9 + z_3.toInt := n_add (by decide : (9 : Int32).toInt = 9) (rfl : z_3.toInt = z_3.toInt) ez_4 (by omega) (by omega)
  obtain ⟨fc_5, hgc_5, hFc_5⟩ := hW.arr (i := 198) (by decide) (sh_198 ad K)
  refine q_iald X hP (by decide) hgc_5 (n_in (rfl : z_4.toInt = z_4.toInt) (by omega) (by omega)) dX12_thawOf_10 ?_
  refine lv_topi (fun z_6 ez_6 => ?_)
  exact q_iret X hP hS rfl dX12_thawOf_11

theorem dX12_isThaw_0 : decode cX12_isThaw 0 = .ok (.aload_n 0, 1) := by decide +kernel
theorem dX12_isThaw_1 : decode cX12_isThaw 1 = .ok (.getfield 9, 3) := by decide +kernel
theorem dX12_isThaw_4 : decode cX12_isThaw 4 = .ok (.bipush 9, 2) := by decide +kernel
theorem dX12_isThaw_6 : decode cX12_isThaw 6 = .ok (.iconst 2, 1) := by decide +kernel
theorem dX12_isThaw_7 : decode cX12_isThaw 7 = .ok (.iload_n 1, 1) := by decide +kernel
theorem dX12_isThaw_8 : decode cX12_isThaw 8 = .ok (.imul, 1) := by decide +kernel
theorem dX12_isThaw_9 : decode cX12_isThaw 9 = .ok (.iadd, 1) := by decide +kernel
theorem dX12_isThaw_10 : decode cX12_isThaw 10 = .ok (.iconst 1, 1) := by decide +kernel
theorem dX12_isThaw_11 : decode cX12_isThaw 11 = .ok (.iadd, 1) := by decide +kernel
theorem dX12_isThaw_12 : decode cX12_isThaw 12 = .ok (.iaload, 1) := by decide +kernel
theorem dX12_isThaw_13 : decode cX12_isThaw 13 = .ok (.iconst 1, 1) := by decide +kernel
theorem dX12_isThaw_14 : decode cX12_isThaw 14 = .ok (.if_icmp .ne 7, 3) := by decide +kernel
theorem dX12_isThaw_17 : decode cX12_isThaw 17 = .ok (.iconst 1, 1) := by decide +kernel
theorem dX12_isThaw_18 : decode cX12_isThaw 18 = .ok (.goto 4, 3) := by decide +kernel
theorem dX12_isThaw_21 : decode cX12_isThaw 21 = .ok (.iconst 0, 1) := by decide +kernel
theorem dX12_isThaw_22 : decode cX12_isThaw 22 = .ok (.ireturn, 1) := by decide +kernel
noncomputable def vX12_isThaw : List Cond := .code yX12_isThaw cX12_isThaw 2 (some .boolean) :: (([.fieldLink RX12 9 "IcicleClockModel" "world" "[I"] : List Cond) ++ wsX120)
theorem iX12_isThaw_12 : ∀ w ∈ wsX120, w ∈ vX12_isThaw := fun _ h => List.mem_cons_of_mem _ (List.mem_append_right _ (h))
theorem gs_X12_isThaw : Gd vX12_isThaw := Gd.cons (by decide +kernel) (Gd.app (Gd.r (by decide +kernel)) gwX_12)
set_option maxHeartbeats 4000000 in
set_option maxRecDepth 100000 in
theorem s_X12_isThaw (l : Launch) (D : va_G) (cs : Nat → ClassId) (ad : Nat → Nat) (kS : kSt) (K : sK) (hKO : KO K) (hj : wJ ad 218) (g : Nat → va_E) (hW : WF (shp ad K) ad cs g) (dy : Int32) (hp0 : 0 ≤ dy.toInt ∧ dy.toInt ≤ 13) : sI l yX12_isThaw vX12_isThaw { frames := 0, cells := 0, slots := 0, locals := 0 } D cs ad kS [.ref (ad 197), .int dy] g (fun r g2 => g2 = g ∧ (0 ≤ r.toInt ∧ r.toInt ≤ 1)) := by
  refine Met.startS (cc := cX12_isThaw) (maxL := 2) (ret := (some .boolean)) RX12 rfl (by decide) rfl (Nat.le_of_ble_eq_true rfl) ?_
  intro p e s m below meth c ls X Z hP hl
  have hx := X.1
  have hb := X.2.1
  have hS : va_S (wA ad 218) s.heap s.heap [] := va_S.rf
  have hA : ∀ i, i < 218 → wA ad 218 (ad i) := fun i h => ⟨i, h, rfl⟩
  have hl : lv_has ls 2 [(0, .ref (ad 197)), (1, .int dy)] := hl
  refine lv_aload_n hx hb dX12_isThaw_0 rfl (lv_at hl 0 rfl) ?_
  obtain ⟨fsc_1, hgc_1, hOc_1⟩ := hW.obj (i := 197) (by decide) (sh_197 ad K)
  have hk_2 := hOc_1.ref 1 rfl
  refine q_get X iX12_isThaw_12 hP (by decide) hgc_1 rfl 1 (by decide) (List.mem_of_getElem? (i := 1) rfl) (v := .ref (ad 198)) hk_2 dX12_isThaw_1 ?_
  refine lv_bipush (v := 9) hx hb dX12_isThaw_4 (by decide) ?_
  refine lv_iconst (v := 2) hx hb dX12_isThaw_6 (by decide) ?_
  refine lv_iload_n hx hb dX12_isThaw_7 rfl (lv_at hl 1 rfl) ?_
  refine lv_imul hx hb dX12_isThaw_8 ?_
  refine lv_topi (fun z_3 ez_3 => ?_)
  have hz_3 : z_3.toInt = 2 * dy.toInt := n_mul (by decide : (2 : Int32).toInt = 2) (rfl : dy.toInt = dy.toInt) ez_3 (by omega) (by omega)
  refine lv_iadd hx hb dX12_isThaw_9 ?_
  refine lv_topi (fun z_4 ez_4 => ?_)
  have hz_4 : z_4.toInt = 9 + z_3.toInt := n_add (by decide : (9 : Int32).toInt = 9) (rfl : z_3.toInt = z_3.toInt) ez_4 (by omega) (by omega)
  refine lv_iconst (v := 1) hx hb dX12_isThaw_10 (by decide) ?_
  refine lv_iadd hx hb dX12_isThaw_11 ?_
  refine lv_topi (fun z_5 ez_5 => ?_)
  have hz_5 : z_5.toInt = z_4.toInt + 1 := n_add (rfl : z_4.toInt = z_4.toInt) (by decide : (1 : Int32).toInt = 1) ez_5 (by omega) (by omega)
  obtain ⟨fc_6, hgc_6, hFc_6⟩ := hW.arr (i := 198) (by decide) (sh_198 ad K)
  refine q_iald X hP (by decide) hgc_6 (n_in (rfl : z_5.toInt = z_5.toInt) (by omega) (by omega)) dX12_isThaw_12 ?_
  refine lv_topi (fun z_7 ez_7 => ?_)
  refine lv_iconst (v := 1) hx hb dX12_isThaw_13 (by decide) ?_
  refine lv_icmp_ne (tgt := 21) hx hb dX12_isThaw_14 (by decide) (fun hc_8 => ?_) (fun hc_8 => ?_)
  · have hhc_8 := n_ne (rfl : z_7.toInt = z_7.toInt) (by decide : (1 : Int32).toInt = 1) hc_8
    refine lv_iconst (v := 0) hx hb dX12_isThaw_21 (by decide) ?_
    have hr0 : (0 : Int32).toInt = 0 := by decide
    exact q_zret X hP hS rfl ⟨rfl, (by omega)⟩ dX12_isThaw_22
  · have hhc_8 := n_eq (rfl : z_7.toInt = z_7.toInt) (by decide : (1 : Int32).toInt = 1) hc_8
    refine lv_iconst (v := 1) hx hb dX12_isThaw_17 (by decide) ?_
    refine lv_goto (tgt := 22) hx hb dX12_isThaw_18 (by decide) ?_
    have hr0 : (1 : Int32).toInt = 1 := by decide
    exact q_zret X hP hS rfl ⟨rfl, (by omega)⟩ dX12_isThaw_22

theorem dX12_sunOf_0 : decode cX12_sunOf 0 = .ok (.aload_n 0, 1) := by decide +kernel
theorem dX12_sunOf_1 : decode cX12_sunOf 1 = .ok (.getfield 9, 3) := by decide +kernel
theorem dX12_sunOf_4 : decode cX12_sunOf 4 = .ok (.bipush 37, 2) := by decide +kernel
theorem dX12_sunOf_6 : decode cX12_sunOf 6 = .ok (.iload_n 1, 1) := by decide +kernel
theorem dX12_sunOf_7 : decode cX12_sunOf 7 = .ok (.iadd, 1) := by decide +kernel
theorem dX12_sunOf_8 : decode cX12_sunOf 8 = .ok (.iaload, 1) := by decide +kernel
theorem dX12_sunOf_9 : decode cX12_sunOf 9 = .ok (.ireturn, 1) := by decide +kernel
noncomputable def vX12_sunOf : List Cond := .code yX12_sunOf cX12_sunOf 2 (some .int) :: (([.fieldLink RX12 9 "IcicleClockModel" "world" "[I"] : List Cond) ++ wsX120)
theorem iX12_sunOf_12 : ∀ w ∈ wsX120, w ∈ vX12_sunOf := fun _ h => List.mem_cons_of_mem _ (List.mem_append_right _ (h))
theorem gs_X12_sunOf : Gd vX12_sunOf := Gd.cons (by decide +kernel) (Gd.app (Gd.r (by decide +kernel)) gwX_12)
set_option maxHeartbeats 4000000 in
set_option maxRecDepth 100000 in
theorem s_X12_sunOf (l : Launch) (D : va_G) (cs : Nat → ClassId) (ad : Nat → Nat) (kS : kSt) (K : sK) (hKO : KO K) (hj : wJ ad 218) (g : Nat → va_E) (hW : WF (shp ad K) ad cs g) (ev : Int32) (hp0 : 0 ≤ ev.toInt ∧ ev.toInt ≤ 4) : sI l yX12_sunOf vX12_sunOf { frames := 0, cells := 0, slots := 0, locals := 0 } D cs ad kS [.ref (ad 197), .int ev] g (fun r g2 => g2 = g) := by
  refine Met.startS (cc := cX12_sunOf) (maxL := 2) (ret := (some .int)) RX12 rfl (by decide) rfl (Nat.le_of_ble_eq_true rfl) ?_
  intro p e s m below meth c ls X Z hP hl
  have hx := X.1
  have hb := X.2.1
  have hS : va_S (wA ad 218) s.heap s.heap [] := va_S.rf
  have hA : ∀ i, i < 218 → wA ad 218 (ad i) := fun i h => ⟨i, h, rfl⟩
  have hl : lv_has ls 2 [(0, .ref (ad 197)), (1, .int ev)] := hl
  refine lv_aload_n hx hb dX12_sunOf_0 rfl (lv_at hl 0 rfl) ?_
  obtain ⟨fsc_1, hgc_1, hOc_1⟩ := hW.obj (i := 197) (by decide) (sh_197 ad K)
  have hk_2 := hOc_1.ref 1 rfl
  refine q_get X iX12_sunOf_12 hP (by decide) hgc_1 rfl 1 (by decide) (List.mem_of_getElem? (i := 1) rfl) (v := .ref (ad 198)) hk_2 dX12_sunOf_1 ?_
  refine lv_bipush (v := 37) hx hb dX12_sunOf_4 (by decide) ?_
  refine lv_iload_n hx hb dX12_sunOf_6 rfl (lv_at hl 1 rfl) ?_
  refine lv_iadd hx hb dX12_sunOf_7 ?_
  refine lv_topi (fun z_3 ez_3 => ?_)
  have hz_3 : z_3.toInt = 37 + ev.toInt := n_add (by decide : (37 : Int32).toInt = 37) (rfl : ev.toInt = ev.toInt) ez_3 (by omega) (by omega)
  obtain ⟨fc_4, hgc_4, hFc_4⟩ := hW.arr (i := 198) (by decide) (sh_198 ad K)
  refine q_iald X hP (by decide) hgc_4 (n_in (rfl : z_3.toInt = z_3.toInt) (by omega) (by omega)) dX12_sunOf_8 ?_
  refine lv_topi (fun z_5 ez_5 => ?_)
  exact q_iret X hP hS rfl dX12_sunOf_9

theorem dX12_of_0 : decode cX12_of 0 = .ok (.aload_n 0, 1) := by decide +kernel
theorem dX12_of_1 : decode cX12_of 1 = .ok (.getfield 9, 3) := by decide +kernel
theorem dX12_of_4 : decode cX12_of 4 = .ok (.bipush 42, 2) := by decide +kernel
theorem dX12_of_6 : decode cX12_of 6 = .ok (.iconst 3, 1) := by decide +kernel
theorem dX12_of_7 : decode cX12_of 7 = .ok (.iload_n 1, 1) := by decide +kernel
theorem dX12_of_8 : decode cX12_of 8 = .ok (.imul, 1) := by decide +kernel
theorem dX12_of_9 : decode cX12_of 9 = .ok (.iadd, 1) := by decide +kernel
theorem dX12_of_10 : decode cX12_of 10 = .ok (.iload_n 2, 1) := by decide +kernel
theorem dX12_of_11 : decode cX12_of 11 = .ok (.iadd, 1) := by decide +kernel
theorem dX12_of_12 : decode cX12_of 12 = .ok (.iaload, 1) := by decide +kernel
theorem dX12_of_13 : decode cX12_of 13 = .ok (.ireturn, 1) := by decide +kernel
noncomputable def vX12_of : List Cond := .code yX12_of cX12_of 3 (some .int) :: (([.fieldLink RX12 9 "IcicleClockModel" "world" "[I"] : List Cond) ++ wsX120)
theorem iX12_of_12 : ∀ w ∈ wsX120, w ∈ vX12_of := fun _ h => List.mem_cons_of_mem _ (List.mem_append_right _ (h))
theorem gs_X12_of : Gd vX12_of := Gd.cons (by decide +kernel) (Gd.app (Gd.r (by decide +kernel)) gwX_12)
set_option maxHeartbeats 4000000 in
set_option maxRecDepth 100000 in
theorem s_X12_of (l : Launch) (D : va_G) (cs : Nat → ClassId) (ad : Nat → Nat) (kS : kSt) (K : sK) (hKO : KO K) (hj : wJ ad 218) (g : Nat → va_E) (hW : WF (shp ad K) ad cs g) (ic : Int32) (wh : Int32) (hp0 : 0 ≤ ic.toInt ∧ ic.toInt ≤ 7) (hp1 : 0 ≤ wh.toInt ∧ wh.toInt ≤ 2) : sI l yX12_of vX12_of { frames := 0, cells := 0, slots := 0, locals := 0 } D cs ad kS [.ref (ad 197), .int ic, .int wh] g (fun r g2 => g2 = g ∧ (wh.toInt = 0 → 0 ≤ r.toInt ∧ r.toInt ≤ 4)) := by
  refine Met.startS (cc := cX12_of) (maxL := 3) (ret := (some .int)) RX12 rfl (by decide) rfl (Nat.le_of_ble_eq_true rfl) ?_
  intro p e s m below meth c ls X Z hP hl
  have hx := X.1
  have hb := X.2.1
  have hS : va_S (wA ad 218) s.heap s.heap [] := va_S.rf
  have hA : ∀ i, i < 218 → wA ad 218 (ad i) := fun i h => ⟨i, h, rfl⟩
  have hl : lv_has ls 3 [(0, .ref (ad 197)), (1, .int ic), (2, .int wh)] := hl
  refine lv_aload_n hx hb dX12_of_0 rfl (lv_at hl 0 rfl) ?_
  obtain ⟨fsc_1, hgc_1, hOc_1⟩ := hW.obj (i := 197) (by decide) (sh_197 ad K)
  have hk_2 := hOc_1.ref 1 rfl
  refine q_get X iX12_of_12 hP (by decide) hgc_1 rfl 1 (by decide) (List.mem_of_getElem? (i := 1) rfl) (v := .ref (ad 198)) hk_2 dX12_of_1 ?_
  refine lv_bipush (v := 42) hx hb dX12_of_4 (by decide) ?_
  refine lv_iconst (v := 3) hx hb dX12_of_6 (by decide) ?_
  refine lv_iload_n hx hb dX12_of_7 rfl (lv_at hl 1 rfl) ?_
  refine lv_imul hx hb dX12_of_8 ?_
  refine lv_topi (fun z_3 ez_3 => ?_)
  have hz_3 : z_3.toInt = 3 * ic.toInt := n_mul (by decide : (3 : Int32).toInt = 3) (rfl : ic.toInt = ic.toInt) ez_3 (by omega) (by omega)
  refine lv_iadd hx hb dX12_of_9 ?_
  refine lv_topi (fun z_4 ez_4 => ?_)
  have hz_4 : z_4.toInt = 42 + z_3.toInt := n_add (by decide : (42 : Int32).toInt = 42) (rfl : z_3.toInt = z_3.toInt) ez_4 (by omega) (by omega)
  refine lv_iload_n hx hb dX12_of_10 rfl (lv_at hl 2 rfl) ?_
  refine lv_iadd hx hb dX12_of_11 ?_
  refine lv_topi (fun z_5 ez_5 => ?_)
  have hz_5 : z_5.toInt = z_4.toInt + wh.toInt := n_add (rfl : z_4.toInt = z_4.toInt) (rfl : wh.toInt = wh.toInt) ez_5 (by omega) (by omega)
  obtain ⟨fc_6, hgc_6, hFc_6⟩ := hW.arr (i := 198) (by decide) (sh_198 ad K)
  refine q_iald X hP (by decide) hgc_6 (n_in (rfl : z_5.toInt = z_5.toInt) (by omega) (by omega)) dX12_of_12 ?_
  refine lv_topi (fun z_7 ez_7 => ?_)
  have hqz_7 : wq (z_5.toNatClampNeg) z_7.toInt := ez_7 ▸ hFc_6 _
  have hcz_7 := n_cl (rfl : z_5.toInt = z_5.toInt) (by omega)
  unfold wq at hqz_7
  exact q_iret X hP hS ⟨rfl, (by omega)⟩ dX12_of_13

theorem dX12_meltBy_0 : decode cX12_meltBy 0 = .ok (.iload_n 0, 1) := by decide +kernel
theorem dX12_meltBy_1 : decode cX12_meltBy 1 = .ok (.ifCond .ge 7, 3) := by decide +kernel
theorem dX12_meltBy_4 : decode cX12_meltBy 4 = .ok (.iload_n 0, 1) := by decide +kernel
theorem dX12_meltBy_5 : decode cX12_meltBy 5 = .ok (.goto 6, 3) := by decide +kernel
theorem dX12_meltBy_8 : decode cX12_meltBy 8 = .ok (.iload_n 0, 1) := by decide +kernel
theorem dX12_meltBy_9 : decode cX12_meltBy 9 = .ok (.iload_n 1, 1) := by decide +kernel
theorem dX12_meltBy_10 : decode cX12_meltBy 10 = .ok (.imul, 1) := by decide +kernel
theorem dX12_meltBy_11 : decode cX12_meltBy 11 = .ok (.ireturn, 1) := by decide +kernel
noncomputable def vX12_meltBy : List Cond := .code yX12_meltBy cX12_meltBy 2 (some .int) :: ([] : List Cond)
theorem gs_X12_meltBy : Gd vX12_meltBy := Gd.cons (by decide +kernel) (Gd.r (by decide +kernel))
set_option maxHeartbeats 4000000 in
set_option maxRecDepth 100000 in
theorem s_X12_meltBy (l : Launch) (D : va_G) (cs : Nat → ClassId) (ad : Nat → Nat) (kS : kSt) (K : sK) (hKO : KO K) (hj : wJ ad 218) (g : Nat → va_E) (hW : WF (shp ad K) ad cs g) (th : Int32) (su : Int32) : sI l yX12_meltBy vX12_meltBy { frames := 0, cells := 0, slots := 0, locals := 0 } D cs ad kS [.int th, .int su] g (fun r g2 => g2 = g) := by
  refine Met.startS (cc := cX12_meltBy) (maxL := 2) (ret := (some .int)) RX12 rfl (by decide) rfl (Nat.le_of_ble_eq_true rfl) ?_
  intro p e s m below meth c ls X Z hP hl
  have hx := X.1
  have hb := X.2.1
  have hS : va_S (wA ad 218) s.heap s.heap [] := va_S.rf
  have hA : ∀ i, i < 218 → wA ad 218 (ad i) := fun i h => ⟨i, h, rfl⟩
  have hl : lv_has ls 2 [(0, .int th), (1, .int su)] := hl
  refine lv_iload_n hx hb dX12_meltBy_0 rfl (lv_at hl 0 rfl) ?_
  refine lv_if_ge (tgt := 8) hx hb dX12_meltBy_1 (by decide) (fun hc_1 => ?_) (fun hc_1 => ?_)
  · have hhc_1 := n_le (by decide : (0 : Int32).toInt = 0) (rfl : th.toInt = th.toInt) hc_1
    refine lv_iload_n hx hb dX12_meltBy_8 rfl (lv_at hl 0 rfl) ?_
    refine lv_iload_n hx hb dX12_meltBy_9 rfl (lv_at hl 1 rfl) ?_
    refine lv_imul hx hb dX12_meltBy_10 ?_
    refine lv_topi (fun z_2 ez_2 => ?_)
    exact q_iret X hP hS rfl dX12_meltBy_11
  · have hhc_1 := n_nle (by decide : (0 : Int32).toInt = 0) (rfl : th.toInt = th.toInt) hc_1
    refine lv_iload_n hx hb dX12_meltBy_4 rfl (lv_at hl 0 rfl) ?_
    refine lv_goto (tgt := 11) hx hb dX12_meltBy_5 (by decide) ?_
    exact q_iret X hP hS rfl dX12_meltBy_11

theorem dX12_isSeed_0 : decode cX12_isSeed 0 = .ok (.iload_n 0, 1) := by decide +kernel
theorem dX12_isSeed_1 : decode cX12_isSeed 1 = .ok (.i2l, 1) := by decide +kernel
theorem dX12_isSeed_2 : decode cX12_isSeed 2 = .ok (.lconst 0, 1) := by decide +kernel
theorem dX12_isSeed_3 : decode cX12_isSeed 3 = .ok (.ldc2_w 416, 3) := by decide +kernel
theorem dX12_isSeed_6 : decode cX12_isSeed 6 = .ok (.invokestatic 82, 3) := by decide +kernel
theorem dX12_isSeed_9 : decode cX12_isSeed 9 = .ok (.ireturn, 1) := by decide +kernel
noncomputable def vX12_isSeed : List Cond := .code yX12_isSeed cX12_isSeed 1 (some .boolean) :: (([.constantLong RX12 416 (2000000000), .methodLink RX12 82 yX12_in, .static yX12_in, .initialized RX12] : List Cond) ++ vX12_in)
theorem gs_X12_isSeed : Gd vX12_isSeed := Gd.cons (by decide +kernel) (Gd.app (Gd.r (by decide +kernel)) gs_X12_in)
theorem gg_X12_isSeed_X12_in : GoodIn vX12_isSeed (wsS RX12 82 yX12_in vX12_in) := goodIn_app (goodIn_r _ [2, 3, 4] (by decide +kernel) (by decide +kernel)) (fun w h => ⟨List.mem_cons_of_mem _ (List.mem_append_right _ (h)), gs_X12_in w h⟩)
set_option maxHeartbeats 4000000 in
set_option maxRecDepth 100000 in
theorem s_X12_isSeed (l : Launch) (D : va_G) (cs : Nat → ClassId) (ad : Nat → Nat) (kS : kSt) (K : sK) (hKO : KO K) (hj : wJ ad 218) (g : Nat → va_E) (hW : WF (shp ad K) ad cs g) (sd : Int32) : sI l yX12_isSeed vX12_isSeed { frames := 1, cells := 0, slots := 0, locals := 25 } D cs ad kS [.int sd] g (fun r g2 => g2 = g ∧ (0 ≤ r.toInt ∧ r.toInt ≤ 1 ∧ (r.toInt ≠ 0 → 0 ≤ sd.toInt ∧ sd.toInt ≤ 2000000000))) := by
  refine Met.startS (cc := cX12_isSeed) (maxL := 1) (ret := (some .boolean)) RX12 rfl (by decide) rfl (Nat.le_of_ble_eq_true rfl) ?_
  intro p e s m below meth c ls X Z hP hl
  have hx := X.1
  have hb := X.2.1
  have hS : va_S (wA ad 218) s.heap s.heap [] := va_S.rf
  have hA : ∀ i, i < 218 → wA ad 218 (ad i) := fun i h => ⟨i, h, rfl⟩
  have hl : lv_has ls 1 [(0, .int sd)] := hl
  refine lv_iload_n hx hb dX12_isSeed_0 rfl (lv_at hl 0 rfl) ?_
  refine lv_i2l hx hb dX12_isSeed_1 rfl ?_
  refine lv_topl (fun z_1 ez_1 => ?_)
  have hz_1 : z_1.toInt = sd.toInt := ez_1 ▸ j_of rfl
  have := n_hi sd
  have := n_lo sd
  refine lv_lconst (v := 0) hx hb dX12_isSeed_2 (by decide) ?_
  refine lv_ldc2 (v := 2000000000) hx hb X.2.2.2.2.2.1 (X.2.2.2.2.1 _ (List.mem_of_getElem? (i := 1) rfl)) dX12_isSeed_3 ?_
  refine s_callSi (As := [.long z_1, .long 0, .long 2000000000]) (rest := []) X Z (s_X12_in l D cs ad kS K hKO hj g hW z_1 0 2000000000) (cwS 3 X.2.2.2.2.1 gg_X12_isSeed_X12_in rfl rfl rfl (by decide +kernel) ⟨Nat.le_of_ble_eq_true rfl, Nat.le_of_ble_eq_true rfl⟩) hP hA hS.2.1 hS rfl hl.1 rfl (Nat.le_of_ble_eq_true rfl) dX12_isSeed_6 ⟨Nat.le_of_ble_eq_true rfl, Nat.le_of_ble_eq_true rfl⟩ (fun r_4 g_3 H locs hw_2 hP hS => ?_)
  obtain ⟨hw_2g, hw_2⟩ := hw_2
  rw [hw_2g] at hP
  have hqk_5 : (0 : Int64).toInt = 0 := by decide
  have hqk_6 : (2000000000 : Int64).toInt = 2000000000 := by decide
  exact q_zret X hP hS (n_bool (by omega) (by omega)) ⟨rfl, (by omega)⟩ dX12_isSeed_9

theorem dX12_isSlot_0 : decode cX12_isSlot 0 = .ok (.iload_n 0, 1) := by decide +kernel
theorem dX12_isSlot_1 : decode cX12_isSlot 1 = .ok (.i2l, 1) := by decide +kernel
theorem dX12_isSlot_2 : decode cX12_isSlot 2 = .ok (.lconst 0, 1) := by decide +kernel
theorem dX12_isSlot_3 : decode cX12_isSlot 3 = .ok (.ldc2_w 431, 3) := by decide +kernel
theorem dX12_isSlot_6 : decode cX12_isSlot 6 = .ok (.invokestatic 82, 3) := by decide +kernel
theorem dX12_isSlot_9 : decode cX12_isSlot 9 = .ok (.ireturn, 1) := by decide +kernel
noncomputable def vX12_isSlot : List Cond := .code yX12_isSlot cX12_isSlot 1 (some .boolean) :: (([.constantLong RX12 431 (3), .methodLink RX12 82 yX12_in, .static yX12_in, .initialized RX12] : List Cond) ++ vX12_in)
theorem gs_X12_isSlot : Gd vX12_isSlot := Gd.cons (by decide +kernel) (Gd.app (Gd.r (by decide +kernel)) gs_X12_in)
theorem gg_X12_isSlot_X12_in : GoodIn vX12_isSlot (wsS RX12 82 yX12_in vX12_in) := goodIn_app (goodIn_r _ [2, 3, 4] (by decide +kernel) (by decide +kernel)) (fun w h => ⟨List.mem_cons_of_mem _ (List.mem_append_right _ (h)), gs_X12_in w h⟩)
set_option maxHeartbeats 4000000 in
set_option maxRecDepth 100000 in
theorem s_X12_isSlot (l : Launch) (D : va_G) (cs : Nat → ClassId) (ad : Nat → Nat) (kS : kSt) (K : sK) (hKO : KO K) (hj : wJ ad 218) (g : Nat → va_E) (hW : WF (shp ad K) ad cs g) (sl : Int32) : sI l yX12_isSlot vX12_isSlot { frames := 1, cells := 0, slots := 0, locals := 25 } D cs ad kS [.int sl] g (fun r g2 => g2 = g ∧ (0 ≤ r.toInt ∧ r.toInt ≤ 1 ∧ (r.toInt ≠ 0 → 0 ≤ sl.toInt ∧ sl.toInt ≤ 3) ∧ (r.toInt = 0 → sl.toInt < 0 ∨ 3 < sl.toInt))) := by
  refine Met.startS (cc := cX12_isSlot) (maxL := 1) (ret := (some .boolean)) RX12 rfl (by decide) rfl (Nat.le_of_ble_eq_true rfl) ?_
  intro p e s m below meth c ls X Z hP hl
  have hx := X.1
  have hb := X.2.1
  have hS : va_S (wA ad 218) s.heap s.heap [] := va_S.rf
  have hA : ∀ i, i < 218 → wA ad 218 (ad i) := fun i h => ⟨i, h, rfl⟩
  have hl : lv_has ls 1 [(0, .int sl)] := hl
  refine lv_iload_n hx hb dX12_isSlot_0 rfl (lv_at hl 0 rfl) ?_
  refine lv_i2l hx hb dX12_isSlot_1 rfl ?_
  refine lv_topl (fun z_1 ez_1 => ?_)
  have hz_1 : z_1.toInt = sl.toInt := ez_1 ▸ j_of rfl
  have := n_hi sl
  have := n_lo sl
  refine lv_lconst (v := 0) hx hb dX12_isSlot_2 (by decide) ?_
  refine lv_ldc2 (v := 3) hx hb X.2.2.2.2.2.1 (X.2.2.2.2.1 _ (List.mem_of_getElem? (i := 1) rfl)) dX12_isSlot_3 ?_
  refine s_callSi (As := [.long z_1, .long 0, .long 3]) (rest := []) X Z (s_X12_in l D cs ad kS K hKO hj g hW z_1 0 3) (cwS 3 X.2.2.2.2.1 gg_X12_isSlot_X12_in rfl rfl rfl (by decide +kernel) ⟨Nat.le_of_ble_eq_true rfl, Nat.le_of_ble_eq_true rfl⟩) hP hA hS.2.1 hS rfl hl.1 rfl (Nat.le_of_ble_eq_true rfl) dX12_isSlot_6 ⟨Nat.le_of_ble_eq_true rfl, Nat.le_of_ble_eq_true rfl⟩ (fun r_4 g_3 H locs hw_2 hP hS => ?_)
  obtain ⟨hw_2g, hw_2⟩ := hw_2
  rw [hw_2g] at hP
  have hqk_5 : (0 : Int64).toInt = 0 := by decide
  have hqk_6 : (3 : Int64).toInt = 3 := by decide
  exact q_zret X hP hS (n_bool (by omega) (by omega)) ⟨rfl, (by omega)⟩ dX12_isSlot_9

theorem dX12_cut_0 : decode cX12_cut 0 = .ok (.bipush 64, 2) := by decide +kernel
theorem dX12_cut_2 : decode cX12_cut 2 = .ok (.bipush 8, 2) := by decide +kernel
theorem dX12_cut_4 : decode cX12_cut 4 = .ok (.iload_n 2, 1) := by decide +kernel
theorem dX12_cut_5 : decode cX12_cut 5 = .ok (.ishl, 1) := by decide +kernel
theorem dX12_cut_6 : decode cX12_cut 6 = .ok (.isub, 1) := by decide +kernel
theorem dX12_cut_7 : decode cX12_cut 7 = .ok (.istore_n 3, 1) := by decide +kernel
theorem dX12_cut_8 : decode cX12_cut 8 = .ok (.lload_n 0, 1) := by decide +kernel
theorem dX12_cut_9 : decode cX12_cut 9 = .ok (.iload_n 3, 1) := by decide +kernel
theorem dX12_cut_10 : decode cX12_cut 10 = .ok (.lshl, 1) := by decide +kernel
theorem dX12_cut_11 : decode cX12_cut 11 = .ok (.iload_n 3, 1) := by decide +kernel
theorem dX12_cut_12 : decode cX12_cut 12 = .ok (.lshr, 1) := by decide +kernel
theorem dX12_cut_13 : decode cX12_cut 13 = .ok (.lreturn, 1) := by decide +kernel
noncomputable def vX12_cut : List Cond := .code yX12_cut cX12_cut 4 (some .long) :: ([] : List Cond)
theorem gs_X12_cut : Gd vX12_cut := Gd.cons (by decide +kernel) (Gd.r (by decide +kernel))
set_option maxHeartbeats 4000000 in
set_option maxRecDepth 100000 in
theorem s_X12_cut (l : Launch) (D : va_G) (cs : Nat → ClassId) (ad : Nat → Nat) (kS : kSt) (K : sK) (hKO : KO K) (hj : wJ ad 218) (g : Nat → va_E) (hW : WF (shp ad K) ad cs g) (vv : Int64) (wd : Int32) : sJ l yX12_cut vX12_cut { frames := 0, cells := 0, slots := 0, locals := 0 } D cs ad kS [.long vv, .int wd] g (fun r g2 => g2 = g) := by
  refine Met.startS (cc := cX12_cut) (maxL := 4) (ret := (some .long)) RX12 rfl (by decide) rfl (Nat.le_of_ble_eq_true rfl) ?_
  intro p e s m below meth c ls X Z hP hl
  have hx := X.1
  have hb := X.2.1
  have hS : va_S (wA ad 218) s.heap s.heap [] := va_S.rf
  have hA : ∀ i, i < 218 → wA ad 218 (ad i) := fun i h => ⟨i, h, rfl⟩
  have hl : lv_has ls 4 [(0, .long vv), (2, .int wd)] := hl
  refine lv_bipush (v := 64) hx hb dX12_cut_0 (by decide) ?_
  refine lv_bipush (v := 8) hx hb dX12_cut_2 (by decide) ?_
  refine lv_iload_n hx hb dX12_cut_4 rfl (lv_at hl 1 rfl) ?_
  refine lv_ishl hx hb dX12_cut_5 ?_
  refine lv_topi (fun z_1 ez_1 => ?_)
  refine lv_isub hx hb dX12_cut_6 ?_
  refine lv_topi (fun z_2 ez_2 => ?_)
  refine lv_istore_n (lv' := [(3, .int z_2), (0, .long vv), (2, .int wd)]) hx hb dX12_cut_7 rfl hl (by decide) rfl (fun ls hl => ?_)
  refine lv_lload_n hx hb dX12_cut_8 rfl (lv_at hl 1 rfl) ?_
  refine lv_iload_n hx hb dX12_cut_9 rfl (lv_at hl 0 rfl) ?_
  refine lv_lshl hx hb dX12_cut_10 rfl ?_
  refine lv_topl (fun z_3 ez_3 => ?_)
  refine lv_iload_n hx hb dX12_cut_11 rfl (lv_at hl 0 rfl) ?_
  refine lv_lshr hx hb dX12_cut_12 rfl ?_
  refine lv_topl (fun z_4 ez_4 => ?_)
  exact q_lret X hP hS rfl dX12_cut_13

theorem dX12_thawIn_0 : decode cX12_thawIn 0 = .ok (.iload_n 0, 1) := by decide +kernel
theorem dX12_thawIn_1 : decode cX12_thawIn 1 = .ok (.iconst 2, 1) := by decide +kernel
theorem dX12_thawIn_2 : decode cX12_thawIn 2 = .ok (.iload_n 1, 1) := by decide +kernel
theorem dX12_thawIn_3 : decode cX12_thawIn 3 = .ok (.iconst 1, 1) := by decide +kernel
theorem dX12_thawIn_4 : decode cX12_thawIn 4 = .ok (.isub, 1) := by decide +kernel
theorem dX12_thawIn_5 : decode cX12_thawIn 5 = .ok (.iload_n 2, 1) := by decide +kernel
theorem dX12_thawIn_6 : decode cX12_thawIn 6 = .ok (.isub, 1) := by decide +kernel
theorem dX12_thawIn_7 : decode cX12_thawIn 7 = .ok (.imul, 1) := by decide +kernel
theorem dX12_thawIn_8 : decode cX12_thawIn 8 = .ok (.ishr, 1) := by decide +kernel
theorem dX12_thawIn_9 : decode cX12_thawIn 9 = .ok (.iconst 3, 1) := by decide +kernel
theorem dX12_thawIn_10 : decode cX12_thawIn 10 = .ok (.iand, 1) := by decide +kernel
theorem dX12_thawIn_11 : decode cX12_thawIn 11 = .ok (.ireturn, 1) := by decide +kernel
noncomputable def vX12_thawIn : List Cond := .code yX12_thawIn cX12_thawIn 3 (some .int) :: ([] : List Cond)
theorem gs_X12_thawIn : Gd vX12_thawIn := Gd.cons (by decide +kernel) (Gd.r (by decide +kernel))
set_option maxHeartbeats 4000000 in
set_option maxRecDepth 100000 in
theorem s_X12_thawIn (l : Launch) (D : va_G) (cs : Nat → ClassId) (ad : Nat → Nat) (kS : kSt) (K : sK) (hKO : KO K) (hj : wJ ad 218) (g : Nat → va_E) (hW : WF (shp ad K) ad cs g) (ro : Int32) (nn : Int32) (dy : Int32) : sI l yX12_thawIn vX12_thawIn { frames := 0, cells := 0, slots := 0, locals := 0 } D cs ad kS [.int ro, .int nn, .int dy] g (fun r g2 => g2 = g) := by
  refine Met.startS (cc := cX12_thawIn) (maxL := 3) (ret := (some .int)) RX12 rfl (by decide) rfl (Nat.le_of_ble_eq_true rfl) ?_
  intro p e s m below meth c ls X Z hP hl
  have hx := X.1
  have hb := X.2.1
  have hS : va_S (wA ad 218) s.heap s.heap [] := va_S.rf
  have hA : ∀ i, i < 218 → wA ad 218 (ad i) := fun i h => ⟨i, h, rfl⟩
  have hl : lv_has ls 3 [(0, .int ro), (1, .int nn), (2, .int dy)] := hl
  refine lv_iload_n hx hb dX12_thawIn_0 rfl (lv_at hl 0 rfl) ?_
  refine lv_iconst (v := 2) hx hb dX12_thawIn_1 (by decide) ?_
  refine lv_iload_n hx hb dX12_thawIn_2 rfl (lv_at hl 1 rfl) ?_
  refine lv_iconst (v := 1) hx hb dX12_thawIn_3 (by decide) ?_
  refine lv_isub hx hb dX12_thawIn_4 ?_
  refine lv_topi (fun z_1 ez_1 => ?_)
  refine lv_iload_n hx hb dX12_thawIn_5 rfl (lv_at hl 2 rfl) ?_
  refine lv_isub hx hb dX12_thawIn_6 ?_
  refine lv_topi (fun z_2 ez_2 => ?_)
  refine lv_imul hx hb dX12_thawIn_7 ?_
  refine lv_topi (fun z_3 ez_3 => ?_)
  refine lv_ishr hx hb dX12_thawIn_8 ?_
  refine lv_topi (fun z_4 ez_4 => ?_)
  refine lv_iconst (v := 3) hx hb dX12_thawIn_9 (by decide) ?_
  refine lv_iand hx hb dX12_thawIn_10 ?_
  refine lv_topi (fun z_5 ez_5 => ?_)
  have hz_5 : 0 ≤ z_5.toInt ∧ z_5.toInt ≤ 3 := n_and 2 (by decide) (by decide) (by decide) ez_5
  exact q_iret X hP hS rfl dX12_thawIn_11

theorem dX12_fault_0 : decode cX12_fault 0 = .ok (.iload_n 1, 1) := by decide +kernel
theorem dX12_fault_1 : decode cX12_fault 1 = .ok (.ifCond .ne 10, 3) := by decide +kernel
theorem dX12_fault_4 : decode cX12_fault 4 = .ok (.aload_n 0, 1) := by decide +kernel
theorem dX12_fault_5 : decode cX12_fault 5 = .ok (.getfield 123, 3) := by decide +kernel
theorem dX12_fault_8 : decode cX12_fault 8 = .ok (.goto 16, 3) := by decide +kernel
theorem dX12_fault_11 : decode cX12_fault 11 = .ok (.iload_n 1, 1) := by decide +kernel
theorem dX12_fault_12 : decode cX12_fault 12 = .ok (.iconst 1, 1) := by decide +kernel
theorem dX12_fault_13 : decode cX12_fault 13 = .ok (.if_icmp .ne 10, 3) := by decide +kernel
theorem dX12_fault_16 : decode cX12_fault 16 = .ok (.aload_n 0, 1) := by decide +kernel
theorem dX12_fault_17 : decode cX12_fault 17 = .ok (.getfield 27, 3) := by decide +kernel
theorem dX12_fault_20 : decode cX12_fault 20 = .ok (.goto 4, 3) := by decide +kernel
theorem dX12_fault_23 : decode cX12_fault 23 = .ok (.iconst (-1), 1) := by decide +kernel
theorem dX12_fault_24 : decode cX12_fault 24 = .ok (.ireturn, 1) := by decide +kernel
noncomputable def vX12_fault : List Cond := .code yX12_fault cX12_fault 2 (some .int) :: (([.fieldLink RX12 123 "IcicleClockModel" "faultKind" "I", .fieldLink RX12 27 "IcicleClockModel" "faultPlace" "I"] : List Cond) ++ wsX120)
theorem iX12_fault_12 : ∀ w ∈ wsX120, w ∈ vX12_fault := fun _ h => List.mem_cons_of_mem _ (List.mem_append_right _ (h))
theorem gs_X12_fault : Gd vX12_fault := Gd.cons (by decide +kernel) (Gd.app (Gd.r (by decide +kernel)) gwX_12)
set_option maxHeartbeats 4000000 in
set_option maxRecDepth 100000 in
theorem s_X12_fault (l : Launch) (D : va_G) (cs : Nat → ClassId) (ad : Nat → Nat) (kS : kSt) (K : sK) (hKO : KO K) (hj : wJ ad 218) (g : Nat → va_E) (hW : WF (shp ad K) ad cs g) (wh : Int32) : sI l yX12_fault vX12_fault { frames := 0, cells := 0, slots := 0, locals := 0 } D cs ad kS [.ref (ad 197), .int wh] g (fun r g2 => g2 = g) := by
  refine Met.startS (cc := cX12_fault) (maxL := 2) (ret := (some .int)) RX12 rfl (by decide) rfl (Nat.le_of_ble_eq_true rfl) ?_
  intro p e s m below meth c ls X Z hP hl
  have hx := X.1
  have hb := X.2.1
  have hS : va_S (wA ad 218) s.heap s.heap [] := va_S.rf
  have hA : ∀ i, i < 218 → wA ad 218 (ad i) := fun i h => ⟨i, h, rfl⟩
  have hl : lv_has ls 2 [(0, .ref (ad 197)), (1, .int wh)] := hl
  refine lv_iload_n hx hb dX12_fault_0 rfl (lv_at hl 1 rfl) ?_
  refine lv_if_ne (tgt := 11) hx hb dX12_fault_1 (by decide) (fun hc_1 => ?_) (fun hc_1 => ?_)
  · have hhc_1 := n_ne (rfl : wh.toInt = wh.toInt) (by decide : (0 : Int32).toInt = 0) hc_1
    refine lv_iload_n hx hb dX12_fault_11 rfl (lv_at hl 1 rfl) ?_
    refine lv_iconst (v := 1) hx hb dX12_fault_12 (by decide) ?_
    refine lv_icmp_ne (tgt := 23) hx hb dX12_fault_13 (by decide) (fun hc_2 => ?_) (fun hc_2 => ?_)
    · have hhc_2 := n_ne (rfl : wh.toInt = wh.toInt) (by decide : (1 : Int32).toInt = 1) hc_2
      refine lv_iconst (v := (-1)) hx hb dX12_fault_23 (by decide) ?_
      exact q_iret X hP hS rfl dX12_fault_24
    · have hhc_2 := n_eq (rfl : wh.toInt = wh.toInt) (by decide : (1 : Int32).toInt = 1) hc_2
      refine lv_aload_n hx hb dX12_fault_16 rfl (lv_at hl 0 rfl) ?_
      obtain ⟨fsc_3, hgc_3, hOc_3⟩ := hW.obj (i := 197) (by decide) (sh_197 ad K)
      obtain ⟨x_5, hk_4, -⟩ := hOc_3.int 13 rfl
      refine q_get X iX12_fault_12 hP (by decide) hgc_3 rfl 13 (by decide) (List.mem_of_getElem? (i := 2) rfl) (v := .int x_5) hk_4 dX12_fault_17 ?_
      refine lv_goto (tgt := 24) hx hb dX12_fault_20 (by decide) ?_
      exact q_iret X hP hS rfl dX12_fault_24
  · have hhc_1 := n_eq (rfl : wh.toInt = wh.toInt) (by decide : (0 : Int32).toInt = 0) hc_1
    refine lv_aload_n hx hb dX12_fault_4 rfl (lv_at hl 0 rfl) ?_
    obtain ⟨fsc_6, hgc_6, hOc_6⟩ := hW.obj (i := 197) (by decide) (sh_197 ad K)
    obtain ⟨x_8, hk_7, -⟩ := hOc_6.int 12 rfl
    refine q_get X iX12_fault_12 hP (by decide) hgc_6 rfl 12 (by decide) (List.mem_of_getElem? (i := 1) rfl) (v := .int x_8) hk_7 dX12_fault_5 ?_
    refine lv_goto (tgt := 24) hx hb dX12_fault_8 (by decide) ?_
    exact q_iret X hP hS rfl dX12_fault_24
