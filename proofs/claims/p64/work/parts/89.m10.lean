theorem dX12_struckFrom_0 : decode cX12_struckFrom 0 = .ok (.aload_n 0, 1) := by decide +kernel
theorem dX12_struckFrom_1 : decode cX12_struckFrom 1 = .ok (.getfield 59, 3) := by decide +kernel
theorem dX12_struckFrom_4 : decode cX12_struckFrom 4 = .ok (.iconst 5, 1) := by decide +kernel
theorem dX12_struckFrom_5 : decode cX12_struckFrom 5 = .ok (.iload_n 2, 1) := by decide +kernel
theorem dX12_struckFrom_6 : decode cX12_struckFrom 6 = .ok (.imul, 1) := by decide +kernel
theorem dX12_struckFrom_7 : decode cX12_struckFrom 7 = .ok (.iload_n 1, 1) := by decide +kernel
theorem dX12_struckFrom_8 : decode cX12_struckFrom 8 = .ok (.iadd, 1) := by decide +kernel
theorem dX12_struckFrom_9 : decode cX12_struckFrom 9 = .ok (.iaload, 1) := by decide +kernel
theorem dX12_struckFrom_10 : decode cX12_struckFrom 10 = .ok (.ireturn, 1) := by decide +kernel
noncomputable def vX12_struckFrom : List Cond := .code yX12_struckFrom cX12_struckFrom 3 (some .int) :: (([.fieldLink RX12 59 "IcicleClockModel" "struck" "[I"] : List Cond) ++ wsX120)
theorem iX12_struckFrom_12 : ∀ w ∈ wsX120, w ∈ vX12_struckFrom := fun _ h => List.mem_cons_of_mem _ (List.mem_append_right _ (h))
theorem gs_X12_struckFrom : Gd vX12_struckFrom := Gd.cons (by decide +kernel) (Gd.app (Gd.r (by decide +kernel)) gwX_12)
set_option maxHeartbeats 4000000 in
set_option maxRecDepth 100000 in
theorem s_X12_struckFrom (l : Launch) (D : va_G) (cs : Nat → ClassId) (ad : Nat → Nat) (kS : kSt) (K : sK) (hKO : KO K) (hj : wJ ad 218) (g : Nat → va_E) (hW : WF (shp ad K) ad cs g) (ev : Int32) (dy : Int32) (hp0 : 0 ≤ ev.toInt ∧ ev.toInt ≤ 4) (hp1 : 0 ≤ dy.toInt ∧ dy.toInt ≤ 14) : sI l yX12_struckFrom vX12_struckFrom { frames := 0, cells := 0, slots := 0, locals := 0 } D cs ad kS [.ref (ad 197), .int ev, .int dy] g (fun r g2 => g2 = g ∧ (r.toInt = gA g 212 (5 * dy.toInt + ev.toInt).toNat ∧ 0 ≤ r.toInt ∧ r.toInt ≤ 8 * (15 - dy.toInt))) := by
  refine Met.startS (cc := cX12_struckFrom) (maxL := 3) (ret := (some .int)) RX12 rfl (by decide) rfl (Nat.le_of_ble_eq_true rfl) ?_
  intro p e s m below meth c ls X Z hP hl
  have hx := X.1
  have hb := X.2.1
  have hS : va_S (wA ad 218) s.heap s.heap [] := va_S.rf
  have hA : ∀ i, i < 218 → wA ad 218 (ad i) := fun i h => ⟨i, h, rfl⟩
  have hl : lv_has ls 3 [(0, .ref (ad 197)), (1, .int ev), (2, .int dy)] := hl
  refine lv_aload_n hx hb dX12_struckFrom_0 rfl (lv_at hl 0 rfl) ?_
  obtain ⟨fsc_1, hgc_1, hOc_1⟩ := hW.obj (i := 197) (by decide) (sh_197 ad K)
  have hk_2 := hOc_1.ref 32 rfl
  refine q_get X iX12_struckFrom_12 hP (by decide) hgc_1 rfl 32 (by decide) (List.mem_of_getElem? (i := 1) rfl) (v := .ref (ad 212)) hk_2 dX12_struckFrom_1 ?_
  refine lv_iconst (v := 5) hx hb dX12_struckFrom_4 (by decide) ?_
  refine lv_iload_n hx hb dX12_struckFrom_5 rfl (lv_at hl 2 rfl) ?_
  refine lv_imul hx hb dX12_struckFrom_6 ?_
  refine lv_topi (fun z_3 ez_3 => ?_)
  have hz_3 : z_3.toInt = 5 * dy.toInt := n_mul (by decide : (5 : Int32).toInt = 5) (rfl : dy.toInt = dy.toInt) ez_3 (by omega) (by omega)
  refine lv_iload_n hx hb dX12_struckFrom_7 rfl (lv_at hl 1 rfl) ?_
  refine lv_iadd hx hb dX12_struckFrom_8 ?_
  refine lv_topi (fun z_4 ez_4 => ?_)
  have hz_4 : z_4.toInt = z_3.toInt + ev.toInt := n_add (rfl : z_3.toInt = z_3.toInt) (rfl : ev.toInt = ev.toInt) ez_4 (by omega) (by omega)
  obtain ⟨fc_5, hgc_5, hFc_5⟩ := hW.arr (i := 212) (by decide) (sh_212 ad K)
  refine q_iald X hP (by decide) hgc_5 (n_in (rfl : z_4.toInt = z_4.toInt) (by omega) (by omega)) dX12_struckFrom_9 ?_
  refine lv_topi (fun z_6 ez_6 => ?_)
  have hqz_6 : sq (z_4.toNatClampNeg) z_6.toInt := ez_6 ▸ hFc_5 _
  have hcz_6 := n_cl (rfl : z_4.toInt = z_4.toInt) (by omega)
  unfold sq at hqz_6
  have hgaz_6 : gA g 212 (z_4.toNatClampNeg) = z_6.toInt := by rw [ez_6]; exact gA_of hgc_5 _
  exact q_iret X hP hS ⟨rfl, ⟨by rw [show (5 * dy.toInt + ev.toInt).toNat = z_4.toNatClampNeg by omega]; exact hgaz_6.symm, by omega, by omega⟩⟩ dX12_struckFrom_10

theorem dX12_leastFrom_0 : decode cX12_leastFrom 0 = .ok (.ldc_w 285, 3) := by decide +kernel
theorem dX12_leastFrom_3 : decode cX12_leastFrom 3 = .ok (.istore_n 3, 1) := by decide +kernel
theorem dX12_leastFrom_4 : decode cX12_leastFrom 4 = .ok (.iconst 0, 1) := by decide +kernel
theorem dX12_leastFrom_5 : decode cX12_leastFrom 5 = .ok (.istore 4, 2) := by decide +kernel
theorem dX12_leastFrom_7 : decode cX12_leastFrom 7 = .ok (.iload 4, 2) := by decide +kernel
theorem dX12_leastFrom_9 : decode cX12_leastFrom 9 = .ok (.aload_n 0, 1) := by decide +kernel
theorem dX12_leastFrom_10 : decode cX12_leastFrom 10 = .ok (.getfield 9, 3) := by decide +kernel
theorem dX12_leastFrom_13 : decode cX12_leastFrom 13 = .ok (.iconst 4, 1) := by decide +kernel
theorem dX12_leastFrom_14 : decode cX12_leastFrom 14 = .ok (.iaload, 1) := by decide +kernel
theorem dX12_leastFrom_15 : decode cX12_leastFrom 15 = .ok (.if_icmp .ge 37, 3) := by decide +kernel
theorem dX12_leastFrom_18 : decode cX12_leastFrom 18 = .ok (.iload_n 1, 1) := by decide +kernel
theorem dX12_leastFrom_19 : decode cX12_leastFrom 19 = .ok (.iconst (-1), 1) := by decide +kernel
theorem dX12_leastFrom_20 : decode cX12_leastFrom 20 = .ok (.if_icmp .eq 14, 3) := by decide +kernel
theorem dX12_leastFrom_23 : decode cX12_leastFrom 23 = .ok (.iload 4, 2) := by decide +kernel
theorem dX12_leastFrom_25 : decode cX12_leastFrom 25 = .ok (.iload_n 1, 1) := by decide +kernel
theorem dX12_leastFrom_26 : decode cX12_leastFrom 26 = .ok (.isub, 1) := by decide +kernel
theorem dX12_leastFrom_27 : decode cX12_leastFrom 27 = .ok (.invokestatic 273, 3) := by decide +kernel
theorem dX12_leastFrom_30 : decode cX12_leastFrom 30 = .ok (.iconst 1, 1) := by decide +kernel
theorem dX12_leastFrom_31 : decode cX12_leastFrom 31 = .ok (.if_icmp .gt 15, 3) := by decide +kernel
theorem dX12_leastFrom_34 : decode cX12_leastFrom 34 = .ok (.iload_n 3, 1) := by decide +kernel
theorem dX12_leastFrom_35 : decode cX12_leastFrom 35 = .ok (.aload_n 0, 1) := by decide +kernel
theorem dX12_leastFrom_36 : decode cX12_leastFrom 36 = .ok (.iload 4, 2) := by decide +kernel
theorem dX12_leastFrom_38 : decode cX12_leastFrom 38 = .ok (.iload_n 2, 1) := by decide +kernel
theorem dX12_leastFrom_39 : decode cX12_leastFrom 39 = .ok (.invokevirtual 373, 3) := by decide +kernel
theorem dX12_leastFrom_42 : decode cX12_leastFrom 42 = .ok (.invokestatic 117, 3) := by decide +kernel
theorem dX12_leastFrom_45 : decode cX12_leastFrom 45 = .ok (.istore_n 3, 1) := by decide +kernel
theorem dX12_leastFrom_46 : decode cX12_leastFrom 46 = .ok (.iinc 4 1, 3) := by decide +kernel
theorem dX12_leastFrom_49 : decode cX12_leastFrom 49 = .ok (.goto (-42), 3) := by decide +kernel
theorem dX12_leastFrom_52 : decode cX12_leastFrom 52 = .ok (.iload_n 3, 1) := by decide +kernel
theorem dX12_leastFrom_53 : decode cX12_leastFrom 53 = .ok (.ireturn, 1) := by decide +kernel
noncomputable def vX12_leastFrom : List Cond := .code yX12_leastFrom cX12_leastFrom 5 (some .int) :: (([.constant RX12 285 (1000000000), .fieldLink RX12 9 "IcicleClockModel" "world" "[I", .methodLink RX12 273 Lib.Math.abs.name, .static Lib.Math.abs.name, .initialized "java/lang/Math", .code Lib.Math.abs.name Lib.Math.abs.code 1 (some .int), .methodLink RX12 373 yX12_struckFrom, .instanceMethod yX12_struckFrom, .selects RX12 yX12_struckFrom yX12_struckFrom, .initialized RX12, .methodLink RX12 117 Lib.Math.min.name, .static Lib.Math.min.name, .code Lib.Math.min.name Lib.Math.min.code 2 (some .int)] : List Cond) ++ (wsX120 ++ vX12_struckFrom))
theorem iX12_leastFrom_12 : ∀ w ∈ wsX120, w ∈ vX12_leastFrom := fun _ h => List.mem_cons_of_mem _ (List.mem_append_right _ (List.mem_append_left _ h))
theorem gs_X12_leastFrom : Gd vX12_leastFrom := Gd.cons (by decide +kernel) (Gd.app (Gd.r (by decide +kernel)) (Gd.app gwX_12 gs_X12_struckFrom))
theorem gg_X12_leastFrom_X12_struckFrom : GoodIn vX12_leastFrom (wsV RX12 373 RX12 yX12_struckFrom vX12_struckFrom) := goodIn_app (goodIn_r _ [7, 8, 9, 10] (by decide +kernel) (by decide +kernel)) (fun w h => ⟨List.mem_cons_of_mem _ (List.mem_append_right _ (List.mem_append_right _ (h))), gs_X12_struckFrom w h⟩)
set_option maxHeartbeats 4000000 in
set_option maxRecDepth 100000 in
theorem s_X12_leastFrom (l : Launch) (D : va_G) (cs : Nat → ClassId) (ad : Nat → Nat) (kS : kSt) (K : sK) (hKO : KO K) (hj : wJ ad 218) (g : Nat → va_E) (hW : WF (shp ad K) ad cs g) (ev : Int32) (dy : Int32) (hp0 : (-1) ≤ ev.toInt ∧ ev.toInt ≤ 4) (hp1 : 0 ≤ dy.toInt ∧ dy.toInt ≤ 14) (hp2 : ((0 ≤ ev.toInt ∧ ev.toInt < gA g 198 4) ∨ (ev.toInt = -1 ∧ 0 < gA g 198 4))) : sI l yX12_leastFrom vX12_leastFrom { frames := 1, cells := 0, slots := 0, locals := 22 } D cs ad kS [.ref (ad 197), .int ev, .int dy] g (fun r g2 => g2 = g ∧ ((0 ≤ r.toInt ∧ r.toInt ≤ 8 * (15 - dy.toInt)) ∧ ∃ k : Int, 0 ≤ k ∧ k < gA g 198 4 ∧ (ev.toInt = -1 ∨ (-1 ≤ k - ev.toInt ∧ k - ev.toInt ≤ 1)) ∧ gA g 212 (5 * dy.toInt + k).toNat = r.toInt)) := by
  refine Met.startS (cc := cX12_leastFrom) (maxL := 5) (ret := (some .int)) RX12 rfl (by decide) rfl (Nat.le_of_ble_eq_true rfl) ?_
  intro p e s m below meth c ls X Z hP hl
  have hx := X.1
  have hb := X.2.1
  have hS : va_S (wA ad 218) s.heap s.heap [] := va_S.rf
  have hA : ∀ i, i < 218 → wA ad 218 (ad i) := fun i h => ⟨i, h, rfl⟩
  have hl : lv_has ls 5 [(0, .ref (ad 197)), (1, .int ev), (2, .int dy)] := hl
  refine lv_ldcw (v := 1000000000) hx hb X.2.2.2.2.2.1 (X.2.2.2.2.1 _ (List.mem_of_getElem? (i := 1) rfl)) dX12_leastFrom_0 ?_
  refine lv_istore_n (lv' := [(3, .int 1000000000), (0, .ref (ad 197)), (1, .int ev), (2, .int dy)]) hx hb dX12_leastFrom_3 rfl hl (by decide) rfl (fun ls hl => ?_)
  refine lv_iconst (v := 0) hx hb dX12_leastFrom_4 (by decide) ?_
  refine lv_istore (lv' := [(4, .int 0), (3, .int 1000000000), (0, .ref (ad 197)), (1, .int ev), (2, .int dy)]) hx hb dX12_leastFrom_5 hl (by decide) rfl (fun ls hl => ?_)
  have HL7 : ∀ (n7 : Nat) (v7_4 : Int32) (v7_3 : Int32) (H : Heap) (locs : List Loc) (ls : Array Slot), (5 - v7_4.toInt).toNat < n7 → (0 ≤ v7_4.toInt ∧ v7_4.toInt ≤ 5) → (0 ≤ v7_3.toInt ∧ v7_3.toInt ≤ 1000000000) → lfP g ev.toInt dy.toInt (v7_3.toInt) (v7_4.toInt) → v7_4.toInt ≤ gA g 198 4 → va_P D vwCl (wL ad g 218) H → va_S (wA ad 218) s.heap H locs → lv_has ls 5 [(4, .int v7_4), (3, .int v7_3), (0, .ref (ad 197)), (1, .int ev), (2, .int dy)] → W p l e ({ frames := 1, cells := 0, slots := 0, locals := 22 } : Room) s m ([.ref (ad 197), .int ev, .int dy] : List Value).toArray below meth c H locs 0 0 (MQ below (qI D ad 218 (fun r g2 => g2 = g ∧ ((0 ≤ r.toInt ∧ r.toInt ≤ 8 * (15 - dy.toInt)) ∧ ∃ k : Int, 0 ≤ k ∧ k < gA g 198 4 ∧ (ev.toInt = -1 ∨ (-1 ≤ k - ev.toInt ∧ k - ev.toInt ≤ 1)) ∧ gA g 212 (5 * dy.toInt + k).toNat = r.toInt))) ([.ref (ad 197), .int ev, .int dy] : List Value).toArray s 0 0 (wA ad 218)) (F0 m 7 ls []) := by
    intro n7
    induction n7 with
    | zero =>
      intro v7_4 v7_3 H locs ls hm7 hv7_0 hv7_1 he7_0 he7_1 hP hS hl
      exact absurd hm7 (Nat.not_lt_zero _)
    | succ n7 ih7 =>
      intro v7_4 v7_3 H locs ls hm7 hv7_0 hv7_1 he7_0 he7_1 hP hS hl
      refine lv_iload hx hb dX12_leastFrom_7 (lv_at hl 0 rfl) ?_
      refine lv_aload_n hx hb dX12_leastFrom_9 rfl (lv_at hl 2 rfl) ?_
      obtain ⟨fsc_1, hgc_1, hOc_1⟩ := hW.obj (i := 197) (by decide) (sh_197 ad K)
      have hk_2 := hOc_1.ref 1 rfl
      refine q_get X iX12_leastFrom_12 hP (by decide) hgc_1 rfl 1 (by decide) (List.mem_of_getElem? (i := 2) rfl) (v := .ref (ad 198)) hk_2 dX12_leastFrom_10 ?_
      refine lv_iconst (v := 4) hx hb dX12_leastFrom_13 (by decide) ?_
      obtain ⟨fc_3, hgc_3, hFc_3⟩ := hW.arr (i := 198) (by decide) (sh_198 ad K)
      refine q_iald X hP (by decide) hgc_3 (by unfold vp_in; decide) dX12_leastFrom_14 ?_
      refine lv_topi (fun z_4 ez_4 => ?_)
      have hqz_4 : wq (4) z_4.toInt := ez_4 ▸ hFc_3 _
      have hz_4 : 0 ≤ z_4.toInt ∧ z_4.toInt ≤ 5 := by unfold wq at hqz_4; omega
      clear hqz_4
      have hgaz_4 : gA g 198 ((4 : Int32).toNatClampNeg) = z_4.toInt := by rw [ez_4]; exact gA_of hgc_3 _
      rw [(by decide : (4 : Int32).toNatClampNeg = 4)] at hgaz_4
      refine lv_icmp_ge (tgt := 52) hx hb dX12_leastFrom_15 (by decide) (fun hc_5 => ?_) (fun hc_5 => ?_)
      · have hhc_5 := n_le (rfl : z_4.toInt = z_4.toInt) (rfl : v7_4.toInt = v7_4.toInt) hc_5
        refine lv_iload_n hx hb dX12_leastFrom_52 rfl (lv_at hl 1 rfl) ?_
        exact q_iret X hP hS ⟨rfl, (he7_0.done hp2 (by omega) (by omega))⟩ dX12_leastFrom_53
      · have hhc_5 := n_nle (rfl : z_4.toInt = z_4.toInt) (rfl : v7_4.toInt = v7_4.toInt) hc_5
        refine lv_iload_n hx hb dX12_leastFrom_18 rfl (lv_at hl 3 rfl) ?_
        refine lv_iconst (v := (-1)) hx hb dX12_leastFrom_19 (by decide) ?_
        have HJ46 : ∀ (v46_3 : Int32) (H : Heap) (locs : List Loc) (ls : Array Slot), (0 ≤ v46_3.toInt ∧ v46_3.toInt ≤ 1000000000) → lfP g ev.toInt dy.toInt (v46_3.toInt) (v7_4.toInt + 1) → va_P D vwCl (wL ad g 218) H → va_S (wA ad 218) s.heap H locs → lv_has ls 5 [(4, .int v7_4), (3, .int v46_3), (0, .ref (ad 197)), (1, .int ev), (2, .int dy)] → W p l e ({ frames := 1, cells := 0, slots := 0, locals := 22 } : Room) s m ([.ref (ad 197), .int ev, .int dy] : List Value).toArray below meth c H locs 0 0 (MQ below (qI D ad 218 (fun r g2 => g2 = g ∧ ((0 ≤ r.toInt ∧ r.toInt ≤ 8 * (15 - dy.toInt)) ∧ ∃ k : Int, 0 ≤ k ∧ k < gA g 198 4 ∧ (ev.toInt = -1 ∨ (-1 ≤ k - ev.toInt ∧ k - ev.toInt ≤ 1)) ∧ gA g 212 (5 * dy.toInt + k).toNat = r.toInt))) ([.ref (ad 197), .int ev, .int dy] : List Value).toArray s 0 0 (wA ad 218)) (F0 m 46 ls []) := by
          intro v46_3 H locs ls hv46_0 he46_0 hP hS hl
          obtain ⟨x_6, ex_6⟩ : ∃ y : Int32, y = v7_4 + 1 := ⟨_, rfl⟩
          have hx_6 : x_6.toInt = v7_4.toInt + 1 := n_add rfl (by decide : (1 : Int32).toInt = 1) ex_6 (by omega) (by omega)
          refine lv_iinc (v := x_6) (lv' := [(4, .int x_6), (3, .int v46_3), (0, .ref (ad 197)), (1, .int ev), (2, .int dy)]) hx hb dX12_leastFrom_46 hl (k := 0) rfl (by rw [ex_6]; rfl) (by decide) rfl (fun ls hl => ?_)
          refine lv_goto (tgt := 7) hx hb dX12_leastFrom_49 (by decide) ?_
          exact ih7 x_6 v46_3 _ _ ls (by omega) (by omega) (by omega) (by rw [hx_6]; exact he46_0) (by omega) hP hS (lv_sub hl [0, 1, 2, 3, 4] rfl)
        have HJ34 : ∀ (H : Heap) (locs : List Loc) (ls : Array Slot), (ev.toInt = -1 ∨ (-1 ≤ v7_4.toInt - ev.toInt ∧ v7_4.toInt - ev.toInt ≤ 1)) → va_P D vwCl (wL ad g 218) H → va_S (wA ad 218) s.heap H locs → lv_has ls 5 [(4, .int v7_4), (3, .int v7_3), (0, .ref (ad 197)), (1, .int ev), (2, .int dy)] → W p l e ({ frames := 1, cells := 0, slots := 0, locals := 22 } : Room) s m ([.ref (ad 197), .int ev, .int dy] : List Value).toArray below meth c H locs 0 0 (MQ below (qI D ad 218 (fun r g2 => g2 = g ∧ ((0 ≤ r.toInt ∧ r.toInt ≤ 8 * (15 - dy.toInt)) ∧ ∃ k : Int, 0 ≤ k ∧ k < gA g 198 4 ∧ (ev.toInt = -1 ∨ (-1 ≤ k - ev.toInt ∧ k - ev.toInt ≤ 1)) ∧ gA g 212 (5 * dy.toInt + k).toNat = r.toInt))) ([.ref (ad 197), .int ev, .int dy] : List Value).toArray s 0 0 (wA ad 218)) (F0 m 34 ls []) := by
          intro H locs ls he34_0 hP hS hl
          refine lv_iload_n hx hb dX12_leastFrom_34 rfl (lv_at hl 1 rfl) ?_
          refine lv_aload_n hx hb dX12_leastFrom_35 rfl (lv_at hl 2 rfl) ?_
          refine lv_iload hx hb dX12_leastFrom_36 (lv_at hl 0 rfl) ?_
          refine lv_iload_n hx hb dX12_leastFrom_38 rfl (lv_at hl 4 rfl) ?_
          refine s_calli (q := (RX12, TX12, 40)) (As := [.int v7_4, .int dy]) (rest := [.int v7_3]) X Z (s_X12_struckFrom l D cs ad kS K hKO hj g hW v7_4 dy (by omega) (by omega)) (cwV 2 X.2.2.2.2.1 gg_X12_leastFrom_X12_struckFrom rfl rfl rfl (by decide +kernel) ⟨Nat.le_of_ble_eq_true rfl, Nat.le_of_ble_eq_true rfl⟩) (by decide) hgc_1 rfl hP hA hS.2.1 hS rfl hl.1 rfl (Nat.le_of_ble_eq_true rfl) dX12_leastFrom_39 ⟨Nat.le_of_ble_eq_true rfl, Nat.le_of_ble_eq_true rfl⟩ (fun r_9 g_8 H locs hw_7 hP hS => ?_)
          obtain ⟨hw_7g, hw_7⟩ := hw_7
          rw [hw_7g] at hP
          refine va_mmin hx hb (X.2.2.2.1.trans hl.1.symm) X.2.2.2.2.2.1 (X.2.2.2.2.1 _ (List.mem_of_getElem? (i := 11) rfl)) (X.2.2.2.2.1 _ (List.mem_of_getElem? (i := 12) rfl)) (X.2.2.2.2.1 _ (List.mem_of_getElem? (i := 5) rfl)) (X.2.2.2.2.1 _ (List.mem_of_getElem? (i := 13) rfl)) (Nat.le_of_ble_eq_true rfl) (Nat.le_of_ble_eq_true rfl) (Nat.le_of_ble_eq_true rfl) (Nat.le_of_ble_eq_true rfl) dX12_leastFrom_42 ?_
          refine lv_topi (fun z_10 ez_10 => ?_)
          have hz_10 := n_min (rfl : v7_3.toInt = v7_3.toInt) (rfl : r_9.toInt = r_9.toInt) ez_10
          refine lv_istore_n (lv' := [(3, .int z_10), (4, .int v7_4), (0, .ref (ad 197)), (1, .int ev), (2, .int dy)]) hx hb dX12_leastFrom_45 rfl hl (by decide) rfl (fun ls hl => ?_)
          exact HJ46 z_10 _ _ ls (by omega) (he7_0.take (by omega) (by omega) (by omega) hw_7.1 hw_7.2 hz_10 rfl) hP hS (lv_sub hl [1, 0, 2, 3, 4] rfl)
        refine lv_icmp_eq (tgt := 34) hx hb dX12_leastFrom_20 (by decide) (fun hc_11 => ?_) (fun hc_11 => ?_)
        · have hhc_11 := n_eq (rfl : ev.toInt = ev.toInt) (by decide : (-1 : Int32).toInt = -1) hc_11
          exact HJ34 _ _ ls (by omega) hP hS (lv_sub hl [0, 1, 2, 3, 4] rfl)
        · have hhc_11 := n_ne (rfl : ev.toInt = ev.toInt) (by decide : (-1 : Int32).toInt = -1) hc_11
          refine lv_iload hx hb dX12_leastFrom_23 (lv_at hl 0 rfl) ?_
          refine lv_iload_n hx hb dX12_leastFrom_25 rfl (lv_at hl 3 rfl) ?_
          refine lv_isub hx hb dX12_leastFrom_26 ?_
          refine lv_topi (fun z_12 ez_12 => ?_)
          have hz_12 : z_12.toInt = v7_4.toInt - ev.toInt := n_sub (rfl : v7_4.toInt = v7_4.toInt) (rfl : ev.toInt = ev.toInt) ez_12 (by omega) (by omega)
          refine va_mabs hx hb (X.2.2.2.1.trans hl.1.symm) X.2.2.2.2.2.1 (X.2.2.2.2.1 _ (List.mem_of_getElem? (i := 3) rfl)) (X.2.2.2.2.1 _ (List.mem_of_getElem? (i := 4) rfl)) (X.2.2.2.2.1 _ (List.mem_of_getElem? (i := 5) rfl)) (X.2.2.2.2.1 _ (List.mem_of_getElem? (i := 6) rfl)) (Nat.le_of_ble_eq_true rfl) (Nat.le_of_ble_eq_true rfl) (Nat.le_of_ble_eq_true rfl) (Nat.le_of_ble_eq_true rfl) dX12_leastFrom_27 ?_
          refine lv_topi (fun z_13 ez_13 => ?_)
          have hz_13 := n_abs (rfl : z_12.toInt = z_12.toInt) ez_13 (by omega)
          refine lv_iconst (v := 1) hx hb dX12_leastFrom_30 (by decide) ?_
          refine lv_icmp_gt (tgt := 46) hx hb dX12_leastFrom_31 (by decide) (fun hc_14 => ?_) (fun hc_14 => ?_)
          · have hhc_14 := n_lt (by decide : (1 : Int32).toInt = 1) (rfl : z_13.toInt = z_13.toInt) hc_14
            exact HJ46 v7_3 _ _ ls (by omega) (he7_0.skip (by omega) (by omega) rfl) hP hS (lv_sub hl [0, 1, 2, 3, 4] rfl)
          · have hhc_14 := n_nlt (by decide : (1 : Int32).toInt = 1) (rfl : z_13.toInt = z_13.toInt) hc_14
            exact HJ34 _ _ ls (by omega) hP hS (lv_sub hl [0, 1, 2, 3, 4] rfl)
  have hiv7_4 : (0 : Int32).toInt = 0 := by decide
  have hiv7_3 : (1000000000 : Int32).toInt = 1000000000 := by decide
  exact HL7 _ 0 1000000000 _ _ ls (Nat.lt_succ_self _) (by omega) (by omega) (lfP.zero (by omega) (by omega) (by omega)) (by omega) hP hS (lv_sub hl [0, 1, 2, 3, 4] rfl)

theorem dX12_waysFrom_0 : decode cX12_waysFrom 0 = .ok (.iconst 0, 1) := by decide +kernel
theorem dX12_waysFrom_1 : decode cX12_waysFrom 1 = .ok (.istore_n 3, 1) := by decide +kernel
theorem dX12_waysFrom_2 : decode cX12_waysFrom 2 = .ok (.iconst 0, 1) := by decide +kernel
theorem dX12_waysFrom_3 : decode cX12_waysFrom 3 = .ok (.istore 4, 2) := by decide +kernel
theorem dX12_waysFrom_5 : decode cX12_waysFrom 5 = .ok (.iload 4, 2) := by decide +kernel
theorem dX12_waysFrom_7 : decode cX12_waysFrom 7 = .ok (.aload_n 0, 1) := by decide +kernel
theorem dX12_waysFrom_8 : decode cX12_waysFrom 8 = .ok (.getfield 9, 3) := by decide +kernel
theorem dX12_waysFrom_11 : decode cX12_waysFrom 11 = .ok (.iconst 4, 1) := by decide +kernel
theorem dX12_waysFrom_12 : decode cX12_waysFrom 12 = .ok (.iaload, 1) := by decide +kernel
theorem dX12_waysFrom_13 : decode cX12_waysFrom 13 = .ok (.if_icmp .ge 55, 3) := by decide +kernel
theorem dX12_waysFrom_16 : decode cX12_waysFrom 16 = .ok (.iload_n 1, 1) := by decide +kernel
theorem dX12_waysFrom_17 : decode cX12_waysFrom 17 = .ok (.iconst (-1), 1) := by decide +kernel
theorem dX12_waysFrom_18 : decode cX12_waysFrom 18 = .ok (.if_icmp .eq 14, 3) := by decide +kernel
theorem dX12_waysFrom_21 : decode cX12_waysFrom 21 = .ok (.iload 4, 2) := by decide +kernel
theorem dX12_waysFrom_23 : decode cX12_waysFrom 23 = .ok (.iload_n 1, 1) := by decide +kernel
theorem dX12_waysFrom_24 : decode cX12_waysFrom 24 = .ok (.isub, 1) := by decide +kernel
theorem dX12_waysFrom_25 : decode cX12_waysFrom 25 = .ok (.invokestatic 273, 3) := by decide +kernel
theorem dX12_waysFrom_28 : decode cX12_waysFrom 28 = .ok (.iconst 1, 1) := by decide +kernel
theorem dX12_waysFrom_29 : decode cX12_waysFrom 29 = .ok (.if_icmp .gt 33, 3) := by decide +kernel
theorem dX12_waysFrom_32 : decode cX12_waysFrom 32 = .ok (.aload_n 0, 1) := by decide +kernel
theorem dX12_waysFrom_33 : decode cX12_waysFrom 33 = .ok (.iload 4, 2) := by decide +kernel
theorem dX12_waysFrom_35 : decode cX12_waysFrom 35 = .ok (.iload_n 2, 1) := by decide +kernel
theorem dX12_waysFrom_36 : decode cX12_waysFrom 36 = .ok (.invokevirtual 373, 3) := by decide +kernel
theorem dX12_waysFrom_39 : decode cX12_waysFrom 39 = .ok (.aload_n 0, 1) := by decide +kernel
theorem dX12_waysFrom_40 : decode cX12_waysFrom 40 = .ok (.iload_n 1, 1) := by decide +kernel
theorem dX12_waysFrom_41 : decode cX12_waysFrom 41 = .ok (.iload_n 2, 1) := by decide +kernel
theorem dX12_waysFrom_42 : decode cX12_waysFrom 42 = .ok (.invokevirtual 376, 3) := by decide +kernel
theorem dX12_waysFrom_45 : decode cX12_waysFrom 45 = .ok (.if_icmp .ne 17, 3) := by decide +kernel
theorem dX12_waysFrom_48 : decode cX12_waysFrom 48 = .ok (.iload_n 3, 1) := by decide +kernel
theorem dX12_waysFrom_49 : decode cX12_waysFrom 49 = .ok (.aload_n 0, 1) := by decide +kernel
theorem dX12_waysFrom_50 : decode cX12_waysFrom 50 = .ok (.getfield 62, 3) := by decide +kernel
theorem dX12_waysFrom_53 : decode cX12_waysFrom 53 = .ok (.iconst 5, 1) := by decide +kernel
theorem dX12_waysFrom_54 : decode cX12_waysFrom 54 = .ok (.iload_n 2, 1) := by decide +kernel
theorem dX12_waysFrom_55 : decode cX12_waysFrom 55 = .ok (.imul, 1) := by decide +kernel
theorem dX12_waysFrom_56 : decode cX12_waysFrom 56 = .ok (.iload 4, 2) := by decide +kernel
theorem dX12_waysFrom_58 : decode cX12_waysFrom 58 = .ok (.iadd, 1) := by decide +kernel
theorem dX12_waysFrom_59 : decode cX12_waysFrom 59 = .ok (.iaload, 1) := by decide +kernel
theorem dX12_waysFrom_60 : decode cX12_waysFrom 60 = .ok (.iadd, 1) := by decide +kernel
theorem dX12_waysFrom_61 : decode cX12_waysFrom 61 = .ok (.istore_n 3, 1) := by decide +kernel
theorem dX12_waysFrom_62 : decode cX12_waysFrom 62 = .ok (.iinc 4 1, 3) := by decide +kernel
theorem dX12_waysFrom_65 : decode cX12_waysFrom 65 = .ok (.goto (-60), 3) := by decide +kernel
theorem dX12_waysFrom_68 : decode cX12_waysFrom 68 = .ok (.iload_n 3, 1) := by decide +kernel
theorem dX12_waysFrom_69 : decode cX12_waysFrom 69 = .ok (.ireturn, 1) := by decide +kernel
noncomputable def vX12_waysFrom : List Cond := .code yX12_waysFrom cX12_waysFrom 5 (some .int) :: (([.fieldLink RX12 9 "IcicleClockModel" "world" "[I", .methodLink RX12 273 Lib.Math.abs.name, .static Lib.Math.abs.name, .initialized "java/lang/Math", .code Lib.Math.abs.name Lib.Math.abs.code 1 (some .int), .methodLink RX12 373 yX12_struckFrom, .instanceMethod yX12_struckFrom, .selects RX12 yX12_struckFrom yX12_struckFrom, .initialized RX12, .methodLink RX12 376 yX12_leastFrom, .instanceMethod yX12_leastFrom, .selects RX12 yX12_leastFrom yX12_leastFrom, .fieldLink RX12 62 "IcicleClockModel" "struckWays" "[I"] : List Cond) ++ (wsX120 ++ (vX12_struckFrom ++ vX12_leastFrom)))
theorem iX12_waysFrom_12 : ∀ w ∈ wsX120, w ∈ vX12_waysFrom := fun _ h => List.mem_cons_of_mem _ (List.mem_append_right _ (List.mem_append_left _ h))
theorem gs_X12_waysFrom : Gd vX12_waysFrom := Gd.cons (by decide +kernel) (Gd.app (Gd.r (by decide +kernel)) (Gd.app gwX_12 (Gd.app gs_X12_struckFrom gs_X12_leastFrom)))
theorem gg_X12_waysFrom_X12_struckFrom : GoodIn vX12_waysFrom (wsV RX12 373 RX12 yX12_struckFrom vX12_struckFrom) := goodIn_app (goodIn_r _ [6, 7, 8, 9] (by decide +kernel) (by decide +kernel)) (fun w h => ⟨List.mem_cons_of_mem _ (List.mem_append_right _ (List.mem_append_right _ (List.mem_append_left _ h))), gs_X12_struckFrom w h⟩)
theorem gg_X12_waysFrom_X12_leastFrom : GoodIn vX12_waysFrom (wsV RX12 376 RX12 yX12_leastFrom vX12_leastFrom) := goodIn_app (goodIn_r _ [10, 11, 12, 9] (by decide +kernel) (by decide +kernel)) (fun w h => ⟨List.mem_cons_of_mem _ (List.mem_append_right _ (List.mem_append_right _ (List.mem_append_right _ (h)))), gs_X12_leastFrom w h⟩)
set_option maxHeartbeats 4000000 in
set_option maxRecDepth 100000 in
theorem s_X12_waysFrom (l : Launch) (D : va_G) (cs : Nat → ClassId) (ad : Nat → Nat) (kS : kSt) (K : sK) (hKO : KO K) (hj : wJ ad 218) (g : Nat → va_E) (hW : WF (shp ad K) ad cs g) (ev : Int32) (dy : Int32) (hp0 : (-1) ≤ ev.toInt ∧ ev.toInt ≤ 4) (hp1 : 0 ≤ dy.toInt ∧ dy.toInt ≤ 14) (hp2 : ((0 ≤ ev.toInt ∧ ev.toInt < gA g 198 4) ∨ (ev.toInt = -1 ∧ 0 < gA g 198 4))) : sI l yX12_waysFrom vX12_waysFrom { frames := 2, cells := 0, slots := 0, locals := 46 } D cs ad kS [.ref (ad 197), .int ev, .int dy] g (fun r g2 => g2 = g) := by
  refine Met.startS (cc := cX12_waysFrom) (maxL := 5) (ret := (some .int)) RX12 rfl (by decide) rfl (Nat.le_of_ble_eq_true rfl) ?_
  intro p e s m below meth c ls X Z hP hl
  have hx := X.1
  have hb := X.2.1
  have hS : va_S (wA ad 218) s.heap s.heap [] := va_S.rf
  have hA : ∀ i, i < 218 → wA ad 218 (ad i) := fun i h => ⟨i, h, rfl⟩
  have hl : lv_has ls 5 [(0, .ref (ad 197)), (1, .int ev), (2, .int dy)] := hl
  refine lv_iconst (v := 0) hx hb dX12_waysFrom_0 (by decide) ?_
  refine lv_istore_n (lv' := [(3, .int 0), (0, .ref (ad 197)), (1, .int ev), (2, .int dy)]) hx hb dX12_waysFrom_1 rfl hl (by decide) rfl (fun ls hl => ?_)
  refine lv_iconst (v := 0) hx hb dX12_waysFrom_2 (by decide) ?_
  refine lv_istore (lv' := [(4, .int 0), (3, .int 0), (0, .ref (ad 197)), (1, .int ev), (2, .int dy)]) hx hb dX12_waysFrom_3 hl (by decide) rfl (fun ls hl => ?_)
  have HL5 : ∀ (n5 : Nat) (v5_4 : Int32) (v5_3 : Int32) (H : Heap) (locs : List Loc) (ls : Array Slot), (5 - v5_4.toInt).toNat < n5 → (0 ≤ v5_4.toInt ∧ v5_4.toInt ≤ 5) → va_P D vwCl (wL ad g 218) H → va_S (wA ad 218) s.heap H locs → lv_has ls 5 [(4, .int v5_4), (3, .int v5_3), (0, .ref (ad 197)), (1, .int ev), (2, .int dy)] → W p l e ({ frames := 2, cells := 0, slots := 0, locals := 46 } : Room) s m ([.ref (ad 197), .int ev, .int dy] : List Value).toArray below meth c H locs 0 0 (MQ below (qI D ad 218 (fun r g2 => g2 = g)) ([.ref (ad 197), .int ev, .int dy] : List Value).toArray s 0 0 (wA ad 218)) (F0 m 5 ls []) := by
    intro n5
    induction n5 with
    | zero =>
      intro v5_4 v5_3 H locs ls hm5 hv5_0 hP hS hl
      exact absurd hm5 (Nat.not_lt_zero _)
    | succ n5 ih5 =>
      intro v5_4 v5_3 H locs ls hm5 hv5_0 hP hS hl
      refine lv_iload hx hb dX12_waysFrom_5 (lv_at hl 0 rfl) ?_
      refine lv_aload_n hx hb dX12_waysFrom_7 rfl (lv_at hl 2 rfl) ?_
      obtain ⟨fsc_1, hgc_1, hOc_1⟩ := hW.obj (i := 197) (by decide) (sh_197 ad K)
      have hk_2 := hOc_1.ref 1 rfl
      refine q_get X iX12_waysFrom_12 hP (by decide) hgc_1 rfl 1 (by decide) (List.mem_of_getElem? (i := 1) rfl) (v := .ref (ad 198)) hk_2 dX12_waysFrom_8 ?_
      refine lv_iconst (v := 4) hx hb dX12_waysFrom_11 (by decide) ?_
      obtain ⟨fc_3, hgc_3, hFc_3⟩ := hW.arr (i := 198) (by decide) (sh_198 ad K)
      refine q_iald X hP (by decide) hgc_3 (by unfold vp_in; decide) dX12_waysFrom_12 ?_
      refine lv_topi (fun z_4 ez_4 => ?_)
      have hqz_4 : wq (4) z_4.toInt := ez_4 ▸ hFc_3 _
      have hz_4 : 0 ≤ z_4.toInt ∧ z_4.toInt ≤ 5 := by unfold wq at hqz_4; omega
      clear hqz_4
      refine lv_icmp_ge (tgt := 68) hx hb dX12_waysFrom_13 (by decide) (fun hc_5 => ?_) (fun hc_5 => ?_)
      · have hhc_5 := n_le (rfl : z_4.toInt = z_4.toInt) (rfl : v5_4.toInt = v5_4.toInt) hc_5
        refine lv_iload_n hx hb dX12_waysFrom_68 rfl (lv_at hl 1 rfl) ?_
        exact q_iret X hP hS rfl dX12_waysFrom_69
      · have hhc_5 := n_nle (rfl : z_4.toInt = z_4.toInt) (rfl : v5_4.toInt = v5_4.toInt) hc_5
        refine lv_iload_n hx hb dX12_waysFrom_16 rfl (lv_at hl 3 rfl) ?_
        refine lv_iconst (v := (-1)) hx hb dX12_waysFrom_17 (by decide) ?_
        have HJ62 : ∀ (v62_3 : Int32) (H : Heap) (locs : List Loc) (ls : Array Slot), va_P D vwCl (wL ad g 218) H → va_S (wA ad 218) s.heap H locs → lv_has ls 5 [(4, .int v5_4), (3, .int v62_3), (0, .ref (ad 197)), (1, .int ev), (2, .int dy)] → W p l e ({ frames := 2, cells := 0, slots := 0, locals := 46 } : Room) s m ([.ref (ad 197), .int ev, .int dy] : List Value).toArray below meth c H locs 0 0 (MQ below (qI D ad 218 (fun r g2 => g2 = g)) ([.ref (ad 197), .int ev, .int dy] : List Value).toArray s 0 0 (wA ad 218)) (F0 m 62 ls []) := by
          intro v62_3 H locs ls hP hS hl
          obtain ⟨x_6, ex_6⟩ : ∃ y : Int32, y = v5_4 + 1 := ⟨_, rfl⟩
          have hx_6 : x_6.toInt = v5_4.toInt + 1 := n_add rfl (by decide : (1 : Int32).toInt = 1) ex_6 (by omega) (by omega)
          refine lv_iinc (v := x_6) (lv' := [(4, .int x_6), (3, .int v62_3), (0, .ref (ad 197)), (1, .int ev), (2, .int dy)]) hx hb dX12_waysFrom_62 hl (k := 0) rfl (by rw [ex_6]; rfl) (by decide) rfl (fun ls hl => ?_)
          refine lv_goto (tgt := 5) hx hb dX12_waysFrom_65 (by decide) ?_
          exact ih5 x_6 v62_3 _ _ ls (by omega) (by omega) hP hS (lv_sub hl [0, 1, 2, 3, 4] rfl)
        have HJ32 : ∀ (H : Heap) (locs : List Loc) (ls : Array Slot), va_P D vwCl (wL ad g 218) H → va_S (wA ad 218) s.heap H locs → lv_has ls 5 [(4, .int v5_4), (3, .int v5_3), (0, .ref (ad 197)), (1, .int ev), (2, .int dy)] → W p l e ({ frames := 2, cells := 0, slots := 0, locals := 46 } : Room) s m ([.ref (ad 197), .int ev, .int dy] : List Value).toArray below meth c H locs 0 0 (MQ below (qI D ad 218 (fun r g2 => g2 = g)) ([.ref (ad 197), .int ev, .int dy] : List Value).toArray s 0 0 (wA ad 218)) (F0 m 32 ls []) := by
          intro H locs ls hP hS hl
          refine lv_aload_n hx hb dX12_waysFrom_32 rfl (lv_at hl 2 rfl) ?_
          refine lv_iload hx hb dX12_waysFrom_33 (lv_at hl 0 rfl) ?_
          refine lv_iload_n hx hb dX12_waysFrom_35 rfl (lv_at hl 4 rfl) ?_
          refine s_calli (q := (RX12, TX12, 40)) (As := [.int v5_4, .int dy]) (rest := []) X Z (s_X12_struckFrom l D cs ad kS K hKO hj g hW v5_4 dy (by omega) (by omega)) (cwV 2 X.2.2.2.2.1 gg_X12_waysFrom_X12_struckFrom rfl rfl rfl (by decide +kernel) ⟨Nat.le_of_ble_eq_true rfl, Nat.le_of_ble_eq_true rfl⟩) (by decide) hgc_1 rfl hP hA hS.2.1 hS rfl hl.1 rfl (Nat.le_of_ble_eq_true rfl) dX12_waysFrom_36 ⟨Nat.le_of_ble_eq_true rfl, Nat.le_of_ble_eq_true rfl⟩ (fun r_9 g_8 H locs hw_7 hP hS => ?_)
          obtain ⟨hw_7g, hw_7⟩ := hw_7
          rw [hw_7g] at hP
          refine lv_aload_n hx hb dX12_waysFrom_39 rfl (lv_at hl 2 rfl) ?_
          refine lv_iload_n hx hb dX12_waysFrom_40 rfl (lv_at hl 3 rfl) ?_
          refine lv_iload_n hx hb dX12_waysFrom_41 rfl (lv_at hl 4 rfl) ?_
          refine s_calli (q := (RX12, TX12, 40)) (As := [.int ev, .int dy]) (rest := [.int r_9]) X Z (s_X12_leastFrom l D cs ad kS K hKO hj g hW ev dy (by omega) (by omega) hp2) (cwV 2 X.2.2.2.2.1 gg_X12_waysFrom_X12_leastFrom rfl rfl rfl (by decide +kernel) ⟨Nat.le_of_ble_eq_true rfl, Nat.le_of_ble_eq_true rfl⟩) (by decide) hgc_1 rfl hP hA hS.2.1 hS rfl hl.1 rfl (Nat.le_of_ble_eq_true rfl) dX12_waysFrom_42 ⟨Nat.le_of_ble_eq_true rfl, Nat.le_of_ble_eq_true rfl⟩ (fun r_12 g_11 H locs hw_10 hP hS => ?_)
          obtain ⟨hw_10g, hw_10⟩ := hw_10
          rw [hw_10g] at hP
          refine lv_icmp_ne (tgt := 62) hx hb dX12_waysFrom_45 (by decide) (fun hc_13 => ?_) (fun hc_13 => ?_)
          · have hhc_13 := n_ne (rfl : r_9.toInt = r_9.toInt) (rfl : r_12.toInt = r_12.toInt) hc_13
            exact HJ62 v5_3 _ _ ls hP hS (lv_sub hl [0, 1, 2, 3, 4] rfl)
          · have hhc_13 := n_eq (rfl : r_9.toInt = r_9.toInt) (rfl : r_12.toInt = r_12.toInt) hc_13
            refine lv_iload_n hx hb dX12_waysFrom_48 rfl (lv_at hl 1 rfl) ?_
            refine lv_aload_n hx hb dX12_waysFrom_49 rfl (lv_at hl 2 rfl) ?_
            have hk_14 := hOc_1.ref 33 rfl
            refine q_get X iX12_waysFrom_12 hP (by decide) hgc_1 rfl 33 (by decide) (List.mem_of_getElem? (i := 13) rfl) (v := .ref (ad 213)) hk_14 dX12_waysFrom_50 ?_
            refine lv_iconst (v := 5) hx hb dX12_waysFrom_53 (by decide) ?_
            refine lv_iload_n hx hb dX12_waysFrom_54 rfl (lv_at hl 4 rfl) ?_
            refine lv_imul hx hb dX12_waysFrom_55 ?_
            refine lv_topi (fun z_15 ez_15 => ?_)
            have hz_15 : z_15.toInt = 5 * dy.toInt := n_mul (by decide : (5 : Int32).toInt = 5) (rfl : dy.toInt = dy.toInt) ez_15 (by omega) (by omega)
            refine lv_iload hx hb dX12_waysFrom_56 (lv_at hl 0 rfl) ?_
            refine lv_iadd hx hb dX12_waysFrom_58 ?_
            refine lv_topi (fun z_16 ez_16 => ?_)
            have hz_16 : z_16.toInt = z_15.toInt + v5_4.toInt := n_add (rfl : z_15.toInt = z_15.toInt) (rfl : v5_4.toInt = v5_4.toInt) ez_16 (by omega) (by omega)
            obtain ⟨fc_17, hgc_17, hFc_17⟩ := hW.arr (i := 213) (by decide) (sh_213 ad K)
            refine q_iald X hP (by decide) hgc_17 (n_in (rfl : z_16.toInt = z_16.toInt) (by omega) (by omega)) dX12_waysFrom_59 ?_
            refine lv_topi (fun z_18 ez_18 => ?_)
            refine lv_iadd hx hb dX12_waysFrom_60 ?_
            refine lv_topi (fun z_19 ez_19 => ?_)
            refine lv_istore_n (lv' := [(3, .int z_19), (4, .int v5_4), (0, .ref (ad 197)), (1, .int ev), (2, .int dy)]) hx hb dX12_waysFrom_61 rfl hl (by decide) rfl (fun ls hl => ?_)
            exact HJ62 z_19 _ _ ls hP hS (lv_sub hl [1, 0, 2, 3, 4] rfl)
        refine lv_icmp_eq (tgt := 32) hx hb dX12_waysFrom_18 (by decide) (fun hc_20 => ?_) (fun hc_20 => ?_)
        · have hhc_20 := n_eq (rfl : ev.toInt = ev.toInt) (by decide : (-1 : Int32).toInt = -1) hc_20
          exact HJ32 _ _ ls hP hS (lv_sub hl [0, 1, 2, 3, 4] rfl)
        · have hhc_20 := n_ne (rfl : ev.toInt = ev.toInt) (by decide : (-1 : Int32).toInt = -1) hc_20
          refine lv_iload hx hb dX12_waysFrom_21 (lv_at hl 0 rfl) ?_
          refine lv_iload_n hx hb dX12_waysFrom_23 rfl (lv_at hl 3 rfl) ?_
          refine lv_isub hx hb dX12_waysFrom_24 ?_
          refine lv_topi (fun z_21 ez_21 => ?_)
          have hz_21 : z_21.toInt = v5_4.toInt - ev.toInt := n_sub (rfl : v5_4.toInt = v5_4.toInt) (rfl : ev.toInt = ev.toInt) ez_21 (by omega) (by omega)
          refine va_mabs hx hb (X.2.2.2.1.trans hl.1.symm) X.2.2.2.2.2.1 (X.2.2.2.2.1 _ (List.mem_of_getElem? (i := 2) rfl)) (X.2.2.2.2.1 _ (List.mem_of_getElem? (i := 3) rfl)) (X.2.2.2.2.1 _ (List.mem_of_getElem? (i := 4) rfl)) (X.2.2.2.2.1 _ (List.mem_of_getElem? (i := 5) rfl)) (Nat.le_of_ble_eq_true rfl) (Nat.le_of_ble_eq_true rfl) (Nat.le_of_ble_eq_true rfl) (Nat.le_of_ble_eq_true rfl) dX12_waysFrom_25 ?_
          refine lv_topi (fun z_22 ez_22 => ?_)
          have hz_22 := n_abs (rfl : z_21.toInt = z_21.toInt) ez_22 (by omega)
          refine lv_iconst (v := 1) hx hb dX12_waysFrom_28 (by decide) ?_
          refine lv_icmp_gt (tgt := 62) hx hb dX12_waysFrom_29 (by decide) (fun hc_23 => ?_) (fun hc_23 => ?_)
          · have hhc_23 := n_lt (by decide : (1 : Int32).toInt = 1) (rfl : z_22.toInt = z_22.toInt) hc_23
            exact HJ62 v5_3 _ _ ls hP hS (lv_sub hl [0, 1, 2, 3, 4] rfl)
          · have hhc_23 := n_nlt (by decide : (1 : Int32).toInt = 1) (rfl : z_22.toInt = z_22.toInt) hc_23
            exact HJ32 _ _ ls hP hS (lv_sub hl [0, 1, 2, 3, 4] rfl)
  have hiv5_4 : (0 : Int32).toInt = 0 := by decide
  have hiv5_3 : (0 : Int32).toInt = 0 := by decide
  exact HL5 _ 0 0 _ _ ls (Nat.lt_succ_self _) (by omega) hP hS (lv_sub hl [0, 1, 2, 3, 4] rfl)

theorem dX12_layWalks_0 : decode cX12_layWalks 0 = .ok (.aload_n 0, 1) := by decide +kernel
theorem dX12_layWalks_1 : decode cX12_layWalks 1 = .ok (.getfield 9, 3) := by decide +kernel
theorem dX12_layWalks_4 : decode cX12_layWalks 4 = .ok (.iconst 4, 1) := by decide +kernel
theorem dX12_layWalks_5 : decode cX12_layWalks 5 = .ok (.iaload, 1) := by decide +kernel
theorem dX12_layWalks_6 : decode cX12_layWalks 6 = .ok (.ifCond .eq 12, 3) := by decide +kernel
theorem dX12_layWalks_9 : decode cX12_layWalks 9 = .ok (.aload_n 0, 1) := by decide +kernel
theorem dX12_layWalks_10 : decode cX12_layWalks 10 = .ok (.getfield 9, 3) := by decide +kernel
theorem dX12_layWalks_13 : decode cX12_layWalks 13 = .ok (.iconst 3, 1) := by decide +kernel
theorem dX12_layWalks_14 : decode cX12_layWalks 14 = .ok (.iaload, 1) := by decide +kernel
theorem dX12_layWalks_15 : decode cX12_layWalks 15 = .ok (.ifCond .ne 5, 3) := by decide +kernel
theorem dX12_layWalks_20 : decode cX12_layWalks 20 = .ok (.aload_n 0, 1) := by decide +kernel
theorem dX12_layWalks_21 : decode cX12_layWalks 21 = .ok (.invokevirtual 246, 3) := by decide +kernel
theorem dX12_layWalks_24 : decode cX12_layWalks 24 = .ok (.aload_n 0, 1) := by decide +kernel
theorem dX12_layWalks_25 : decode cX12_layWalks 25 = .ok (.getfield 231, 3) := by decide +kernel
theorem dX12_layWalks_28 : decode cX12_layWalks 28 = .ok (.iconst 1, 1) := by decide +kernel
theorem dX12_layWalks_29 : decode cX12_layWalks 29 = .ok (.isub, 1) := by decide +kernel
theorem dX12_layWalks_30 : decode cX12_layWalks 30 = .ok (.istore_n 1, 1) := by decide +kernel
theorem dX12_layWalks_31 : decode cX12_layWalks 31 = .ok (.iload_n 1, 1) := by decide +kernel
theorem dX12_layWalks_32 : decode cX12_layWalks 32 = .ok (.ifCond .lt 102, 3) := by decide +kernel
theorem dX12_layWalks_35 : decode cX12_layWalks 35 = .ok (.iconst 0, 1) := by decide +kernel
theorem dX12_layWalks_36 : decode cX12_layWalks 36 = .ok (.istore_n 2, 1) := by decide +kernel
theorem dX12_layWalks_37 : decode cX12_layWalks 37 = .ok (.iload_n 2, 1) := by decide +kernel
theorem dX12_layWalks_38 : decode cX12_layWalks 38 = .ok (.aload_n 0, 1) := by decide +kernel
theorem dX12_layWalks_39 : decode cX12_layWalks 39 = .ok (.getfield 9, 3) := by decide +kernel
theorem dX12_layWalks_42 : decode cX12_layWalks 42 = .ok (.iconst 4, 1) := by decide +kernel
theorem dX12_layWalks_43 : decode cX12_layWalks 43 = .ok (.iaload, 1) := by decide +kernel
theorem dX12_layWalks_44 : decode cX12_layWalks 44 = .ok (.if_icmp .ge 84, 3) := by decide +kernel
theorem dX12_layWalks_47 : decode cX12_layWalks 47 = .ok (.iload_n 1, 1) := by decide +kernel
theorem dX12_layWalks_48 : decode cX12_layWalks 48 = .ok (.aload_n 0, 1) := by decide +kernel
theorem dX12_layWalks_49 : decode cX12_layWalks 49 = .ok (.getfield 231, 3) := by decide +kernel
theorem dX12_layWalks_52 : decode cX12_layWalks 52 = .ok (.iconst 1, 1) := by decide +kernel
theorem dX12_layWalks_53 : decode cX12_layWalks 53 = .ok (.isub, 1) := by decide +kernel
theorem dX12_layWalks_54 : decode cX12_layWalks 54 = .ok (.if_icmp .ne 7, 3) := by decide +kernel
theorem dX12_layWalks_57 : decode cX12_layWalks 57 = .ok (.iconst 1, 1) := by decide +kernel
theorem dX12_layWalks_58 : decode cX12_layWalks 58 = .ok (.goto 4, 3) := by decide +kernel
theorem dX12_layWalks_61 : decode cX12_layWalks 61 = .ok (.iconst 0, 1) := by decide +kernel
theorem dX12_layWalks_62 : decode cX12_layWalks 62 = .ok (.istore_n 3, 1) := by decide +kernel
theorem dX12_layWalks_63 : decode cX12_layWalks 63 = .ok (.aload_n 0, 1) := by decide +kernel
theorem dX12_layWalks_64 : decode cX12_layWalks 64 = .ok (.getfield 59, 3) := by decide +kernel
theorem dX12_layWalks_67 : decode cX12_layWalks 67 = .ok (.iconst 5, 1) := by decide +kernel
theorem dX12_layWalks_68 : decode cX12_layWalks 68 = .ok (.iload_n 1, 1) := by decide +kernel
theorem dX12_layWalks_69 : decode cX12_layWalks 69 = .ok (.imul, 1) := by decide +kernel
theorem dX12_layWalks_70 : decode cX12_layWalks 70 = .ok (.iload_n 2, 1) := by decide +kernel
theorem dX12_layWalks_71 : decode cX12_layWalks 71 = .ok (.iadd, 1) := by decide +kernel
theorem dX12_layWalks_72 : decode cX12_layWalks 72 = .ok (.aload_n 0, 1) := by decide +kernel
theorem dX12_layWalks_73 : decode cX12_layWalks 73 = .ok (.iload_n 2, 1) := by decide +kernel
theorem dX12_layWalks_74 : decode cX12_layWalks 74 = .ok (.iload_n 1, 1) := by decide +kernel
theorem dX12_layWalks_75 : decode cX12_layWalks 75 = .ok (.invokevirtual 294, 3) := by decide +kernel
theorem dX12_layWalks_78 : decode cX12_layWalks 78 = .ok (.iload_n 3, 1) := by decide +kernel
theorem dX12_layWalks_79 : decode cX12_layWalks 79 = .ok (.ifCond .eq 7, 3) := by decide +kernel
theorem dX12_layWalks_82 : decode cX12_layWalks 82 = .ok (.iconst 0, 1) := by decide +kernel
theorem dX12_layWalks_83 : decode cX12_layWalks 83 = .ok (.goto 11, 3) := by decide +kernel
theorem dX12_layWalks_86 : decode cX12_layWalks 86 = .ok (.aload_n 0, 1) := by decide +kernel
theorem dX12_layWalks_87 : decode cX12_layWalks 87 = .ok (.iload_n 2, 1) := by decide +kernel
theorem dX12_layWalks_88 : decode cX12_layWalks 88 = .ok (.iload_n 1, 1) := by decide +kernel
theorem dX12_layWalks_89 : decode cX12_layWalks 89 = .ok (.iconst 1, 1) := by decide +kernel
theorem dX12_layWalks_90 : decode cX12_layWalks 90 = .ok (.iadd, 1) := by decide +kernel
theorem dX12_layWalks_91 : decode cX12_layWalks 91 = .ok (.invokevirtual 376, 3) := by decide +kernel
theorem dX12_layWalks_94 : decode cX12_layWalks 94 = .ok (.iadd, 1) := by decide +kernel
theorem dX12_layWalks_95 : decode cX12_layWalks 95 = .ok (.iastore, 1) := by decide +kernel
theorem dX12_layWalks_96 : decode cX12_layWalks 96 = .ok (.aload_n 0, 1) := by decide +kernel
theorem dX12_layWalks_97 : decode cX12_layWalks 97 = .ok (.getfield 62, 3) := by decide +kernel
theorem dX12_layWalks_100 : decode cX12_layWalks 100 = .ok (.iconst 5, 1) := by decide +kernel
theorem dX12_layWalks_101 : decode cX12_layWalks 101 = .ok (.iload_n 1, 1) := by decide +kernel
theorem dX12_layWalks_102 : decode cX12_layWalks 102 = .ok (.imul, 1) := by decide +kernel
theorem dX12_layWalks_103 : decode cX12_layWalks 103 = .ok (.iload_n 2, 1) := by decide +kernel
theorem dX12_layWalks_104 : decode cX12_layWalks 104 = .ok (.iadd, 1) := by decide +kernel
theorem dX12_layWalks_105 : decode cX12_layWalks 105 = .ok (.iload_n 3, 1) := by decide +kernel
theorem dX12_layWalks_106 : decode cX12_layWalks 106 = .ok (.ifCond .eq 7, 3) := by decide +kernel
theorem dX12_layWalks_109 : decode cX12_layWalks 109 = .ok (.iconst 1, 1) := by decide +kernel
theorem dX12_layWalks_110 : decode cX12_layWalks 110 = .ok (.goto 11, 3) := by decide +kernel
theorem dX12_layWalks_113 : decode cX12_layWalks 113 = .ok (.aload_n 0, 1) := by decide +kernel
theorem dX12_layWalks_114 : decode cX12_layWalks 114 = .ok (.iload_n 2, 1) := by decide +kernel
theorem dX12_layWalks_115 : decode cX12_layWalks 115 = .ok (.iload_n 1, 1) := by decide +kernel
theorem dX12_layWalks_116 : decode cX12_layWalks 116 = .ok (.iconst 1, 1) := by decide +kernel
theorem dX12_layWalks_117 : decode cX12_layWalks 117 = .ok (.iadd, 1) := by decide +kernel
theorem dX12_layWalks_118 : decode cX12_layWalks 118 = .ok (.invokevirtual 379, 3) := by decide +kernel
theorem dX12_layWalks_121 : decode cX12_layWalks 121 = .ok (.iastore, 1) := by decide +kernel
theorem dX12_layWalks_122 : decode cX12_layWalks 122 = .ok (.iinc 2 1, 3) := by decide +kernel
theorem dX12_layWalks_125 : decode cX12_layWalks 125 = .ok (.goto (-88), 3) := by decide +kernel
theorem dX12_layWalks_128 : decode cX12_layWalks 128 = .ok (.iinc 1 (-1), 3) := by decide +kernel
theorem dX12_layWalks_131 : decode cX12_layWalks 131 = .ok (.goto (-100), 3) := by decide +kernel
theorem dX12_layWalks_134 : decode cX12_layWalks 134 = .ok (.iconst 1, 1) := by decide +kernel
theorem dX12_layWalks_135 : decode cX12_layWalks 135 = .ok (.ireturn, 1) := by decide +kernel
theorem dX12_layWalks_18 : decode cX12_layWalks 18 = .ok (.iconst 0, 1) := by decide +kernel
theorem dX12_layWalks_19 : decode cX12_layWalks 19 = .ok (.ireturn, 1) := by decide +kernel
noncomputable def vX12_layWalks : List Cond := .code yX12_layWalks cX12_layWalks 4 (some .boolean) :: (([.fieldLink RX12 9 "IcicleClockModel" "world" "[I", .methodLink RX12 246 yX12_layAll, .instanceMethod yX12_layAll, .selects RX12 yX12_layAll yX12_layAll, .initialized RX12, .fieldLink RX12 231 "IcicleClockModel" "days" "I", .fieldLink RX12 59 "IcicleClockModel" "struck" "[I", .methodLink RX12 294 yX12_dropsAt, .instanceMethod yX12_dropsAt, .selects RX12 yX12_dropsAt yX12_dropsAt, .methodLink RX12 376 yX12_leastFrom, .instanceMethod yX12_leastFrom, .selects RX12 yX12_leastFrom yX12_leastFrom, .fieldLink RX12 62 "IcicleClockModel" "struckWays" "[I", .methodLink RX12 379 yX12_waysFrom, .instanceMethod yX12_waysFrom, .selects RX12 yX12_waysFrom yX12_waysFrom] : List Cond) ++ (wsX120 ++ (vX12_layAll ++ (vX12_dropsAt ++ (vX12_leastFrom ++ vX12_waysFrom)))))
theorem iX12_layWalks_12 : ∀ w ∈ wsX120, w ∈ vX12_layWalks := fun _ h => List.mem_cons_of_mem _ (List.mem_append_right _ (List.mem_append_left _ h))
theorem gs_X12_layWalks : Gd vX12_layWalks := Gd.cons (by decide +kernel) (Gd.app (Gd.r (by decide +kernel)) (Gd.app gwX_12 (Gd.app gs_X12_layAll (Gd.app gs_X12_dropsAt (Gd.app gs_X12_leastFrom gs_X12_waysFrom)))))
theorem gg_X12_layWalks_X12_layAll : GoodIn vX12_layWalks (wsV RX12 246 RX12 yX12_layAll vX12_layAll) := goodIn_app (goodIn_r _ [2, 3, 4, 5] (by decide +kernel) (by decide +kernel)) (fun w h => ⟨List.mem_cons_of_mem _ (List.mem_append_right _ (List.mem_append_right _ (List.mem_append_left _ h))), gs_X12_layAll w h⟩)
theorem gg_X12_layWalks_X12_dropsAt : GoodIn vX12_layWalks (wsV RX12 294 RX12 yX12_dropsAt vX12_dropsAt) := goodIn_app (goodIn_r _ [8, 9, 10, 5] (by decide +kernel) (by decide +kernel)) (fun w h => ⟨List.mem_cons_of_mem _ (List.mem_append_right _ (List.mem_append_right _ (List.mem_append_right _ (List.mem_append_left _ h)))), gs_X12_dropsAt w h⟩)
theorem gg_X12_layWalks_X12_leastFrom : GoodIn vX12_layWalks (wsV RX12 376 RX12 yX12_leastFrom vX12_leastFrom) := goodIn_app (goodIn_r _ [11, 12, 13, 5] (by decide +kernel) (by decide +kernel)) (fun w h => ⟨List.mem_cons_of_mem _ (List.mem_append_right _ (List.mem_append_right _ (List.mem_append_right _ (List.mem_append_right _ (List.mem_append_left _ h))))), gs_X12_leastFrom w h⟩)
theorem gg_X12_layWalks_X12_waysFrom : GoodIn vX12_layWalks (wsV RX12 379 RX12 yX12_waysFrom vX12_waysFrom) := goodIn_app (goodIn_r _ [15, 16, 17, 5] (by decide +kernel) (by decide +kernel)) (fun w h => ⟨List.mem_cons_of_mem _ (List.mem_append_right _ (List.mem_append_right _ (List.mem_append_right _ (List.mem_append_right _ (List.mem_append_right _ (h)))))), gs_X12_waysFrom w h⟩)
set_option maxHeartbeats 4000000 in
set_option maxRecDepth 100000 in
theorem s_X12_layWalks (l : Launch) (D : va_G) (cs : Nat → ClassId) (ad : Nat → Nat) (kS : kSt) (K : sK) (hKO : KO K) (hj : wJ ad 218) (g : Nat → va_E) (hW : WF (shp ad K) ad cs g) : sI l yX12_layWalks vX12_layWalks { frames := 3, cells := 0, slots := 0, locals := 70 } D cs ad kS [.ref (ad 197)] g (fun r g2 => WF (shp ad K) ad cs g2 ∧ (∀ j, j ≠ 197 ∧ j ≠ 204 ∧ j ≠ 205 ∧ j ≠ 212 ∧ j ≠ 213 → g2 j = g j) ∧ (0 ≤ r.toInt ∧ r.toInt ≤ 1 ∧ (r.toInt ≠ 0 → 0 < gA g2 198 4))) := by
  refine Met.startS (cc := cX12_layWalks) (maxL := 4) (ret := (some .boolean)) RX12 rfl (by decide) rfl (Nat.le_of_ble_eq_true rfl) ?_
  intro p e s m below meth c ls X Z hP hl
  have hx := X.1
  have hb := X.2.1
  have hS : va_S (wA ad 218) s.heap s.heap [] := va_S.rf
  have hA : ∀ i, i < 218 → wA ad 218 (ad i) := fun i h => ⟨i, h, rfl⟩
  have hfr : ∀ j, j ≠ 197 ∧ j ≠ 204 ∧ j ≠ 205 ∧ j ≠ 212 ∧ j ≠ 213 → g j = g j := fun _ _ => rfl
  have hl : lv_has ls 4 [(0, .ref (ad 197))] := hl
  refine lv_aload_n hx hb dX12_layWalks_0 rfl (lv_at hl 0 rfl) ?_
  obtain ⟨fsc_1, hgc_1, hOc_1⟩ := hW.obj (i := 197) (by decide) (sh_197 ad K)
  have hk_2 := hOc_1.ref 1 rfl
  refine q_get X iX12_layWalks_12 hP (by decide) hgc_1 rfl 1 (by decide) (List.mem_of_getElem? (i := 1) rfl) (v := .ref (ad 198)) hk_2 dX12_layWalks_1 ?_
  refine lv_iconst (v := 4) hx hb dX12_layWalks_4 (by decide) ?_
  obtain ⟨fc_3, hgc_3, hFc_3⟩ := hW.arr (i := 198) (by decide) (sh_198 ad K)
  refine q_iald X hP (by decide) hgc_3 (by unfold vp_in; decide) dX12_layWalks_5 ?_
  refine lv_topi (fun z_4 ez_4 => ?_)
  have hqz_4 : wq (4) z_4.toInt := ez_4 ▸ hFc_3 _
  have hz_4 : 0 ≤ z_4.toInt ∧ z_4.toInt ≤ 5 := by unfold wq at hqz_4; omega
  clear hqz_4
  have hgaz_4 : gA g 198 ((4 : Int32).toNatClampNeg) = z_4.toInt := by rw [ez_4]; exact gA_of hgc_3 _
  rw [(by decide : (4 : Int32).toNatClampNeg = 4)] at hgaz_4
  have hnEz_4 := gA_tr (hfr 198 (by omega)) 4
  have HJ18 : ∀ (G18 : Nat → va_E) (H : Heap) (locs : List Loc) (ls : Array Slot), WF (shp ad K) ad cs G18 → (∀ j, j ≠ 197 ∧ j ≠ 204 ∧ j ≠ 205 ∧ j ≠ 212 ∧ j ≠ 213 → G18 j = g j) → G18 197 = .inr (12, fsc_1) → G18 198 = .inl (cs 1, 118, .inl fc_3) → va_P D vwCl (wL ad G18 218) H → va_S (wA ad 218) s.heap H locs → lv_has ls 4 [] → W p l e ({ frames := 3, cells := 0, slots := 0, locals := 70 } : Room) s m ([.ref (ad 197)] : List Value).toArray below meth c H locs 0 0 (MQ below (qI D ad 218 (fun r g2 => WF (shp ad K) ad cs g2 ∧ (∀ j, j ≠ 197 ∧ j ≠ 204 ∧ j ≠ 205 ∧ j ≠ 212 ∧ j ≠ 213 → g2 j = g j) ∧ (0 ≤ r.toInt ∧ r.toInt ≤ 1 ∧ (r.toInt ≠ 0 → 0 < gA g2 198 4)))) ([.ref (ad 197)] : List Value).toArray s 0 0 (wA ad 218)) (F0 m 18 ls []) := by
    intro G18 H locs ls hW18 hfr18 hg18_0 hg18_1 hP hS hl
    refine lv_iconst (v := 0) hx hb dX12_layWalks_18 (by decide) ?_
    have hr0 : (0 : Int32).toInt = 0 := by decide
    have hr9 := gA_tr (hfr18 198 (by omega)) 4
    exact q_zret X hP hS rfl ⟨hW18, hfr18, (by omega)⟩ dX12_layWalks_19
  refine lv_if_eq (tgt := 18) hx hb dX12_layWalks_6 (by decide) (fun hc_5 => ?_) (fun hc_5 => ?_)
  · have hhc_5 := n_eq (rfl : z_4.toInt = z_4.toInt) (by decide : (0 : Int32).toInt = 0) hc_5
    exact HJ18 g _ _ ls hW hfr hgc_1 hgc_3 hP hS (lv_sub hl [] rfl)
  · have hhc_5 := n_ne (rfl : z_4.toInt = z_4.toInt) (by decide : (0 : Int32).toInt = 0) hc_5
    refine lv_aload_n hx hb dX12_layWalks_9 rfl (lv_at hl 0 rfl) ?_
    refine q_get X iX12_layWalks_12 hP (by decide) hgc_1 rfl 1 (by decide) (List.mem_of_getElem? (i := 1) rfl) (v := .ref (ad 198)) hk_2 dX12_layWalks_10 ?_
    refine lv_iconst (v := 3) hx hb dX12_layWalks_13 (by decide) ?_
    refine q_iald X hP (by decide) hgc_3 (by unfold vp_in; decide) dX12_layWalks_14 ?_
    refine lv_topi (fun z_6 ez_6 => ?_)
    have hqz_6 : wq (3) z_6.toInt := ez_6 ▸ hFc_3 _
    have hz_6 : 0 ≤ z_6.toInt ∧ z_6.toInt ≤ 14 := by unfold wq at hqz_6; omega
    clear hqz_6
    refine lv_if_ne (tgt := 20) hx hb dX12_layWalks_15 (by decide) (fun hc_7 => ?_) (fun hc_7 => ?_)
    · have hhc_7 := n_ne (rfl : z_6.toInt = z_6.toInt) (by decide : (0 : Int32).toInt = 0) hc_7
      refine lv_aload_n hx hb dX12_layWalks_20 rfl (lv_at hl 0 rfl) ?_
      refine s_callv (q := (RX12, TX12, 40)) (As := []) (rest := []) X Z (s_X12_layAll l D cs ad kS K hKO hj g hW) (cwV 0 X.2.2.2.2.1 gg_X12_layWalks_X12_layAll rfl rfl rfl (by decide +kernel) ⟨Nat.le_of_ble_eq_true rfl, Nat.le_of_ble_eq_true rfl⟩) (by decide) hgc_1 rfl hP hA hS.2.1 hS rfl hl.1 rfl (Nat.le_of_ble_eq_true rfl) dX12_layWalks_21 ⟨Nat.le_of_ble_eq_true rfl, Nat.le_of_ble_eq_true rfl⟩ (fun g_9 H locs hw_8 hP hS => ?_)
      obtain ⟨hw_8W, hw_8f⟩ := hw_8
      have hfr_11 : ∀ j, j ≠ 197 ∧ j ≠ 204 ∧ j ≠ 205 ∧ j ≠ 212 ∧ j ≠ 213 → g_9 j = g j := fun j hj => (hw_8f j (by omega)).trans (hfr j hj)
      have hg_12 := (hw_8f 198 (by omega)).trans hgc_3
      refine lv_aload_n hx hb dX12_layWalks_24 rfl (lv_at hl 0 rfl) ?_
      obtain ⟨fsc_13, hgc_13, hOc_13⟩ := hw_8W.obj (i := 197) (by decide) (sh_197 ad K)
      obtain ⟨x_15, hk_14, hlx_15, hhx_15⟩ := hOc_13.int 17 rfl
      refine q_get X iX12_layWalks_12 hP (by decide) hgc_13 rfl 17 (by decide) (List.mem_of_getElem? (i := 6) rfl) (v := .int x_15) hk_14 dX12_layWalks_25 ?_
      refine lv_iconst (v := 1) hx hb dX12_layWalks_28 (by decide) ?_
      refine lv_isub hx hb dX12_layWalks_29 ?_
      refine lv_topi (fun z_16 ez_16 => ?_)
      have hz_16 : z_16.toInt = x_15.toInt - 1 := n_sub (rfl : x_15.toInt = x_15.toInt) (by decide : (1 : Int32).toInt = 1) ez_16 (by omega) (by omega)
      refine lv_istore_n (lv' := [(1, .int z_16), (0, .ref (ad 197))]) hx hb dX12_layWalks_30 rfl hl (by decide) rfl (fun ls hl => ?_)
      have HL31 : ∀ (n31 : Nat) (v31_1 : Int32) (G31 : Nat → va_E) (H : Heap) (locs : List Loc) (ls : Array Slot), (v31_1.toInt - (-1)).toNat < n31 → ((-1) ≤ v31_1.toInt ∧ v31_1.toInt ≤ 13) → WF (shp ad K) ad cs G31 → (∀ j, j ≠ 197 ∧ j ≠ 204 ∧ j ≠ 205 ∧ j ≠ 212 ∧ j ≠ 213 → G31 j = g j) → va_P D vwCl (wL ad G31 218) H → va_S (wA ad 218) s.heap H locs → lv_has ls 4 [(1, .int v31_1), (0, .ref (ad 197))] → W p l e ({ frames := 3, cells := 0, slots := 0, locals := 70 } : Room) s m ([.ref (ad 197)] : List Value).toArray below meth c H locs 0 0 (MQ below (qI D ad 218 (fun r g2 => WF (shp ad K) ad cs g2 ∧ (∀ j, j ≠ 197 ∧ j ≠ 204 ∧ j ≠ 205 ∧ j ≠ 212 ∧ j ≠ 213 → g2 j = g j) ∧ (0 ≤ r.toInt ∧ r.toInt ≤ 1 ∧ (r.toInt ≠ 0 → 0 < gA g2 198 4)))) ([.ref (ad 197)] : List Value).toArray s 0 0 (wA ad 218)) (F0 m 31 ls []) := by
        intro n31
        induction n31 with
        | zero =>
          intro v31_1 G31 H locs ls hm31 hv31_0 hW31 hfr31 hP hS hl
          exact absurd hm31 (Nat.not_lt_zero _)
        | succ n31 ih31 =>
          intro v31_1 G31 H locs ls hm31 hv31_0 hW31 hfr31 hP hS hl
          refine lv_iload_n hx hb dX12_layWalks_31 rfl (lv_at hl 0 rfl) ?_
          refine lv_if_lt (tgt := 134) hx hb dX12_layWalks_32 (by decide) (fun hc_17 => ?_) (fun hc_17 => ?_)
          · have hhc_17 := n_lt (rfl : v31_1.toInt = v31_1.toInt) (by decide : (0 : Int32).toInt = 0) hc_17
            refine lv_iconst (v := 1) hx hb dX12_layWalks_134 (by decide) ?_
            have hr0 : (1 : Int32).toInt = 1 := by decide
            have hr9 := gA_tr (hfr31 198 (by omega)) 4
            exact q_zret X hP hS rfl ⟨hW31, hfr31, (by omega)⟩ dX12_layWalks_135
          · have hhc_17 := n_nlt (rfl : v31_1.toInt = v31_1.toInt) (by decide : (0 : Int32).toInt = 0) hc_17
            refine lv_iconst (v := 0) hx hb dX12_layWalks_35 (by decide) ?_
            refine lv_istore_n (lv' := [(2, .int 0), (1, .int v31_1), (0, .ref (ad 197))]) hx hb dX12_layWalks_36 rfl hl (by decide) rfl (fun ls hl => ?_)
            have HL37 : ∀ (n37 : Nat) (v37_2 : Int32) (G37 : Nat → va_E) (H : Heap) (locs : List Loc) (ls : Array Slot), (5 - v37_2.toInt).toNat < n37 → (0 ≤ v37_2.toInt ∧ v37_2.toInt ≤ 5) → WF (shp ad K) ad cs G37 → (∀ j, j ≠ 197 ∧ j ≠ 204 ∧ j ≠ 205 ∧ j ≠ 212 ∧ j ≠ 213 → G37 j = g j) → va_P D vwCl (wL ad G37 218) H → va_S (wA ad 218) s.heap H locs → lv_has ls 4 [(2, .int v37_2), (1, .int v31_1), (0, .ref (ad 197))] → W p l e ({ frames := 3, cells := 0, slots := 0, locals := 70 } : Room) s m ([.ref (ad 197)] : List Value).toArray below meth c H locs 0 0 (MQ below (qI D ad 218 (fun r g2 => WF (shp ad K) ad cs g2 ∧ (∀ j, j ≠ 197 ∧ j ≠ 204 ∧ j ≠ 205 ∧ j ≠ 212 ∧ j ≠ 213 → g2 j = g j) ∧ (0 ≤ r.toInt ∧ r.toInt ≤ 1 ∧ (r.toInt ≠ 0 → 0 < gA g2 198 4)))) ([.ref (ad 197)] : List Value).toArray s 0 0 (wA ad 218)) (F0 m 37 ls []) := by
              intro n37
              induction n37 with
              | zero =>
                intro v37_2 G37 H locs ls hm37 hv37_0 hW37 hfr37 hP hS hl
                exact absurd hm37 (Nat.not_lt_zero _)
              | succ n37 ih37 =>
                intro v37_2 G37 H locs ls hm37 hv37_0 hW37 hfr37 hP hS hl
                refine lv_iload_n hx hb dX12_layWalks_37 rfl (lv_at hl 0 rfl) ?_
                refine lv_aload_n hx hb dX12_layWalks_38 rfl (lv_at hl 2 rfl) ?_
                obtain ⟨fsc_18, hgc_18, hOc_18⟩ := hW37.obj (i := 197) (by decide) (sh_197 ad K)
                have hk_19 := hOc_18.ref 1 rfl
                refine q_get X iX12_layWalks_12 hP (by decide) hgc_18 rfl 1 (by decide) (List.mem_of_getElem? (i := 1) rfl) (v := .ref (ad 198)) hk_19 dX12_layWalks_39 ?_
                refine lv_iconst (v := 4) hx hb dX12_layWalks_42 (by decide) ?_
                obtain ⟨fc_20, hgc_20, hFc_20⟩ := hW37.arr (i := 198) (by decide) (sh_198 ad K)
                refine q_iald X hP (by decide) hgc_20 (by unfold vp_in; decide) dX12_layWalks_43 ?_
                refine lv_topi (fun z_21 ez_21 => ?_)
                have hqz_21 : wq (4) z_21.toInt := ez_21 ▸ hFc_20 _
                have hz_21 : 0 ≤ z_21.toInt ∧ z_21.toInt ≤ 5 := by unfold wq at hqz_21; omega
                clear hqz_21
                have hgaz_21 : gA G37 198 ((4 : Int32).toNatClampNeg) = z_21.toInt := by rw [ez_21]; exact gA_of hgc_20 _
                rw [(by decide : (4 : Int32).toNatClampNeg = 4)] at hgaz_21
                have hnEz_21 := gA_tr (hfr37 198 (by omega)) 4
                refine lv_icmp_ge (tgt := 128) hx hb dX12_layWalks_44 (by decide) (fun hc_22 => ?_) (fun hc_22 => ?_)
                · have hhc_22 := n_le (rfl : z_21.toInt = z_21.toInt) (rfl : v37_2.toInt = v37_2.toInt) hc_22
                  obtain ⟨x_23, ex_23⟩ : ∃ y : Int32, y = v31_1 + (-1) := ⟨_, rfl⟩
                  have hx_23 : x_23.toInt = v31_1.toInt + (-1) := n_add rfl (by decide : (-1 : Int32).toInt = -1) ex_23 (by omega) (by omega)
                  refine lv_iinc (v := x_23) (lv' := [(1, .int x_23), (2, .int v37_2), (0, .ref (ad 197))]) hx hb dX12_layWalks_128 hl (k := 1) rfl (by rw [ex_23]; rfl) (by decide) rfl (fun ls hl => ?_)
                  refine lv_goto (tgt := 31) hx hb dX12_layWalks_131 (by decide) ?_
                  exact ih31 x_23 G37 _ _ ls (by omega) (by omega) hW37 hfr37 hP hS (lv_sub hl [0, 2] rfl)
                · have hhc_22 := n_nle (rfl : z_21.toInt = z_21.toInt) (rfl : v37_2.toInt = v37_2.toInt) hc_22
                  refine lv_iload_n hx hb dX12_layWalks_47 rfl (lv_at hl 1 rfl) ?_
                  refine lv_aload_n hx hb dX12_layWalks_48 rfl (lv_at hl 2 rfl) ?_
                  obtain ⟨x_25, hk_24, hlx_25, hhx_25⟩ := hOc_18.int 17 rfl
                  refine q_get X iX12_layWalks_12 hP (by decide) hgc_18 rfl 17 (by decide) (List.mem_of_getElem? (i := 6) rfl) (v := .int x_25) hk_24 dX12_layWalks_49 ?_
                  refine lv_iconst (v := 1) hx hb dX12_layWalks_52 (by decide) ?_
                  refine lv_isub hx hb dX12_layWalks_53 ?_
                  refine lv_topi (fun z_26 ez_26 => ?_)
                  have hz_26 : z_26.toInt = x_25.toInt - 1 := n_sub (rfl : x_25.toInt = x_25.toInt) (by decide : (1 : Int32).toInt = 1) ez_26 (by omega) (by omega)
                  refine lv_icmp_ne (tgt := 61) hx hb dX12_layWalks_54 (by decide) (fun hc_27 => ?_) (fun hc_27 => ?_)
                  · have hhc_27 := n_ne (rfl : v31_1.toInt = v31_1.toInt) (rfl : z_26.toInt = z_26.toInt) hc_27
                    refine lv_iconst (v := 0) hx hb dX12_layWalks_61 (by decide) ?_
                    refine lv_istore_n (lv' := [(3, .int 0), (2, .int v37_2), (1, .int v31_1), (0, .ref (ad 197))]) hx hb dX12_layWalks_62 rfl hl (by decide) rfl (fun ls hl => ?_)
                    refine lv_aload_n hx hb dX12_layWalks_63 rfl (lv_at hl 3 rfl) ?_
                    have hk_28 := hOc_18.ref 32 rfl
                    refine q_get X iX12_layWalks_12 hP (by decide) hgc_18 rfl 32 (by decide) (List.mem_of_getElem? (i := 7) rfl) (v := .ref (ad 212)) hk_28 dX12_layWalks_64 ?_
                    refine lv_iconst (v := 5) hx hb dX12_layWalks_67 (by decide) ?_
                    refine lv_iload_n hx hb dX12_layWalks_68 rfl (lv_at hl 2 rfl) ?_
                    refine lv_imul hx hb dX12_layWalks_69 ?_
                    refine lv_topi (fun z_29 ez_29 => ?_)
                    have hz_29 : z_29.toInt = 5 * v31_1.toInt := n_mul (by decide : (5 : Int32).toInt = 5) (rfl : v31_1.toInt = v31_1.toInt) ez_29 (by omega) (by omega)
                    refine lv_iload_n hx hb dX12_layWalks_70 rfl (lv_at hl 1 rfl) ?_
                    refine lv_iadd hx hb dX12_layWalks_71 ?_
                    refine lv_topi (fun z_30 ez_30 => ?_)
                    have hz_30 : z_30.toInt = z_29.toInt + v37_2.toInt := n_add (rfl : z_29.toInt = z_29.toInt) (rfl : v37_2.toInt = v37_2.toInt) ez_30 (by omega) (by omega)
                    refine lv_aload_n hx hb dX12_layWalks_72 rfl (lv_at hl 3 rfl) ?_
                    refine lv_iload_n hx hb dX12_layWalks_73 rfl (lv_at hl 1 rfl) ?_
                    refine lv_iload_n hx hb dX12_layWalks_74 rfl (lv_at hl 2 rfl) ?_
                    refine s_calli (q := (RX12, TX12, 40)) (As := [.int v37_2, .int v31_1]) (rest := [.int z_30, .ref (ad 212)]) X Z (s_X12_dropsAt l D cs ad kS K hKO hj G37 hW37 v37_2 v31_1) (cwV 2 X.2.2.2.2.1 gg_X12_layWalks_X12_dropsAt rfl rfl rfl (by decide +kernel) ⟨Nat.le_of_ble_eq_true rfl, Nat.le_of_ble_eq_true rfl⟩) (by decide) hgc_18 rfl hP hA hS.2.1 hS rfl hl.1 rfl (Nat.le_of_ble_eq_true rfl) dX12_layWalks_75 ⟨Nat.le_of_ble_eq_true rfl, Nat.le_of_ble_eq_true rfl⟩ (fun r_33 g_32 H locs hw_31 hP hS => ?_)
                    obtain ⟨hw_31g, hw_31⟩ := hw_31
                    rw [hw_31g] at hP
                    refine lv_iload_n hx hb dX12_layWalks_78 rfl (lv_at hl 0 rfl) ?_
                    refine lv_if_eq (tgt := 86) hx hb dX12_layWalks_79 (by decide) (fun _ => ?_) (fun h => absurd h (by decide))
                    refine lv_aload_n hx hb dX12_layWalks_86 rfl (lv_at hl 3 rfl) ?_
                    refine lv_iload_n hx hb dX12_layWalks_87 rfl (lv_at hl 1 rfl) ?_
                    refine lv_iload_n hx hb dX12_layWalks_88 rfl (lv_at hl 2 rfl) ?_
                    refine lv_iconst (v := 1) hx hb dX12_layWalks_89 (by decide) ?_
                    refine lv_iadd hx hb dX12_layWalks_90 ?_
                    refine lv_topi (fun z_34 ez_34 => ?_)
                    have hz_34 : z_34.toInt = v31_1.toInt + 1 := n_add (rfl : v31_1.toInt = v31_1.toInt) (by decide : (1 : Int32).toInt = 1) ez_34 (by omega) (by omega)
                    refine s_calli (q := (RX12, TX12, 40)) (As := [.int v37_2, .int z_34]) (rest := [.int r_33, .int z_30, .ref (ad 212)]) X Z (s_X12_leastFrom l D cs ad kS K hKO hj G37 hW37 v37_2 z_34 (by omega) (by omega) (by have h9 := gA_tr (hfr37 198 (by omega)) 4; omega)) (cwV 2 X.2.2.2.2.1 gg_X12_layWalks_X12_leastFrom rfl rfl rfl (by decide +kernel) ⟨Nat.le_of_ble_eq_true rfl, Nat.le_of_ble_eq_true rfl⟩) (by decide) hgc_18 rfl hP hA hS.2.1 hS rfl hl.1 rfl (Nat.le_of_ble_eq_true rfl) dX12_layWalks_91 ⟨Nat.le_of_ble_eq_true rfl, Nat.le_of_ble_eq_true rfl⟩ (fun r_37 g_36 H locs hw_35 hP hS => ?_)
                    obtain ⟨hw_35g, hw_35⟩ := hw_35
                    rw [hw_35g] at hP
                    refine lv_iadd hx hb dX12_layWalks_94 ?_
                    refine lv_topi (fun z_38 ez_38 => ?_)
                    have hz_38 : z_38.toInt = r_33.toInt + r_37.toInt := n_add (rfl : r_33.toInt = r_33.toInt) (rfl : r_37.toInt = r_37.toInt) ez_38 (by omega) (by omega)
                    obtain ⟨fc_39, hgc_39, hFc_39⟩ := hW37.arr (i := 212) (by decide) (sh_212 ad K)
                    have hc_95 := n_cl (rfl : z_30.toInt = z_30.toInt) (by omega)
                    have hu_41 : sq (z_30.toNatClampNeg) (z_38 : Int32).toInt := by unfold sq; omega
                    refine s_iast X hP hj hA hS (by decide) hgc_39 (n_in (rfl : z_30.toInt = z_30.toInt) (by omega) (by omega)) dX12_layWalks_95 hW37 (sh_212 ad K) (hFc_39.put hu_41) (fun fc_40 gc_40 H locs ec_40 hFc_40 hgc_40 hfc_40 hWc_40 hP hS => ?_)
                    have hg_43 := (hfc_40 197 (by decide)).trans hgc_18
                    have hg_44 := (hfc_40 198 (by decide)).trans hgc_20
                    have hfr_42 : ∀ j, j ≠ 197 ∧ j ≠ 204 ∧ j ≠ 205 ∧ j ≠ 212 ∧ j ≠ 213 → gc_40 j = g j := fun j hj => (hfc_40 j (by omega)).trans (hfr37 j hj)
                    refine lv_aload_n hx hb dX12_layWalks_96 rfl (lv_at hl 3 rfl) ?_
                    have hk_45 := hOc_18.ref 33 rfl
                    refine q_get X iX12_layWalks_12 hP (by decide) hg_43 rfl 33 (by decide) (List.mem_of_getElem? (i := 14) rfl) (v := .ref (ad 213)) hk_45 dX12_layWalks_97 ?_
                    refine lv_iconst (v := 5) hx hb dX12_layWalks_100 (by decide) ?_
                    refine lv_iload_n hx hb dX12_layWalks_101 rfl (lv_at hl 2 rfl) ?_
                    refine lv_imul hx hb dX12_layWalks_102 ?_
                    refine lv_topi (fun z_46 ez_46 => ?_)
                    have hz_46 : z_46.toInt = 5 * v31_1.toInt := n_mul (by decide : (5 : Int32).toInt = 5) (rfl : v31_1.toInt = v31_1.toInt) ez_46 (by omega) (by omega)
                    refine lv_iload_n hx hb dX12_layWalks_103 rfl (lv_at hl 1 rfl) ?_
                    refine lv_iadd hx hb dX12_layWalks_104 ?_
                    refine lv_topi (fun z_47 ez_47 => ?_)
                    have hz_47 : z_47.toInt = z_46.toInt + v37_2.toInt := n_add (rfl : z_46.toInt = z_46.toInt) (rfl : v37_2.toInt = v37_2.toInt) ez_47 (by omega) (by omega)
                    refine lv_iload_n hx hb dX12_layWalks_105 rfl (lv_at hl 0 rfl) ?_
                    refine lv_if_eq (tgt := 113) hx hb dX12_layWalks_106 (by decide) (fun _ => ?_) (fun h => absurd h (by decide))
                    refine lv_aload_n hx hb dX12_layWalks_113 rfl (lv_at hl 3 rfl) ?_
                    refine lv_iload_n hx hb dX12_layWalks_114 rfl (lv_at hl 1 rfl) ?_
                    refine lv_iload_n hx hb dX12_layWalks_115 rfl (lv_at hl 2 rfl) ?_
                    refine lv_iconst (v := 1) hx hb dX12_layWalks_116 (by decide) ?_
                    refine lv_iadd hx hb dX12_layWalks_117 ?_
                    refine lv_topi (fun z_48 ez_48 => ?_)
                    have hz_48 : z_48.toInt = v31_1.toInt + 1 := n_add (rfl : v31_1.toInt = v31_1.toInt) (by decide : (1 : Int32).toInt = 1) ez_48 (by omega) (by omega)
                    refine s_calli (q := (RX12, TX12, 40)) (As := [.int v37_2, .int z_48]) (rest := [.int z_47, .ref (ad 213)]) X Z (s_X12_waysFrom l D cs ad kS K hKO hj gc_40 hWc_40 v37_2 z_48 (by omega) (by omega) (by have h9 := gA_tr (hfr_42 198 (by omega)) 4; omega)) (cwV 2 X.2.2.2.2.1 gg_X12_layWalks_X12_waysFrom rfl rfl rfl (by decide +kernel) ⟨Nat.le_of_ble_eq_true rfl, Nat.le_of_ble_eq_true rfl⟩) (by decide) hg_43 rfl hP hA hS.2.1 hS rfl hl.1 rfl (Nat.le_of_ble_eq_true rfl) dX12_layWalks_118 ⟨Nat.le_of_ble_eq_true rfl, Nat.le_of_ble_eq_true rfl⟩ (fun r_51 g_50 H locs hw_49 hP hS => ?_)
                    rw [hw_49] at hP
                    obtain ⟨fc_52, hgc_52, hFc_52⟩ := hWc_40.arr (i := 213) (by decide) (sh_213 ad K)
                    refine s_iast X hP hj hA hS (by decide) hgc_52 (n_in (rfl : z_47.toInt = z_47.toInt) (by omega) (by omega)) dX12_layWalks_121 hWc_40 (sh_213 ad K) (hFc_52.put trivial) (fun fc_53 gc_53 H locs ec_53 hFc_53 hgc_53 hfc_53 hWc_53 hP hS => ?_)
                    have hg_55 := (hfc_53 197 (by decide)).trans hg_43
                    have hg_56 := (hfc_53 198 (by decide)).trans hg_44
                    have hg_57 := (hfc_53 212 (by decide)).trans hgc_40
                    have hfr_54 : ∀ j, j ≠ 197 ∧ j ≠ 204 ∧ j ≠ 205 ∧ j ≠ 212 ∧ j ≠ 213 → gc_53 j = g j := fun j hj => (hfc_53 j (by omega)).trans (hfr_42 j hj)
                    obtain ⟨x_58, ex_58⟩ : ∃ y : Int32, y = v37_2 + 1 := ⟨_, rfl⟩
                    have hx_58 : x_58.toInt = v37_2.toInt + 1 := n_add rfl (by decide : (1 : Int32).toInt = 1) ex_58 (by omega) (by omega)
                    refine lv_iinc (v := x_58) (lv' := [(2, .int x_58), (3, .int 0), (1, .int v31_1), (0, .ref (ad 197))]) hx hb dX12_layWalks_122 hl (k := 1) rfl (by rw [ex_58]; rfl) (by decide) rfl (fun ls hl => ?_)
                    refine lv_goto (tgt := 37) hx hb dX12_layWalks_125 (by decide) ?_
                    exact ih37 x_58 gc_53 _ _ ls (by omega) (by omega) hWc_53 hfr_54 hP hS (lv_sub hl [0, 2, 3] rfl)
                  · have hhc_27 := n_eq (rfl : v31_1.toInt = v31_1.toInt) (rfl : z_26.toInt = z_26.toInt) hc_27
                    refine lv_iconst (v := 1) hx hb dX12_layWalks_57 (by decide) ?_
                    refine lv_goto (tgt := 62) hx hb dX12_layWalks_58 (by decide) ?_
                    refine lv_istore_n (lv' := [(3, .int 1), (2, .int v37_2), (1, .int v31_1), (0, .ref (ad 197))]) hx hb dX12_layWalks_62 rfl hl (by decide) rfl (fun ls hl => ?_)
                    refine lv_aload_n hx hb dX12_layWalks_63 rfl (lv_at hl 3 rfl) ?_
                    have hk_59 := hOc_18.ref 32 rfl
                    refine q_get X iX12_layWalks_12 hP (by decide) hgc_18 rfl 32 (by decide) (List.mem_of_getElem? (i := 7) rfl) (v := .ref (ad 212)) hk_59 dX12_layWalks_64 ?_
                    refine lv_iconst (v := 5) hx hb dX12_layWalks_67 (by decide) ?_
                    refine lv_iload_n hx hb dX12_layWalks_68 rfl (lv_at hl 2 rfl) ?_
                    refine lv_imul hx hb dX12_layWalks_69 ?_
                    refine lv_topi (fun z_60 ez_60 => ?_)
                    have hz_60 : z_60.toInt = 5 * v31_1.toInt := n_mul (by decide : (5 : Int32).toInt = 5) (rfl : v31_1.toInt = v31_1.toInt) ez_60 (by omega) (by omega)
                    refine lv_iload_n hx hb dX12_layWalks_70 rfl (lv_at hl 1 rfl) ?_
                    refine lv_iadd hx hb dX12_layWalks_71 ?_
                    refine lv_topi (fun z_61 ez_61 => ?_)
                    have hz_61 : z_61.toInt = z_60.toInt + v37_2.toInt := n_add (rfl : z_60.toInt = z_60.toInt) (rfl : v37_2.toInt = v37_2.toInt) ez_61 (by omega) (by omega)
                    refine lv_aload_n hx hb dX12_layWalks_72 rfl (lv_at hl 3 rfl) ?_
                    refine lv_iload_n hx hb dX12_layWalks_73 rfl (lv_at hl 1 rfl) ?_
                    refine lv_iload_n hx hb dX12_layWalks_74 rfl (lv_at hl 2 rfl) ?_
                    refine s_calli (q := (RX12, TX12, 40)) (As := [.int v37_2, .int v31_1]) (rest := [.int z_61, .ref (ad 212)]) X Z (s_X12_dropsAt l D cs ad kS K hKO hj G37 hW37 v37_2 v31_1) (cwV 2 X.2.2.2.2.1 gg_X12_layWalks_X12_dropsAt rfl rfl rfl (by decide +kernel) ⟨Nat.le_of_ble_eq_true rfl, Nat.le_of_ble_eq_true rfl⟩) (by decide) hgc_18 rfl hP hA hS.2.1 hS rfl hl.1 rfl (Nat.le_of_ble_eq_true rfl) dX12_layWalks_75 ⟨Nat.le_of_ble_eq_true rfl, Nat.le_of_ble_eq_true rfl⟩ (fun r_64 g_63 H locs hw_62 hP hS => ?_)
                    obtain ⟨hw_62g, hw_62⟩ := hw_62
                    rw [hw_62g] at hP
                    refine lv_iload_n hx hb dX12_layWalks_78 rfl (lv_at hl 0 rfl) ?_
                    refine lv_if_eq (tgt := 86) hx hb dX12_layWalks_79 (by decide) (fun h => absurd h (by decide)) (fun _ => ?_)
                    refine lv_iconst (v := 0) hx hb dX12_layWalks_82 (by decide) ?_
                    refine lv_goto (tgt := 94) hx hb dX12_layWalks_83 (by decide) ?_
                    refine lv_iadd hx hb dX12_layWalks_94 ?_
                    refine lv_topi (fun z_65 ez_65 => ?_)
                    have hz_65 : z_65.toInt = r_64.toInt + 0 := n_add (rfl : r_64.toInt = r_64.toInt) (by decide : (0 : Int32).toInt = 0) ez_65 (by omega) (by omega)
                    obtain ⟨fc_66, hgc_66, hFc_66⟩ := hW37.arr (i := 212) (by decide) (sh_212 ad K)
                    have hc_95 := n_cl (rfl : z_61.toInt = z_61.toInt) (by omega)
                    have hu_68 : sq (z_61.toNatClampNeg) (z_65 : Int32).toInt := by unfold sq; omega
                    refine s_iast X hP hj hA hS (by decide) hgc_66 (n_in (rfl : z_61.toInt = z_61.toInt) (by omega) (by omega)) dX12_layWalks_95 hW37 (sh_212 ad K) (hFc_66.put hu_68) (fun fc_67 gc_67 H locs ec_67 hFc_67 hgc_67 hfc_67 hWc_67 hP hS => ?_)
                    have hg_70 := (hfc_67 197 (by decide)).trans hgc_18
                    have hg_71 := (hfc_67 198 (by decide)).trans hgc_20
                    have hfr_69 : ∀ j, j ≠ 197 ∧ j ≠ 204 ∧ j ≠ 205 ∧ j ≠ 212 ∧ j ≠ 213 → gc_67 j = g j := fun j hj => (hfc_67 j (by omega)).trans (hfr37 j hj)
                    refine lv_aload_n hx hb dX12_layWalks_96 rfl (lv_at hl 3 rfl) ?_
                    have hk_72 := hOc_18.ref 33 rfl
                    refine q_get X iX12_layWalks_12 hP (by decide) hg_70 rfl 33 (by decide) (List.mem_of_getElem? (i := 14) rfl) (v := .ref (ad 213)) hk_72 dX12_layWalks_97 ?_
                    refine lv_iconst (v := 5) hx hb dX12_layWalks_100 (by decide) ?_
                    refine lv_iload_n hx hb dX12_layWalks_101 rfl (lv_at hl 2 rfl) ?_
                    refine lv_imul hx hb dX12_layWalks_102 ?_
                    refine lv_topi (fun z_73 ez_73 => ?_)
                    have hz_73 : z_73.toInt = 5 * v31_1.toInt := n_mul (by decide : (5 : Int32).toInt = 5) (rfl : v31_1.toInt = v31_1.toInt) ez_73 (by omega) (by omega)
                    refine lv_iload_n hx hb dX12_layWalks_103 rfl (lv_at hl 1 rfl) ?_
                    refine lv_iadd hx hb dX12_layWalks_104 ?_
                    refine lv_topi (fun z_74 ez_74 => ?_)
                    have hz_74 : z_74.toInt = z_73.toInt + v37_2.toInt := n_add (rfl : z_73.toInt = z_73.toInt) (rfl : v37_2.toInt = v37_2.toInt) ez_74 (by omega) (by omega)
                    refine lv_iload_n hx hb dX12_layWalks_105 rfl (lv_at hl 0 rfl) ?_
                    refine lv_if_eq (tgt := 113) hx hb dX12_layWalks_106 (by decide) (fun h => absurd h (by decide)) (fun _ => ?_)
                    refine lv_iconst (v := 1) hx hb dX12_layWalks_109 (by decide) ?_
                    refine lv_goto (tgt := 121) hx hb dX12_layWalks_110 (by decide) ?_
                    obtain ⟨fc_75, hgc_75, hFc_75⟩ := hWc_67.arr (i := 213) (by decide) (sh_213 ad K)
                    refine s_iast X hP hj hA hS (by decide) hgc_75 (n_in (rfl : z_74.toInt = z_74.toInt) (by omega) (by omega)) dX12_layWalks_121 hWc_67 (sh_213 ad K) (hFc_75.put trivial) (fun fc_76 gc_76 H locs ec_76 hFc_76 hgc_76 hfc_76 hWc_76 hP hS => ?_)
                    have hg_78 := (hfc_76 197 (by decide)).trans hg_70
                    have hg_79 := (hfc_76 198 (by decide)).trans hg_71
                    have hg_80 := (hfc_76 212 (by decide)).trans hgc_67
                    have hfr_77 : ∀ j, j ≠ 197 ∧ j ≠ 204 ∧ j ≠ 205 ∧ j ≠ 212 ∧ j ≠ 213 → gc_76 j = g j := fun j hj => (hfc_76 j (by omega)).trans (hfr_69 j hj)
                    obtain ⟨x_81, ex_81⟩ : ∃ y : Int32, y = v37_2 + 1 := ⟨_, rfl⟩
                    have hx_81 : x_81.toInt = v37_2.toInt + 1 := n_add rfl (by decide : (1 : Int32).toInt = 1) ex_81 (by omega) (by omega)
                    refine lv_iinc (v := x_81) (lv' := [(2, .int x_81), (3, .int 1), (1, .int v31_1), (0, .ref (ad 197))]) hx hb dX12_layWalks_122 hl (k := 1) rfl (by rw [ex_81]; rfl) (by decide) rfl (fun ls hl => ?_)
                    refine lv_goto (tgt := 37) hx hb dX12_layWalks_125 (by decide) ?_
                    exact ih37 x_81 gc_76 _ _ ls (by omega) (by omega) hWc_76 hfr_77 hP hS (lv_sub hl [0, 2, 3] rfl)
            have hiv37_2 : (0 : Int32).toInt = 0 := by decide
            exact HL37 _ 0 G31 _ _ ls (Nat.lt_succ_self _) (by omega) hW31 hfr31 hP hS (lv_sub hl [0, 1, 2] rfl)
      exact HL31 _ z_16 g_9 _ _ ls (Nat.lt_succ_self _) (by omega) hw_8W hfr_11 hP hS (lv_sub hl [0, 1] rfl)
    · have hhc_7 := n_eq (rfl : z_6.toInt = z_6.toInt) (by decide : (0 : Int32).toInt = 0) hc_7
      exact HJ18 g _ _ ls hW hfr hgc_1 hgc_3 hP hS (lv_sub hl [] rfl)

theorem dX12_walk_0 : decode cX12_walk 0 = .ok (.aload_n 0, 1) := by decide +kernel
theorem dX12_walk_1 : decode cX12_walk 1 = .ok (.invokevirtual 382, 3) := by decide +kernel
theorem dX12_walk_4 : decode cX12_walk 4 = .ok (.ifCond .eq 12, 3) := by decide +kernel
theorem dX12_walk_7 : decode cX12_walk 7 = .ok (.aload_n 0, 1) := by decide +kernel
theorem dX12_walk_8 : decode cX12_walk 8 = .ok (.iconst (-1), 1) := by decide +kernel
theorem dX12_walk_9 : decode cX12_walk 9 = .ok (.iconst 0, 1) := by decide +kernel
theorem dX12_walk_10 : decode cX12_walk 10 = .ok (.invokevirtual 376, 3) := by decide +kernel
theorem dX12_walk_13 : decode cX12_walk 13 = .ok (.goto 5, 3) := by decide +kernel
theorem dX12_walk_16 : decode cX12_walk 16 = .ok (.bipush (-2), 2) := by decide +kernel
theorem dX12_walk_18 : decode cX12_walk 18 = .ok (.ireturn, 1) := by decide +kernel
noncomputable def vX12_walk : List Cond := .code yX12_walk cX12_walk 1 (some .int) :: (([.methodLink RX12 382 yX12_layWalks, .instanceMethod yX12_layWalks, .selects RX12 yX12_layWalks yX12_layWalks, .initialized RX12, .methodLink RX12 376 yX12_leastFrom, .instanceMethod yX12_leastFrom, .selects RX12 yX12_leastFrom yX12_leastFrom] : List Cond) ++ (vX12_layWalks ++ vX12_leastFrom))
theorem gs_X12_walk : Gd vX12_walk := Gd.cons (by decide +kernel) (Gd.app (Gd.r (by decide +kernel)) (Gd.app gs_X12_layWalks gs_X12_leastFrom))
theorem gg_X12_walk_X12_layWalks : GoodIn vX12_walk (wsV RX12 382 RX12 yX12_layWalks vX12_layWalks) := goodIn_app (goodIn_r _ [1, 2, 3, 4] (by decide +kernel) (by decide +kernel)) (fun w h => ⟨List.mem_cons_of_mem _ (List.mem_append_right _ (List.mem_append_left _ h)), gs_X12_layWalks w h⟩)
theorem gg_X12_walk_X12_leastFrom : GoodIn vX12_walk (wsV RX12 376 RX12 yX12_leastFrom vX12_leastFrom) := goodIn_app (goodIn_r _ [5, 6, 7, 4] (by decide +kernel) (by decide +kernel)) (fun w h => ⟨List.mem_cons_of_mem _ (List.mem_append_right _ (List.mem_append_right _ (h))), gs_X12_leastFrom w h⟩)
set_option maxHeartbeats 4000000 in
set_option maxRecDepth 100000 in
theorem s_X12_walk (l : Launch) (D : va_G) (cs : Nat → ClassId) (ad : Nat → Nat) (kS : kSt) (K : sK) (hKO : KO K) (hj : wJ ad 218) (g : Nat → va_E) (hW : WF (shp ad K) ad cs g) : sI l yX12_walk vX12_walk { frames := 4, cells := 0, slots := 0, locals := 93 } D cs ad kS [.ref (ad 197)] g (fun r g2 => WF (shp ad K) ad cs g2 ∧ (∀ j, j ≠ 197 ∧ j ≠ 204 ∧ j ≠ 205 ∧ j ≠ 212 ∧ j ≠ 213 → g2 j = g j)) := by
  refine Met.startS (cc := cX12_walk) (maxL := 1) (ret := (some .int)) RX12 rfl (by decide) rfl (Nat.le_of_ble_eq_true rfl) ?_
  intro p e s m below meth c ls X Z hP hl
  have hx := X.1
  have hb := X.2.1
  have hS : va_S (wA ad 218) s.heap s.heap [] := va_S.rf
  have hA : ∀ i, i < 218 → wA ad 218 (ad i) := fun i h => ⟨i, h, rfl⟩
  have hfr : ∀ j, j ≠ 197 ∧ j ≠ 204 ∧ j ≠ 205 ∧ j ≠ 212 ∧ j ≠ 213 → g j = g j := fun _ _ => rfl
  have hl : lv_has ls 1 [(0, .ref (ad 197))] := hl
  refine lv_aload_n hx hb dX12_walk_0 rfl (lv_at hl 0 rfl) ?_
  obtain ⟨fsc_4, hgc_4, hOc_4⟩ := hW.obj (i := 197) (by decide) (sh_197 ad K)
  refine s_calli (q := (RX12, TX12, 40)) (As := []) (rest := []) X Z (s_X12_layWalks l D cs ad kS K hKO hj g hW) (cwV 0 X.2.2.2.2.1 gg_X12_walk_X12_layWalks rfl rfl rfl (by decide +kernel) ⟨Nat.le_of_ble_eq_true rfl, Nat.le_of_ble_eq_true rfl⟩) (by decide) hgc_4 rfl hP hA hS.2.1 hS rfl hl.1 rfl (Nat.le_of_ble_eq_true rfl) dX12_walk_1 ⟨Nat.le_of_ble_eq_true rfl, Nat.le_of_ble_eq_true rfl⟩ (fun r_3 g_2 H locs hw_1 hP hS => ?_)
  obtain ⟨hw_1W, hw_1f, hw_1⟩ := hw_1
  have hfr_5 : ∀ j, j ≠ 197 ∧ j ≠ 204 ∧ j ≠ 205 ∧ j ≠ 212 ∧ j ≠ 213 → g_2 j = g j := fun j hj => (hw_1f j (by omega)).trans (hfr j hj)
  refine lv_if_eq (tgt := 16) hx hb dX12_walk_4 (by decide) (fun hc_6 => ?_) (fun hc_6 => ?_)
  · have hhc_6 := n_eq (rfl : r_3.toInt = r_3.toInt) (by decide : (0 : Int32).toInt = 0) hc_6
    refine lv_bipush (v := (-2)) hx hb dX12_walk_16 (by decide) ?_
    exact q_iret X hP hS ⟨hw_1W, hfr_5⟩ dX12_walk_18
  · have hhc_6 := n_ne (rfl : r_3.toInt = r_3.toInt) (by decide : (0 : Int32).toInt = 0) hc_6
    refine lv_aload_n hx hb dX12_walk_7 rfl (lv_at hl 0 rfl) ?_
    refine lv_iconst (v := (-1)) hx hb dX12_walk_8 (by decide) ?_
    refine lv_iconst (v := 0) hx hb dX12_walk_9 (by decide) ?_
    have hqk_7 : ((-1) : Int32).toInt = -1 := by decide
    have hqk_8 : (0 : Int32).toInt = 0 := by decide
    obtain ⟨fsc_12, hgc_12, hOc_12⟩ := hw_1W.obj (i := 197) (by decide) (sh_197 ad K)
    refine s_calli (q := (RX12, TX12, 40)) (As := [.int (-1), .int 0]) (rest := []) X Z (s_X12_leastFrom l D cs ad kS K hKO hj g_2 hw_1W (-1) 0 (by omega) (by omega) (by omega)) (cwV 2 X.2.2.2.2.1 gg_X12_walk_X12_leastFrom rfl rfl rfl (by decide +kernel) ⟨Nat.le_of_ble_eq_true rfl, Nat.le_of_ble_eq_true rfl⟩) (by decide) hgc_12 rfl hP hA hS.2.1 hS rfl hl.1 rfl (Nat.le_of_ble_eq_true rfl) dX12_walk_10 ⟨Nat.le_of_ble_eq_true rfl, Nat.le_of_ble_eq_true rfl⟩ (fun r_11 g_10 H locs hw_9 hP hS => ?_)
    obtain ⟨hw_9g, hw_9⟩ := hw_9
    rw [hw_9g] at hP
    have hqk_13 : ((-1) : Int32).toInt = -1 := by decide
    have hqk_14 : (0 : Int32).toInt = 0 := by decide
    refine lv_goto (tgt := 18) hx hb dX12_walk_13 (by decide) ?_
    exact q_iret X hP hS ⟨hw_1W, hfr_5⟩ dX12_walk_18

theorem dX12_ways_0 : decode cX12_ways 0 = .ok (.aload_n 0, 1) := by decide +kernel
theorem dX12_ways_1 : decode cX12_ways 1 = .ok (.invokevirtual 382, 3) := by decide +kernel
theorem dX12_ways_4 : decode cX12_ways 4 = .ok (.ifCond .eq 12, 3) := by decide +kernel
theorem dX12_ways_7 : decode cX12_ways 7 = .ok (.aload_n 0, 1) := by decide +kernel
theorem dX12_ways_8 : decode cX12_ways 8 = .ok (.iconst (-1), 1) := by decide +kernel
theorem dX12_ways_9 : decode cX12_ways 9 = .ok (.iconst 0, 1) := by decide +kernel
theorem dX12_ways_10 : decode cX12_ways 10 = .ok (.invokevirtual 379, 3) := by decide +kernel
theorem dX12_ways_13 : decode cX12_ways 13 = .ok (.goto 5, 3) := by decide +kernel
theorem dX12_ways_16 : decode cX12_ways 16 = .ok (.bipush (-2), 2) := by decide +kernel
theorem dX12_ways_18 : decode cX12_ways 18 = .ok (.ireturn, 1) := by decide +kernel
noncomputable def vX12_ways : List Cond := .code yX12_ways cX12_ways 1 (some .int) :: (([.methodLink RX12 382 yX12_layWalks, .instanceMethod yX12_layWalks, .selects RX12 yX12_layWalks yX12_layWalks, .initialized RX12, .methodLink RX12 379 yX12_waysFrom, .instanceMethod yX12_waysFrom, .selects RX12 yX12_waysFrom yX12_waysFrom] : List Cond) ++ (vX12_layWalks ++ vX12_waysFrom))
theorem gs_X12_ways : Gd vX12_ways := Gd.cons (by decide +kernel) (Gd.app (Gd.r (by decide +kernel)) (Gd.app gs_X12_layWalks gs_X12_waysFrom))
theorem gg_X12_ways_X12_layWalks : GoodIn vX12_ways (wsV RX12 382 RX12 yX12_layWalks vX12_layWalks) := goodIn_app (goodIn_r _ [1, 2, 3, 4] (by decide +kernel) (by decide +kernel)) (fun w h => ⟨List.mem_cons_of_mem _ (List.mem_append_right _ (List.mem_append_left _ h)), gs_X12_layWalks w h⟩)
theorem gg_X12_ways_X12_waysFrom : GoodIn vX12_ways (wsV RX12 379 RX12 yX12_waysFrom vX12_waysFrom) := goodIn_app (goodIn_r _ [5, 6, 7, 4] (by decide +kernel) (by decide +kernel)) (fun w h => ⟨List.mem_cons_of_mem _ (List.mem_append_right _ (List.mem_append_right _ (h))), gs_X12_waysFrom w h⟩)
set_option maxHeartbeats 4000000 in
set_option maxRecDepth 100000 in
theorem s_X12_ways (l : Launch) (D : va_G) (cs : Nat → ClassId) (ad : Nat → Nat) (kS : kSt) (K : sK) (hKO : KO K) (hj : wJ ad 218) (g : Nat → va_E) (hW : WF (shp ad K) ad cs g) : sI l yX12_ways vX12_ways { frames := 4, cells := 0, slots := 0, locals := 93 } D cs ad kS [.ref (ad 197)] g (fun r g2 => WF (shp ad K) ad cs g2 ∧ (∀ j, j ≠ 197 ∧ j ≠ 204 ∧ j ≠ 205 ∧ j ≠ 212 ∧ j ≠ 213 → g2 j = g j)) := by
  refine Met.startS (cc := cX12_ways) (maxL := 1) (ret := (some .int)) RX12 rfl (by decide) rfl (Nat.le_of_ble_eq_true rfl) ?_
  intro p e s m below meth c ls X Z hP hl
  have hx := X.1
  have hb := X.2.1
  have hS : va_S (wA ad 218) s.heap s.heap [] := va_S.rf
  have hA : ∀ i, i < 218 → wA ad 218 (ad i) := fun i h => ⟨i, h, rfl⟩
  have hfr : ∀ j, j ≠ 197 ∧ j ≠ 204 ∧ j ≠ 205 ∧ j ≠ 212 ∧ j ≠ 213 → g j = g j := fun _ _ => rfl
  have hl : lv_has ls 1 [(0, .ref (ad 197))] := hl
  refine lv_aload_n hx hb dX12_ways_0 rfl (lv_at hl 0 rfl) ?_
  obtain ⟨fsc_4, hgc_4, hOc_4⟩ := hW.obj (i := 197) (by decide) (sh_197 ad K)
  refine s_calli (q := (RX12, TX12, 40)) (As := []) (rest := []) X Z (s_X12_layWalks l D cs ad kS K hKO hj g hW) (cwV 0 X.2.2.2.2.1 gg_X12_ways_X12_layWalks rfl rfl rfl (by decide +kernel) ⟨Nat.le_of_ble_eq_true rfl, Nat.le_of_ble_eq_true rfl⟩) (by decide) hgc_4 rfl hP hA hS.2.1 hS rfl hl.1 rfl (Nat.le_of_ble_eq_true rfl) dX12_ways_1 ⟨Nat.le_of_ble_eq_true rfl, Nat.le_of_ble_eq_true rfl⟩ (fun r_3 g_2 H locs hw_1 hP hS => ?_)
  obtain ⟨hw_1W, hw_1f, hw_1⟩ := hw_1
  have hfr_5 : ∀ j, j ≠ 197 ∧ j ≠ 204 ∧ j ≠ 205 ∧ j ≠ 212 ∧ j ≠ 213 → g_2 j = g j := fun j hj => (hw_1f j (by omega)).trans (hfr j hj)
  refine lv_if_eq (tgt := 16) hx hb dX12_ways_4 (by decide) (fun hc_6 => ?_) (fun hc_6 => ?_)
  · have hhc_6 := n_eq (rfl : r_3.toInt = r_3.toInt) (by decide : (0 : Int32).toInt = 0) hc_6
    refine lv_bipush (v := (-2)) hx hb dX12_ways_16 (by decide) ?_
    exact q_iret X hP hS ⟨hw_1W, hfr_5⟩ dX12_ways_18
  · have hhc_6 := n_ne (rfl : r_3.toInt = r_3.toInt) (by decide : (0 : Int32).toInt = 0) hc_6
    refine lv_aload_n hx hb dX12_ways_7 rfl (lv_at hl 0 rfl) ?_
    refine lv_iconst (v := (-1)) hx hb dX12_ways_8 (by decide) ?_
    refine lv_iconst (v := 0) hx hb dX12_ways_9 (by decide) ?_
    have hqk_7 : ((-1) : Int32).toInt = -1 := by decide
    have hqk_8 : (0 : Int32).toInt = 0 := by decide
    obtain ⟨fsc_12, hgc_12, hOc_12⟩ := hw_1W.obj (i := 197) (by decide) (sh_197 ad K)
    refine s_calli (q := (RX12, TX12, 40)) (As := [.int (-1), .int 0]) (rest := []) X Z (s_X12_waysFrom l D cs ad kS K hKO hj g_2 hw_1W (-1) 0 (by omega) (by omega) (by omega)) (cwV 2 X.2.2.2.2.1 gg_X12_ways_X12_waysFrom rfl rfl rfl (by decide +kernel) ⟨Nat.le_of_ble_eq_true rfl, Nat.le_of_ble_eq_true rfl⟩) (by decide) hgc_12 rfl hP hA hS.2.1 hS rfl hl.1 rfl (Nat.le_of_ble_eq_true rfl) dX12_ways_10 ⟨Nat.le_of_ble_eq_true rfl, Nat.le_of_ble_eq_true rfl⟩ (fun r_11 g_10 H locs hw_9 hP hS => ?_)
    rw [hw_9] at hP
    refine lv_goto (tgt := 18) hx hb dX12_ways_13 (by decide) ?_
    exact q_iret X hP hS ⟨hw_1W, hfr_5⟩ dX12_ways_18

theorem dX12_walks_0 : decode cX12_walks 0 = .ok (.aload_n 0, 1) := by decide +kernel
theorem dX12_walks_1 : decode cX12_walks 1 = .ok (.iload_n 1, 1) := by decide +kernel
theorem dX12_walks_2 : decode cX12_walks 2 = .ok (.invokevirtual 205, 3) := by decide +kernel
theorem dX12_walks_5 : decode cX12_walks 5 = .ok (.ifCond .eq 10, 3) := by decide +kernel
theorem dX12_walks_8 : decode cX12_walks 8 = .ok (.aload_n 0, 1) := by decide +kernel
theorem dX12_walks_9 : decode cX12_walks 9 = .ok (.invokevirtual 382, 3) := by decide +kernel
theorem dX12_walks_12 : decode cX12_walks 12 = .ok (.ifCond .ne 6, 3) := by decide +kernel
theorem dX12_walks_18 : decode cX12_walks 18 = .ok (.iconst (-1), 1) := by decide +kernel
theorem dX12_walks_19 : decode cX12_walks 19 = .ok (.istore_n 2, 1) := by decide +kernel
theorem dX12_walks_20 : decode cX12_walks 20 = .ok (.iconst 0, 1) := by decide +kernel
theorem dX12_walks_21 : decode cX12_walks 21 = .ok (.istore_n 3, 1) := by decide +kernel
theorem dX12_walks_22 : decode cX12_walks 22 = .ok (.iload_n 3, 1) := by decide +kernel
theorem dX12_walks_23 : decode cX12_walks 23 = .ok (.iload_n 1, 1) := by decide +kernel
theorem dX12_walks_24 : decode cX12_walks 24 = .ok (.if_icmp .gt 57, 3) := by decide +kernel
theorem dX12_walks_27 : decode cX12_walks 27 = .ok (.aload_n 0, 1) := by decide +kernel
theorem dX12_walks_28 : decode cX12_walks 28 = .ok (.iload_n 2, 1) := by decide +kernel
theorem dX12_walks_29 : decode cX12_walks 29 = .ok (.iload_n 3, 1) := by decide +kernel
theorem dX12_walks_30 : decode cX12_walks 30 = .ok (.invokevirtual 376, 3) := by decide +kernel
theorem dX12_walks_33 : decode cX12_walks 33 = .ok (.istore 4, 2) := by decide +kernel
theorem dX12_walks_35 : decode cX12_walks 35 = .ok (.iconst 0, 1) := by decide +kernel
theorem dX12_walks_36 : decode cX12_walks 36 = .ok (.istore 5, 2) := by decide +kernel
theorem dX12_walks_38 : decode cX12_walks 38 = .ok (.iload_n 2, 1) := by decide +kernel
theorem dX12_walks_39 : decode cX12_walks 39 = .ok (.iconst (-1), 1) := by decide +kernel
theorem dX12_walks_40 : decode cX12_walks 40 = .ok (.if_icmp .eq 14, 3) := by decide +kernel
theorem dX12_walks_54 : decode cX12_walks 54 = .ok (.aload_n 0, 1) := by decide +kernel
theorem dX12_walks_55 : decode cX12_walks 55 = .ok (.iload 5, 2) := by decide +kernel
theorem dX12_walks_57 : decode cX12_walks 57 = .ok (.iload_n 3, 1) := by decide +kernel
theorem dX12_walks_58 : decode cX12_walks 58 = .ok (.invokevirtual 373, 3) := by decide +kernel
theorem dX12_walks_61 : decode cX12_walks 61 = .ok (.iload 4, 2) := by decide +kernel
theorem dX12_walks_63 : decode cX12_walks 63 = .ok (.if_icmp .eq 9, 3) := by decide +kernel
theorem dX12_walks_66 : decode cX12_walks 66 = .ok (.iinc 5 1, 3) := by decide +kernel
theorem dX12_walks_69 : decode cX12_walks 69 = .ok (.goto (-31), 3) := by decide +kernel
theorem dX12_walks_72 : decode cX12_walks 72 = .ok (.iload 5, 2) := by decide +kernel
theorem dX12_walks_74 : decode cX12_walks 74 = .ok (.istore_n 2, 1) := by decide +kernel
theorem dX12_walks_75 : decode cX12_walks 75 = .ok (.iinc 3 1, 3) := by decide +kernel
theorem dX12_walks_78 : decode cX12_walks 78 = .ok (.goto (-56), 3) := by decide +kernel
theorem dX12_walks_43 : decode cX12_walks 43 = .ok (.iload 5, 2) := by decide +kernel
theorem dX12_walks_45 : decode cX12_walks 45 = .ok (.iload_n 2, 1) := by decide +kernel
theorem dX12_walks_46 : decode cX12_walks 46 = .ok (.isub, 1) := by decide +kernel
theorem dX12_walks_47 : decode cX12_walks 47 = .ok (.invokestatic 273, 3) := by decide +kernel
theorem dX12_walks_50 : decode cX12_walks 50 = .ok (.iconst 1, 1) := by decide +kernel
theorem dX12_walks_51 : decode cX12_walks 51 = .ok (.if_icmp .gt 15, 3) := by decide +kernel
theorem dX12_walks_81 : decode cX12_walks 81 = .ok (.iload_n 2, 1) := by decide +kernel
theorem dX12_walks_82 : decode cX12_walks 82 = .ok (.ireturn, 1) := by decide +kernel
theorem dX12_walks_15 : decode cX12_walks 15 = .ok (.bipush (-2), 2) := by decide +kernel
theorem dX12_walks_17 : decode cX12_walks 17 = .ok (.ireturn, 1) := by decide +kernel
noncomputable def vX12_walks : List Cond := .code yX12_walks cX12_walks 6 (some .int) :: (([.methodLink RX12 205 yX12_isDay, .instanceMethod yX12_isDay, .selects RX12 yX12_isDay yX12_isDay, .initialized RX12, .methodLink RX12 382 yX12_layWalks, .instanceMethod yX12_layWalks, .selects RX12 yX12_layWalks yX12_layWalks, .methodLink RX12 376 yX12_leastFrom, .instanceMethod yX12_leastFrom, .selects RX12 yX12_leastFrom yX12_leastFrom, .methodLink RX12 373 yX12_struckFrom, .instanceMethod yX12_struckFrom, .selects RX12 yX12_struckFrom yX12_struckFrom, .methodLink RX12 273 Lib.Math.abs.name, .static Lib.Math.abs.name, .initialized "java/lang/Math", .code Lib.Math.abs.name Lib.Math.abs.code 1 (some .int)] : List Cond) ++ (vX12_isDay ++ (vX12_layWalks ++ (vX12_leastFrom ++ vX12_struckFrom))))
theorem gs_X12_walks : Gd vX12_walks := Gd.cons (by decide +kernel) (Gd.app (Gd.r (by decide +kernel)) (Gd.app gs_X12_isDay (Gd.app gs_X12_layWalks (Gd.app gs_X12_leastFrom gs_X12_struckFrom))))
theorem gg_X12_walks_X12_isDay : GoodIn vX12_walks (wsV RX12 205 RX12 yX12_isDay vX12_isDay) := goodIn_app (goodIn_r _ [1, 2, 3, 4] (by decide +kernel) (by decide +kernel)) (fun w h => ⟨List.mem_cons_of_mem _ (List.mem_append_right _ (List.mem_append_left _ h)), gs_X12_isDay w h⟩)
theorem gg_X12_walks_X12_layWalks : GoodIn vX12_walks (wsV RX12 382 RX12 yX12_layWalks vX12_layWalks) := goodIn_app (goodIn_r _ [5, 6, 7, 4] (by decide +kernel) (by decide +kernel)) (fun w h => ⟨List.mem_cons_of_mem _ (List.mem_append_right _ (List.mem_append_right _ (List.mem_append_left _ h))), gs_X12_layWalks w h⟩)
theorem gg_X12_walks_X12_leastFrom : GoodIn vX12_walks (wsV RX12 376 RX12 yX12_leastFrom vX12_leastFrom) := goodIn_app (goodIn_r _ [8, 9, 10, 4] (by decide +kernel) (by decide +kernel)) (fun w h => ⟨List.mem_cons_of_mem _ (List.mem_append_right _ (List.mem_append_right _ (List.mem_append_right _ (List.mem_append_left _ h)))), gs_X12_leastFrom w h⟩)
theorem gg_X12_walks_X12_struckFrom : GoodIn vX12_walks (wsV RX12 373 RX12 yX12_struckFrom vX12_struckFrom) := goodIn_app (goodIn_r _ [11, 12, 13, 4] (by decide +kernel) (by decide +kernel)) (fun w h => ⟨List.mem_cons_of_mem _ (List.mem_append_right _ (List.mem_append_right _ (List.mem_append_right _ (List.mem_append_right _ (h))))), gs_X12_struckFrom w h⟩)
set_option maxHeartbeats 4000000 in
set_option maxRecDepth 100000 in
theorem s_X12_walks (l : Launch) (D : va_G) (cs : Nat → ClassId) (ad : Nat → Nat) (kS : kSt) (K : sK) (hKO : KO K) (hj : wJ ad 218) (g : Nat → va_E) (hW : WF (shp ad K) ad cs g) (dy : Int32) : sI l yX12_walks vX12_walks { frames := 4, cells := 0, slots := 0, locals := 93 } D cs ad kS [.ref (ad 197), .int dy] g (fun r g2 => WF (shp ad K) ad cs g2 ∧ (∀ j, j ≠ 197 ∧ j ≠ 204 ∧ j ≠ 205 ∧ j ≠ 212 ∧ j ≠ 213 → g2 j = g j)) := by
  refine Met.startS (cc := cX12_walks) (maxL := 6) (ret := (some .int)) RX12 rfl (by decide) rfl (Nat.le_of_ble_eq_true rfl) ?_
  intro p e s m below meth c ls X Z hP hl
  have hx := X.1
  have hb := X.2.1
  have hS : va_S (wA ad 218) s.heap s.heap [] := va_S.rf
  have hA : ∀ i, i < 218 → wA ad 218 (ad i) := fun i h => ⟨i, h, rfl⟩
  have hfr : ∀ j, j ≠ 197 ∧ j ≠ 204 ∧ j ≠ 205 ∧ j ≠ 212 ∧ j ≠ 213 → g j = g j := fun _ _ => rfl
  have hl : lv_has ls 6 [(0, .ref (ad 197)), (1, .int dy)] := hl
  refine lv_aload_n hx hb dX12_walks_0 rfl (lv_at hl 0 rfl) ?_
  refine lv_iload_n hx hb dX12_walks_1 rfl (lv_at hl 1 rfl) ?_
  obtain ⟨fsc_4, hgc_4, hOc_4⟩ := hW.obj (i := 197) (by decide) (sh_197 ad K)
  refine s_calli (q := (RX12, TX12, 40)) (As := [.int dy]) (rest := []) X Z (s_X12_isDay l D cs ad kS K hKO hj g hW dy) (cwV 1 X.2.2.2.2.1 gg_X12_walks_X12_isDay rfl rfl rfl (by decide +kernel) ⟨Nat.le_of_ble_eq_true rfl, Nat.le_of_ble_eq_true rfl⟩) (by decide) hgc_4 rfl hP hA hS.2.1 hS rfl hl.1 rfl (Nat.le_of_ble_eq_true rfl) dX12_walks_2 ⟨Nat.le_of_ble_eq_true rfl, Nat.le_of_ble_eq_true rfl⟩ (fun r_3 g_2 H locs hw_1 hP hS => ?_)
  obtain ⟨hw_1g, hw_1⟩ := hw_1
  rw [hw_1g] at hP
  have HJ15 : ∀ (G15 : Nat → va_E) (H : Heap) (locs : List Loc) (ls : Array Slot), WF (shp ad K) ad cs G15 → (∀ j, j ≠ 197 ∧ j ≠ 204 ∧ j ≠ 205 ∧ j ≠ 212 ∧ j ≠ 213 → G15 j = g j) → va_P D vwCl (wL ad G15 218) H → va_S (wA ad 218) s.heap H locs → lv_has ls 6 [] → W p l e ({ frames := 4, cells := 0, slots := 0, locals := 93 } : Room) s m ([.ref (ad 197), .int dy] : List Value).toArray below meth c H locs 0 0 (MQ below (qI D ad 218 (fun r g2 => WF (shp ad K) ad cs g2 ∧ (∀ j, j ≠ 197 ∧ j ≠ 204 ∧ j ≠ 205 ∧ j ≠ 212 ∧ j ≠ 213 → g2 j = g j))) ([.ref (ad 197), .int dy] : List Value).toArray s 0 0 (wA ad 218)) (F0 m 15 ls []) := by
    intro G15 H locs ls hW15 hfr15 hP hS hl
    refine lv_bipush (v := (-2)) hx hb dX12_walks_15 (by decide) ?_
    exact q_iret X hP hS ⟨hW15, hfr15⟩ dX12_walks_17
  refine lv_if_eq (tgt := 15) hx hb dX12_walks_5 (by decide) (fun hc_5 => ?_) (fun hc_5 => ?_)
  · have hhc_5 := n_eq (rfl : r_3.toInt = r_3.toInt) (by decide : (0 : Int32).toInt = 0) hc_5
    exact HJ15 g _ _ ls hW hfr hP hS (lv_sub hl [] rfl)
  · have hhc_5 := n_ne (rfl : r_3.toInt = r_3.toInt) (by decide : (0 : Int32).toInt = 0) hc_5
    refine lv_aload_n hx hb dX12_walks_8 rfl (lv_at hl 0 rfl) ?_
    refine s_calli (q := (RX12, TX12, 40)) (As := []) (rest := []) X Z (s_X12_layWalks l D cs ad kS K hKO hj g hW) (cwV 0 X.2.2.2.2.1 gg_X12_walks_X12_layWalks rfl rfl rfl (by decide +kernel) ⟨Nat.le_of_ble_eq_true rfl, Nat.le_of_ble_eq_true rfl⟩) (by decide) hgc_4 rfl hP hA hS.2.1 hS rfl hl.1 rfl (Nat.le_of_ble_eq_true rfl) dX12_walks_9 ⟨Nat.le_of_ble_eq_true rfl, Nat.le_of_ble_eq_true rfl⟩ (fun r_8 g_7 H locs hw_6 hP hS => ?_)
    obtain ⟨hw_6W, hw_6f, hw_6⟩ := hw_6
    have hfr_9 : ∀ j, j ≠ 197 ∧ j ≠ 204 ∧ j ≠ 205 ∧ j ≠ 212 ∧ j ≠ 213 → g_7 j = g j := fun j hj => (hw_6f j (by omega)).trans (hfr j hj)
    refine lv_if_ne (tgt := 18) hx hb dX12_walks_12 (by decide) (fun hc_10 => ?_) (fun hc_10 => ?_)
    · have hhc_10 := n_ne (rfl : r_8.toInt = r_8.toInt) (by decide : (0 : Int32).toInt = 0) hc_10
      refine lv_iconst (v := (-1)) hx hb dX12_walks_18 (by decide) ?_
      refine lv_istore_n (lv' := [(2, .int (-1)), (0, .ref (ad 197)), (1, .int dy)]) hx hb dX12_walks_19 rfl hl (by decide) rfl (fun ls hl => ?_)
      refine lv_iconst (v := 0) hx hb dX12_walks_20 (by decide) ?_
      refine lv_istore_n (lv' := [(3, .int 0), (2, .int (-1)), (0, .ref (ad 197)), (1, .int dy)]) hx hb dX12_walks_21 rfl hl (by decide) rfl (fun ls hl => ?_)
      have HL22 : ∀ (n22 : Nat) (v22_3 : Int32) (v22_2 : Int32) (G22 : Nat → va_E) (H : Heap) (locs : List Loc) (ls : Array Slot), (14 - v22_3.toInt).toNat < n22 → (0 ≤ v22_3.toInt ∧ v22_3.toInt ≤ 14) → ((-1) ≤ v22_2.toInt ∧ v22_2.toInt ≤ 4) → 0 < gA G22 198 4 → (v22_2.toInt = -1 ∨ (0 ≤ v22_2.toInt ∧ v22_2.toInt < gA G22 198 4)) → WF (shp ad K) ad cs G22 → (∀ j, j ≠ 197 ∧ j ≠ 204 ∧ j ≠ 205 ∧ j ≠ 212 ∧ j ≠ 213 → G22 j = g j) → va_P D vwCl (wL ad G22 218) H → va_S (wA ad 218) s.heap H locs → lv_has ls 6 [(3, .int v22_3), (2, .int v22_2), (0, .ref (ad 197)), (1, .int dy)] → W p l e ({ frames := 4, cells := 0, slots := 0, locals := 93 } : Room) s m ([.ref (ad 197), .int dy] : List Value).toArray below meth c H locs 0 0 (MQ below (qI D ad 218 (fun r g2 => WF (shp ad K) ad cs g2 ∧ (∀ j, j ≠ 197 ∧ j ≠ 204 ∧ j ≠ 205 ∧ j ≠ 212 ∧ j ≠ 213 → g2 j = g j))) ([.ref (ad 197), .int dy] : List Value).toArray s 0 0 (wA ad 218)) (F0 m 22 ls []) := by
        intro n22
        induction n22 with
        | zero =>
          intro v22_3 v22_2 G22 H locs ls hm22 hv22_0 hv22_1 he22_0 he22_1 hW22 hfr22 hP hS hl
          exact absurd hm22 (Nat.not_lt_zero _)
        | succ n22 ih22 =>
          intro v22_3 v22_2 G22 H locs ls hm22 hv22_0 hv22_1 he22_0 he22_1 hW22 hfr22 hP hS hl
          refine lv_iload_n hx hb dX12_walks_22 rfl (lv_at hl 0 rfl) ?_
          refine lv_iload_n hx hb dX12_walks_23 rfl (lv_at hl 3 rfl) ?_
          refine lv_icmp_gt (tgt := 81) hx hb dX12_walks_24 (by decide) (fun hc_11 => ?_) (fun hc_11 => ?_)
          · have hhc_11 := n_lt (rfl : dy.toInt = dy.toInt) (rfl : v22_3.toInt = v22_3.toInt) hc_11
            refine lv_iload_n hx hb dX12_walks_81 rfl (lv_at hl 1 rfl) ?_
            exact q_iret X hP hS ⟨hW22, hfr22⟩ dX12_walks_82
          · have hhc_11 := n_nlt (rfl : dy.toInt = dy.toInt) (rfl : v22_3.toInt = v22_3.toInt) hc_11
            refine lv_aload_n hx hb dX12_walks_27 rfl (lv_at hl 2 rfl) ?_
            refine lv_iload_n hx hb dX12_walks_28 rfl (lv_at hl 1 rfl) ?_
            refine lv_iload_n hx hb dX12_walks_29 rfl (lv_at hl 0 rfl) ?_
            obtain ⟨fsc_15, hgc_15, hOc_15⟩ := hW22.obj (i := 197) (by decide) (sh_197 ad K)
            refine s_calli (q := (RX12, TX12, 40)) (As := [.int v22_2, .int v22_3]) (rest := []) X Z (s_X12_leastFrom l D cs ad kS K hKO hj G22 hW22 v22_2 v22_3 (by omega) (by omega) (by omega)) (cwV 2 X.2.2.2.2.1 gg_X12_walks_X12_leastFrom rfl rfl rfl (by decide +kernel) ⟨Nat.le_of_ble_eq_true rfl, Nat.le_of_ble_eq_true rfl⟩) (by decide) hgc_15 rfl hP hA hS.2.1 hS rfl hl.1 rfl (Nat.le_of_ble_eq_true rfl) dX12_walks_30 ⟨Nat.le_of_ble_eq_true rfl, Nat.le_of_ble_eq_true rfl⟩ (fun r_14 g_13 H locs hw_12 hP hS => ?_)
            obtain ⟨hw_12g, hw_12⟩ := hw_12
            rw [hw_12g] at hP
            obtain ⟨hlr, kw, hk0, hk1, hk2, hk3⟩ := hw_12
            obtain ⟨fc_16, hgc_16, hFc_16⟩ := hW22.arr (i := 198) (by decide) (sh_198 ad K)
            have hnE5 : gA G22 198 4 ≤ 5 := by rw [gA_of hgc_16]; have h8 := hFc_16 4; unfold wq at h8; omega
            refine lv_istore (lv' := [(4, .int r_14), (3, .int v22_3), (2, .int v22_2), (0, .ref (ad 197)), (1, .int dy)]) hx hb dX12_walks_33 hl (by decide) rfl (fun ls hl => ?_)
            refine lv_iconst (v := 0) hx hb dX12_walks_35 (by decide) ?_
            refine lv_istore (lv' := [(5, .int 0), (4, .int r_14), (3, .int v22_3), (2, .int v22_2), (0, .ref (ad 197)), (1, .int dy)]) hx hb dX12_walks_36 hl (by decide) rfl (fun ls hl => ?_)
            have HL38 : ∀ (n38 : Nat) (v38_5 : Int32) (G38 : Nat → va_E) (H : Heap) (locs : List Loc) (ls : Array Slot), (4 - v38_5.toInt).toNat < n38 → (0 ≤ v38_5.toInt ∧ v38_5.toInt ≤ 4) → v38_5.toInt ≤ kw → G38 = G22 → WF (shp ad K) ad cs G38 → (∀ j, j ≠ 197 ∧ j ≠ 204 ∧ j ≠ 205 ∧ j ≠ 212 ∧ j ≠ 213 → G38 j = g j) → va_P D vwCl (wL ad G38 218) H → va_S (wA ad 218) s.heap H locs → lv_has ls 6 [(5, .int v38_5), (4, .int r_14), (3, .int v22_3), (2, .int v22_2), (0, .ref (ad 197)), (1, .int dy)] → W p l e ({ frames := 4, cells := 0, slots := 0, locals := 93 } : Room) s m ([.ref (ad 197), .int dy] : List Value).toArray below meth c H locs 0 0 (MQ below (qI D ad 218 (fun r g2 => WF (shp ad K) ad cs g2 ∧ (∀ j, j ≠ 197 ∧ j ≠ 204 ∧ j ≠ 205 ∧ j ≠ 212 ∧ j ≠ 213 → g2 j = g j))) ([.ref (ad 197), .int dy] : List Value).toArray s 0 0 (wA ad 218)) (F0 m 38 ls []) := by
              intro n38
              induction n38 with
              | zero =>
                intro v38_5 G38 H locs ls hm38 hv38_0 he38_0 he38_1 hW38 hfr38 hP hS hl
                exact absurd hm38 (Nat.not_lt_zero _)
              | succ n38 ih38 =>
                intro v38_5 G38 H locs ls hm38 hv38_0 he38_0 he38_1 hW38 hfr38 hP hS hl
                refine lv_iload_n hx hb dX12_walks_38 rfl (lv_at hl 3 rfl) ?_
                refine lv_iconst (v := (-1)) hx hb dX12_walks_39 (by decide) ?_
                have HJ66 : ∀ (G66 : Nat → va_E) (H : Heap) (locs : List Loc) (ls : Array Slot), v38_5.toInt ≠ kw → G66 = G22 → WF (shp ad K) ad cs G66 → (∀ j, j ≠ 197 ∧ j ≠ 204 ∧ j ≠ 205 ∧ j ≠ 212 ∧ j ≠ 213 → G66 j = g j) → va_P D vwCl (wL ad G66 218) H → va_S (wA ad 218) s.heap H locs → lv_has ls 6 [(5, .int v38_5), (4, .int r_14), (3, .int v22_3), (2, .int v22_2), (0, .ref (ad 197)), (1, .int dy)] → W p l e ({ frames := 4, cells := 0, slots := 0, locals := 93 } : Room) s m ([.ref (ad 197), .int dy] : List Value).toArray below meth c H locs 0 0 (MQ below (qI D ad 218 (fun r g2 => WF (shp ad K) ad cs g2 ∧ (∀ j, j ≠ 197 ∧ j ≠ 204 ∧ j ≠ 205 ∧ j ≠ 212 ∧ j ≠ 213 → g2 j = g j))) ([.ref (ad 197), .int dy] : List Value).toArray s 0 0 (wA ad 218)) (F0 m 66 ls []) := by
                  intro G66 H locs ls he66_0 he66_1 hW66 hfr66 hP hS hl
                  obtain ⟨x_17, ex_17⟩ : ∃ y : Int32, y = v38_5 + 1 := ⟨_, rfl⟩
                  have hx_17 : x_17.toInt = v38_5.toInt + 1 := n_add rfl (by decide : (1 : Int32).toInt = 1) ex_17 (by omega) (by omega)
                  refine lv_iinc (v := x_17) (lv' := [(5, .int x_17), (4, .int r_14), (3, .int v22_3), (2, .int v22_2), (0, .ref (ad 197)), (1, .int dy)]) hx hb dX12_walks_66 hl (k := 0) rfl (by rw [ex_17]; rfl) (by decide) rfl (fun ls hl => ?_)
                  refine lv_goto (tgt := 38) hx hb dX12_walks_69 (by decide) ?_
                  exact ih38 x_17 G66 _ _ ls (by omega) (by omega) (by omega) he66_1 hW66 hfr66 hP hS (lv_sub hl [0, 1, 2, 3, 4, 5] rfl)
                have HJ54 : ∀ (G54 : Nat → va_E) (H : Heap) (locs : List Loc) (ls : Array Slot), G54 = G22 → WF (shp ad K) ad cs G54 → (∀ j, j ≠ 197 ∧ j ≠ 204 ∧ j ≠ 205 ∧ j ≠ 212 ∧ j ≠ 213 → G54 j = g j) → va_P D vwCl (wL ad G54 218) H → va_S (wA ad 218) s.heap H locs → lv_has ls 6 [(5, .int v38_5), (4, .int r_14), (3, .int v22_3), (2, .int v22_2), (0, .ref (ad 197)), (1, .int dy)] → W p l e ({ frames := 4, cells := 0, slots := 0, locals := 93 } : Room) s m ([.ref (ad 197), .int dy] : List Value).toArray below meth c H locs 0 0 (MQ below (qI D ad 218 (fun r g2 => WF (shp ad K) ad cs g2 ∧ (∀ j, j ≠ 197 ∧ j ≠ 204 ∧ j ≠ 205 ∧ j ≠ 212 ∧ j ≠ 213 → g2 j = g j))) ([.ref (ad 197), .int dy] : List Value).toArray s 0 0 (wA ad 218)) (F0 m 54 ls []) := by
                  intro G54 H locs ls he54_0 hW54 hfr54 hP hS hl
                  refine lv_aload_n hx hb dX12_walks_54 rfl (lv_at hl 4 rfl) ?_
                  refine lv_iload hx hb dX12_walks_55 (lv_at hl 0 rfl) ?_
                  refine lv_iload_n hx hb dX12_walks_57 rfl (lv_at hl 2 rfl) ?_
                  obtain ⟨fsc_21, hgc_21, hOc_21⟩ := hW54.obj (i := 197) (by decide) (sh_197 ad K)
                  refine s_calli (q := (RX12, TX12, 40)) (As := [.int v38_5, .int v22_3]) (rest := []) X Z (s_X12_struckFrom l D cs ad kS K hKO hj G54 hW54 v38_5 v22_3 (by omega) (by omega)) (cwV 2 X.2.2.2.2.1 gg_X12_walks_X12_struckFrom rfl rfl rfl (by decide +kernel) ⟨Nat.le_of_ble_eq_true rfl, Nat.le_of_ble_eq_true rfl⟩) (by decide) hgc_21 rfl hP hA hS.2.1 hS rfl hl.1 rfl (Nat.le_of_ble_eq_true rfl) dX12_walks_58 ⟨Nat.le_of_ble_eq_true rfl, Nat.le_of_ble_eq_true rfl⟩ (fun r_20 g_19 H locs hw_18 hP hS => ?_)
                  obtain ⟨hw_18g, hw_18⟩ := hw_18
                  rw [hw_18g] at hP
                  refine lv_iload hx hb dX12_walks_61 (lv_at hl 1 rfl) ?_
                  refine lv_icmp_eq (tgt := 72) hx hb dX12_walks_63 (by decide) (fun hc_22 => ?_) (fun hc_22 => ?_)
                  · have hhc_22 := n_eq (rfl : r_20.toInt = r_20.toInt) (rfl : r_14.toInt = r_14.toInt) hc_22
                    refine lv_iload hx hb dX12_walks_72 (lv_at hl 0 rfl) ?_
                    refine lv_istore_n (lv' := [(2, .int v38_5), (5, .int v38_5), (4, .int r_14), (3, .int v22_3), (0, .ref (ad 197)), (1, .int dy)]) hx hb dX12_walks_74 rfl hl (by decide) rfl (fun ls hl => ?_)
                    obtain ⟨x_23, ex_23⟩ : ∃ y : Int32, y = v22_3 + 1 := ⟨_, rfl⟩
                    have hx_23 : x_23.toInt = v22_3.toInt + 1 := n_add rfl (by decide : (1 : Int32).toInt = 1) ex_23 (by omega) (by omega)
                    refine lv_iinc (v := x_23) (lv' := [(3, .int x_23), (2, .int v38_5), (5, .int v38_5), (4, .int r_14), (0, .ref (ad 197)), (1, .int dy)]) hx hb dX12_walks_75 hl (k := 3) rfl (by rw [ex_23]; rfl) (by decide) rfl (fun ls hl => ?_)
                    refine lv_goto (tgt := 22) hx hb dX12_walks_78 (by decide) ?_
                    exact ih22 x_23 v38_5 G54 _ _ ls (by omega) (by omega) (by omega) (by rw [he54_0]; omega) (by rw [he54_0]; omega) hW54 hfr54 hP hS (lv_sub hl [0, 1, 4, 5] rfl)
                  · have hhc_22 := n_ne (rfl : r_20.toInt = r_20.toInt) (rfl : r_14.toInt = r_14.toInt) hc_22
                    exact HJ66 G54 _ _ ls (by first | omega | (intro q; have h9 := hw_18.1; rw [he54_0, q, hk3] at h9; omega)) he54_0 hW54 hfr54 hP hS (lv_sub hl [0, 1, 2, 3, 4, 5] rfl)
                refine lv_icmp_eq (tgt := 54) hx hb dX12_walks_40 (by decide) (fun hc_24 => ?_) (fun hc_24 => ?_)
                · have hhc_24 := n_eq (rfl : v22_2.toInt = v22_2.toInt) (by decide : (-1 : Int32).toInt = -1) hc_24
                  exact HJ54 G38 _ _ ls he38_1 hW38 hfr38 hP hS (lv_sub hl [0, 1, 2, 3, 4, 5] rfl)
                · have hhc_24 := n_ne (rfl : v22_2.toInt = v22_2.toInt) (by decide : (-1 : Int32).toInt = -1) hc_24
                  refine lv_iload hx hb dX12_walks_43 (lv_at hl 0 rfl) ?_
                  refine lv_iload_n hx hb dX12_walks_45 rfl (lv_at hl 3 rfl) ?_
                  refine lv_isub hx hb dX12_walks_46 ?_
                  refine lv_topi (fun z_25 ez_25 => ?_)
                  have hz_25 : z_25.toInt = v38_5.toInt - v22_2.toInt := n_sub (rfl : v38_5.toInt = v38_5.toInt) (rfl : v22_2.toInt = v22_2.toInt) ez_25 (by omega) (by omega)
                  refine va_mabs hx hb (X.2.2.2.1.trans hl.1.symm) X.2.2.2.2.2.1 (X.2.2.2.2.1 _ (List.mem_of_getElem? (i := 14) rfl)) (X.2.2.2.2.1 _ (List.mem_of_getElem? (i := 15) rfl)) (X.2.2.2.2.1 _ (List.mem_of_getElem? (i := 16) rfl)) (X.2.2.2.2.1 _ (List.mem_of_getElem? (i := 17) rfl)) (Nat.le_of_ble_eq_true rfl) (Nat.le_of_ble_eq_true rfl) (Nat.le_of_ble_eq_true rfl) (Nat.le_of_ble_eq_true rfl) dX12_walks_47 ?_
                  refine lv_topi (fun z_26 ez_26 => ?_)
                  have hz_26 := n_abs (rfl : z_25.toInt = z_25.toInt) ez_26 (by omega)
                  refine lv_iconst (v := 1) hx hb dX12_walks_50 (by decide) ?_
                  refine lv_icmp_gt (tgt := 66) hx hb dX12_walks_51 (by decide) (fun hc_27 => ?_) (fun hc_27 => ?_)
                  · have hhc_27 := n_lt (by decide : (1 : Int32).toInt = 1) (rfl : z_26.toInt = z_26.toInt) hc_27
                    exact HJ66 G38 _ _ ls (by first | omega | (intro q; have h9 := hw_18.1; rw [he38_1, q, hk3] at h9; omega)) he38_1 hW38 hfr38 hP hS (lv_sub hl [0, 1, 2, 3, 4, 5] rfl)
                  · have hhc_27 := n_nlt (by decide : (1 : Int32).toInt = 1) (rfl : z_26.toInt = z_26.toInt) hc_27
                    exact HJ54 G38 _ _ ls he38_1 hW38 hfr38 hP hS (lv_sub hl [0, 1, 2, 3, 4, 5] rfl)
            have hiv38_5 : (0 : Int32).toInt = 0 := by decide
            exact HL38 _ 0 G22 _ _ ls (Nat.lt_succ_self _) (by omega) (by omega) rfl hW22 hfr22 hP hS (lv_sub hl [0, 1, 2, 3, 4, 5] rfl)
      have hiv22_3 : (0 : Int32).toInt = 0 := by decide
      have hiv22_2 : ((-1) : Int32).toInt = -1 := by decide
      exact HL22 _ 0 (-1) g_7 _ _ ls (Nat.lt_succ_self _) (by omega) (by omega) (by omega) (by omega) hw_6W hfr_9 hP hS (lv_sub hl [0, 1, 2, 3] rfl)
    · have hhc_10 := n_eq (rfl : r_8.toInt = r_8.toInt) (by decide : (0 : Int32).toInt = 0) hc_10
      exact HJ15 g_7 _ _ ls hw_6W hfr_9 hP hS (lv_sub hl [] rfl)
