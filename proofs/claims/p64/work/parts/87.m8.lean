theorem dX12_goWarm_0 : decode cX12_goWarm 0 = .ok (.iconst 0, 1) := by decide +kernel
theorem dX12_goWarm_1 : decode cX12_goWarm 1 = .ok (.istore_n 2, 1) := by decide +kernel
theorem dX12_goWarm_2 : decode cX12_goWarm 2 = .ok (.iload_n 2, 1) := by decide +kernel
theorem dX12_goWarm_3 : decode cX12_goWarm 3 = .ok (.bipush 14, 2) := by decide +kernel
theorem dX12_goWarm_5 : decode cX12_goWarm 5 = .ok (.if_icmp .gt 16, 3) := by decide +kernel
theorem dX12_goWarm_8 : decode cX12_goWarm 8 = .ok (.aload_n 0, 1) := by decide +kernel
theorem dX12_goWarm_9 : decode cX12_goWarm 9 = .ok (.getfield 53, 3) := by decide +kernel
theorem dX12_goWarm_12 : decode cX12_goWarm 12 = .ok (.iload_n 2, 1) := by decide +kernel
theorem dX12_goWarm_13 : decode cX12_goWarm 13 = .ok (.lconst 0, 1) := by decide +kernel
theorem dX12_goWarm_14 : decode cX12_goWarm 14 = .ok (.lastore, 1) := by decide +kernel
theorem dX12_goWarm_15 : decode cX12_goWarm 15 = .ok (.iinc 2 1, 3) := by decide +kernel
theorem dX12_goWarm_18 : decode cX12_goWarm 18 = .ok (.goto (-16), 3) := by decide +kernel
theorem dX12_goWarm_21 : decode cX12_goWarm 21 = .ok (.iconst 0, 1) := by decide +kernel
theorem dX12_goWarm_22 : decode cX12_goWarm 22 = .ok (.istore_n 2, 1) := by decide +kernel
theorem dX12_goWarm_23 : decode cX12_goWarm 23 = .ok (.iload_n 2, 1) := by decide +kernel
theorem dX12_goWarm_24 : decode cX12_goWarm 24 = .ok (.bipush 14, 2) := by decide +kernel
theorem dX12_goWarm_26 : decode cX12_goWarm 26 = .ok (.if_icmp .gt 94, 3) := by decide +kernel
theorem dX12_goWarm_29 : decode cX12_goWarm 29 = .ok (.aload_n 0, 1) := by decide +kernel
theorem dX12_goWarm_30 : decode cX12_goWarm 30 = .ok (.getfield 49, 3) := by decide +kernel
theorem dX12_goWarm_33 : decode cX12_goWarm 33 = .ok (.iload_n 2, 1) := by decide +kernel
theorem dX12_goWarm_34 : decode cX12_goWarm 34 = .ok (.laload, 1) := by decide +kernel
theorem dX12_goWarm_35 : decode cX12_goWarm 35 = .ok (.lconst 0, 1) := by decide +kernel
theorem dX12_goWarm_36 : decode cX12_goWarm 36 = .ok (.lcmp, 1) := by decide +kernel
theorem dX12_goWarm_37 : decode cX12_goWarm 37 = .ok (.ifCond .ne 6, 3) := by decide +kernel
theorem dX12_goWarm_40 : decode cX12_goWarm 40 = .ok (.goto 74, 3) := by decide +kernel
theorem dX12_goWarm_43 : decode cX12_goWarm 43 = .ok (.aload_n 0, 1) := by decide +kernel
theorem dX12_goWarm_44 : decode cX12_goWarm 44 = .ok (.getfield 53, 3) := by decide +kernel
theorem dX12_goWarm_47 : decode cX12_goWarm 47 = .ok (.iload_n 2, 1) := by decide +kernel
theorem dX12_goWarm_48 : decode cX12_goWarm 48 = .ok (.dup2, 1) := by decide +kernel
theorem dX12_goWarm_49 : decode cX12_goWarm 49 = .ok (.laload, 1) := by decide +kernel
theorem dX12_goWarm_50 : decode cX12_goWarm 50 = .ok (.aload_n 0, 1) := by decide +kernel
theorem dX12_goWarm_51 : decode cX12_goWarm 51 = .ok (.getfield 49, 3) := by decide +kernel
theorem dX12_goWarm_54 : decode cX12_goWarm 54 = .ok (.iload_n 2, 1) := by decide +kernel
theorem dX12_goWarm_55 : decode cX12_goWarm 55 = .ok (.laload, 1) := by decide +kernel
theorem dX12_goWarm_56 : decode cX12_goWarm 56 = .ok (.aload_n 0, 1) := by decide +kernel
theorem dX12_goWarm_57 : decode cX12_goWarm 57 = .ok (.iload_n 1, 1) := by decide +kernel
theorem dX12_goWarm_58 : decode cX12_goWarm 58 = .ok (.invokevirtual 350, 3) := by decide +kernel
theorem dX12_goWarm_61 : decode cX12_goWarm 61 = .ok (.ifCond .eq 15, 3) := by decide +kernel
theorem dX12_goWarm_64 : decode cX12_goWarm 64 = .ok (.bipush 10, 2) := by decide +kernel
theorem dX12_goWarm_66 : decode cX12_goWarm 66 = .ok (.aload_n 0, 1) := by decide +kernel
theorem dX12_goWarm_67 : decode cX12_goWarm 67 = .ok (.getfield 9, 3) := by decide +kernel
theorem dX12_goWarm_70 : decode cX12_goWarm 70 = .ok (.iconst 2, 1) := by decide +kernel
theorem dX12_goWarm_71 : decode cX12_goWarm 71 = .ok (.iaload, 1) := by decide +kernel
theorem dX12_goWarm_72 : decode cX12_goWarm 72 = .ok (.isub, 1) := by decide +kernel
theorem dX12_goWarm_73 : decode cX12_goWarm 73 = .ok (.goto 4, 3) := by decide +kernel
theorem dX12_goWarm_76 : decode cX12_goWarm 76 = .ok (.iconst 1, 1) := by decide +kernel
theorem dX12_goWarm_77 : decode cX12_goWarm 77 = .ok (.i2l, 1) := by decide +kernel
theorem dX12_goWarm_78 : decode cX12_goWarm 78 = .ok (.lmul, 1) := by decide +kernel
theorem dX12_goWarm_79 : decode cX12_goWarm 79 = .ok (.ladd, 1) := by decide +kernel
theorem dX12_goWarm_80 : decode cX12_goWarm 80 = .ok (.lastore, 1) := by decide +kernel
theorem dX12_goWarm_81 : decode cX12_goWarm 81 = .ok (.aload_n 0, 1) := by decide +kernel
theorem dX12_goWarm_82 : decode cX12_goWarm 82 = .ok (.iload_n 1, 1) := by decide +kernel
theorem dX12_goWarm_83 : decode cX12_goWarm 83 = .ok (.invokevirtual 350, 3) := by decide +kernel
theorem dX12_goWarm_86 : decode cX12_goWarm 86 = .ok (.ifCond .eq 28, 3) := by decide +kernel
theorem dX12_goWarm_89 : decode cX12_goWarm 89 = .ok (.aload_n 0, 1) := by decide +kernel
theorem dX12_goWarm_90 : decode cX12_goWarm 90 = .ok (.getfield 53, 3) := by decide +kernel
theorem dX12_goWarm_93 : decode cX12_goWarm 93 = .ok (.iload_n 2, 1) := by decide +kernel
theorem dX12_goWarm_94 : decode cX12_goWarm 94 = .ok (.iconst 1, 1) := by decide +kernel
theorem dX12_goWarm_95 : decode cX12_goWarm 95 = .ok (.iadd, 1) := by decide +kernel
theorem dX12_goWarm_96 : decode cX12_goWarm 96 = .ok (.dup2, 1) := by decide +kernel
theorem dX12_goWarm_97 : decode cX12_goWarm 97 = .ok (.laload, 1) := by decide +kernel
theorem dX12_goWarm_98 : decode cX12_goWarm 98 = .ok (.aload_n 0, 1) := by decide +kernel
theorem dX12_goWarm_99 : decode cX12_goWarm 99 = .ok (.getfield 49, 3) := by decide +kernel
theorem dX12_goWarm_102 : decode cX12_goWarm 102 = .ok (.iload_n 2, 1) := by decide +kernel
theorem dX12_goWarm_103 : decode cX12_goWarm 103 = .ok (.laload, 1) := by decide +kernel
theorem dX12_goWarm_104 : decode cX12_goWarm 104 = .ok (.aload_n 0, 1) := by decide +kernel
theorem dX12_goWarm_105 : decode cX12_goWarm 105 = .ok (.getfield 9, 3) := by decide +kernel
theorem dX12_goWarm_108 : decode cX12_goWarm 108 = .ok (.iconst 2, 1) := by decide +kernel
theorem dX12_goWarm_109 : decode cX12_goWarm 109 = .ok (.iaload, 1) := by decide +kernel
theorem dX12_goWarm_110 : decode cX12_goWarm 110 = .ok (.i2l, 1) := by decide +kernel
theorem dX12_goWarm_111 : decode cX12_goWarm 111 = .ok (.lmul, 1) := by decide +kernel
theorem dX12_goWarm_112 : decode cX12_goWarm 112 = .ok (.ladd, 1) := by decide +kernel
theorem dX12_goWarm_113 : decode cX12_goWarm 113 = .ok (.lastore, 1) := by decide +kernel
theorem dX12_goWarm_114 : decode cX12_goWarm 114 = .ok (.iinc 2 1, 3) := by decide +kernel
theorem dX12_goWarm_117 : decode cX12_goWarm 117 = .ok (.goto (-94), 3) := by decide +kernel
theorem dX12_goWarm_120 : decode cX12_goWarm 120 = .ok (.return_, 1) := by decide +kernel
noncomputable def vX12_goWarm : List Cond := .code yX12_goWarm cX12_goWarm 3 none :: (([.fieldLink RX12 53 "IcicleClockModel" "hangsThen" "[J", .fieldLink RX12 49 "IcicleClockModel" "hangs" "[J", .methodLink RX12 350 yX12_isThaw, .instanceMethod yX12_isThaw, .selects RX12 yX12_isThaw yX12_isThaw, .initialized RX12, .fieldLink RX12 9 "IcicleClockModel" "world" "[I"] : List Cond) ++ (wsX120 ++ vX12_isThaw))
theorem iX12_goWarm_12 : ∀ w ∈ wsX120, w ∈ vX12_goWarm := fun _ h => List.mem_cons_of_mem _ (List.mem_append_right _ (List.mem_append_left _ h))
theorem gs_X12_goWarm : Gd vX12_goWarm := Gd.cons (by decide +kernel) (Gd.app (Gd.r (by decide +kernel)) (Gd.app gwX_12 gs_X12_isThaw))
theorem gg_X12_goWarm_X12_isThaw : GoodIn vX12_goWarm (wsV RX12 350 RX12 yX12_isThaw vX12_isThaw) := goodIn_app (goodIn_r _ [3, 4, 5, 6] (by decide +kernel) (by decide +kernel)) (fun w h => ⟨List.mem_cons_of_mem _ (List.mem_append_right _ (List.mem_append_right _ (h))), gs_X12_isThaw w h⟩)
set_option maxHeartbeats 4000000 in
set_option maxRecDepth 100000 in
theorem s_X12_goWarm (l : Launch) (D : va_G) (cs : Nat → ClassId) (ad : Nat → Nat) (kS : kSt) (K : sK) (hKO : KO K) (hj : wJ ad 218) (g : Nat → va_E) (hW : WF (shp ad K) ad cs g) (dy : Int32) (hp0 : 0 ≤ dy.toInt ∧ dy.toInt ≤ 13) (hp1 : ∀ j : Nat, dy.toInt < j → j ≤ 14 → gA g 209 j = 0) : sV l yX12_goWarm vX12_goWarm { frames := 1, cells := 0, slots := 0, locals := 21 } D cs ad kS [.ref (ad 197), .int dy] g (fun g2 => WF (shp ad K) ad cs g2 ∧ (∀ j, j ≠ 210 → g2 j = g j) ∧ (∀ j : Nat, dy.toInt + 1 < j → j ≤ 14 → gA g2 210 j = 0)) := by
  refine Met.startS (cc := cX12_goWarm) (maxL := 3) (ret := none) RX12 rfl (by decide) rfl (Nat.le_of_ble_eq_true rfl) ?_
  intro p e s m below meth c ls X Z hP hl
  have hx := X.1
  have hb := X.2.1
  have hS : va_S (wA ad 218) s.heap s.heap [] := va_S.rf
  have hA : ∀ i, i < 218 → wA ad 218 (ad i) := fun i h => ⟨i, h, rfl⟩
  have hfr : ∀ j, j ≠ 210 → g j = g j := fun _ _ => rfl
  have hl : lv_has ls 3 [(0, .ref (ad 197)), (1, .int dy)] := hl
  refine lv_iconst (v := 0) hx hb dX12_goWarm_0 (by decide) ?_
  refine lv_istore_n (lv' := [(2, .int 0), (0, .ref (ad 197)), (1, .int dy)]) hx hb dX12_goWarm_1 rfl hl (by decide) rfl (fun ls hl => ?_)
  have HL2 : ∀ (n2 : Nat) (v2_2 : Int32) (G2 : Nat → va_E) (H : Heap) (locs : List Loc) (ls : Array Slot), (15 - v2_2.toInt).toNat < n2 → (0 ≤ v2_2.toInt ∧ v2_2.toInt ≤ 15) → (∀ j : Nat, (j : Int) < v2_2.toInt → gA G2 210 j = 0) → WF (shp ad K) ad cs G2 → (∀ j, j ≠ 210 → G2 j = g j) → va_P D vwCl (wL ad G2 218) H → va_S (wA ad 218) s.heap H locs → lv_has ls 3 [(2, .int v2_2), (0, .ref (ad 197)), (1, .int dy)] → W p l e ({ frames := 1, cells := 0, slots := 0, locals := 21 } : Room) s m ([.ref (ad 197), .int dy] : List Value).toArray below meth c H locs 0 0 (MQ below (qV D ad 218 (fun g2 => WF (shp ad K) ad cs g2 ∧ (∀ j, j ≠ 210 → g2 j = g j) ∧ (∀ j : Nat, dy.toInt + 1 < j → j ≤ 14 → gA g2 210 j = 0))) ([.ref (ad 197), .int dy] : List Value).toArray s 0 0 (wA ad 218)) (F0 m 2 ls []) := by
    intro n2
    induction n2 with
    | zero =>
      intro v2_2 G2 H locs ls hm2 hv2_0 he2_0 hW2 hfr2 hP hS hl
      exact absurd hm2 (Nat.not_lt_zero _)
    | succ n2 ih2 =>
      intro v2_2 G2 H locs ls hm2 hv2_0 he2_0 hW2 hfr2 hP hS hl
      refine lv_iload_n hx hb dX12_goWarm_2 rfl (lv_at hl 0 rfl) ?_
      refine lv_bipush (v := 14) hx hb dX12_goWarm_3 (by decide) ?_
      refine lv_icmp_gt (tgt := 21) hx hb dX12_goWarm_5 (by decide) (fun hc_1 => ?_) (fun hc_1 => ?_)
      · have hhc_1 := n_lt (by decide : (14 : Int32).toInt = 14) (rfl : v2_2.toInt = v2_2.toInt) hc_1
        refine lv_iconst (v := 0) hx hb dX12_goWarm_21 (by decide) ?_
        refine lv_istore_n (lv' := [(2, .int 0), (0, .ref (ad 197)), (1, .int dy)]) hx hb dX12_goWarm_22 rfl hl (by decide) rfl (fun ls hl => ?_)
        have HL23 : ∀ (n23 : Nat) (v23_2 : Int32) (G23 : Nat → va_E) (H : Heap) (locs : List Loc) (ls : Array Slot), (15 - v23_2.toInt).toNat < n23 → (0 ≤ v23_2.toInt ∧ v23_2.toInt ≤ 15) → (∀ j : Nat, dy.toInt + 1 < j → j ≤ 14 → gA G23 210 j = 0) → WF (shp ad K) ad cs G23 → (∀ j, j ≠ 210 → G23 j = g j) → va_P D vwCl (wL ad G23 218) H → va_S (wA ad 218) s.heap H locs → lv_has ls 3 [(2, .int v23_2), (0, .ref (ad 197)), (1, .int dy)] → W p l e ({ frames := 1, cells := 0, slots := 0, locals := 21 } : Room) s m ([.ref (ad 197), .int dy] : List Value).toArray below meth c H locs 0 0 (MQ below (qV D ad 218 (fun g2 => WF (shp ad K) ad cs g2 ∧ (∀ j, j ≠ 210 → g2 j = g j) ∧ (∀ j : Nat, dy.toInt + 1 < j → j ≤ 14 → gA g2 210 j = 0))) ([.ref (ad 197), .int dy] : List Value).toArray s 0 0 (wA ad 218)) (F0 m 23 ls []) := by
          intro n23
          induction n23 with
          | zero =>
            intro v23_2 G23 H locs ls hm23 hv23_0 he23_0 hW23 hfr23 hP hS hl
            exact absurd hm23 (Nat.not_lt_zero _)
          | succ n23 ih23 =>
            intro v23_2 G23 H locs ls hm23 hv23_0 he23_0 hW23 hfr23 hP hS hl
            refine lv_iload_n hx hb dX12_goWarm_23 rfl (lv_at hl 0 rfl) ?_
            refine lv_bipush (v := 14) hx hb dX12_goWarm_24 (by decide) ?_
            refine lv_icmp_gt (tgt := 120) hx hb dX12_goWarm_26 (by decide) (fun hc_2 => ?_) (fun hc_2 => ?_)
            · have hhc_2 := n_lt (by decide : (14 : Int32).toInt = 14) (rfl : v23_2.toInt = v23_2.toInt) hc_2
              exact q_vret X hP hS ⟨hW23, hfr23, he23_0⟩ dX12_goWarm_120
            · have hhc_2 := n_nlt (by decide : (14 : Int32).toInt = 14) (rfl : v23_2.toInt = v23_2.toInt) hc_2
              refine lv_aload_n hx hb dX12_goWarm_29 rfl (lv_at hl 1 rfl) ?_
              obtain ⟨fsc_3, hgc_3, hOc_3⟩ := hW23.obj (i := 197) (by decide) (sh_197 ad K)
              have hk_4 := hOc_3.ref 27 rfl
              refine q_get X iX12_goWarm_12 hP (by decide) hgc_3 rfl 27 (by decide) (List.mem_of_getElem? (i := 2) rfl) (v := .ref (ad 209)) hk_4 dX12_goWarm_30 ?_
              refine lv_iload_n hx hb dX12_goWarm_33 rfl (lv_at hl 0 rfl) ?_
              obtain ⟨fc_5, hgc_5, hFc_5⟩ := hW23.arj (i := 209) (by decide) (sh_209 ad K)
              refine q_lald X hP (by decide) hgc_5 (n_in (rfl : v23_2.toInt = v23_2.toInt) (by omega) (by omega)) dX12_goWarm_34 ?_
              refine lv_topl (fun z_6 ez_6 => ?_)
              have hgaz_6 : gA G23 209 (v23_2.toNatClampNeg) = z_6.toInt := by rw [ez_6]; exact gA_ofL hgc_5 _
              have hcl_7 := n_cl (rfl : v23_2.toInt = v23_2.toInt) (by omega)
              refine lv_lconst (v := 0) hx hb dX12_goWarm_35 (by decide) ?_
              refine W.lcmp hx hb dX12_goWarm_36 ?_
              have HJ114 : ∀ (G114 : Nat → va_E) (H : Heap) (locs : List Loc) (ls : Array Slot), (∀ j : Nat, dy.toInt + 1 < j → j ≤ 14 → gA G114 210 j = 0) → WF (shp ad K) ad cs G114 → (∀ j, j ≠ 210 → G114 j = g j) → G114 197 = .inr (12, fsc_3) → G114 209 = .inl (cs 2, 15, .inr (.inl fc_5)) → va_P D vwCl (wL ad G114 218) H → va_S (wA ad 218) s.heap H locs → lv_has ls 3 [(2, .int v23_2), (0, .ref (ad 197)), (1, .int dy)] → W p l e ({ frames := 1, cells := 0, slots := 0, locals := 21 } : Room) s m ([.ref (ad 197), .int dy] : List Value).toArray below meth c H locs 0 0 (MQ below (qV D ad 218 (fun g2 => WF (shp ad K) ad cs g2 ∧ (∀ j, j ≠ 210 → g2 j = g j) ∧ (∀ j : Nat, dy.toInt + 1 < j → j ≤ 14 → gA g2 210 j = 0))) ([.ref (ad 197), .int dy] : List Value).toArray s 0 0 (wA ad 218)) (F0 m 114 ls []) := by
                intro G114 H locs ls he114_0 hW114 hfr114 hg114_0 hg114_1 hP hS hl
                obtain ⟨x_8, ex_8⟩ : ∃ y : Int32, y = v23_2 + 1 := ⟨_, rfl⟩
                have hx_8 : x_8.toInt = v23_2.toInt + 1 := n_add rfl (by decide : (1 : Int32).toInt = 1) ex_8 (by omega) (by omega)
                refine lv_iinc (v := x_8) (lv' := [(2, .int x_8), (0, .ref (ad 197)), (1, .int dy)]) hx hb dX12_goWarm_114 hl (k := 0) rfl (by rw [ex_8]; rfl) (by decide) rfl (fun ls hl => ?_)
                refine lv_goto (tgt := 23) hx hb dX12_goWarm_117 (by decide) ?_
                exact ih23 x_8 G114 _ _ ls (by omega) (by omega) he114_0 hW114 hfr114 hP hS (lv_sub hl [0, 1, 2] rfl)
              refine lv_if_ne (tgt := 43) hx hb dX12_goWarm_37 (by decide) (fun hc_9 => ?_) (fun hc_9 => ?_)
              · have hhc_9 := j_cne (rfl : z_6.toInt = z_6.toInt) (by decide : (0 : Int64).toInt = 0) hc_9
                have hkd : v23_2.toInt ≤ dy.toInt := Int.not_lt.mp (fun q => by have h1 := hp1 v23_2.toNatClampNeg (by omega) (by omega); have h2 := gA_tr (hfr23 209 (by omega)) v23_2.toNatClampNeg; omega)
                refine lv_aload_n hx hb dX12_goWarm_43 rfl (lv_at hl 1 rfl) ?_
                have hk_10 := hOc_3.ref 28 rfl
                refine q_get X iX12_goWarm_12 hP (by decide) hgc_3 rfl 28 (by decide) (List.mem_of_getElem? (i := 1) rfl) (v := .ref (ad 210)) hk_10 dX12_goWarm_44 ?_
                refine lv_iload_n hx hb dX12_goWarm_47 rfl (lv_at hl 0 rfl) ?_
                refine lv_dup2_11 hx hb dX12_goWarm_48 rfl rfl ?_
                obtain ⟨fc_11, hgc_11, hFc_11⟩ := hW23.arj (i := 210) (by decide) (sh_210 ad K)
                refine q_lald X hP (by decide) hgc_11 (n_in (rfl : v23_2.toInt = v23_2.toInt) (by omega) (by omega)) dX12_goWarm_49 ?_
                refine lv_topl (fun z_12 ez_12 => ?_)
                refine lv_aload_n hx hb dX12_goWarm_50 rfl (lv_at hl 1 rfl) ?_
                refine q_get X iX12_goWarm_12 hP (by decide) hgc_3 rfl 27 (by decide) (List.mem_of_getElem? (i := 2) rfl) (v := .ref (ad 209)) hk_4 dX12_goWarm_51 ?_
                refine lv_iload_n hx hb dX12_goWarm_54 rfl (lv_at hl 0 rfl) ?_
                refine q_lald X hP (by decide) hgc_5 (n_in (rfl : v23_2.toInt = v23_2.toInt) (by omega) (by omega)) dX12_goWarm_55 ?_
                refine lv_topl (fun z_13 ez_13 => ?_)
                have hsz_13 : z_13.toInt = z_6.toInt := by rw [ez_13, ez_6]
                refine lv_aload_n hx hb dX12_goWarm_56 rfl (lv_at hl 1 rfl) ?_
                refine lv_iload_n hx hb dX12_goWarm_57 rfl (lv_at hl 2 rfl) ?_
                refine s_calli (q := (RX12, TX12, 40)) (As := [.int dy]) (rest := [.long z_13, .long z_12, .int v23_2, .ref (ad 210)]) X Z (s_X12_isThaw l D cs ad kS K hKO hj G23 hW23 dy (by omega)) (cwV 1 X.2.2.2.2.1 gg_X12_goWarm_X12_isThaw rfl rfl rfl (by decide +kernel) ⟨Nat.le_of_ble_eq_true rfl, Nat.le_of_ble_eq_true rfl⟩) (by decide) hgc_3 rfl hP hA hS.2.1 hS rfl hl.1 rfl (Nat.le_of_ble_eq_true rfl) dX12_goWarm_58 ⟨Nat.le_of_ble_eq_true rfl, Nat.le_of_ble_eq_true rfl⟩ (fun r_16 g_15 H locs hw_14 hP hS => ?_)
                obtain ⟨hw_14g, hw_14⟩ := hw_14
                rw [hw_14g] at hP
                refine lv_if_eq (tgt := 76) hx hb dX12_goWarm_61 (by decide) (fun hc_17 => ?_) (fun hc_17 => ?_)
                · have hhc_17 := n_eq (rfl : r_16.toInt = r_16.toInt) (by decide : (0 : Int32).toInt = 0) hc_17
                  refine lv_iconst (v := 1) hx hb dX12_goWarm_76 (by decide) ?_
                  refine lv_i2l (v := 1) hx hb dX12_goWarm_77 (by decide) ?_
                  refine lv_lmul hx hb dX12_goWarm_78 ?_
                  refine lv_topl (fun z_18 ez_18 => ?_)
                  refine lv_ladd hx hb dX12_goWarm_79 ?_
                  refine lv_topl (fun z_19 ez_19 => ?_)
                  refine s_last X hP hj hA hS (by decide) hgc_11 (n_in (rfl : v23_2.toInt = v23_2.toInt) (by omega) (by omega)) dX12_goWarm_80 hW23 (sh_210 ad K) (hFc_11.put trivial) (fun fc_20 gc_20 H locs ec_20 hFc_20 hgc_20 hfc_20 hWc_20 hP hS => ?_)
                  have hg_22 := (hfc_20 197 (by decide)).trans hgc_3
                  have hg_23 := (hfc_20 209 (by decide)).trans hgc_5
                  have hfr_21 : ∀ j, j ≠ 210 → gc_20 j = g j := fun j hj => (hfc_20 j (by omega)).trans (hfr23 j hj)
                  have hcl_24 := n_cl (rfl : v23_2.toInt = v23_2.toInt) (by omega)
                  have hz_25 : (∀ j : Nat, dy.toInt + 1 < j → j ≤ 14 → gA gc_20 210 j = 0) := fun j h1 h2 => (gA_ne hgc_11 hgc_20 ec_20 (by omega)).trans (he23_0 j h1 h2)
                  refine lv_aload_n hx hb dX12_goWarm_81 rfl (lv_at hl 1 rfl) ?_
                  refine lv_iload_n hx hb dX12_goWarm_82 rfl (lv_at hl 2 rfl) ?_
                  refine s_calli (q := (RX12, TX12, 40)) (As := [.int dy]) (rest := []) X Z (s_X12_isThaw l D cs ad kS K hKO hj gc_20 hWc_20 dy (by omega)) (cwV 1 X.2.2.2.2.1 gg_X12_goWarm_X12_isThaw rfl rfl rfl (by decide +kernel) ⟨Nat.le_of_ble_eq_true rfl, Nat.le_of_ble_eq_true rfl⟩) (by decide) hg_22 rfl hP hA hS.2.1 hS rfl hl.1 rfl (Nat.le_of_ble_eq_true rfl) dX12_goWarm_83 ⟨Nat.le_of_ble_eq_true rfl, Nat.le_of_ble_eq_true rfl⟩ (fun r_28 g_27 H locs hw_26 hP hS => ?_)
                  obtain ⟨hw_26g, hw_26⟩ := hw_26
                  rw [hw_26g] at hP
                  refine lv_if_eq (tgt := 114) hx hb dX12_goWarm_86 (by decide) (fun hc_29 => ?_) (fun hc_29 => ?_)
                  · have hhc_29 := n_eq (rfl : r_28.toInt = r_28.toInt) (by decide : (0 : Int32).toInt = 0) hc_29
                    exact HJ114 gc_20 _ _ ls hz_25 hWc_20 hfr_21 hg_22 hg_23 hP hS (lv_sub hl [0, 1, 2] rfl)
                  · have hhc_29 := n_ne (rfl : r_28.toInt = r_28.toInt) (by decide : (0 : Int32).toInt = 0) hc_29
                    refine lv_aload_n hx hb dX12_goWarm_89 rfl (lv_at hl 1 rfl) ?_
                    refine q_get X iX12_goWarm_12 hP (by decide) hg_22 rfl 28 (by decide) (List.mem_of_getElem? (i := 1) rfl) (v := .ref (ad 210)) hk_10 dX12_goWarm_90 ?_
                    refine lv_iload_n hx hb dX12_goWarm_93 rfl (lv_at hl 0 rfl) ?_
                    refine lv_iconst (v := 1) hx hb dX12_goWarm_94 (by decide) ?_
                    refine lv_iadd hx hb dX12_goWarm_95 ?_
                    refine lv_topi (fun z_30 ez_30 => ?_)
                    have hz_30 : z_30.toInt = v23_2.toInt + 1 := n_add (rfl : v23_2.toInt = v23_2.toInt) (by decide : (1 : Int32).toInt = 1) ez_30 (by omega) (by omega)
                    refine lv_dup2_11 hx hb dX12_goWarm_96 rfl rfl ?_
                    refine q_lald X hP (by decide) hgc_20 (n_in (rfl : z_30.toInt = z_30.toInt) (by omega) (by omega)) dX12_goWarm_97 ?_
                    refine lv_topl (fun z_31 ez_31 => ?_)
                    refine lv_aload_n hx hb dX12_goWarm_98 rfl (lv_at hl 1 rfl) ?_
                    refine q_get X iX12_goWarm_12 hP (by decide) hg_22 rfl 27 (by decide) (List.mem_of_getElem? (i := 2) rfl) (v := .ref (ad 209)) hk_4 dX12_goWarm_99 ?_
                    refine lv_iload_n hx hb dX12_goWarm_102 rfl (lv_at hl 0 rfl) ?_
                    refine q_lald X hP (by decide) hg_23 (n_in (rfl : v23_2.toInt = v23_2.toInt) (by omega) (by omega)) dX12_goWarm_103 ?_
                    refine lv_topl (fun z_32 ez_32 => ?_)
                    have hsz_32 : z_32.toInt = z_13.toInt := by rw [ez_32, ez_13]
                    refine lv_aload_n hx hb dX12_goWarm_104 rfl (lv_at hl 1 rfl) ?_
                    have hk_33 := hOc_3.ref 1 rfl
                    refine q_get X iX12_goWarm_12 hP (by decide) hg_22 rfl 1 (by decide) (List.mem_of_getElem? (i := 7) rfl) (v := .ref (ad 198)) hk_33 dX12_goWarm_105 ?_
                    refine lv_iconst (v := 2) hx hb dX12_goWarm_108 (by decide) ?_
                    obtain ⟨fc_34, hgc_34, hFc_34⟩ := hWc_20.arr (i := 198) (by decide) (sh_198 ad K)
                    refine q_iald X hP (by decide) hgc_34 (by unfold vp_in; decide) dX12_goWarm_109 ?_
                    refine lv_topi (fun z_35 ez_35 => ?_)
                    have hqz_35 : wq (2) z_35.toInt := ez_35 ▸ hFc_34 _
                    clear hqz_35
                    refine lv_i2l hx hb dX12_goWarm_110 rfl ?_
                    refine lv_topl (fun z_36 ez_36 => ?_)
                    have hz_36 : z_36.toInt = z_35.toInt := ez_36 ▸ j_of rfl
                    have := n_hi z_35
                    have := n_lo z_35
                    refine lv_lmul hx hb dX12_goWarm_111 ?_
                    refine lv_topl (fun z_37 ez_37 => ?_)
                    refine lv_ladd hx hb dX12_goWarm_112 ?_
                    refine lv_topl (fun z_38 ez_38 => ?_)
                    refine s_last X hP hj hA hS (by decide) hgc_20 (n_in (rfl : z_30.toInt = z_30.toInt) (by omega) (by omega)) dX12_goWarm_113 hWc_20 (sh_210 ad K) (hFc_20.put trivial) (fun fc_39 gc_39 H locs ec_39 hFc_39 hgc_39 hfc_39 hWc_39 hP hS => ?_)
                    have hg_41 := (hfc_39 197 (by decide)).trans hg_22
                    have hg_42 := (hfc_39 209 (by decide)).trans hg_23
                    have hg_43 := (hfc_39 198 (by decide)).trans hgc_34
                    have hfr_40 : ∀ j, j ≠ 210 → gc_39 j = g j := fun j hj => (hfc_39 j (by omega)).trans (hfr_21 j hj)
                    have hcl_44 := n_cl (rfl : z_30.toInt = z_30.toInt) (by omega)
                    have hz_45 : (∀ j : Nat, dy.toInt + 1 < j → j ≤ 14 → gA gc_39 210 j = 0) := fun j h1 h2 => (gA_ne hgc_20 hgc_39 ec_39 (by omega)).trans (hz_25 j h1 h2)
                    exact HJ114 gc_39 _ _ ls hz_45 hWc_39 hfr_40 hg_41 hg_42 hP hS (lv_sub hl [0, 1, 2] rfl)
                · have hhc_17 := n_ne (rfl : r_16.toInt = r_16.toInt) (by decide : (0 : Int32).toInt = 0) hc_17
                  refine lv_bipush (v := 10) hx hb dX12_goWarm_64 (by decide) ?_
                  refine lv_aload_n hx hb dX12_goWarm_66 rfl (lv_at hl 1 rfl) ?_
                  have hk_46 := hOc_3.ref 1 rfl
                  refine q_get X iX12_goWarm_12 hP (by decide) hgc_3 rfl 1 (by decide) (List.mem_of_getElem? (i := 7) rfl) (v := .ref (ad 198)) hk_46 dX12_goWarm_67 ?_
                  refine lv_iconst (v := 2) hx hb dX12_goWarm_70 (by decide) ?_
                  obtain ⟨fc_47, hgc_47, hFc_47⟩ := hW23.arr (i := 198) (by decide) (sh_198 ad K)
                  refine q_iald X hP (by decide) hgc_47 (by unfold vp_in; decide) dX12_goWarm_71 ?_
                  refine lv_topi (fun z_48 ez_48 => ?_)
                  have hqz_48 : wq (2) z_48.toInt := ez_48 ▸ hFc_47 _
                  clear hqz_48
                  refine lv_isub hx hb dX12_goWarm_72 ?_
                  refine lv_topi (fun z_49 ez_49 => ?_)
                  refine lv_goto (tgt := 77) hx hb dX12_goWarm_73 (by decide) ?_
                  refine lv_i2l hx hb dX12_goWarm_77 rfl ?_
                  refine lv_topl (fun z_50 ez_50 => ?_)
                  have hz_50 : z_50.toInt = z_49.toInt := ez_50 ▸ j_of rfl
                  have := n_hi z_49
                  have := n_lo z_49
                  refine lv_lmul hx hb dX12_goWarm_78 ?_
                  refine lv_topl (fun z_51 ez_51 => ?_)
                  refine lv_ladd hx hb dX12_goWarm_79 ?_
                  refine lv_topl (fun z_52 ez_52 => ?_)
                  refine s_last X hP hj hA hS (by decide) hgc_11 (n_in (rfl : v23_2.toInt = v23_2.toInt) (by omega) (by omega)) dX12_goWarm_80 hW23 (sh_210 ad K) (hFc_11.put trivial) (fun fc_53 gc_53 H locs ec_53 hFc_53 hgc_53 hfc_53 hWc_53 hP hS => ?_)
                  have hg_55 := (hfc_53 197 (by decide)).trans hgc_3
                  have hg_56 := (hfc_53 209 (by decide)).trans hgc_5
                  have hg_57 := (hfc_53 198 (by decide)).trans hgc_47
                  have hfr_54 : ∀ j, j ≠ 210 → gc_53 j = g j := fun j hj => (hfc_53 j (by omega)).trans (hfr23 j hj)
                  have hcl_58 := n_cl (rfl : v23_2.toInt = v23_2.toInt) (by omega)
                  have hz_59 : (∀ j : Nat, dy.toInt + 1 < j → j ≤ 14 → gA gc_53 210 j = 0) := fun j h1 h2 => (gA_ne hgc_11 hgc_53 ec_53 (by omega)).trans (he23_0 j h1 h2)
                  refine lv_aload_n hx hb dX12_goWarm_81 rfl (lv_at hl 1 rfl) ?_
                  refine lv_iload_n hx hb dX12_goWarm_82 rfl (lv_at hl 2 rfl) ?_
                  refine s_calli (q := (RX12, TX12, 40)) (As := [.int dy]) (rest := []) X Z (s_X12_isThaw l D cs ad kS K hKO hj gc_53 hWc_53 dy (by omega)) (cwV 1 X.2.2.2.2.1 gg_X12_goWarm_X12_isThaw rfl rfl rfl (by decide +kernel) ⟨Nat.le_of_ble_eq_true rfl, Nat.le_of_ble_eq_true rfl⟩) (by decide) hg_55 rfl hP hA hS.2.1 hS rfl hl.1 rfl (Nat.le_of_ble_eq_true rfl) dX12_goWarm_83 ⟨Nat.le_of_ble_eq_true rfl, Nat.le_of_ble_eq_true rfl⟩ (fun r_62 g_61 H locs hw_60 hP hS => ?_)
                  obtain ⟨hw_60g, hw_60⟩ := hw_60
                  rw [hw_60g] at hP
                  refine lv_if_eq (tgt := 114) hx hb dX12_goWarm_86 (by decide) (fun hc_63 => ?_) (fun hc_63 => ?_)
                  · have hhc_63 := n_eq (rfl : r_62.toInt = r_62.toInt) (by decide : (0 : Int32).toInt = 0) hc_63
                    exact HJ114 gc_53 _ _ ls hz_59 hWc_53 hfr_54 hg_55 hg_56 hP hS (lv_sub hl [0, 1, 2] rfl)
                  · have hhc_63 := n_ne (rfl : r_62.toInt = r_62.toInt) (by decide : (0 : Int32).toInt = 0) hc_63
                    refine lv_aload_n hx hb dX12_goWarm_89 rfl (lv_at hl 1 rfl) ?_
                    refine q_get X iX12_goWarm_12 hP (by decide) hg_55 rfl 28 (by decide) (List.mem_of_getElem? (i := 1) rfl) (v := .ref (ad 210)) hk_10 dX12_goWarm_90 ?_
                    refine lv_iload_n hx hb dX12_goWarm_93 rfl (lv_at hl 0 rfl) ?_
                    refine lv_iconst (v := 1) hx hb dX12_goWarm_94 (by decide) ?_
                    refine lv_iadd hx hb dX12_goWarm_95 ?_
                    refine lv_topi (fun z_64 ez_64 => ?_)
                    have hz_64 : z_64.toInt = v23_2.toInt + 1 := n_add (rfl : v23_2.toInt = v23_2.toInt) (by decide : (1 : Int32).toInt = 1) ez_64 (by omega) (by omega)
                    refine lv_dup2_11 hx hb dX12_goWarm_96 rfl rfl ?_
                    refine q_lald X hP (by decide) hgc_53 (n_in (rfl : z_64.toInt = z_64.toInt) (by omega) (by omega)) dX12_goWarm_97 ?_
                    refine lv_topl (fun z_65 ez_65 => ?_)
                    refine lv_aload_n hx hb dX12_goWarm_98 rfl (lv_at hl 1 rfl) ?_
                    refine q_get X iX12_goWarm_12 hP (by decide) hg_55 rfl 27 (by decide) (List.mem_of_getElem? (i := 2) rfl) (v := .ref (ad 209)) hk_4 dX12_goWarm_99 ?_
                    refine lv_iload_n hx hb dX12_goWarm_102 rfl (lv_at hl 0 rfl) ?_
                    refine q_lald X hP (by decide) hg_56 (n_in (rfl : v23_2.toInt = v23_2.toInt) (by omega) (by omega)) dX12_goWarm_103 ?_
                    refine lv_topl (fun z_66 ez_66 => ?_)
                    have hsz_66 : z_66.toInt = z_13.toInt := by rw [ez_66, ez_13]
                    refine lv_aload_n hx hb dX12_goWarm_104 rfl (lv_at hl 1 rfl) ?_
                    refine q_get X iX12_goWarm_12 hP (by decide) hg_55 rfl 1 (by decide) (List.mem_of_getElem? (i := 7) rfl) (v := .ref (ad 198)) hk_46 dX12_goWarm_105 ?_
                    refine lv_iconst (v := 2) hx hb dX12_goWarm_108 (by decide) ?_
                    refine q_iald X hP (by decide) hg_57 (by unfold vp_in; decide) dX12_goWarm_109 ?_
                    refine lv_topi (fun z_67 ez_67 => ?_)
                    have hqz_67 : wq (2) z_67.toInt := ez_67 ▸ hFc_47 _
                    clear hqz_67
                    have hsz_67 : z_67.toInt = z_48.toInt := by rw [ez_67, ez_48]
                    refine lv_i2l hx hb dX12_goWarm_110 rfl ?_
                    refine lv_topl (fun z_68 ez_68 => ?_)
                    have hz_68 : z_68.toInt = z_67.toInt := ez_68 ▸ j_of rfl
                    have := n_hi z_67
                    have := n_lo z_67
                    refine lv_lmul hx hb dX12_goWarm_111 ?_
                    refine lv_topl (fun z_69 ez_69 => ?_)
                    refine lv_ladd hx hb dX12_goWarm_112 ?_
                    refine lv_topl (fun z_70 ez_70 => ?_)
                    refine s_last X hP hj hA hS (by decide) hgc_53 (n_in (rfl : z_64.toInt = z_64.toInt) (by omega) (by omega)) dX12_goWarm_113 hWc_53 (sh_210 ad K) (hFc_53.put trivial) (fun fc_71 gc_71 H locs ec_71 hFc_71 hgc_71 hfc_71 hWc_71 hP hS => ?_)
                    have hg_73 := (hfc_71 197 (by decide)).trans hg_55
                    have hg_74 := (hfc_71 209 (by decide)).trans hg_56
                    have hg_75 := (hfc_71 198 (by decide)).trans hg_57
                    have hfr_72 : ∀ j, j ≠ 210 → gc_71 j = g j := fun j hj => (hfc_71 j (by omega)).trans (hfr_54 j hj)
                    have hcl_76 := n_cl (rfl : z_64.toInt = z_64.toInt) (by omega)
                    have hz_77 : (∀ j : Nat, dy.toInt + 1 < j → j ≤ 14 → gA gc_71 210 j = 0) := fun j h1 h2 => (gA_ne hgc_53 hgc_71 ec_71 (by omega)).trans (hz_59 j h1 h2)
                    exact HJ114 gc_71 _ _ ls hz_77 hWc_71 hfr_72 hg_73 hg_74 hP hS (lv_sub hl [0, 1, 2] rfl)
              · have hhc_9 := j_ceq (rfl : z_6.toInt = z_6.toInt) (by decide : (0 : Int64).toInt = 0) hc_9
                refine lv_goto (tgt := 114) hx hb dX12_goWarm_40 (by decide) ?_
                exact HJ114 G23 _ _ ls he23_0 hW23 hfr23 hgc_3 hgc_5 hP hS (lv_sub hl [0, 1, 2] rfl)
        have hiv23_2 : (0 : Int32).toInt = 0 := by decide
        exact HL23 _ 0 G2 _ _ ls (Nat.lt_succ_self _) (by omega) (fun j h1 h2 => he2_0 j (by omega)) hW2 hfr2 hP hS (lv_sub hl [0, 1, 2] rfl)
      · have hhc_1 := n_nlt (by decide : (14 : Int32).toInt = 14) (rfl : v2_2.toInt = v2_2.toInt) hc_1
        refine lv_aload_n hx hb dX12_goWarm_8 rfl (lv_at hl 1 rfl) ?_
        obtain ⟨fsc_78, hgc_78, hOc_78⟩ := hW2.obj (i := 197) (by decide) (sh_197 ad K)
        have hk_79 := hOc_78.ref 28 rfl
        refine q_get X iX12_goWarm_12 hP (by decide) hgc_78 rfl 28 (by decide) (List.mem_of_getElem? (i := 1) rfl) (v := .ref (ad 210)) hk_79 dX12_goWarm_9 ?_
        refine lv_iload_n hx hb dX12_goWarm_12 rfl (lv_at hl 0 rfl) ?_
        refine lv_lconst (v := 0) hx hb dX12_goWarm_13 (by decide) ?_
        obtain ⟨fc_80, hgc_80, hFc_80⟩ := hW2.arj (i := 210) (by decide) (sh_210 ad K)
        refine s_last X hP hj hA hS (by decide) hgc_80 (n_in (rfl : v2_2.toInt = v2_2.toInt) (by omega) (by omega)) dX12_goWarm_14 hW2 (sh_210 ad K) (hFc_80.put trivial) (fun fc_81 gc_81 H locs ec_81 hFc_81 hgc_81 hfc_81 hWc_81 hP hS => ?_)
        have hg_83 := (hfc_81 197 (by decide)).trans hgc_78
        have hfr_82 : ∀ j, j ≠ 210 → gc_81 j = g j := fun j hj => (hfc_81 j (by omega)).trans (hfr2 j hj)
        have hcl_84 := n_cl (rfl : v2_2.toInt = v2_2.toInt) (by omega)
        have hx0q_85 : (0 : Int64).toInt = 0 := by decide
        obtain ⟨x_86, ex_86⟩ : ∃ y : Int32, y = v2_2 + 1 := ⟨_, rfl⟩
        have hx_86 : x_86.toInt = v2_2.toInt + 1 := n_add rfl (by decide : (1 : Int32).toInt = 1) ex_86 (by omega) (by omega)
        refine lv_iinc (v := x_86) (lv' := [(2, .int x_86), (0, .ref (ad 197)), (1, .int dy)]) hx hb dX12_goWarm_15 hl (k := 0) rfl (by rw [ex_86]; rfl) (by decide) rfl (fun ls hl => ?_)
        refine lv_goto (tgt := 2) hx hb dX12_goWarm_18 (by decide) ?_
        exact ih2 x_86 gc_81 _ _ ls (by omega) (by omega) (fun j h => by by_cases q : (j : Int) = v2_2.toInt; exact (gA_at hgc_80 hgc_81 ec_81 (by omega)).trans (by omega); exact (gA_ne hgc_80 hgc_81 ec_81 (by omega)).trans (he2_0 j (by omega))) hWc_81 hfr_82 hP hS (lv_sub hl [0, 1, 2] rfl)
  have hiv2_2 : (0 : Int32).toInt = 0 := by decide
  exact HL2 _ 0 g _ _ ls (Nat.lt_succ_self _) (by omega) (fun j h => by exfalso; omega) hW hfr hP hS (lv_sub hl [0, 1, 2] rfl)

theorem dX12_layWarm_0 : decode cX12_layWarm 0 = .ok (.aload_n 0, 1) := by decide +kernel
theorem dX12_layWarm_1 : decode cX12_layWarm 1 = .ok (.iconst 0, 1) := by decide +kernel
theorem dX12_layWarm_2 : decode cX12_layWarm 2 = .ok (.invokevirtual 240, 3) := by decide +kernel
theorem dX12_layWarm_5 : decode cX12_layWarm 5 = .ok (.iconst 0, 1) := by decide +kernel
theorem dX12_layWarm_6 : decode cX12_layWarm 6 = .ok (.istore_n 3, 1) := by decide +kernel
theorem dX12_layWarm_7 : decode cX12_layWarm 7 = .ok (.iload_n 3, 1) := by decide +kernel
theorem dX12_layWarm_8 : decode cX12_layWarm 8 = .ok (.bipush 14, 2) := by decide +kernel
theorem dX12_layWarm_10 : decode cX12_layWarm 10 = .ok (.if_icmp .gt 24, 3) := by decide +kernel
theorem dX12_layWarm_13 : decode cX12_layWarm 13 = .ok (.aload_n 0, 1) := by decide +kernel
theorem dX12_layWarm_14 : decode cX12_layWarm 14 = .ok (.getfield 49, 3) := by decide +kernel
theorem dX12_layWarm_17 : decode cX12_layWarm 17 = .ok (.iload_n 3, 1) := by decide +kernel
theorem dX12_layWarm_18 : decode cX12_layWarm 18 = .ok (.iload_n 3, 1) := by decide +kernel
theorem dX12_layWarm_19 : decode cX12_layWarm 19 = .ok (.ifCond .ne 7, 3) := by decide +kernel
theorem dX12_layWarm_22 : decode cX12_layWarm 22 = .ok (.lconst 1, 1) := by decide +kernel
theorem dX12_layWarm_23 : decode cX12_layWarm 23 = .ok (.goto 4, 3) := by decide +kernel
theorem dX12_layWarm_27 : decode cX12_layWarm 27 = .ok (.lastore, 1) := by decide +kernel
theorem dX12_layWarm_28 : decode cX12_layWarm 28 = .ok (.iinc 3 1, 3) := by decide +kernel
theorem dX12_layWarm_31 : decode cX12_layWarm 31 = .ok (.goto (-24), 3) := by decide +kernel
theorem dX12_layWarm_26 : decode cX12_layWarm 26 = .ok (.lconst 0, 1) := by decide +kernel
theorem dX12_layWarm_34 : decode cX12_layWarm 34 = .ok (.aload_n 0, 1) := by decide +kernel
theorem dX12_layWarm_35 : decode cX12_layWarm 35 = .ok (.lconst 1, 1) := by decide +kernel
theorem dX12_layWarm_36 : decode cX12_layWarm 36 = .ok (.putfield 353, 3) := by decide +kernel
theorem dX12_layWarm_39 : decode cX12_layWarm 39 = .ok (.iload_n 2, 1) := by decide +kernel
theorem dX12_layWarm_40 : decode cX12_layWarm 40 = .ok (.istore_n 3, 1) := by decide +kernel
theorem dX12_layWarm_41 : decode cX12_layWarm 41 = .ok (.iconst 0, 1) := by decide +kernel
theorem dX12_layWarm_42 : decode cX12_layWarm 42 = .ok (.istore 4, 2) := by decide +kernel
theorem dX12_layWarm_44 : decode cX12_layWarm 44 = .ok (.iload 4, 2) := by decide +kernel
theorem dX12_layWarm_46 : decode cX12_layWarm 46 = .ok (.aload_n 0, 1) := by decide +kernel
theorem dX12_layWarm_47 : decode cX12_layWarm 47 = .ok (.getfield 231, 3) := by decide +kernel
theorem dX12_layWarm_50 : decode cX12_layWarm 50 = .ok (.if_icmp .ge 181, 3) := by decide +kernel
theorem dX12_layWarm_53 : decode cX12_layWarm 53 = .ok (.aload_n 0, 1) := by decide +kernel
theorem dX12_layWarm_54 : decode cX12_layWarm 54 = .ok (.iload 4, 2) := by decide +kernel
theorem dX12_layWarm_56 : decode cX12_layWarm 56 = .ok (.invokevirtual 357, 3) := by decide +kernel
theorem dX12_layWarm_59 : decode cX12_layWarm 59 = .ok (.aload_n 0, 1) := by decide +kernel
theorem dX12_layWarm_60 : decode cX12_layWarm 60 = .ok (.iload 4, 2) := by decide +kernel
theorem dX12_layWarm_62 : decode cX12_layWarm 62 = .ok (.invokevirtual 350, 3) := by decide +kernel
theorem dX12_layWarm_65 : decode cX12_layWarm 65 = .ok (.ifCond .eq 8, 3) := by decide +kernel
theorem dX12_layWarm_68 : decode cX12_layWarm 68 = .ok (.bipush 10, 2) := by decide +kernel
theorem dX12_layWarm_70 : decode cX12_layWarm 70 = .ok (.goto 4, 3) := by decide +kernel
theorem dX12_layWarm_73 : decode cX12_layWarm 73 = .ok (.iconst 1, 1) := by decide +kernel
theorem dX12_layWarm_74 : decode cX12_layWarm 74 = .ok (.istore 5, 2) := by decide +kernel
theorem dX12_layWarm_76 : decode cX12_layWarm 76 = .ok (.aload_n 0, 1) := by decide +kernel
theorem dX12_layWarm_77 : decode cX12_layWarm 77 = .ok (.dup, 1) := by decide +kernel
theorem dX12_layWarm_78 : decode cX12_layWarm 78 = .ok (.getfield 353, 3) := by decide +kernel
theorem dX12_layWarm_81 : decode cX12_layWarm 81 = .ok (.iload 5, 2) := by decide +kernel
theorem dX12_layWarm_83 : decode cX12_layWarm 83 = .ok (.i2l, 1) := by decide +kernel
theorem dX12_layWarm_84 : decode cX12_layWarm 84 = .ok (.lmul, 1) := by decide +kernel
theorem dX12_layWarm_85 : decode cX12_layWarm 85 = .ok (.putfield 353, 3) := by decide +kernel
theorem dX12_layWarm_88 : decode cX12_layWarm 88 = .ok (.iconst 0, 1) := by decide +kernel
theorem dX12_layWarm_89 : decode cX12_layWarm 89 = .ok (.istore 6, 2) := by decide +kernel
theorem dX12_layWarm_91 : decode cX12_layWarm 91 = .ok (.iload 6, 2) := by decide +kernel
theorem dX12_layWarm_93 : decode cX12_layWarm 93 = .ok (.iload 4, 2) := by decide +kernel
theorem dX12_layWarm_95 : decode cX12_layWarm 95 = .ok (.if_icmp .ge 22, 3) := by decide +kernel
theorem dX12_layWarm_117 : decode cX12_layWarm 117 = .ok (.aload_n 0, 1) := by decide +kernel
theorem dX12_layWarm_118 : decode cX12_layWarm 118 = .ok (.getfield 56, 3) := by decide +kernel
theorem dX12_layWarm_121 : decode cX12_layWarm 121 = .ok (.iload 4, 2) := by decide +kernel
theorem dX12_layWarm_123 : decode cX12_layWarm 123 = .ok (.lconst 0, 1) := by decide +kernel
theorem dX12_layWarm_124 : decode cX12_layWarm 124 = .ok (.lastore, 1) := by decide +kernel
theorem dX12_layWarm_125 : decode cX12_layWarm 125 = .ok (.iload_n 3, 1) := by decide +kernel
theorem dX12_layWarm_126 : decode cX12_layWarm 126 = .ok (.aload_n 0, 1) := by decide +kernel
theorem dX12_layWarm_127 : decode cX12_layWarm 127 = .ok (.getfield 34, 3) := by decide +kernel
theorem dX12_layWarm_130 : decode cX12_layWarm 130 = .ok (.bipush 14, 2) := by decide +kernel
theorem dX12_layWarm_132 : decode cX12_layWarm 132 = .ok (.iload_n 1, 1) := by decide +kernel
theorem dX12_layWarm_133 : decode cX12_layWarm 133 = .ok (.imul, 1) := by decide +kernel
theorem dX12_layWarm_134 : decode cX12_layWarm 134 = .ok (.iload 4, 2) := by decide +kernel
theorem dX12_layWarm_136 : decode cX12_layWarm 136 = .ok (.iadd, 1) := by decide +kernel
theorem dX12_layWarm_137 : decode cX12_layWarm 137 = .ok (.iaload, 1) := by decide +kernel
theorem dX12_layWarm_138 : decode cX12_layWarm 138 = .ok (.isub, 1) := by decide +kernel
theorem dX12_layWarm_139 : decode cX12_layWarm 139 = .ok (.istore_n 3, 1) := by decide +kernel
theorem dX12_layWarm_140 : decode cX12_layWarm 140 = .ok (.iconst 0, 1) := by decide +kernel
theorem dX12_layWarm_141 : decode cX12_layWarm 141 = .ok (.istore 6, 2) := by decide +kernel
theorem dX12_layWarm_143 : decode cX12_layWarm 143 = .ok (.iload 6, 2) := by decide +kernel
theorem dX12_layWarm_145 : decode cX12_layWarm 145 = .ok (.bipush 14, 2) := by decide +kernel
theorem dX12_layWarm_147 : decode cX12_layWarm 147 = .ok (.if_icmp .gt 78, 3) := by decide +kernel
theorem dX12_layWarm_150 : decode cX12_layWarm 150 = .ok (.iload_n 3, 1) := by decide +kernel
theorem dX12_layWarm_151 : decode cX12_layWarm 151 = .ok (.iload 6, 2) := by decide +kernel
theorem dX12_layWarm_153 : decode cX12_layWarm 153 = .ok (.aload_n 0, 1) := by decide +kernel
theorem dX12_layWarm_154 : decode cX12_layWarm 154 = .ok (.iload_n 1, 1) := by decide +kernel
theorem dX12_layWarm_155 : decode cX12_layWarm 155 = .ok (.invokevirtual 215, 3) := by decide +kernel
theorem dX12_layWarm_158 : decode cX12_layWarm 158 = .ok (.imul, 1) := by decide +kernel
theorem dX12_layWarm_159 : decode cX12_layWarm 159 = .ok (.isub, 1) := by decide +kernel
theorem dX12_layWarm_160 : decode cX12_layWarm 160 = .ok (.ifCond .gt 7, 3) := by decide +kernel
theorem dX12_layWarm_163 : decode cX12_layWarm 163 = .ok (.iconst 1, 1) := by decide +kernel
theorem dX12_layWarm_164 : decode cX12_layWarm 164 = .ok (.goto 4, 3) := by decide +kernel
theorem dX12_layWarm_167 : decode cX12_layWarm 167 = .ok (.iconst 0, 1) := by decide +kernel
theorem dX12_layWarm_168 : decode cX12_layWarm 168 = .ok (.istore 7, 2) := by decide +kernel
theorem dX12_layWarm_170 : decode cX12_layWarm 170 = .ok (.aload_n 0, 1) := by decide +kernel
theorem dX12_layWarm_171 : decode cX12_layWarm 171 = .ok (.getfield 56, 3) := by decide +kernel
theorem dX12_layWarm_174 : decode cX12_layWarm 174 = .ok (.iload 4, 2) := by decide +kernel
theorem dX12_layWarm_176 : decode cX12_layWarm 176 = .ok (.dup2, 1) := by decide +kernel
theorem dX12_layWarm_177 : decode cX12_layWarm 177 = .ok (.laload, 1) := by decide +kernel
theorem dX12_layWarm_178 : decode cX12_layWarm 178 = .ok (.iload 7, 2) := by decide +kernel
theorem dX12_layWarm_180 : decode cX12_layWarm 180 = .ok (.ifCond .eq 13, 3) := by decide +kernel
theorem dX12_layWarm_183 : decode cX12_layWarm 183 = .ok (.aload_n 0, 1) := by decide +kernel
theorem dX12_layWarm_184 : decode cX12_layWarm 184 = .ok (.getfield 53, 3) := by decide +kernel
theorem dX12_layWarm_187 : decode cX12_layWarm 187 = .ok (.iload 6, 2) := by decide +kernel
theorem dX12_layWarm_189 : decode cX12_layWarm 189 = .ok (.laload, 1) := by decide +kernel
theorem dX12_layWarm_190 : decode cX12_layWarm 190 = .ok (.goto 4, 3) := by decide +kernel
theorem dX12_layWarm_193 : decode cX12_layWarm 193 = .ok (.lconst 0, 1) := by decide +kernel
theorem dX12_layWarm_194 : decode cX12_layWarm 194 = .ok (.ladd, 1) := by decide +kernel
theorem dX12_layWarm_195 : decode cX12_layWarm 195 = .ok (.lastore, 1) := by decide +kernel
theorem dX12_layWarm_196 : decode cX12_layWarm 196 = .ok (.aload_n 0, 1) := by decide +kernel
theorem dX12_layWarm_197 : decode cX12_layWarm 197 = .ok (.getfield 49, 3) := by decide +kernel
theorem dX12_layWarm_200 : decode cX12_layWarm 200 = .ok (.iload 6, 2) := by decide +kernel
theorem dX12_layWarm_202 : decode cX12_layWarm 202 = .ok (.iload 7, 2) := by decide +kernel
theorem dX12_layWarm_204 : decode cX12_layWarm 204 = .ok (.ifCond .eq 7, 3) := by decide +kernel
theorem dX12_layWarm_207 : decode cX12_layWarm 207 = .ok (.lconst 0, 1) := by decide +kernel
theorem dX12_layWarm_208 : decode cX12_layWarm 208 = .ok (.goto 10, 3) := by decide +kernel
theorem dX12_layWarm_211 : decode cX12_layWarm 211 = .ok (.aload_n 0, 1) := by decide +kernel
theorem dX12_layWarm_212 : decode cX12_layWarm 212 = .ok (.getfield 53, 3) := by decide +kernel
theorem dX12_layWarm_215 : decode cX12_layWarm 215 = .ok (.iload 6, 2) := by decide +kernel
theorem dX12_layWarm_217 : decode cX12_layWarm 217 = .ok (.laload, 1) := by decide +kernel
theorem dX12_layWarm_218 : decode cX12_layWarm 218 = .ok (.lastore, 1) := by decide +kernel
theorem dX12_layWarm_219 : decode cX12_layWarm 219 = .ok (.iinc 6 1, 3) := by decide +kernel
theorem dX12_layWarm_222 : decode cX12_layWarm 222 = .ok (.goto (-79), 3) := by decide +kernel
theorem dX12_layWarm_225 : decode cX12_layWarm 225 = .ok (.iinc 4 1, 3) := by decide +kernel
theorem dX12_layWarm_228 : decode cX12_layWarm 228 = .ok (.goto (-184), 3) := by decide +kernel
theorem dX12_layWarm_98 : decode cX12_layWarm 98 = .ok (.aload_n 0, 1) := by decide +kernel
theorem dX12_layWarm_99 : decode cX12_layWarm 99 = .ok (.getfield 56, 3) := by decide +kernel
theorem dX12_layWarm_102 : decode cX12_layWarm 102 = .ok (.iload 6, 2) := by decide +kernel
theorem dX12_layWarm_104 : decode cX12_layWarm 104 = .ok (.dup2, 1) := by decide +kernel
theorem dX12_layWarm_105 : decode cX12_layWarm 105 = .ok (.laload, 1) := by decide +kernel
theorem dX12_layWarm_106 : decode cX12_layWarm 106 = .ok (.iload 5, 2) := by decide +kernel
theorem dX12_layWarm_108 : decode cX12_layWarm 108 = .ok (.i2l, 1) := by decide +kernel
theorem dX12_layWarm_109 : decode cX12_layWarm 109 = .ok (.lmul, 1) := by decide +kernel
theorem dX12_layWarm_110 : decode cX12_layWarm 110 = .ok (.lastore, 1) := by decide +kernel
theorem dX12_layWarm_111 : decode cX12_layWarm 111 = .ok (.iinc 6 1, 3) := by decide +kernel
theorem dX12_layWarm_114 : decode cX12_layWarm 114 = .ok (.goto (-23), 3) := by decide +kernel
theorem dX12_layWarm_231 : decode cX12_layWarm 231 = .ok (.aload_n 0, 1) := by decide +kernel
theorem dX12_layWarm_232 : decode cX12_layWarm 232 = .ok (.lconst 0, 1) := by decide +kernel
theorem dX12_layWarm_233 : decode cX12_layWarm 233 = .ok (.putfield 360, 3) := by decide +kernel
theorem dX12_layWarm_236 : decode cX12_layWarm 236 = .ok (.iconst 0, 1) := by decide +kernel
theorem dX12_layWarm_237 : decode cX12_layWarm 237 = .ok (.istore 4, 2) := by decide +kernel
theorem dX12_layWarm_239 : decode cX12_layWarm 239 = .ok (.iload 4, 2) := by decide +kernel
theorem dX12_layWarm_241 : decode cX12_layWarm 241 = .ok (.bipush 14, 2) := by decide +kernel
theorem dX12_layWarm_243 : decode cX12_layWarm 243 = .ok (.if_icmp .gt 25, 3) := by decide +kernel
theorem dX12_layWarm_246 : decode cX12_layWarm 246 = .ok (.aload_n 0, 1) := by decide +kernel
theorem dX12_layWarm_247 : decode cX12_layWarm 247 = .ok (.dup, 1) := by decide +kernel
theorem dX12_layWarm_248 : decode cX12_layWarm 248 = .ok (.getfield 360, 3) := by decide +kernel
theorem dX12_layWarm_251 : decode cX12_layWarm 251 = .ok (.aload_n 0, 1) := by decide +kernel
theorem dX12_layWarm_252 : decode cX12_layWarm 252 = .ok (.getfield 49, 3) := by decide +kernel
theorem dX12_layWarm_255 : decode cX12_layWarm 255 = .ok (.iload 4, 2) := by decide +kernel
theorem dX12_layWarm_257 : decode cX12_layWarm 257 = .ok (.laload, 1) := by decide +kernel
theorem dX12_layWarm_258 : decode cX12_layWarm 258 = .ok (.ladd, 1) := by decide +kernel
theorem dX12_layWarm_259 : decode cX12_layWarm 259 = .ok (.putfield 360, 3) := by decide +kernel
theorem dX12_layWarm_262 : decode cX12_layWarm 262 = .ok (.iinc 4 1, 3) := by decide +kernel
theorem dX12_layWarm_265 : decode cX12_layWarm 265 = .ok (.goto (-26), 3) := by decide +kernel
theorem dX12_layWarm_268 : decode cX12_layWarm 268 = .ok (.return_, 1) := by decide +kernel
noncomputable def vX12_layWarm : List Cond := .code yX12_layWarm cX12_layWarm 8 none :: (([.methodLink RX12 240 yX12_layOff, .instanceMethod yX12_layOff, .selects RX12 yX12_layOff yX12_layOff, .initialized RX12, .fieldLink RX12 49 "IcicleClockModel" "hangs" "[J", .fieldLink RX12 353 "IcicleClockModel" "oftenAll" "J", .fieldLink RX12 231 "IcicleClockModel" "days" "I", .methodLink RX12 357 yX12_goWarm, .instanceMethod yX12_goWarm, .selects RX12 yX12_goWarm yX12_goWarm, .methodLink RX12 350 yX12_isThaw, .instanceMethod yX12_isThaw, .selects RX12 yX12_isThaw yX12_isThaw, .fieldLink RX12 56 "IcicleClockModel" "oftenOn" "[J", .fieldLink RX12 34 "IcicleClockModel" "off" "[I", .methodLink RX12 215 yX12_sunOf, .instanceMethod yX12_sunOf, .selects RX12 yX12_sunOf yX12_sunOf, .fieldLink RX12 53 "IcicleClockModel" "hangsThen" "[J", .fieldLink RX12 360 "IcicleClockModel" "oftenNever" "J"] : List Cond) ++ (wsX120 ++ (vX12_layOff ++ (vX12_goWarm ++ (vX12_isThaw ++ vX12_sunOf)))))
theorem iX12_layWarm_12 : ∀ w ∈ wsX120, w ∈ vX12_layWarm := fun _ h => List.mem_cons_of_mem _ (List.mem_append_right _ (List.mem_append_left _ h))
theorem gs_X12_layWarm : Gd vX12_layWarm := Gd.cons (by decide +kernel) (Gd.app (Gd.r (by decide +kernel)) (Gd.app gwX_12 (Gd.app gs_X12_layOff (Gd.app gs_X12_goWarm (Gd.app gs_X12_isThaw gs_X12_sunOf)))))
theorem gg_X12_layWarm_X12_layOff : GoodIn vX12_layWarm (wsV RX12 240 RX12 yX12_layOff vX12_layOff) := goodIn_app (goodIn_r _ [1, 2, 3, 4] (by decide +kernel) (by decide +kernel)) (fun w h => ⟨List.mem_cons_of_mem _ (List.mem_append_right _ (List.mem_append_right _ (List.mem_append_left _ h))), gs_X12_layOff w h⟩)
theorem gg_X12_layWarm_X12_goWarm : GoodIn vX12_layWarm (wsV RX12 357 RX12 yX12_goWarm vX12_goWarm) := goodIn_app (goodIn_r _ [8, 9, 10, 4] (by decide +kernel) (by decide +kernel)) (fun w h => ⟨List.mem_cons_of_mem _ (List.mem_append_right _ (List.mem_append_right _ (List.mem_append_right _ (List.mem_append_left _ h)))), gs_X12_goWarm w h⟩)
theorem gg_X12_layWarm_X12_isThaw : GoodIn vX12_layWarm (wsV RX12 350 RX12 yX12_isThaw vX12_isThaw) := goodIn_app (goodIn_r _ [11, 12, 13, 4] (by decide +kernel) (by decide +kernel)) (fun w h => ⟨List.mem_cons_of_mem _ (List.mem_append_right _ (List.mem_append_right _ (List.mem_append_right _ (List.mem_append_right _ (List.mem_append_left _ h))))), gs_X12_isThaw w h⟩)
theorem gg_X12_layWarm_X12_sunOf : GoodIn vX12_layWarm (wsV RX12 215 RX12 yX12_sunOf vX12_sunOf) := goodIn_app (goodIn_r _ [16, 17, 18, 4] (by decide +kernel) (by decide +kernel)) (fun w h => ⟨List.mem_cons_of_mem _ (List.mem_append_right _ (List.mem_append_right _ (List.mem_append_right _ (List.mem_append_right _ (List.mem_append_right _ (h)))))), gs_X12_sunOf w h⟩)
set_option maxHeartbeats 4000000 in
set_option maxRecDepth 100000 in
theorem s_X12_layWarm (l : Launch) (D : va_G) (cs : Nat → ClassId) (ad : Nat → Nat) (kS : kSt) (K : sK) (hKO : KO K) (hj : wJ ad 218) (g : Nat → va_E) (hW : WF (shp ad K) ad cs g) (ev : Int32) (len : Int32) (hp0 : 0 ≤ ev.toInt ∧ ev.toInt ≤ 4) : sV l yX12_layWarm vX12_layWarm { frames := 2, cells := 0, slots := 0, locals := 45 } D cs ad kS [.ref (ad 197), .int ev, .int len] g (fun g2 => WF (shp ad K) ad cs g2 ∧ (∀ j, j ≠ 197 ∧ j ≠ 204 ∧ j ≠ 209 ∧ j ≠ 210 ∧ j ≠ 211 → g2 j = g j) ∧ (1 ≤ gJ g2 197 30)) := by
  refine Met.startS (cc := cX12_layWarm) (maxL := 8) (ret := none) RX12 rfl (by decide) rfl (Nat.le_of_ble_eq_true rfl) ?_
  intro p e s m below meth c ls X Z hP hl
  have hx := X.1
  have hb := X.2.1
  have hS : va_S (wA ad 218) s.heap s.heap [] := va_S.rf
  have hA : ∀ i, i < 218 → wA ad 218 (ad i) := fun i h => ⟨i, h, rfl⟩
  have hfr : ∀ j, j ≠ 197 ∧ j ≠ 204 ∧ j ≠ 209 ∧ j ≠ 210 ∧ j ≠ 211 → g j = g j := fun _ _ => rfl
  have hl : lv_has ls 8 [(0, .ref (ad 197)), (1, .int ev), (2, .int len)] := hl
  obtain ⟨fsc_1, hgc_1, hOc_1⟩ := hW.obj (i := 197) (by decide) (sh_197 ad K)
  obtain ⟨x_3, hk_2, -⟩ := hOc_1.lng 30 rfl
  have hgix_3 := gJ_of hgc_1 hk_2
  refine lv_aload_n hx hb dX12_layWarm_0 rfl (lv_at hl 0 rfl) ?_
  refine lv_iconst (v := 0) hx hb dX12_layWarm_1 (by decide) ?_
  have hgi_4 := gJ_of hgc_1 hk_2
  refine s_callv (q := (RX12, TX12, 40)) (As := [.int 0]) (rest := []) X Z (s_X12_layOff l D cs ad kS K hKO hj g hW 0) (cwV 1 X.2.2.2.2.1 gg_X12_layWarm_X12_layOff rfl rfl rfl (by decide +kernel) ⟨Nat.le_of_ble_eq_true rfl, Nat.le_of_ble_eq_true rfl⟩) (by decide) hgc_1 rfl hP hA hS.2.1 hS rfl hl.1 rfl (Nat.le_of_ble_eq_true rfl) dX12_layWarm_2 ⟨Nat.le_of_ble_eq_true rfl, Nat.le_of_ble_eq_true rfl⟩ (fun g_6 H locs hw_5 hP hS => ?_)
  obtain ⟨hw_5W, hw_5f⟩ := hw_5
  have hfr_8 : ∀ j, j ≠ 197 ∧ j ≠ 204 ∧ j ≠ 209 ∧ j ≠ 210 ∧ j ≠ 211 → g_6 j = g j := fun j hj => (hw_5f j (by omega)).trans (hfr j hj)
  refine lv_iconst (v := 0) hx hb dX12_layWarm_5 (by decide) ?_
  refine lv_istore_n (lv' := [(3, .int 0), (0, .ref (ad 197)), (1, .int ev), (2, .int len)]) hx hb dX12_layWarm_6 rfl hl (by decide) rfl (fun ls hl => ?_)
  have HL7 : ∀ (n7 : Nat) (v7_3 : Int32) (G7 : Nat → va_E) (H : Heap) (locs : List Loc) (ls : Array Slot), (15 - v7_3.toInt).toNat < n7 → (0 ≤ v7_3.toInt ∧ v7_3.toInt ≤ 15) → (∀ j : Nat, 0 < j → (j : Int) < v7_3.toInt → gA G7 209 j = 0) → WF (shp ad K) ad cs G7 → (∀ j, j ≠ 197 ∧ j ≠ 204 ∧ j ≠ 209 ∧ j ≠ 210 ∧ j ≠ 211 → G7 j = g j) → va_P D vwCl (wL ad G7 218) H → va_S (wA ad 218) s.heap H locs → lv_has ls 8 [(3, .int v7_3), (0, .ref (ad 197)), (1, .int ev), (2, .int len)] → W p l e ({ frames := 2, cells := 0, slots := 0, locals := 45 } : Room) s m ([.ref (ad 197), .int ev, .int len] : List Value).toArray below meth c H locs 0 0 (MQ below (qV D ad 218 (fun g2 => WF (shp ad K) ad cs g2 ∧ (∀ j, j ≠ 197 ∧ j ≠ 204 ∧ j ≠ 209 ∧ j ≠ 210 ∧ j ≠ 211 → g2 j = g j) ∧ (1 ≤ gJ g2 197 30))) ([.ref (ad 197), .int ev, .int len] : List Value).toArray s 0 0 (wA ad 218)) (F0 m 7 ls []) := by
    intro n7
    induction n7 with
    | zero =>
      intro v7_3 G7 H locs ls hm7 hv7_0 he7_0 hW7 hfr7 hP hS hl
      exact absurd hm7 (Nat.not_lt_zero _)
    | succ n7 ih7 =>
      intro v7_3 G7 H locs ls hm7 hv7_0 he7_0 hW7 hfr7 hP hS hl
      obtain ⟨fsc_9, hgc_9, hOc_9⟩ := hW7.obj (i := 197) (by decide) (sh_197 ad K)
      obtain ⟨x_11, hk_10, -⟩ := hOc_9.lng 30 rfl
      have hgix_11 := gJ_of hgc_9 hk_10
      refine lv_iload_n hx hb dX12_layWarm_7 rfl (lv_at hl 0 rfl) ?_
      refine lv_bipush (v := 14) hx hb dX12_layWarm_8 (by decide) ?_
      refine lv_icmp_gt (tgt := 34) hx hb dX12_layWarm_10 (by decide) (fun hc_13 => ?_) (fun hc_13 => ?_)
      · have hhc_13 := n_lt (by decide : (14 : Int32).toInt = 14) (rfl : v7_3.toInt = v7_3.toInt) hc_13
        refine lv_aload_n hx hb dX12_layWarm_34 rfl (lv_at hl 1 rfl) ?_
        refine lv_lconst (v := 1) hx hb dX12_layWarm_35 (by decide) ?_
        refine s_put X iX12_layWarm_12 tyX12 tyX12_ok nmX12 hP hj hA hS (by decide) hgc_9 rfl 30 (by decide) (List.mem_of_getElem? (i := 6) rfl) rfl (ty := .long) (v := .long 1) (by decide +kernel) rfl rfl dX12_layWarm_36 hW7 (sh_197 ad K) hOc_9 rfl ⟨1, rfl, j_lo _, j_hi _⟩ (fun fsc_14 gc_14 H locs hOc_14 hkc_14 hnc_14 hgc_14 hfc_14 hWc_14 hP hS => ?_)
        have hfr_15 : ∀ j, j ≠ 197 ∧ j ≠ 204 ∧ j ≠ 209 ∧ j ≠ 210 ∧ j ≠ 211 → gc_14 j = g j := fun j hj => (hfc_14 j (by omega)).trans (hfr7 j hj)
        have hgi_16 := gJ_of hgc_14 hkc_14
        rw [(by decide : (1 : Int64).toInt = 1)] at hgi_16
        refine lv_iload_n hx hb dX12_layWarm_39 rfl (lv_at hl 3 rfl) ?_
        refine lv_istore_n (lv' := [(3, .int len), (0, .ref (ad 197)), (1, .int ev), (2, .int len)]) hx hb dX12_layWarm_40 rfl hl (by decide) rfl (fun ls hl => ?_)
        refine lv_iconst (v := 0) hx hb dX12_layWarm_41 (by decide) ?_
        refine lv_istore (lv' := [(4, .int 0), (3, .int len), (0, .ref (ad 197)), (1, .int ev), (2, .int len)]) hx hb dX12_layWarm_42 hl (by decide) rfl (fun ls hl => ?_)
        have HL44 : ∀ (n44 : Nat) (v44_4 : Int32) (v44_3 : Int32) (G44 : Nat → va_E) (H : Heap) (locs : List Loc) (ls : Array Slot), (14 - v44_4.toInt).toNat < n44 → (0 ≤ v44_4.toInt ∧ v44_4.toInt ≤ 14) → (∀ j : Nat, v44_4.toInt < j → j ≤ 14 → gA G44 209 j = 0) → (1 ≤ gJ G44 197 30 ∧ gJ G44 197 30 ≤ tenP (v44_4.toInt)) → WF (shp ad K) ad cs G44 → (∀ j, j ≠ 197 ∧ j ≠ 204 ∧ j ≠ 209 ∧ j ≠ 210 ∧ j ≠ 211 → G44 j = g j) → va_P D vwCl (wL ad G44 218) H → va_S (wA ad 218) s.heap H locs → lv_has ls 8 [(4, .int v44_4), (3, .int v44_3), (0, .ref (ad 197)), (1, .int ev)] → W p l e ({ frames := 2, cells := 0, slots := 0, locals := 45 } : Room) s m ([.ref (ad 197), .int ev, .int len] : List Value).toArray below meth c H locs 0 0 (MQ below (qV D ad 218 (fun g2 => WF (shp ad K) ad cs g2 ∧ (∀ j, j ≠ 197 ∧ j ≠ 204 ∧ j ≠ 209 ∧ j ≠ 210 ∧ j ≠ 211 → g2 j = g j) ∧ (1 ≤ gJ g2 197 30))) ([.ref (ad 197), .int ev, .int len] : List Value).toArray s 0 0 (wA ad 218)) (F0 m 44 ls []) := by
          intro n44
          induction n44 with
          | zero =>
            intro v44_4 v44_3 G44 H locs ls hm44 hv44_0 he44_0 he44_1 hW44 hfr44 hP hS hl
            exact absurd hm44 (Nat.not_lt_zero _)
          | succ n44 ih44 =>
            intro v44_4 v44_3 G44 H locs ls hm44 hv44_0 he44_0 he44_1 hW44 hfr44 hP hS hl
            obtain ⟨fsc_17, hgc_17, hOc_17⟩ := hW44.obj (i := 197) (by decide) (sh_197 ad K)
            obtain ⟨x_19, hk_18, -⟩ := hOc_17.lng 30 rfl
            have hgix_19 := gJ_of hgc_17 hk_18
            refine lv_iload hx hb dX12_layWarm_44 (lv_at hl 0 rfl) ?_
            refine lv_aload_n hx hb dX12_layWarm_46 rfl (lv_at hl 2 rfl) ?_
            obtain ⟨x_22, hk_21, hlx_22, hhx_22⟩ := hOc_17.int 17 rfl
            refine q_get X iX12_layWarm_12 hP (by decide) hgc_17 rfl 17 (by decide) (List.mem_of_getElem? (i := 7) rfl) (v := .int x_22) hk_21 dX12_layWarm_47 ?_
            refine lv_icmp_ge (tgt := 231) hx hb dX12_layWarm_50 (by decide) (fun hc_23 => ?_) (fun hc_23 => ?_)
            · have hhc_23 := n_le (rfl : x_22.toInt = x_22.toInt) (rfl : v44_4.toInt = v44_4.toInt) hc_23
              refine lv_aload_n hx hb dX12_layWarm_231 rfl (lv_at hl 2 rfl) ?_
              refine lv_lconst (v := 0) hx hb dX12_layWarm_232 (by decide) ?_
              refine s_put X iX12_layWarm_12 tyX12 tyX12_ok nmX12 hP hj hA hS (by decide) hgc_17 rfl 31 (by decide) (List.mem_of_getElem? (i := 20) rfl) rfl (ty := .long) (v := .long 0) (by decide +kernel) rfl rfl dX12_layWarm_233 hW44 (sh_197 ad K) hOc_17 rfl ⟨0, rfl, j_lo _, j_hi _⟩ (fun fsc_24 gc_24 H locs hOc_24 hkc_24 hnc_24 hgc_24 hfc_24 hWc_24 hP hS => ?_)
              have hk_25 := (hnc_24 30 (by decide)).trans hk_18
              have hk_26 := (hnc_24 17 (by decide)).trans hk_21
              have hfr_27 : ∀ j, j ≠ 197 ∧ j ≠ 204 ∧ j ≠ 209 ∧ j ≠ 210 ∧ j ≠ 211 → gc_24 j = g j := fun j hj => (hfc_24 j (by omega)).trans (hfr44 j hj)
              have hgi_28 := gJ_of hgc_24 hk_25
              refine lv_iconst (v := 0) hx hb dX12_layWarm_236 (by decide) ?_
              refine lv_istore (lv' := [(4, .int 0), (3, .int v44_3), (0, .ref (ad 197)), (1, .int ev)]) hx hb dX12_layWarm_237 hl (by decide) rfl (fun ls hl => ?_)
              have HL239 : ∀ (n239 : Nat) (v239_4 : Int32) (G239 : Nat → va_E) (H : Heap) (locs : List Loc) (ls : Array Slot), (15 - v239_4.toInt).toNat < n239 → (0 ≤ v239_4.toInt ∧ v239_4.toInt ≤ 15) → 1 ≤ gJ G239 197 30 → WF (shp ad K) ad cs G239 → (∀ j, j ≠ 197 ∧ j ≠ 204 ∧ j ≠ 209 ∧ j ≠ 210 ∧ j ≠ 211 → G239 j = g j) → va_P D vwCl (wL ad G239 218) H → va_S (wA ad 218) s.heap H locs → lv_has ls 8 [(4, .int v239_4), (0, .ref (ad 197))] → W p l e ({ frames := 2, cells := 0, slots := 0, locals := 45 } : Room) s m ([.ref (ad 197), .int ev, .int len] : List Value).toArray below meth c H locs 0 0 (MQ below (qV D ad 218 (fun g2 => WF (shp ad K) ad cs g2 ∧ (∀ j, j ≠ 197 ∧ j ≠ 204 ∧ j ≠ 209 ∧ j ≠ 210 ∧ j ≠ 211 → g2 j = g j) ∧ (1 ≤ gJ g2 197 30))) ([.ref (ad 197), .int ev, .int len] : List Value).toArray s 0 0 (wA ad 218)) (F0 m 239 ls []) := by
                intro n239
                induction n239 with
                | zero =>
                  intro v239_4 G239 H locs ls hm239 hv239_0 he239_0 hW239 hfr239 hP hS hl
                  exact absurd hm239 (Nat.not_lt_zero _)
                | succ n239 ih239 =>
                  intro v239_4 G239 H locs ls hm239 hv239_0 he239_0 hW239 hfr239 hP hS hl
                  obtain ⟨fsc_29, hgc_29, hOc_29⟩ := hW239.obj (i := 197) (by decide) (sh_197 ad K)
                  obtain ⟨x_31, hk_30, -⟩ := hOc_29.lng 30 rfl
                  have hgix_31 := gJ_of hgc_29 hk_30
                  refine lv_iload hx hb dX12_layWarm_239 (lv_at hl 0 rfl) ?_
                  refine lv_bipush (v := 14) hx hb dX12_layWarm_241 (by decide) ?_
                  refine lv_icmp_gt (tgt := 268) hx hb dX12_layWarm_243 (by decide) (fun hc_33 => ?_) (fun hc_33 => ?_)
                  · have hhc_33 := n_lt (by decide : (14 : Int32).toInt = 14) (rfl : v239_4.toInt = v239_4.toInt) hc_33
                    have hgi_34 := gJ_of hgc_29 hk_30
                    exact q_vret X hP hS ⟨hW239, hfr239, (by omega)⟩ dX12_layWarm_268
                  · have hhc_33 := n_nlt (by decide : (14 : Int32).toInt = 14) (rfl : v239_4.toInt = v239_4.toInt) hc_33
                    refine lv_aload_n hx hb dX12_layWarm_246 rfl (lv_at hl 1 rfl) ?_
                    refine lv_dup hx hb dX12_layWarm_247 rfl ?_
                    obtain ⟨x_36, hk_35, -⟩ := hOc_29.lng 31 rfl
                    refine q_get X iX12_layWarm_12 hP (by decide) hgc_29 rfl 31 (by decide) (List.mem_of_getElem? (i := 20) rfl) (v := .long x_36) hk_35 dX12_layWarm_248 ?_
                    refine lv_aload_n hx hb dX12_layWarm_251 rfl (lv_at hl 1 rfl) ?_
                    have hk_37 := hOc_29.ref 27 rfl
                    refine q_get X iX12_layWarm_12 hP (by decide) hgc_29 rfl 27 (by decide) (List.mem_of_getElem? (i := 5) rfl) (v := .ref (ad 209)) hk_37 dX12_layWarm_252 ?_
                    refine lv_iload hx hb dX12_layWarm_255 (lv_at hl 0 rfl) ?_
                    obtain ⟨fc_38, hgc_38, hFc_38⟩ := hW239.arj (i := 209) (by decide) (sh_209 ad K)
                    refine q_lald X hP (by decide) hgc_38 (n_in (rfl : v239_4.toInt = v239_4.toInt) (by omega) (by omega)) dX12_layWarm_257 ?_
                    refine lv_topl (fun z_39 ez_39 => ?_)
                    refine lv_ladd hx hb dX12_layWarm_258 ?_
                    refine lv_topl (fun z_40 ez_40 => ?_)
                    refine s_put X iX12_layWarm_12 tyX12 tyX12_ok nmX12 hP hj hA hS (by decide) hgc_29 rfl 31 (by decide) (List.mem_of_getElem? (i := 20) rfl) rfl (ty := .long) (v := .long z_40) (by decide +kernel) rfl rfl dX12_layWarm_259 hW239 (sh_197 ad K) hOc_29 rfl ⟨z_40, rfl, j_lo _, j_hi _⟩ (fun fsc_41 gc_41 H locs hOc_41 hkc_41 hnc_41 hgc_41 hfc_41 hWc_41 hP hS => ?_)
                    have hk_42 := (hnc_41 30 (by decide)).trans hk_30
                    have hk_43 := (hnc_41 27 (by decide)).trans hk_37
                    have hg_45 := (hfc_41 209 (by decide)).trans hgc_38
                    have hfr_44 : ∀ j, j ≠ 197 ∧ j ≠ 204 ∧ j ≠ 209 ∧ j ≠ 210 ∧ j ≠ 211 → gc_41 j = g j := fun j hj => (hfc_41 j (by omega)).trans (hfr239 j hj)
                    have hgi_46 := gJ_of hgc_41 hk_42
                    obtain ⟨x_47, ex_47⟩ : ∃ y : Int32, y = v239_4 + 1 := ⟨_, rfl⟩
                    have hx_47 : x_47.toInt = v239_4.toInt + 1 := n_add rfl (by decide : (1 : Int32).toInt = 1) ex_47 (by omega) (by omega)
                    refine lv_iinc (v := x_47) (lv' := [(4, .int x_47), (0, .ref (ad 197))]) hx hb dX12_layWarm_262 hl (k := 0) rfl (by rw [ex_47]; rfl) (by decide) rfl (fun ls hl => ?_)
                    refine lv_goto (tgt := 239) hx hb dX12_layWarm_265 (by decide) ?_
                    have hgi_48 := gJ_of hgc_41 hk_42
                    exact ih239 x_47 gc_41 _ _ ls (by omega) (by omega) (by omega) hWc_41 hfr_44 hP hS (lv_sub hl [0, 1] rfl)
              have hgi_49 := gJ_of hgc_24 hk_25
              have hiv239_4 : (0 : Int32).toInt = 0 := by decide
              exact HL239 _ 0 gc_24 _ _ ls (Nat.lt_succ_self _) (by omega) (by omega) hWc_24 hfr_27 hP hS (lv_sub hl [0, 2] rfl)
            · have hhc_23 := n_nle (rfl : x_22.toInt = x_22.toInt) (rfl : v44_4.toInt = v44_4.toInt) hc_23
              refine lv_aload_n hx hb dX12_layWarm_53 rfl (lv_at hl 2 rfl) ?_
              refine lv_iload hx hb dX12_layWarm_54 (lv_at hl 0 rfl) ?_
              have hgi_50 := gJ_of hgc_17 hk_18
              refine s_callv (q := (RX12, TX12, 40)) (As := [.int v44_4]) (rest := []) X Z (s_X12_goWarm l D cs ad kS K hKO hj G44 hW44 v44_4 (by omega) (fun j h1 h2 => he44_0 j h1 h2)) (cwV 1 X.2.2.2.2.1 gg_X12_layWarm_X12_goWarm rfl rfl rfl (by decide +kernel) ⟨Nat.le_of_ble_eq_true rfl, Nat.le_of_ble_eq_true rfl⟩) (by decide) hgc_17 rfl hP hA hS.2.1 hS rfl hl.1 rfl (Nat.le_of_ble_eq_true rfl) dX12_layWarm_56 ⟨Nat.le_of_ble_eq_true rfl, Nat.le_of_ble_eq_true rfl⟩ (fun g_52 H locs hw_51 hP hS => ?_)
              obtain ⟨hw_51W, hw_51f, hw_51⟩ := hw_51
              have hfr_54 : ∀ j, j ≠ 197 ∧ j ≠ 204 ∧ j ≠ 209 ∧ j ≠ 210 ∧ j ≠ 211 → g_52 j = g j := fun j hj => (hw_51f j (by omega)).trans (hfr44 j hj)
              have hg_55 := (hw_51f 197 (by omega)).trans hgc_17
              refine lv_aload_n hx hb dX12_layWarm_59 rfl (lv_at hl 2 rfl) ?_
              refine lv_iload hx hb dX12_layWarm_60 (lv_at hl 0 rfl) ?_
              have hgi_56 := gJ_of hg_55 hk_18
              refine s_calli (q := (RX12, TX12, 40)) (As := [.int v44_4]) (rest := []) X Z (s_X12_isThaw l D cs ad kS K hKO hj g_52 hw_51W v44_4 (by omega)) (cwV 1 X.2.2.2.2.1 gg_X12_layWarm_X12_isThaw rfl rfl rfl (by decide +kernel) ⟨Nat.le_of_ble_eq_true rfl, Nat.le_of_ble_eq_true rfl⟩) (by decide) hg_55 rfl hP hA hS.2.1 hS rfl hl.1 rfl (Nat.le_of_ble_eq_true rfl) dX12_layWarm_62 ⟨Nat.le_of_ble_eq_true rfl, Nat.le_of_ble_eq_true rfl⟩ (fun r_59 g_58 H locs hw_57 hP hS => ?_)
              obtain ⟨hw_57g, hw_57⟩ := hw_57
              rw [hw_57g] at hP
              have HJ74 : ∀ (v74_s0 : Int32) (G74 : Nat → va_E) (H : Heap) (locs : List Loc) (ls : Array Slot), (1 ≤ v74_s0.toInt ∧ v74_s0.toInt ≤ 10) → (∀ j : Nat, v44_4.toInt + 1 < j → j ≤ 14 → gA G74 210 j = 0) → (1 ≤ gJ G74 197 30 ∧ gJ G74 197 30 ≤ tenP (v44_4.toInt)) → (v74_s0.toInt = 1 ∨ v74_s0.toInt = 10) → WF (shp ad K) ad cs G74 → (∀ j, j ≠ 197 ∧ j ≠ 204 ∧ j ≠ 209 ∧ j ≠ 210 ∧ j ≠ 211 → G74 j = g j) → G74 197 = .inr (12, fsc_17) → va_P D vwCl (wL ad G74 218) H → va_S (wA ad 218) s.heap H locs → lv_has ls 8 [(4, .int v44_4), (3, .int v44_3), (0, .ref (ad 197)), (1, .int ev)] → W p l e ({ frames := 2, cells := 0, slots := 0, locals := 45 } : Room) s m ([.ref (ad 197), .int ev, .int len] : List Value).toArray below meth c H locs 0 0 (MQ below (qV D ad 218 (fun g2 => WF (shp ad K) ad cs g2 ∧ (∀ j, j ≠ 197 ∧ j ≠ 204 ∧ j ≠ 209 ∧ j ≠ 210 ∧ j ≠ 211 → g2 j = g j) ∧ (1 ≤ gJ g2 197 30))) ([.ref (ad 197), .int ev, .int len] : List Value).toArray s 0 0 (wA ad 218)) (F0 m 74 ls [.int v74_s0]) := by
                intro v74_s0 G74 H locs ls hv74_0 he74_0 he74_1 he74_2 hW74 hfr74 hg74_0 hP hS hl
                have hgi_60 := gJ_of hg74_0 hk_18
                refine lv_istore (lv' := [(5, .int v74_s0), (4, .int v44_4), (3, .int v44_3), (0, .ref (ad 197)), (1, .int ev)]) hx hb dX12_layWarm_74 hl (by decide) rfl (fun ls hl => ?_)
                refine lv_aload_n hx hb dX12_layWarm_76 rfl (lv_at hl 3 rfl) ?_
                refine lv_dup hx hb dX12_layWarm_77 rfl ?_
                refine q_get X iX12_layWarm_12 hP (by decide) hg74_0 rfl 30 (by decide) (List.mem_of_getElem? (i := 6) rfl) (v := .long x_19) hk_18 dX12_layWarm_78 ?_
                refine lv_iload hx hb dX12_layWarm_81 (lv_at hl 0 rfl) ?_
                refine lv_i2l hx hb dX12_layWarm_83 rfl ?_
                refine lv_topl (fun z_61 ez_61 => ?_)
                have hz_61 : z_61.toInt = v74_s0.toInt := ez_61 ▸ j_of rfl
                refine lv_lmul hx hb dX12_layWarm_84 ?_
                refine lv_topl (fun z_62 ez_62 => ?_)
                have hten := ten_mul (d := v44_4.toInt) ez_62 (by omega) (by omega) (by omega)
                refine s_put X iX12_layWarm_12 tyX12 tyX12_ok nmX12 hP hj hA hS (by decide) hg74_0 rfl 30 (by decide) (List.mem_of_getElem? (i := 6) rfl) rfl (ty := .long) (v := .long z_62) (by decide +kernel) rfl rfl dX12_layWarm_85 hW74 (sh_197 ad K) hOc_17 rfl ⟨z_62, rfl, j_lo _, j_hi _⟩ (fun fsc_63 gc_63 H locs hOc_63 hkc_63 hnc_63 hgc_63 hfc_63 hWc_63 hP hS => ?_)
                have hk_64 := (hnc_63 17 (by decide)).trans hk_21
                have hfr_65 : ∀ j, j ≠ 197 ∧ j ≠ 204 ∧ j ≠ 209 ∧ j ≠ 210 ∧ j ≠ 211 → gc_63 j = g j := fun j hj => (hfc_63 j (by omega)).trans (hfr74 j hj)
                have hgi_66 := gJ_of hgc_63 hkc_63
                refine lv_iconst (v := 0) hx hb dX12_layWarm_88 (by decide) ?_
                refine lv_istore (lv' := [(6, .int 0), (5, .int v74_s0), (4, .int v44_4), (3, .int v44_3), (0, .ref (ad 197)), (1, .int ev)]) hx hb dX12_layWarm_89 hl (by decide) rfl (fun ls hl => ?_)
                have HL91 : ∀ (n91 : Nat) (v91_6 : Int32) (G91 : Nat → va_E) (H : Heap) (locs : List Loc) (ls : Array Slot), (13 - v91_6.toInt).toNat < n91 → (0 ≤ v91_6.toInt ∧ v91_6.toInt ≤ 13) → (∀ j : Nat, v44_4.toInt + 1 < j → j ≤ 14 → gA G91 210 j = 0) → (1 ≤ gJ G91 197 30 ∧ gJ G91 197 30 ≤ tenP (v44_4.toInt + 1)) → WF (shp ad K) ad cs G91 → (∀ j, j ≠ 197 ∧ j ≠ 204 ∧ j ≠ 209 ∧ j ≠ 210 ∧ j ≠ 211 → G91 j = g j) → va_P D vwCl (wL ad G91 218) H → va_S (wA ad 218) s.heap H locs → lv_has ls 8 [(6, .int v91_6), (5, .int v74_s0), (4, .int v44_4), (3, .int v44_3), (0, .ref (ad 197)), (1, .int ev)] → W p l e ({ frames := 2, cells := 0, slots := 0, locals := 45 } : Room) s m ([.ref (ad 197), .int ev, .int len] : List Value).toArray below meth c H locs 0 0 (MQ below (qV D ad 218 (fun g2 => WF (shp ad K) ad cs g2 ∧ (∀ j, j ≠ 197 ∧ j ≠ 204 ∧ j ≠ 209 ∧ j ≠ 210 ∧ j ≠ 211 → g2 j = g j) ∧ (1 ≤ gJ g2 197 30))) ([.ref (ad 197), .int ev, .int len] : List Value).toArray s 0 0 (wA ad 218)) (F0 m 91 ls []) := by
                  intro n91
                  induction n91 with
                  | zero =>
                    intro v91_6 G91 H locs ls hm91 hv91_0 he91_0 he91_1 hW91 hfr91 hP hS hl
                    exact absurd hm91 (Nat.not_lt_zero _)
                  | succ n91 ih91 =>
                    intro v91_6 G91 H locs ls hm91 hv91_0 he91_0 he91_1 hW91 hfr91 hP hS hl
                    obtain ⟨fsc_67, hgc_67, hOc_67⟩ := hW91.obj (i := 197) (by decide) (sh_197 ad K)
                    obtain ⟨x_69, hk_68, -⟩ := hOc_67.lng 30 rfl
                    have hgix_69 := gJ_of hgc_67 hk_68
                    refine lv_iload hx hb dX12_layWarm_91 (lv_at hl 0 rfl) ?_
                    refine lv_iload hx hb dX12_layWarm_93 (lv_at hl 2 rfl) ?_
                    refine lv_icmp_ge (tgt := 117) hx hb dX12_layWarm_95 (by decide) (fun hc_71 => ?_) (fun hc_71 => ?_)
                    · have hhc_71 := n_le (rfl : v44_4.toInt = v44_4.toInt) (rfl : v91_6.toInt = v91_6.toInt) hc_71
                      refine lv_aload_n hx hb dX12_layWarm_117 rfl (lv_at hl 4 rfl) ?_
                      have hk_72 := hOc_67.ref 29 rfl
                      refine q_get X iX12_layWarm_12 hP (by decide) hgc_67 rfl 29 (by decide) (List.mem_of_getElem? (i := 14) rfl) (v := .ref (ad 211)) hk_72 dX12_layWarm_118 ?_
                      refine lv_iload hx hb dX12_layWarm_121 (lv_at hl 2 rfl) ?_
                      refine lv_lconst (v := 0) hx hb dX12_layWarm_123 (by decide) ?_
                      obtain ⟨fc_73, hgc_73, hFc_73⟩ := hW91.arj (i := 211) (by decide) (sh_211 ad K)
                      refine s_last X hP hj hA hS (by decide) hgc_73 (n_in (rfl : v44_4.toInt = v44_4.toInt) (by omega) (by omega)) dX12_layWarm_124 hW91 (sh_211 ad K) (hFc_73.put trivial) (fun fc_74 gc_74 H locs ec_74 hFc_74 hgc_74 hfc_74 hWc_74 hP hS => ?_)
                      have hg_76 := (hfc_74 197 (by decide)).trans hgc_67
                      have hfr_75 : ∀ j, j ≠ 197 ∧ j ≠ 204 ∧ j ≠ 209 ∧ j ≠ 210 ∧ j ≠ 211 → gc_74 j = g j := fun j hj => (hfc_74 j (by omega)).trans (hfr91 j hj)
                      refine lv_iload_n hx hb dX12_layWarm_125 rfl (lv_at hl 3 rfl) ?_
                      refine lv_aload_n hx hb dX12_layWarm_126 rfl (lv_at hl 4 rfl) ?_
                      have hk_77 := hOc_67.ref 15 rfl
                      refine q_get X iX12_layWarm_12 hP (by decide) hg_76 rfl 15 (by decide) (List.mem_of_getElem? (i := 15) rfl) (v := .ref (ad 204)) hk_77 dX12_layWarm_127 ?_
                      refine lv_bipush (v := 14) hx hb dX12_layWarm_130 (by decide) ?_
                      refine lv_iload_n hx hb dX12_layWarm_132 rfl (lv_at hl 5 rfl) ?_
                      refine lv_imul hx hb dX12_layWarm_133 ?_
                      refine lv_topi (fun z_78 ez_78 => ?_)
                      have hz_78 : z_78.toInt = 14 * ev.toInt := n_mul (by decide : (14 : Int32).toInt = 14) (rfl : ev.toInt = ev.toInt) ez_78 (by omega) (by omega)
                      refine lv_iload hx hb dX12_layWarm_134 (lv_at hl 2 rfl) ?_
                      refine lv_iadd hx hb dX12_layWarm_136 ?_
                      refine lv_topi (fun z_79 ez_79 => ?_)
                      have hz_79 : z_79.toInt = z_78.toInt + v44_4.toInt := n_add (rfl : z_78.toInt = z_78.toInt) (rfl : v44_4.toInt = v44_4.toInt) ez_79 (by omega) (by omega)
                      obtain ⟨fc_80, hgc_80, hFc_80⟩ := hWc_74.arr (i := 204) (by decide) (sh_204 ad K)
                      refine q_iald X hP (by decide) hgc_80 (n_in (rfl : z_79.toInt = z_79.toInt) (by omega) (by omega)) dX12_layWarm_137 ?_
                      refine lv_topi (fun z_81 ez_81 => ?_)
                      refine lv_isub hx hb dX12_layWarm_138 ?_
                      refine lv_topi (fun z_82 ez_82 => ?_)
                      refine lv_istore_n (lv' := [(3, .int z_82), (6, .int v91_6), (5, .int v74_s0), (4, .int v44_4), (0, .ref (ad 197)), (1, .int ev)]) hx hb dX12_layWarm_139 rfl hl (by decide) rfl (fun ls hl => ?_)
                      refine lv_iconst (v := 0) hx hb dX12_layWarm_140 (by decide) ?_
                      refine lv_istore (lv' := [(6, .int 0), (3, .int z_82), (5, .int v74_s0), (4, .int v44_4), (0, .ref (ad 197)), (1, .int ev)]) hx hb dX12_layWarm_141 hl (by decide) rfl (fun ls hl => ?_)
                      have HL143 : ∀ (n143 : Nat) (v143_6 : Int32) (G143 : Nat → va_E) (H : Heap) (locs : List Loc) (ls : Array Slot), (15 - v143_6.toInt).toNat < n143 → (0 ≤ v143_6.toInt ∧ v143_6.toInt ≤ 15) → (∀ j : Nat, v44_4.toInt + 1 < j → j ≤ 14 → gA G143 210 j = 0) → (1 ≤ gJ G143 197 30 ∧ gJ G143 197 30 ≤ tenP (v44_4.toInt + 1)) → (∀ j : Nat, v44_4.toInt + 1 < j → (j : Int) < v143_6.toInt → gA G143 209 j = 0) → WF (shp ad K) ad cs G143 → (∀ j, j ≠ 197 ∧ j ≠ 204 ∧ j ≠ 209 ∧ j ≠ 210 ∧ j ≠ 211 → G143 j = g j) → va_P D vwCl (wL ad G143 218) H → va_S (wA ad 218) s.heap H locs → lv_has ls 8 [(6, .int v143_6), (3, .int z_82), (4, .int v44_4), (0, .ref (ad 197)), (1, .int ev)] → W p l e ({ frames := 2, cells := 0, slots := 0, locals := 45 } : Room) s m ([.ref (ad 197), .int ev, .int len] : List Value).toArray below meth c H locs 0 0 (MQ below (qV D ad 218 (fun g2 => WF (shp ad K) ad cs g2 ∧ (∀ j, j ≠ 197 ∧ j ≠ 204 ∧ j ≠ 209 ∧ j ≠ 210 ∧ j ≠ 211 → g2 j = g j) ∧ (1 ≤ gJ g2 197 30))) ([.ref (ad 197), .int ev, .int len] : List Value).toArray s 0 0 (wA ad 218)) (F0 m 143 ls []) := by
                        intro n143
                        induction n143 with
                        | zero =>
                          intro v143_6 G143 H locs ls hm143 hv143_0 he143_0 he143_1 he143_2 hW143 hfr143 hP hS hl
                          exact absurd hm143 (Nat.not_lt_zero _)
                        | succ n143 ih143 =>
                          intro v143_6 G143 H locs ls hm143 hv143_0 he143_0 he143_1 he143_2 hW143 hfr143 hP hS hl
                          obtain ⟨fsc_83, hgc_83, hOc_83⟩ := hW143.obj (i := 197) (by decide) (sh_197 ad K)
                          obtain ⟨x_85, hk_84, -⟩ := hOc_83.lng 30 rfl
                          have hgix_85 := gJ_of hgc_83 hk_84
                          refine lv_iload hx hb dX12_layWarm_143 (lv_at hl 0 rfl) ?_
                          refine lv_bipush (v := 14) hx hb dX12_layWarm_145 (by decide) ?_
                          refine lv_icmp_gt (tgt := 225) hx hb dX12_layWarm_147 (by decide) (fun hc_87 => ?_) (fun hc_87 => ?_)
                          · have hhc_87 := n_lt (by decide : (14 : Int32).toInt = 14) (rfl : v143_6.toInt = v143_6.toInt) hc_87
                            obtain ⟨x_88, ex_88⟩ : ∃ y : Int32, y = v44_4 + 1 := ⟨_, rfl⟩
                            have hx_88 : x_88.toInt = v44_4.toInt + 1 := n_add rfl (by decide : (1 : Int32).toInt = 1) ex_88 (by omega) (by omega)
                            refine lv_iinc (v := x_88) (lv' := [(4, .int x_88), (6, .int v143_6), (3, .int z_82), (0, .ref (ad 197)), (1, .int ev)]) hx hb dX12_layWarm_225 hl (k := 2) rfl (by rw [ex_88]; rfl) (by decide) rfl (fun ls hl => ?_)
                            refine lv_goto (tgt := 44) hx hb dX12_layWarm_228 (by decide) ?_
                            have hgi_89 := gJ_of hgc_83 hk_84
                            have ht1 : x_88.toInt = v44_4.toInt + 1 := hx_88
                            exact ih44 x_88 z_82 G143 _ _ ls (by omega) (by omega) (fun j h1 h2 => he143_2 j (by omega) (by omega)) (by rw [ht1]; exact he143_1) hW143 hfr143 hP hS (lv_sub hl [0, 2, 3, 4] rfl)
                          · have hhc_87 := n_nlt (by decide : (14 : Int32).toInt = 14) (rfl : v143_6.toInt = v143_6.toInt) hc_87
                            refine lv_iload_n hx hb dX12_layWarm_150 rfl (lv_at hl 1 rfl) ?_
                            refine lv_iload hx hb dX12_layWarm_151 (lv_at hl 0 rfl) ?_
                            refine lv_aload_n hx hb dX12_layWarm_153 rfl (lv_at hl 3 rfl) ?_
                            refine lv_iload_n hx hb dX12_layWarm_154 rfl (lv_at hl 4 rfl) ?_
                            have hgi_90 := gJ_of hgc_83 hk_84
                            refine s_calli (q := (RX12, TX12, 40)) (As := [.int ev]) (rest := [.int v143_6, .int z_82]) X Z (s_X12_sunOf l D cs ad kS K hKO hj G143 hW143 ev (by omega)) (cwV 1 X.2.2.2.2.1 gg_X12_layWarm_X12_sunOf rfl rfl rfl (by decide +kernel) ⟨Nat.le_of_ble_eq_true rfl, Nat.le_of_ble_eq_true rfl⟩) (by decide) hgc_83 rfl hP hA hS.2.1 hS rfl hl.1 rfl (Nat.le_of_ble_eq_true rfl) dX12_layWarm_155 ⟨Nat.le_of_ble_eq_true rfl, Nat.le_of_ble_eq_true rfl⟩ (fun r_93 g_92 H locs hw_91 hP hS => ?_)
                            rw [hw_91] at hP
                            refine lv_imul hx hb dX12_layWarm_158 ?_
                            refine lv_topi (fun z_94 ez_94 => ?_)
                            refine lv_isub hx hb dX12_layWarm_159 ?_
                            refine lv_topi (fun z_95 ez_95 => ?_)
                            refine lv_if_gt (tgt := 167) hx hb dX12_layWarm_160 (by decide) (fun hc_96 => ?_) (fun hc_96 => ?_)
                            · have hhc_96 := n_lt (by decide : (0 : Int32).toInt = 0) (rfl : z_95.toInt = z_95.toInt) hc_96
                              refine lv_iconst (v := 0) hx hb dX12_layWarm_167 (by decide) ?_
                              refine lv_istore (lv' := [(7, .int 0), (6, .int v143_6), (3, .int z_82), (4, .int v44_4), (0, .ref (ad 197)), (1, .int ev)]) hx hb dX12_layWarm_168 hl (by decide) rfl (fun ls hl => ?_)
                              refine lv_aload_n hx hb dX12_layWarm_170 rfl (lv_at hl 4 rfl) ?_
                              have hk_97 := hOc_83.ref 29 rfl
                              refine q_get X iX12_layWarm_12 hP (by decide) hgc_83 rfl 29 (by decide) (List.mem_of_getElem? (i := 14) rfl) (v := .ref (ad 211)) hk_97 dX12_layWarm_171 ?_
                              refine lv_iload hx hb dX12_layWarm_174 (lv_at hl 3 rfl) ?_
                              refine lv_dup2_11 hx hb dX12_layWarm_176 rfl rfl ?_
                              obtain ⟨fc_98, hgc_98, hFc_98⟩ := hW143.arj (i := 211) (by decide) (sh_211 ad K)
                              refine q_lald X hP (by decide) hgc_98 (n_in (rfl : v44_4.toInt = v44_4.toInt) (by omega) (by omega)) dX12_layWarm_177 ?_
                              refine lv_topl (fun z_99 ez_99 => ?_)
                              refine lv_iload hx hb dX12_layWarm_178 (lv_at hl 0 rfl) ?_
                              refine lv_if_eq (tgt := 193) hx hb dX12_layWarm_180 (by decide) (fun _ => ?_) (fun h => absurd h (by decide))
                              refine lv_lconst (v := 0) hx hb dX12_layWarm_193 (by decide) ?_
                              refine lv_ladd hx hb dX12_layWarm_194 ?_
                              refine lv_topl (fun z_100 ez_100 => ?_)
                              refine s_last X hP hj hA hS (by decide) hgc_98 (n_in (rfl : v44_4.toInt = v44_4.toInt) (by omega) (by omega)) dX12_layWarm_195 hW143 (sh_211 ad K) (hFc_98.put trivial) (fun fc_101 gc_101 H locs ec_101 hFc_101 hgc_101 hfc_101 hWc_101 hP hS => ?_)
                              have hg_103 := (hfc_101 197 (by decide)).trans hgc_83
                              have hfr_102 : ∀ j, j ≠ 197 ∧ j ≠ 204 ∧ j ≠ 209 ∧ j ≠ 210 ∧ j ≠ 211 → gc_101 j = g j := fun j hj => (hfc_101 j (by omega)).trans (hfr143 j hj)
                              refine lv_aload_n hx hb dX12_layWarm_196 rfl (lv_at hl 4 rfl) ?_
                              have hk_104 := hOc_83.ref 27 rfl
                              refine q_get X iX12_layWarm_12 hP (by decide) hg_103 rfl 27 (by decide) (List.mem_of_getElem? (i := 5) rfl) (v := .ref (ad 209)) hk_104 dX12_layWarm_197 ?_
                              refine lv_iload hx hb dX12_layWarm_200 (lv_at hl 1 rfl) ?_
                              refine lv_iload hx hb dX12_layWarm_202 (lv_at hl 0 rfl) ?_
                              refine lv_if_eq (tgt := 211) hx hb dX12_layWarm_204 (by decide) (fun _ => ?_) (fun h => absurd h (by decide))
                              refine lv_aload_n hx hb dX12_layWarm_211 rfl (lv_at hl 4 rfl) ?_
                              have hk_105 := hOc_83.ref 28 rfl
                              refine q_get X iX12_layWarm_12 hP (by decide) hg_103 rfl 28 (by decide) (List.mem_of_getElem? (i := 19) rfl) (v := .ref (ad 210)) hk_105 dX12_layWarm_212 ?_
                              refine lv_iload hx hb dX12_layWarm_215 (lv_at hl 1 rfl) ?_
                              obtain ⟨fc_106, hgc_106, hFc_106⟩ := hWc_101.arj (i := 210) (by decide) (sh_210 ad K)
                              refine q_lald X hP (by decide) hgc_106 (n_in (rfl : v143_6.toInt = v143_6.toInt) (by omega) (by omega)) dX12_layWarm_217 ?_
                              refine lv_topl (fun z_107 ez_107 => ?_)
                              have hgaz_107 : gA gc_101 210 (v143_6.toNatClampNeg) = z_107.toInt := by rw [ez_107]; exact gA_ofL hgc_106 _
                              obtain ⟨fc_108, hgc_108, hFc_108⟩ := hWc_101.arj (i := 209) (by decide) (sh_209 ad K)
                              refine s_last X hP hj hA hS (by decide) hgc_108 (n_in (rfl : v143_6.toInt = v143_6.toInt) (by omega) (by omega)) dX12_layWarm_218 hWc_101 (sh_209 ad K) (hFc_108.put trivial) (fun fc_109 gc_109 H locs ec_109 hFc_109 hgc_109 hfc_109 hWc_109 hP hS => ?_)
                              have hg_111 := (hfc_109 197 (by decide)).trans hg_103
                              have hg_112 := (hfc_109 211 (by decide)).trans hgc_101
                              have hg_113 := (hfc_109 210 (by decide)).trans hgc_106
                              have hfr_110 : ∀ j, j ≠ 197 ∧ j ≠ 204 ∧ j ≠ 209 ∧ j ≠ 210 ∧ j ≠ 211 → gc_109 j = g j := fun j hj => (hfc_109 j (by omega)).trans (hfr_102 j hj)
                              have hcl_114 := n_cl (rfl : v143_6.toInt = v143_6.toInt) (by omega)
                              obtain ⟨x_115, ex_115⟩ : ∃ y : Int32, y = v143_6 + 1 := ⟨_, rfl⟩
                              have hx_115 : x_115.toInt = v143_6.toInt + 1 := n_add rfl (by decide : (1 : Int32).toInt = 1) ex_115 (by omega) (by omega)
                              refine lv_iinc (v := x_115) (lv' := [(6, .int x_115), (7, .int 0), (3, .int z_82), (4, .int v44_4), (0, .ref (ad 197)), (1, .int ev)]) hx hb dX12_layWarm_219 hl (k := 1) rfl (by rw [ex_115]; rfl) (by decide) rfl (fun ls hl => ?_)
                              refine lv_goto (tgt := 143) hx hb dX12_layWarm_222 (by decide) ?_
                              have hgi_116 := gJ_of hg_111 hk_84
                              exact ih143 x_115 gc_109 _ _ ls (by omega) (by omega) (fun j h1 h2 => by rw [gA_tr (hfc_109 210 (by omega)) j, gA_tr (hfc_101 210 (by omega)) j]; exact he143_0 j h1 h2) (by unfold gJ; rw [hfc_109 197 (by omega), hfc_101 197 (by omega)]; exact he143_1) (fun j h1 h2 => by by_cases q : (j : Int) = v143_6.toInt; exact (gA_at hgc_108 hgc_109 ec_109 (by omega)).trans (by have h5 := he143_0 v143_6.toNatClampNeg (by omega) (by omega); have h6 := gA_tr (hfc_101 210 (by omega)) v143_6.toNatClampNeg; have h7 := hgaz_107; omega); exact (gA_ne hgc_108 hgc_109 ec_109 (by omega)).trans ((gA_tr (hfc_101 209 (by omega)) j).trans (he143_2 j h1 (by omega)))) hWc_109 hfr_110 hP hS (lv_sub hl [0, 2, 3, 4, 5] rfl)
                            · have hhc_96 := n_nlt (by decide : (0 : Int32).toInt = 0) (rfl : z_95.toInt = z_95.toInt) hc_96
                              refine lv_iconst (v := 1) hx hb dX12_layWarm_163 (by decide) ?_
                              refine lv_goto (tgt := 168) hx hb dX12_layWarm_164 (by decide) ?_
                              refine lv_istore (lv' := [(7, .int 1), (6, .int v143_6), (3, .int z_82), (4, .int v44_4), (0, .ref (ad 197)), (1, .int ev)]) hx hb dX12_layWarm_168 hl (by decide) rfl (fun ls hl => ?_)
                              refine lv_aload_n hx hb dX12_layWarm_170 rfl (lv_at hl 4 rfl) ?_
                              have hk_117 := hOc_83.ref 29 rfl
                              refine q_get X iX12_layWarm_12 hP (by decide) hgc_83 rfl 29 (by decide) (List.mem_of_getElem? (i := 14) rfl) (v := .ref (ad 211)) hk_117 dX12_layWarm_171 ?_
                              refine lv_iload hx hb dX12_layWarm_174 (lv_at hl 3 rfl) ?_
                              refine lv_dup2_11 hx hb dX12_layWarm_176 rfl rfl ?_
                              obtain ⟨fc_118, hgc_118, hFc_118⟩ := hW143.arj (i := 211) (by decide) (sh_211 ad K)
                              refine q_lald X hP (by decide) hgc_118 (n_in (rfl : v44_4.toInt = v44_4.toInt) (by omega) (by omega)) dX12_layWarm_177 ?_
                              refine lv_topl (fun z_119 ez_119 => ?_)
                              refine lv_iload hx hb dX12_layWarm_178 (lv_at hl 0 rfl) ?_
                              refine lv_if_eq (tgt := 193) hx hb dX12_layWarm_180 (by decide) (fun h => absurd h (by decide)) (fun _ => ?_)
                              refine lv_aload_n hx hb dX12_layWarm_183 rfl (lv_at hl 4 rfl) ?_
                              have hk_120 := hOc_83.ref 28 rfl
                              refine q_get X iX12_layWarm_12 hP (by decide) hgc_83 rfl 28 (by decide) (List.mem_of_getElem? (i := 19) rfl) (v := .ref (ad 210)) hk_120 dX12_layWarm_184 ?_
                              refine lv_iload hx hb dX12_layWarm_187 (lv_at hl 1 rfl) ?_
                              obtain ⟨fc_121, hgc_121, hFc_121⟩ := hW143.arj (i := 210) (by decide) (sh_210 ad K)
                              refine q_lald X hP (by decide) hgc_121 (n_in (rfl : v143_6.toInt = v143_6.toInt) (by omega) (by omega)) dX12_layWarm_189 ?_
                              refine lv_topl (fun z_122 ez_122 => ?_)
                              refine lv_goto (tgt := 194) hx hb dX12_layWarm_190 (by decide) ?_
                              refine lv_ladd hx hb dX12_layWarm_194 ?_
                              refine lv_topl (fun z_123 ez_123 => ?_)
                              refine s_last X hP hj hA hS (by decide) hgc_118 (n_in (rfl : v44_4.toInt = v44_4.toInt) (by omega) (by omega)) dX12_layWarm_195 hW143 (sh_211 ad K) (hFc_118.put trivial) (fun fc_124 gc_124 H locs ec_124 hFc_124 hgc_124 hfc_124 hWc_124 hP hS => ?_)
                              have hg_126 := (hfc_124 197 (by decide)).trans hgc_83
                              have hg_127 := (hfc_124 210 (by decide)).trans hgc_121
                              have hfr_125 : ∀ j, j ≠ 197 ∧ j ≠ 204 ∧ j ≠ 209 ∧ j ≠ 210 ∧ j ≠ 211 → gc_124 j = g j := fun j hj => (hfc_124 j (by omega)).trans (hfr143 j hj)
                              refine lv_aload_n hx hb dX12_layWarm_196 rfl (lv_at hl 4 rfl) ?_
                              have hk_128 := hOc_83.ref 27 rfl
                              refine q_get X iX12_layWarm_12 hP (by decide) hg_126 rfl 27 (by decide) (List.mem_of_getElem? (i := 5) rfl) (v := .ref (ad 209)) hk_128 dX12_layWarm_197 ?_
                              refine lv_iload hx hb dX12_layWarm_200 (lv_at hl 1 rfl) ?_
                              refine lv_iload hx hb dX12_layWarm_202 (lv_at hl 0 rfl) ?_
                              refine lv_if_eq (tgt := 211) hx hb dX12_layWarm_204 (by decide) (fun h => absurd h (by decide)) (fun _ => ?_)
                              refine lv_lconst (v := 0) hx hb dX12_layWarm_207 (by decide) ?_
                              refine lv_goto (tgt := 218) hx hb dX12_layWarm_208 (by decide) ?_
                              obtain ⟨fc_129, hgc_129, hFc_129⟩ := hWc_124.arj (i := 209) (by decide) (sh_209 ad K)
                              refine s_last X hP hj hA hS (by decide) hgc_129 (n_in (rfl : v143_6.toInt = v143_6.toInt) (by omega) (by omega)) dX12_layWarm_218 hWc_124 (sh_209 ad K) (hFc_129.put trivial) (fun fc_130 gc_130 H locs ec_130 hFc_130 hgc_130 hfc_130 hWc_130 hP hS => ?_)
                              have hg_132 := (hfc_130 197 (by decide)).trans hg_126
                              have hg_133 := (hfc_130 210 (by decide)).trans hg_127
                              have hg_134 := (hfc_130 211 (by decide)).trans hgc_124
                              have hfr_131 : ∀ j, j ≠ 197 ∧ j ≠ 204 ∧ j ≠ 209 ∧ j ≠ 210 ∧ j ≠ 211 → gc_130 j = g j := fun j hj => (hfc_130 j (by omega)).trans (hfr_125 j hj)
                              have hcl_135 := n_cl (rfl : v143_6.toInt = v143_6.toInt) (by omega)
                              have hx0q_136 : (0 : Int64).toInt = 0 := by decide
                              obtain ⟨x_137, ex_137⟩ : ∃ y : Int32, y = v143_6 + 1 := ⟨_, rfl⟩
                              have hx_137 : x_137.toInt = v143_6.toInt + 1 := n_add rfl (by decide : (1 : Int32).toInt = 1) ex_137 (by omega) (by omega)
                              refine lv_iinc (v := x_137) (lv' := [(6, .int x_137), (7, .int 1), (3, .int z_82), (4, .int v44_4), (0, .ref (ad 197)), (1, .int ev)]) hx hb dX12_layWarm_219 hl (k := 1) rfl (by rw [ex_137]; rfl) (by decide) rfl (fun ls hl => ?_)
                              refine lv_goto (tgt := 143) hx hb dX12_layWarm_222 (by decide) ?_
                              have hgi_138 := gJ_of hg_132 hk_84
                              exact ih143 x_137 gc_130 _ _ ls (by omega) (by omega) (fun j h1 h2 => by rw [gA_tr (hfc_130 210 (by omega)) j, gA_tr (hfc_124 210 (by omega)) j]; exact he143_0 j h1 h2) (by unfold gJ; rw [hfc_130 197 (by omega), hfc_124 197 (by omega)]; exact he143_1) (fun j h1 h2 => by by_cases q : (j : Int) = v143_6.toInt; exact (gA_at hgc_129 hgc_130 ec_130 (by omega)).trans (by omega); exact (gA_ne hgc_129 hgc_130 ec_130 (by omega)).trans ((gA_tr (hfc_124 209 (by omega)) j).trans (he143_2 j h1 (by omega)))) hWc_130 hfr_131 hP hS (lv_sub hl [0, 2, 3, 4, 5] rfl)
                      have hgi_139 := gJ_of hg_76 hk_68
                      have hiv143_6 : (0 : Int32).toInt = 0 := by decide
                      exact HL143 _ 0 gc_74 _ _ ls (Nat.lt_succ_self _) (by omega) (fun j h1 h2 => by rw [gA_tr (hfc_74 210 (by omega)) j]; exact he91_0 j h1 h2) (by unfold gJ; rw [hfc_74 197 (by omega)]; exact he91_1) (fun j h1 h2 => by exfalso; omega) hWc_74 hfr_75 hP hS (lv_sub hl [0, 1, 3, 4, 5] rfl)
                    · have hhc_71 := n_nle (rfl : v44_4.toInt = v44_4.toInt) (rfl : v91_6.toInt = v91_6.toInt) hc_71
                      refine lv_aload_n hx hb dX12_layWarm_98 rfl (lv_at hl 4 rfl) ?_
                      have hk_140 := hOc_67.ref 29 rfl
                      refine q_get X iX12_layWarm_12 hP (by decide) hgc_67 rfl 29 (by decide) (List.mem_of_getElem? (i := 14) rfl) (v := .ref (ad 211)) hk_140 dX12_layWarm_99 ?_
                      refine lv_iload hx hb dX12_layWarm_102 (lv_at hl 0 rfl) ?_
                      refine lv_dup2_11 hx hb dX12_layWarm_104 rfl rfl ?_
                      obtain ⟨fc_141, hgc_141, hFc_141⟩ := hW91.arj (i := 211) (by decide) (sh_211 ad K)
                      refine q_lald X hP (by decide) hgc_141 (n_in (rfl : v91_6.toInt = v91_6.toInt) (by omega) (by omega)) dX12_layWarm_105 ?_
                      refine lv_topl (fun z_142 ez_142 => ?_)
                      refine lv_iload hx hb dX12_layWarm_106 (lv_at hl 1 rfl) ?_
                      refine lv_i2l hx hb dX12_layWarm_108 rfl ?_
                      refine lv_topl (fun z_143 ez_143 => ?_)
                      have hz_143 : z_143.toInt = v74_s0.toInt := ez_143 ▸ j_of rfl
                      refine lv_lmul hx hb dX12_layWarm_109 ?_
                      refine lv_topl (fun z_144 ez_144 => ?_)
                      refine s_last X hP hj hA hS (by decide) hgc_141 (n_in (rfl : v91_6.toInt = v91_6.toInt) (by omega) (by omega)) dX12_layWarm_110 hW91 (sh_211 ad K) (hFc_141.put trivial) (fun fc_145 gc_145 H locs ec_145 hFc_145 hgc_145 hfc_145 hWc_145 hP hS => ?_)
                      have hg_147 := (hfc_145 197 (by decide)).trans hgc_67
                      have hfr_146 : ∀ j, j ≠ 197 ∧ j ≠ 204 ∧ j ≠ 209 ∧ j ≠ 210 ∧ j ≠ 211 → gc_145 j = g j := fun j hj => (hfc_145 j (by omega)).trans (hfr91 j hj)
                      obtain ⟨x_148, ex_148⟩ : ∃ y : Int32, y = v91_6 + 1 := ⟨_, rfl⟩
                      have hx_148 : x_148.toInt = v91_6.toInt + 1 := n_add rfl (by decide : (1 : Int32).toInt = 1) ex_148 (by omega) (by omega)
                      refine lv_iinc (v := x_148) (lv' := [(6, .int x_148), (5, .int v74_s0), (4, .int v44_4), (3, .int v44_3), (0, .ref (ad 197)), (1, .int ev)]) hx hb dX12_layWarm_111 hl (k := 0) rfl (by rw [ex_148]; rfl) (by decide) rfl (fun ls hl => ?_)
                      refine lv_goto (tgt := 91) hx hb dX12_layWarm_114 (by decide) ?_
                      have hgi_149 := gJ_of hg_147 hk_68
                      exact ih91 x_148 gc_145 _ _ ls (by omega) (by omega) (fun j h1 h2 => by rw [gA_tr (hfc_145 210 (by omega)) j]; exact he91_0 j h1 h2) (by unfold gJ; rw [hfc_145 197 (by omega)]; exact he91_1) hWc_145 hfr_146 hP hS (lv_sub hl [0, 1, 2, 3, 4, 5] rfl)
                have hgi_150 := gJ_of hgc_63 hkc_63
                have hiv91_6 : (0 : Int32).toInt = 0 := by decide
                exact HL91 _ 0 gc_63 _ _ ls (Nat.lt_succ_self _) (by omega) (fun j h1 h2 => by rw [gA_tr (hfc_63 210 (by omega)) j]; exact he74_0 j h1 h2) (by omega) hWc_63 hfr_65 hP hS (lv_sub hl [0, 1, 2, 3, 4, 5] rfl)
              refine lv_if_eq (tgt := 73) hx hb dX12_layWarm_65 (by decide) (fun hc_151 => ?_) (fun hc_151 => ?_)
              · have hhc_151 := n_eq (rfl : r_59.toInt = r_59.toInt) (by decide : (0 : Int32).toInt = 0) hc_151
                refine lv_iconst (v := 1) hx hb dX12_layWarm_73 (by decide) ?_
                have hgi_152 := gJ_of hg_55 hk_18
                have hiv74_s0 : (1 : Int32).toInt = 1 := by decide
                exact HJ74 1 g_52 _ _ ls (by omega) hw_51 (by omega) (by omega) hw_51W hfr_54 hg_55 hP hS (lv_sub hl [0, 1, 2, 3] rfl)
              · have hhc_151 := n_ne (rfl : r_59.toInt = r_59.toInt) (by decide : (0 : Int32).toInt = 0) hc_151
                refine lv_bipush (v := 10) hx hb dX12_layWarm_68 (by decide) ?_
                refine lv_goto (tgt := 74) hx hb dX12_layWarm_70 (by decide) ?_
                have hgi_153 := gJ_of hg_55 hk_18
                have hiv74_s0 : (10 : Int32).toInt = 10 := by decide
                exact HJ74 10 g_52 _ _ ls (by omega) hw_51 (by omega) (by omega) hw_51W hfr_54 hg_55 hP hS (lv_sub hl [0, 1, 2, 3] rfl)
        have hgi_154 := gJ_of hgc_14 hkc_14
        rw [(by decide : (1 : Int64).toInt = 1)] at hgi_154
        have hiv44_4 : (0 : Int32).toInt = 0 := by decide
        have ht0 := tenP_zero (d := (0 : Int32).toInt) (by decide)
        exact HL44 _ 0 len gc_14 _ _ ls (Nat.lt_succ_self _) (by omega) (fun j h1 h2 => by have h3 := gA_tr (hfc_14 209 (by omega)) j; rw [h3]; exact he7_0 j (by omega) (by omega)) (by omega) hWc_14 hfr_15 hP hS (lv_sub hl [0, 1, 2, 3] rfl)
      · have hhc_13 := n_nlt (by decide : (14 : Int32).toInt = 14) (rfl : v7_3.toInt = v7_3.toInt) hc_13
        refine lv_aload_n hx hb dX12_layWarm_13 rfl (lv_at hl 1 rfl) ?_
        have hk_155 := hOc_9.ref 27 rfl
        refine q_get X iX12_layWarm_12 hP (by decide) hgc_9 rfl 27 (by decide) (List.mem_of_getElem? (i := 5) rfl) (v := .ref (ad 209)) hk_155 dX12_layWarm_14 ?_
        refine lv_iload_n hx hb dX12_layWarm_17 rfl (lv_at hl 0 rfl) ?_
        refine lv_iload_n hx hb dX12_layWarm_18 rfl (lv_at hl 0 rfl) ?_
        refine lv_if_ne (tgt := 26) hx hb dX12_layWarm_19 (by decide) (fun hc_156 => ?_) (fun hc_156 => ?_)
        · have hhc_156 := n_ne (rfl : v7_3.toInt = v7_3.toInt) (by decide : (0 : Int32).toInt = 0) hc_156
          refine lv_lconst (v := 0) hx hb dX12_layWarm_26 (by decide) ?_
          obtain ⟨fc_157, hgc_157, hFc_157⟩ := hW7.arj (i := 209) (by decide) (sh_209 ad K)
          refine s_last X hP hj hA hS (by decide) hgc_157 (n_in (rfl : v7_3.toInt = v7_3.toInt) (by omega) (by omega)) dX12_layWarm_27 hW7 (sh_209 ad K) (hFc_157.put trivial) (fun fc_158 gc_158 H locs ec_158 hFc_158 hgc_158 hfc_158 hWc_158 hP hS => ?_)
          have hg_160 := (hfc_158 197 (by decide)).trans hgc_9
          have hfr_159 : ∀ j, j ≠ 197 ∧ j ≠ 204 ∧ j ≠ 209 ∧ j ≠ 210 ∧ j ≠ 211 → gc_158 j = g j := fun j hj => (hfc_158 j (by omega)).trans (hfr7 j hj)
          have hcl_161 := n_cl (rfl : v7_3.toInt = v7_3.toInt) (by omega)
          have hx0q_162 : (0 : Int64).toInt = 0 := by decide
          obtain ⟨x_163, ex_163⟩ : ∃ y : Int32, y = v7_3 + 1 := ⟨_, rfl⟩
          have hx_163 : x_163.toInt = v7_3.toInt + 1 := n_add rfl (by decide : (1 : Int32).toInt = 1) ex_163 (by omega) (by omega)
          refine lv_iinc (v := x_163) (lv' := [(3, .int x_163), (0, .ref (ad 197)), (1, .int ev), (2, .int len)]) hx hb dX12_layWarm_28 hl (k := 0) rfl (by rw [ex_163]; rfl) (by decide) rfl (fun ls hl => ?_)
          refine lv_goto (tgt := 7) hx hb dX12_layWarm_31 (by decide) ?_
          have hgi_164 := gJ_of hg_160 hk_10
          exact ih7 x_163 gc_158 _ _ ls (by omega) (by omega) (fun j h h2 => by by_cases q : (j : Int) = v7_3.toInt; exact (gA_at hgc_157 hgc_158 ec_158 (by omega)).trans (by omega); exact (gA_ne hgc_157 hgc_158 ec_158 (by omega)).trans (he7_0 j h (by omega))) hWc_158 hfr_159 hP hS (lv_sub hl [0, 1, 2, 3] rfl)
        · have hhc_156 := n_eq (rfl : v7_3.toInt = v7_3.toInt) (by decide : (0 : Int32).toInt = 0) hc_156
          refine lv_lconst (v := 1) hx hb dX12_layWarm_22 (by decide) ?_
          refine lv_goto (tgt := 27) hx hb dX12_layWarm_23 (by decide) ?_
          obtain ⟨fc_165, hgc_165, hFc_165⟩ := hW7.arj (i := 209) (by decide) (sh_209 ad K)
          refine s_last X hP hj hA hS (by decide) hgc_165 (n_in (rfl : v7_3.toInt = v7_3.toInt) (by omega) (by omega)) dX12_layWarm_27 hW7 (sh_209 ad K) (hFc_165.put trivial) (fun fc_166 gc_166 H locs ec_166 hFc_166 hgc_166 hfc_166 hWc_166 hP hS => ?_)
          have hg_168 := (hfc_166 197 (by decide)).trans hgc_9
          have hfr_167 : ∀ j, j ≠ 197 ∧ j ≠ 204 ∧ j ≠ 209 ∧ j ≠ 210 ∧ j ≠ 211 → gc_166 j = g j := fun j hj => (hfc_166 j (by omega)).trans (hfr7 j hj)
          have hcl_169 := n_cl (rfl : v7_3.toInt = v7_3.toInt) (by omega)
          have hx0q_170 : (1 : Int64).toInt = 1 := by decide
          obtain ⟨x_171, ex_171⟩ : ∃ y : Int32, y = v7_3 + 1 := ⟨_, rfl⟩
          have hx_171 : x_171.toInt = v7_3.toInt + 1 := n_add rfl (by decide : (1 : Int32).toInt = 1) ex_171 (by omega) (by omega)
          refine lv_iinc (v := x_171) (lv' := [(3, .int x_171), (0, .ref (ad 197)), (1, .int ev), (2, .int len)]) hx hb dX12_layWarm_28 hl (k := 0) rfl (by rw [ex_171]; rfl) (by decide) rfl (fun ls hl => ?_)
          refine lv_goto (tgt := 7) hx hb dX12_layWarm_31 (by decide) ?_
          have hgi_172 := gJ_of hg_168 hk_10
          exact ih7 x_171 gc_166 _ _ ls (by omega) (by omega) (fun j h h2 => by by_cases q : (j : Int) = v7_3.toInt; exact (gA_at hgc_165 hgc_166 ec_166 (by omega)).trans (by omega); exact (gA_ne hgc_165 hgc_166 ec_166 (by omega)).trans (he7_0 j h (by omega))) hWc_166 hfr_167 hP hS (lv_sub hl [0, 1, 2, 3] rfl)
  obtain ⟨fsc_173, hgc_173, hOc_173⟩ := hw_5W.obj (i := 197) (by decide) (sh_197 ad K)
  obtain ⟨x_175, hk_174, -⟩ := hOc_173.lng 30 rfl
  have hgix_175 := gJ_of hgc_173 hk_174
  have hiv7_3 : (0 : Int32).toInt = 0 := by decide
  exact HL7 _ 0 g_6 _ _ ls (Nat.lt_succ_self _) (by omega) (fun j h h2 => by exfalso; omega) hw_5W hfr_8 hP hS (lv_sub hl [0, 1, 2, 3] rfl)
