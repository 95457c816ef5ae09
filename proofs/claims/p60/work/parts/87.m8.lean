theorem dX12_goWarm_0 : decode cX12_goWarm 0 = .ok (.iconst 0, 1) := by decide +kernel
theorem dX12_goWarm_1 : decode cX12_goWarm 1 = .ok (.istore_n 2, 1) := by decide +kernel
theorem dX12_goWarm_2 : decode cX12_goWarm 2 = .ok (.iload_n 2, 1) := by decide +kernel
theorem dX12_goWarm_3 : decode cX12_goWarm 3 = .ok (.bipush 14, 2) := by decide +kernel
theorem dX12_goWarm_5 : decode cX12_goWarm 5 = .ok (.if_icmp .gt 16, 3) := by decide +kernel
theorem dX12_goWarm_8 : decode cX12_goWarm 8 = .ok (.aload_n 0, 1) := by decide +kernel
theorem dX12_goWarm_9 : decode cX12_goWarm 9 = .ok (.getfield 53, 3) := by decide +kernel
theorem dX12_goWarm_12 : decode cX12_goWarm 12 = .ok (.iload_n 2, 1) := by decide +kernel
theorem dX12_goWarm_13 : decode cX12_goWarm 13 = .ok (.lconst 0, 1) := by decide +kernel
theorem dX12_goWarm_14 : decode cX12_goWarm 14 = .ok (.lastore, 1) := by decide +kernel
theorem dX12_goWarm_15 : decode cX12_goWarm 15 = .ok (.iinc 2 1, 3) := by decide +kernel
theorem dX12_goWarm_18 : decode cX12_goWarm 18 = .ok (.goto (-16), 3) := by decide +kernel
theorem dX12_goWarm_21 : decode cX12_goWarm 21 = .ok (.iconst 0, 1) := by decide +kernel
theorem dX12_goWarm_22 : decode cX12_goWarm 22 = .ok (.istore_n 2, 1) := by decide +kernel
theorem dX12_goWarm_23 : decode cX12_goWarm 23 = .ok (.iload_n 2, 1) := by decide +kernel
theorem dX12_goWarm_24 : decode cX12_goWarm 24 = .ok (.bipush 14, 2) := by decide +kernel
theorem dX12_goWarm_26 : decode cX12_goWarm 26 = .ok (.if_icmp .gt 94, 3) := by decide +kernel
theorem dX12_goWarm_29 : decode cX12_goWarm 29 = .ok (.aload_n 0, 1) := by decide +kernel
theorem dX12_goWarm_30 : decode cX12_goWarm 30 = .ok (.getfield 49, 3) := by decide +kernel
theorem dX12_goWarm_33 : decode cX12_goWarm 33 = .ok (.iload_n 2, 1) := by decide +kernel
theorem dX12_goWarm_34 : decode cX12_goWarm 34 = .ok (.laload, 1) := by decide +kernel
theorem dX12_goWarm_35 : decode cX12_goWarm 35 = .ok (.lconst 0, 1) := by decide +kernel
theorem dX12_goWarm_36 : decode cX12_goWarm 36 = .ok (.lcmp, 1) := by decide +kernel
theorem dX12_goWarm_37 : decode cX12_goWarm 37 = .ok (.ifCond .ne 6, 3) := by decide +kernel
theorem dX12_goWarm_40 : decode cX12_goWarm 40 = .ok (.goto 74, 3) := by decide +kernel
theorem dX12_goWarm_43 : decode cX12_goWarm 43 = .ok (.aload_n 0, 1) := by decide +kernel
theorem dX12_goWarm_44 : decode cX12_goWarm 44 = .ok (.getfield 53, 3) := by decide +kernel
theorem dX12_goWarm_47 : decode cX12_goWarm 47 = .ok (.iload_n 2, 1) := by decide +kernel
theorem dX12_goWarm_48 : decode cX12_goWarm 48 = .ok (.dup2, 1) := by decide +kernel
theorem dX12_goWarm_49 : decode cX12_goWarm 49 = .ok (.laload, 1) := by decide +kernel
theorem dX12_goWarm_50 : decode cX12_goWarm 50 = .ok (.aload_n 0, 1) := by decide +kernel
theorem dX12_goWarm_51 : decode cX12_goWarm 51 = .ok (.getfield 49, 3) := by decide +kernel
theorem dX12_goWarm_54 : decode cX12_goWarm 54 = .ok (.iload_n 2, 1) := by decide +kernel
theorem dX12_goWarm_55 : decode cX12_goWarm 55 = .ok (.laload, 1) := by decide +kernel
theorem dX12_goWarm_56 : decode cX12_goWarm 56 = .ok (.aload_n 0, 1) := by decide +kernel
theorem dX12_goWarm_57 : decode cX12_goWarm 57 = .ok (.iload_n 1, 1) := by decide +kernel
theorem dX12_goWarm_58 : decode cX12_goWarm 58 = .ok (.invokevirtual 350, 3) := by decide +kernel
theorem dX12_goWarm_61 : decode cX12_goWarm 61 = .ok (.ifCond .eq 15, 3) := by decide +kernel
theorem dX12_goWarm_64 : decode cX12_goWarm 64 = .ok (.bipush 10, 2) := by decide +kernel
theorem dX12_goWarm_66 : decode cX12_goWarm 66 = .ok (.aload_n 0, 1) := by decide +kernel
theorem dX12_goWarm_67 : decode cX12_goWarm 67 = .ok (.getfield 9, 3) := by decide +kernel
theorem dX12_goWarm_70 : decode cX12_goWarm 70 = .ok (.iconst 2, 1) := by decide +kernel
theorem dX12_goWarm_71 : decode cX12_goWarm 71 = .ok (.iaload, 1) := by decide +kernel
theorem dX12_goWarm_72 : decode cX12_goWarm 72 = .ok (.isub, 1) := by decide +kernel
theorem dX12_goWarm_73 : decode cX12_goWarm 73 = .ok (.goto 4, 3) := by decide +kernel
theorem dX12_goWarm_76 : decode cX12_goWarm 76 = .ok (.iconst 1, 1) := by decide +kernel
theorem dX12_goWarm_77 : decode cX12_goWarm 77 = .ok (.i2l, 1) := by decide +kernel
theorem dX12_goWarm_78 : decode cX12_goWarm 78 = .ok (.lmul, 1) := by decide +kernel
theorem dX12_goWarm_79 : decode cX12_goWarm 79 = .ok (.ladd, 1) := by decide +kernel
theorem dX12_goWarm_80 : decode cX12_goWarm 80 = .ok (.lastore, 1) := by decide +kernel
theorem dX12_goWarm_81 : decode cX12_goWarm 81 = .ok (.aload_n 0, 1) := by decide +kernel
theorem dX12_goWarm_82 : decode cX12_goWarm 82 = .ok (.iload_n 1, 1) := by decide +kernel
theorem dX12_goWarm_83 : decode cX12_goWarm 83 = .ok (.invokevirtual 350, 3) := by decide +kernel
theorem dX12_goWarm_86 : decode cX12_goWarm 86 = .ok (.ifCond .eq 28, 3) := by decide +kernel
theorem dX12_goWarm_89 : decode cX12_goWarm 89 = .ok (.aload_n 0, 1) := by decide +kernel
theorem dX12_goWarm_90 : decode cX12_goWarm 90 = .ok (.getfield 53, 3) := by decide +kernel
theorem dX12_goWarm_93 : decode cX12_goWarm 93 = .ok (.iload_n 2, 1) := by decide +kernel
theorem dX12_goWarm_94 : decode cX12_goWarm 94 = .ok (.iconst 1, 1) := by decide +kernel
theorem dX12_goWarm_95 : decode cX12_goWarm 95 = .ok (.iadd, 1) := by decide +kernel
theorem dX12_goWarm_96 : decode cX12_goWarm 96 = .ok (.dup2, 1) := by decide +kernel
theorem dX12_goWarm_97 : decode cX12_goWarm 97 = .ok (.laload, 1) := by decide +kernel
theorem dX12_goWarm_98 : decode cX12_goWarm 98 = .ok (.aload_n 0, 1) := by decide +kernel
theorem dX12_goWarm_99 : decode cX12_goWarm 99 = .ok (.getfield 49, 3) := by decide +kernel
theorem dX12_goWarm_102 : decode cX12_goWarm 102 = .ok (.iload_n 2, 1) := by decide +kernel
theorem dX12_goWarm_103 : decode cX12_goWarm 103 = .ok (.laload, 1) := by decide +kernel
theorem dX12_goWarm_104 : decode cX12_goWarm 104 = .ok (.aload_n 0, 1) := by decide +kernel
theorem dX12_goWarm_105 : decode cX12_goWarm 105 = .ok (.getfield 9, 3) := by decide +kernel
theorem dX12_goWarm_108 : decode cX12_goWarm 108 = .ok (.iconst 2, 1) := by decide +kernel
theorem dX12_goWarm_109 : decode cX12_goWarm 109 = .ok (.iaload, 1) := by decide +kernel
theorem dX12_goWarm_110 : decode cX12_goWarm 110 = .ok (.i2l, 1) := by decide +kernel
theorem dX12_goWarm_111 : decode cX12_goWarm 111 = .ok (.lmul, 1) := by decide +kernel
theorem dX12_goWarm_112 : decode cX12_goWarm 112 = .ok (.ladd, 1) := by decide +kernel
theorem dX12_goWarm_113 : decode cX12_goWarm 113 = .ok (.lastore, 1) := by decide +kernel
theorem dX12_goWarm_114 : decode cX12_goWarm 114 = .ok (.iinc 2 1, 3) := by decide +kernel
theorem dX12_goWarm_117 : decode cX12_goWarm 117 = .ok (.goto (-94), 3) := by decide +kernel
theorem dX12_goWarm_120 : decode cX12_goWarm 120 = .ok (.return_, 1) := by decide +kernel
def vX12_goWarm : List Cond := .code yX12_goWarm cX12_goWarm 3 none :: ([.fieldLink RX12 53 "IcicleClockModel" "hangsThen" "[J", .fieldLink RX12 49 "IcicleClockModel" "hangs" "[J", .methodLink RX12 350 yX12_isThaw, .instanceMethod yX12_isThaw, .selects RX12 yX12_isThaw yX12_isThaw, .initialized RX12, .code yX12_isThaw cX12_isThaw 2 (some .boolean), .fieldLink RX12 9 "IcicleClockModel" "world" "[I"] ++ wsX120)
theorem iX12_goWarm_12 : ∀ w ∈ wsX120, w ∈ vX12_goWarm := fun _ h => List.mem_cons_of_mem _ (List.mem_append_right _ h)
set_option maxRecDepth 20000 in
theorem gg_X12_goWarm_X12_isThaw : GoodIn vX12_goWarm (wsV RX12 350 RX12 yX12_isThaw vX12_isThaw) := goodIn_r _ [3, 4, 5, 6, 7, 8, 9, 10, 11, 12, 13, 14, 15, 16, 17, 18, 19, 20, 21, 22, 23, 24, 25, 26, 27, 28, 29, 30, 31, 32, 33, 34, 35, 36, 37, 38, 39, 40, 41, 42, 43, 44, 45, 46, 47, 48] (by decide +kernel) (by decide +kernel)
set_option maxHeartbeats 4000000 in
set_option maxRecDepth 100000 in
theorem s_X12_goWarm (l : Launch) (D : va_G) (cs : Nat → ClassId) (ad : Nat → Nat) (kS : kSt) (K : sK) (hKO : KO K) (hj : wJ ad 218) (g : Nat → va_E) (hW : WF (shp ad K) ad cs g) (dy : Int32) (hp0 : 0 ≤ dy.toInt ∧ dy.toInt ≤ 13) (hp1 : ∀ j : Nat, dy.toInt < j → j ≤ 14 → gA g 209 j = 0) : sV l yX12_goWarm vX12_goWarm { frames := 1, cells := 0, slots := 0, locals := 21 } D cs ad kS [.ref (ad 197), .int dy] g (fun g2 => WF (shp ad K) ad cs g2 ∧ (∀ j, j ≠ 210 → g2 j = g j) ∧ (∀ j : Nat, dy.toInt + 1 < j → j ≤ 14 → gA g2 210 j = 0)) := by
  refine Met.startS (cc := cX12_goWarm) (maxL := 3) (ret := none) RX12 rfl (by decide) rfl (Nat.le_of_ble_eq_true rfl) ?_
  intro p e s m below meth c ls X Z hP hl
  have hx := X.1
  have hb := X.2.1
  have hS : va_S (wA ad 218) s.heap s.heap [] := va_S.rf
  have hA : ∀ i, i < 218 → wA ad 218 (ad i) := fun i h => ⟨i, h, rfl⟩
  have hfr : ∀ j, j ≠ 210 → g j = g j := fun _ _ => rfl
  have hl : lv_has ls 3 [(0, .ref (ad 197)), (1, .int dy)] := hl
  refine lv_iconst (v := 0) hx hb dX12_goWarm_0 (by decide) ?_
  refine lv_istore_n (lv' := [(2, .int 0), (0, .ref (ad 197)), (1, .int dy)]) hx hb dX12_goWarm_1 rfl hl (by decide) rfl (fun ls hl => ?_)
  have HL2 : ∀ (n2 : Nat) (v2_2 : Int32) (G2 : Nat → va_E) (H : Heap) (locs : List Loc) (ls : Array Slot), (15 - v2_2.toInt).toNat < n2 → (0 ≤ v2_2.toInt ∧ v2_2.toInt ≤ 15) → (∀ j : Nat, (j : Int) < v2_2.toInt → gA G2 210 j = 0) → WF (shp ad K) ad cs G2 → (∀ j, j ≠ 210 → G2 j = g j) → va_P D vwCl (wL ad G2 218) H → va_S (wA ad 218) s.heap H locs → lv_has ls 3 [(2, .int v2_2), (0, .ref (ad 197)), (1, .int dy)] → W p l e ({ frames := 1, cells := 0, slots := 0, locals := 21 } : Room) s m ([.ref (ad 197), .int dy] : List Value).toArray below meth c H locs 0 0 (MQ below (qV D ad 218 (fun g2 => WF (shp ad K) ad cs g2 ∧ (∀ j, j ≠ 210 → g2 j = g j) ∧ (∀ j : Nat, dy.toInt + 1 < j → j ≤ 14 → gA g2 210 j = 0))) ([.ref (ad 197), .int dy] : List Value).toArray s 0 0 (wA ad 218)) (F0 m 2 ls []) := by
    intro n2
    induction n2 with
    | zero =>
      intro v2_2 G2 H locs ls hm2 hv2_0 he2_0 hW2 hfr2 hP hS hl
      exact absurd hm2 (Nat.not_lt_zero _)
    | succ n2 ih2 =>
      intro v2_2 G2 H locs ls hm2 hv2_0 he2_0 hW2 hfr2 hP hS hl
      refine lv_iload_n hx hb dX12_goWarm_2 rfl (lv_at hl 0 rfl) ?_
      refine lv_bipush (v := 14) hx hb dX12_goWarm_3 (by decide) ?_
      refine lv_icmp_gt (tgt := 21) hx hb dX12_goWarm_5 (by decide) (fun hc_1 => ?_) (fun hc_1 => ?_)
      · have hhc_1 := n_lt (by decide : (14 : Int32).toInt = 14) (rfl : v2_2.toInt = v2_2.toInt) hc_1
        refine lv_iconst (v := 0) hx hb dX12_goWarm_21 (by decide) ?_
        refine lv_istore_n (lv' := [(2, .int 0), (0, .ref (ad 197)), (1, .int dy)]) hx hb dX12_goWarm_22 rfl hl (by decide) rfl (fun ls hl => ?_)
        have HL23 : ∀ (n23 : Nat) (v23_2 : Int32) (G23 : Nat → va_E) (H : Heap) (locs : List Loc) (ls : Array Slot), (15 - v23_2.toInt).toNat < n23 → (0 ≤ v23_2.toInt ∧ v23_2.toInt ≤ 15) → (∀ j : Nat, dy.toInt + 1 < j → j ≤ 14 → gA G23 210 j = 0) → WF (shp ad K) ad cs G23 → (∀ j, j ≠ 210 → G23 j = g j) → va_P D vwCl (wL ad G23 218) H → va_S (wA ad 218) s.heap H locs → lv_has ls 3 [(2, .int v23_2), (0, .ref (ad 197)), (1, .int dy)] → W p l e ({ frames := 1, cells := 0, slots := 0, locals := 21 } : Room) s m ([.ref (ad 197), .int dy] : List Value).toArray below meth c H locs 0 0 (MQ below (qV D ad 218 (fun g2 => WF (shp ad K) ad cs g2 ∧ (∀ j, j ≠ 210 → g2 j = g j) ∧ (∀ j : Nat, dy.toInt + 1 < j → j ≤ 14 → gA g2 210 j = 0))) ([.ref (ad 197), .int dy] : List Value).toArray s 0 0 (wA ad 218)) (F0 m 23 ls []) := by
          intro n23
          induction n23 with
          | zero =>
            intro v23_2 G23 H locs ls hm23 hv23_0 he23_0 hW23 hfr23 hP hS hl
            exact absurd hm23 (Nat.not_lt_zero _)
          | succ n23 ih23 =>
            intro v23_2 G23 H locs ls hm23 hv23_0 he23_0 hW23 hfr23 hP hS hl
            refine lv_iload_n hx hb dX12_goWarm_23 rfl (lv_at hl 0 rfl) ?_
            refine lv_bipush (v := 14) hx hb dX12_goWarm_24 (by decide) ?_
            refine lv_icmp_gt (tgt := 120) hx hb dX12_goWarm_26 (by decide) (fun hc_2 => ?_) (fun hc_2 => ?_)
            · have hhc_2 := n_lt (by decide : (14 : Int32).toInt = 14) (rfl : v23_2.toInt = v23_2.toInt) hc_2
              exact q_vret X hP hS ⟨hW23, hfr23, he23_0⟩ dX12_goWarm_120
            · have hhc_2 := n_nlt (by decide : (14 : Int32).toInt = 14) (rfl : v23_2.toInt = v23_2.toInt) hc_2
              refine lv_aload_n hx hb dX12_goWarm_29 rfl (lv_at hl 1 rfl) ?_
              obtain ⟨fsc_3, hgc_3, hOc_3⟩ := hW23.obj (i := 197) (by decide) (sh_197 ad K)
              have hk_4 := hOc_3.ref 27 rfl
              refine q_get X iX12_goWarm_12 hP (by decide) hgc_3 rfl 27 (by decide) (List.mem_of_getElem? (i := 2) rfl) (v := .ref (ad 209)) hk_4 dX12_goWarm_30 ?_
              refine lv_iload_n hx hb dX12_goWarm_33 rfl (lv_at hl 0 rfl) ?_
              obtain ⟨fc_5, hgc_5, hFc_5⟩ := hW23.arj (i := 209) (by decide) (sh_209 ad K)
              refine q_lald X hP (by decide) hgc_5 (n_in (rfl : v23_2.toInt = v23_2.toInt) (by omega) (by omega)) dX12_goWarm_34 ?_
              refine lv_topl (fun z_6 ez_6 => ?_)
              have hgaz_6 : gA G23 209 (v23_2.toNatClampNeg) = z_6.toInt := by rw [ez_6]; exact gA_ofL hgc_5 _
              have hcl_7 := n_cl (rfl : v23_2.toInt = v23_2.toInt) (by omega)
              refine lv_lconst (v := 0) hx hb dX12_goWarm_35 (by decide) ?_
              refine W.lcmp hx hb dX12_goWarm_36 ?_
              have HJ114 : ∀ (G114 : Nat → va_E) (H : Heap) (locs : List Loc) (ls : Array Slot), (∀ j : Nat, dy.toInt + 1 < j → j ≤ 14 → gA G114 210 j = 0) → WF (shp ad K) ad cs G114 → (∀ j, j ≠ 210 → G114 j = g j) → G114 197 = .inr (12, fsc_3) → G114 209 = .inl (cs 2, 15, .inr (.inl fc_5)) → va_P D vwCl (wL ad G114 218) H → va_S (wA ad 218) s.heap H locs → lv_has ls 3 [(2, .int v23_2), (0, .ref (ad 197)), (1, .int dy)] → W p l e ({ frames := 1, cells := 0, slots := 0, locals := 21 } : Room) s m ([.ref (ad 197), .int dy] : List Value).toArray below meth c H locs 0 0 (MQ below (qV D ad 218 (fun g2 => WF (shp ad K) ad cs g2 ∧ (∀ j, j ≠ 210 → g2 j = g j) ∧ (∀ j : Nat, dy.toInt + 1 < j → j ≤ 14 → gA g2 210 j = 0))) ([.ref (ad 197), .int dy] : List Value).toArray s 0 0 (wA ad 218)) (F0 m 114 ls []) := by
                intro G114 H locs ls he114_0 hW114 hfr114 hg114_0 hg114_1 hP hS hl
                obtain ⟨x_8, ex_8⟩ : ∃ y : Int32, y = v23_2 + 1 := ⟨_, rfl⟩
                have hx_8 : x_8.toInt = v23_2.toInt + 1 := n_add rfl (by decide : (1 : Int32).toInt = 1) ex_8 (by omega) (by omega)
                refine lv_iinc (v := x_8) (lv' := [(2, .int x_8), (0, .ref (ad 197)), (1, .int dy)]) hx hb dX12_goWarm_114 hl (k := 0) rfl (by rw [ex_8]; rfl) (by decide) rfl (fun ls hl => ?_)
                refine lv_goto (tgt := 23) hx hb dX12_goWarm_117 (by decide) ?_
                exact ih23 x_8 G114 _ _ ls (by omega) (by omega) he114_0 hW114 hfr114 hP hS (lv_sub hl [0, 1, 2] rfl)
              refine lv_if_ne (tgt := 43) hx hb dX12_goWarm_37 (by decide) (fun hc_9 => ?_) (fun hc_9 => ?_)
              · have hhc_9 := j_cne (rfl : z_6.toInt = z_6.toInt) (by decide : (0 : Int64).toInt = 0) hc_9
                have hkd : v23_2.toInt ≤ dy.toInt := Int.not_lt.mp (fun q => by have h1 := hp1 v23_2.toNatClampNeg (by omega) (by omega); have h2 := gA_tr (hfr23 209 (by omega)) v23_2.toNatClampNeg; omega)
                refine lv_aload_n hx hb dX12_goWarm_43 rfl (lv_at hl 1 rfl) ?_
                have hk_10 := hOc_3.ref 28 rfl
                refine q_get X iX12_goWarm_12 hP (by decide) hgc_3 rfl 28 (by decide) (List.mem_of_getElem? (i := 1) rfl) (v := .ref (ad 210)) hk_10 dX12_goWarm_44 ?_
                refine lv_iload_n hx hb dX12_goWarm_47 rfl (lv_at hl 0 rfl) ?_
                refine lv_dup2_11 hx hb dX12_goWarm_48 rfl rfl ?_
                obtain ⟨fc_11, hgc_11, hFc_11⟩ := hW23.arj (i := 210) (by decide) (sh_210 ad K)
                refine q_lald X hP (by decide) hgc_11 (n_in (rfl : v23_2.toInt = v23_2.toInt) (by omega) (by omega)) dX12_goWarm_49 ?_
                refine lv_topl (fun z_12 ez_12 => ?_)
                refine lv_aload_n hx hb dX12_goWarm_50 rfl (lv_at hl 1 rfl) ?_
                refine q_get X iX12_goWarm_12 hP (by decide) hgc_3 rfl 27 (by decide) (List.mem_of_getElem? (i := 2) rfl) (v := .ref (ad 209)) hk_4 dX12_goWarm_51 ?_
                refine lv_iload_n hx hb dX12_goWarm_54 rfl (lv_at hl 0 rfl) ?_
                refine q_lald X hP (by decide) hgc_5 (n_in (rfl : v23_2.toInt = v23_2.toInt) (by omega) (by omega)) dX12_goWarm_55 ?_
                refine lv_topl (fun z_13 ez_13 => ?_)
                have hsz_13 : z_13.toInt = z_6.toInt := by rw [ez_13, ez_6]
                refine lv_aload_n hx hb dX12_goWarm_56 rfl (lv_at hl 1 rfl) ?_
                refine lv_iload_n hx hb dX12_goWarm_57 rfl (lv_at hl 2 rfl) ?_
                refine s_calli (q := (RX12, TX12, 40)) (As := [.int dy]) (rest := [.long z_13, .long z_12, .int v23_2, .ref (ad 210)]) X Z (s_X12_isThaw l D cs ad kS K hKO hj G23 hW23 dy (by omega)) (cwV 1 X.2.2.2.2.1 gg_X12_goWarm_X12_isThaw rfl rfl rfl (by decide +kernel) ⟨Nat.le_of_ble_eq_true rfl, Nat.le_of_ble_eq_true rfl⟩) (by decide) hgc_3 rfl hP hA hS.2.1 hS rfl hl.1 rfl (Nat.le_of_ble_eq_true rfl) dX12_goWarm_58 ⟨Nat.le_of_ble_eq_true rfl, Nat.le_of_ble_eq_true rfl⟩ (fun r_16 g_15 H locs hw_14 hP hS => ?_)
                obtain ⟨hw_14g, hw_14⟩ := hw_14
                rw [hw_14g] at hP
                refine lv_if_eq (tgt := 76) hx hb dX12_goWarm_61 (by decide) (fun hc_17 => ?_) (fun hc_17 => ?_)
                · have hhc_17 := n_eq (rfl : r_16.toInt = r_16.toInt) (by decide : (0 : Int32).toInt = 0) hc_17
                  refine lv_iconst (v := 1) hx hb dX12_goWarm_76 (by decide) ?_
                  refine lv_i2l (v := 1) hx hb dX12_goWarm_77 (by decide) ?_
                  refine lv_lmul hx hb dX12_goWarm_78 ?_
                  refine lv_topl (fun z_18 ez_18 => ?_)
                  refine lv_ladd hx hb dX12_goWarm_79 ?_
                  refine lv_topl (fun z_19 ez_19 => ?_)
                  refine s_last X hP hj hA hS (by decide) hgc_11 (n_in (rfl : v23_2.toInt = v23_2.toInt) (by omega) (by omega)) dX12_goWarm_80 hW23 (sh_210 ad K) (hFc_11.put trivial) (fun fc_20 gc_20 H locs ec_20 hFc_20 hgc_20 hfc_20 hWc_20 hP hS => ?_)
                  have hg_22 := (hfc_20 197 (by decide)).trans hgc_3
                  have hg_23 := (hfc_20 209 (by decide)).trans hgc_5
                  have hfr_21 : ∀ j, j ≠ 210 → gc_20 j = g j := fun j hj => (hfc_20 j (by omega)).trans (hfr23 j hj)
                  have hcl_24 := n_cl (rfl : v23_2.toInt = v23_2.toInt) (by omega)
                  have hz_25 : (∀ j : Nat, dy.toInt + 1 < j → j ≤ 14 → gA gc_20 210 j = 0) := fun j h1 h2 => (gA_ne hgc_11 hgc_20 ec_20 (by omega)).trans (he23_0 j h1 h2)
                  refine lv_aload_n hx hb dX12_goWarm_81 rfl (lv_at hl 1 rfl) ?_
                  refine lv_iload_n hx hb dX12_goWarm_82 rfl (lv_at hl 2 rfl) ?_
                  refine s_calli (q := (RX12, TX12, 40)) (As := [.int dy]) (rest := []) X Z (s_X12_isThaw l D cs ad kS K hKO hj gc_20 hWc_20 dy (by omega)) (cwV 1 X.2.2.2.2.1 gg_X12_goWarm_X12_isThaw rfl rfl rfl (by decide +kernel) ⟨Nat.le_of_ble_eq_true rfl, Nat.le_of_ble_eq_true rfl⟩) (by decide) hg_22 rfl hP hA hS.2.1 hS rfl hl.1 rfl (Nat.le_of_ble_eq_true rfl) dX12_goWarm_83 ⟨Nat.le_of_ble_eq_true rfl, Nat.le_of_ble_eq_true rfl⟩ (fun r_28 g_27 H locs hw_26 hP hS => ?_)
                  obtain ⟨hw_26g, hw_26⟩ := hw_26
                  rw [hw_26g] at hP
                  refine lv_if_eq (tgt := 114) hx hb dX12_goWarm_86 (by decide) (fun hc_29 => ?_) (fun hc_29 => ?_)
                  · have hhc_29 := n_eq (rfl : r_28.toInt = r_28.toInt) (by decide : (0 : Int32).toInt = 0) hc_29
                    exact HJ114 gc_20 _ _ ls hz_25 hWc_20 hfr_21 hg_22 hg_23 hP hS (lv_sub hl [0, 1, 2] rfl)
                  · have hhc_29 := n_ne (rfl : r_28.toInt = r_28.toInt) (by decide : (0 : Int32).toInt = 0) hc_29
                    refine lv_aload_n hx hb dX12_goWarm_89 rfl (lv_at hl 1 rfl) ?_
                    refine q_get X iX12_goWarm_12 hP (by decide) hg_22 rfl 28 (by decide) (List.mem_of_getElem? (i := 1) rfl) (v := .ref (ad 210)) hk_10 dX12_goWarm_90 ?_
                    refine lv_iload_n hx hb dX12_goWarm_93 rfl (lv_at hl 0 rfl) ?_
                    refine lv_iconst (v := 1) hx hb dX12_goWarm_94 (by decide) ?_
                    refine lv_iadd hx hb dX12_goWarm_95 ?_
                    refine lv_topi (fun z_30 ez_30 => ?_)
                    have hz_30 : z_30.toInt = v23_2.toInt + 1 := n_add (rfl : v23_2.toInt = v23_2.toInt) (by decide : (1 : Int32).toInt = 1) ez_30 (by omega) (by omega)
                    refine lv_dup2_11 hx hb dX12_goWarm_96 rfl rfl ?_
                    refine q_lald X hP (by decide) hgc_20 (n_in (rfl : z_30.toInt = z_30.toInt) (by omega) (by omega)) dX12_goWarm_97 ?_
                    refine lv_topl (fun z_31 ez_31 => ?_)
                    refine lv_aload_n hx hb dX12_goWarm_98 rfl (lv_at hl 1 rfl) ?_
                    refine q_get X iX12_goWarm_12 hP (by decide) hg_22 rfl 27 (by decide) (List.mem_of_getElem? (i := 2) rfl) (v := .ref (ad 209)) hk_4 dX12_goWarm_99 ?_
                    refine lv_iload_n hx hb dX12_goWarm_102 rfl (lv_at hl 0 rfl) ?_
                    refine q_lald X hP (by decide) hg_23 (n_in (rfl : v23_2.toInt = v23_2.toInt) (by omega) (by omega)) dX12_goWarm_103 ?_
                    refine lv_topl (fun z_32 ez_32 => ?_)
                    have hsz_32 : z_32.toInt = z_13.toInt := by rw [ez_32, ez_13]
                    refine lv_aload_n hx hb dX12_goWarm_104 rfl (lv_at hl 1 rfl) ?_
                    have hk_33 := hOc_3.ref 1 rfl
                    refine q_get X iX12_goWarm_12 hP (by decide) hg_22 rfl 1 (by decide) (List.mem_of_getElem? (i := 8) rfl) (v := .ref (ad 198)) hk_33 dX12_goWarm_105 ?_
                    refine lv_iconst (v := 2) hx hb dX12_goWarm_108 (by decide) ?_
                    obtain ⟨fc_34, hgc_34, hFc_34⟩ := hWc_20.arr (i := 198) (by decide) (sh_198 ad K)
                    refine q_iald X hP (by decide) hgc_34 (by unfold vp_in; decide) dX12_goWarm_109 ?_
                    refine lv_topi (fun z_35 ez_35 => ?_)
                    have hqz_35 : wq (2) z_35.toInt := ez_35 ▸ hFc_34 _
                    clear hqz_35
                    refine lv_i2l hx hb dX12_goWarm_110 rfl ?_
                    refine lv_topl (fun z_36 ez_36 => ?_)
                    have hz_36 : z_36.toInt = z_35.toInt := ez_36 ▸ j_of rfl
                    have := n_hi z_35
                    have := n_lo z_35
                    refine lv_lmul hx hb dX12_goWarm_111 ?_
                    refine lv_topl (fun z_37 ez_37 => ?_)
                    refine lv_ladd hx hb dX12_goWarm_112 ?_
                    refine lv_topl (fun z_38 ez_38 => ?_)
                    refine s_last X hP hj hA hS (by decide) hgc_20 (n_in (rfl : z_30.toInt = z_30.toInt) (by omega) (by omega)) dX12_goWarm_113 hWc_20 (sh_210 ad K) (hFc_20.put trivial) (fun fc_39 gc_39 H locs ec_39 hFc_39 hgc_39 hfc_39 hWc_39 hP hS => ?_)
                    have hg_41 := (hfc_39 197 (by decide)).trans hg_22
                    have hg_42 := (hfc_39 209 (by decide)).trans hg_23
                    have hg_43 := (hfc_39 198 (by decide)).trans hgc_34
                    have hfr_40 : ∀ j, j ≠ 210 → gc_39 j = g j := fun j hj => (hfc_39 j (by omega)).trans (hfr_21 j hj)
                    have hcl_44 := n_cl (rfl : z_30.toInt = z_30.toInt) (by omega)
                    have hz_45 : (∀ j : Nat, dy.toInt + 1 < j → j ≤ 14 → gA gc_39 210 j = 0) := fun j h1 h2 => (gA_ne hgc_20 hgc_39 ec_39 (by omega)).trans (hz_25 j h1 h2)
                    exact HJ114 gc_39 _ _ ls hz_45 hWc_39 hfr_40 hg_41 hg_42 hP hS (lv_sub hl [0, 1, 2] rfl)
                · have hhc_17 := n_ne (rfl : r_16.toInt = r_16.toInt) (by decide : (0 : Int32).toInt = 0) hc_17
                  refine lv_bipush (v := 10) hx hb dX12_goWarm_64 (by decide) ?_
                  refine lv_aload_n hx hb dX12_goWarm_66 rfl (lv_at hl 1 rfl) ?_
                  have hk_46 := hOc_3.ref 1 rfl
                  refine q_get X iX12_goWarm_12 hP (by decide) hgc_3 rfl 1 (by decide) (List.mem_of_getElem? (i := 8) rfl) (v := .ref (ad 198)) hk_46 dX12_goWarm_67 ?_
                  refine lv_iconst (v := 2) hx hb dX12_goWarm_70 (by decide) ?_
                  obtain ⟨fc_47, hgc_47, hFc_47⟩ := hW23.arr (i := 198) (by decide) (sh_198 ad K)
                  refine q_iald X hP (by decide) hgc_47 (by unfold vp_in; decide) dX12_goWarm_71 ?_
                  refine lv_topi (fun z_48 ez_48 => ?_)
                  have hqz_48 : wq (2) z_48.toInt := ez_48 ▸ hFc_47 _
                  clear hqz_48
                  refine lv_isub hx hb dX12_goWarm_72 ?_
                  refine lv_topi (fun z_49 ez_49 => ?_)
                  refine lv_goto (tgt := 77) hx hb dX12_goWarm_73 (by decide) ?_
                  refine lv_i2l hx hb dX12_goWarm_77 rfl ?_
                  refine lv_topl (fun z_50 ez_50 => ?_)
                  have hz_50 : z_50.toInt = z_49.toInt := ez_50 ▸ j_of rfl
                  have := n_hi z_49
                  have := n_lo z_49
                  refine lv_lmul hx hb dX12_goWarm_78 ?_
                  refine lv_topl (fun z_51 ez_51 => ?_)
                  refine lv_ladd hx hb dX12_goWarm_79 ?_
                  refine lv_topl (fun z_52 ez_52 => ?_)
                  refine s_last X hP hj hA hS (by decide) hgc_11 (n_in (rfl : v23_2.toInt = v23_2.toInt) (by omega) (by omega)) dX12_goWarm_80 hW23 (sh_210 ad K) (hFc_11.put trivial) (fun fc_53 gc_53 H locs ec_53 hFc_53 hgc_53 hfc_53 hWc_53 hP hS => ?_)
                  have hg_55 := (hfc_53 197 (by decide)).trans hgc_3
                  have hg_56 := (hfc_53 209 (by decide)).trans hgc_5
                  have hg_57 := (hfc_53 198 (by decide)).trans hgc_47
                  have hfr_54 : ∀ j, j ≠ 210 → gc_53 j = g j := fun j hj => (hfc_53 j (by omega)).trans (hfr23 j hj)
                  have hcl_58 := n_cl (rfl : v23_2.toInt = v23_2.toInt) (by omega)
                  have hz_59 : (∀ j : Nat, dy.toInt + 1 < j → j ≤ 14 → gA gc_53 210 j = 0) := fun j h1 h2 => (gA_ne hgc_11 hgc_53 ec_53 (by omega)).trans (he23_0 j h1 h2)
                  refine lv_aload_n hx hb dX12_goWarm_81 rfl (lv_at hl 1 rfl) ?_
                  refine lv_iload_n hx hb dX12_goWarm_82 rfl (lv_at hl 2 rfl) ?_
                  refine s_calli (q := (RX12, TX12, 40)) (As := [.int dy]) (rest := []) X Z (s_X12_isThaw l D cs ad kS K hKO hj gc_53 hWc_53 dy (by omega)) (cwV 1 X.2.2.2.2.1 gg_X12_goWarm_X12_isThaw rfl rfl rfl (by decide +kernel) ⟨Nat.le_of_ble_eq_true rfl, Nat.le_of_ble_eq_true rfl⟩) (by decide) hg_55 rfl hP hA hS.2.1 hS rfl hl.1 rfl (Nat.le_of_ble_eq_true rfl) dX12_goWarm_83 ⟨Nat.le_of_ble_eq_true rfl, Nat.le_of_ble_eq_true rfl⟩ (fun r_62 g_61 H locs hw_60 hP hS => ?_)
                  obtain ⟨hw_60g, hw_60⟩ := hw_60
                  rw [hw_60g] at hP
                  refine lv_if_eq (tgt := 114) hx hb dX12_goWarm_86 (by decide) (fun hc_63 => ?_) (fun hc_63 => ?_)
                  · have hhc_63 := n_eq (rfl : r_62.toInt = r_62.toInt) (by decide : (0 : Int32).toInt = 0) hc_63
                    exact HJ114 gc_53 _ _ ls hz_59 hWc_53 hfr_54 hg_55 hg_56 hP hS (lv_sub hl [0, 1, 2] rfl)
                  · have hhc_63 := n_ne (rfl : r_62.toInt = r_62.toInt) (by decide : (0 : Int32).toInt = 0) hc_63
                    refine lv_aload_n hx hb dX12_goWarm_89 rfl (lv_at hl 1 rfl) ?_
                    refine q_get X iX12_goWarm_12 hP (by decide) hg_55 rfl 28 (by decide) (List.mem_of_getElem? (i := 1) rfl) (v := .ref (ad 210)) hk_10 dX12_goWarm_90 ?_
                    refine lv_iload_n hx hb dX12_goWarm_93 rfl (lv_at hl 0 rfl) ?_
                    refine lv_iconst (v := 1) hx hb dX12_goWarm_94 (by decide) ?_
                    refine lv_iadd hx hb dX12_goWarm_95 ?_
                    refine lv_topi (fun z_64 ez_64 => ?_)
                    have hz_64 : z_64.toInt = v23_2.toInt + 1 := n_add (rfl : v23_2.toInt = v23_2.toInt) (by decide : (1 : Int32).toInt = 1) ez_64 (by omega) (by omega)
                    refine lv_dup2_11 hx hb dX12_goWarm_96 rfl rfl ?_
                    refine q_lald X hP (by decide) hgc_53 (n_in (rfl : z_64.toInt = z_64.toInt) (by omega) (by omega)) dX12_goWarm_97 ?_
                    refine lv_topl (fun z_65 ez_65 => ?_)
                    refine lv_aload_n hx hb dX12_goWarm_98 rfl (lv_at hl 1 rfl) ?_
                    refine q_get X iX12_goWarm_12 hP (by decide) hg_55 rfl 27 (by decide) (List.mem_of_getElem? (i := 2) rfl) (v := .ref (ad 209)) hk_4 dX12_goWarm_99 ?_
                    refine lv_iload_n hx hb dX12_goWarm_102 rfl (lv_at hl 0 rfl) ?_
                    refine q_lald X hP (by decide) hg_56 (n_in (rfl : v23_2.toInt = v23_2.toInt) (by omega) (by omega)) dX12_goWarm_103 ?_
                    refine lv_topl (fun z_66 ez_66 => ?_)
                    have hsz_66 : z_66.toInt = z_13.toInt := by rw [ez_66, ez_13]
                    refine lv_aload_n hx hb dX12_goWarm_104 rfl (lv_at hl 1 rfl) ?_
                    refine q_get X iX12_goWarm_12 hP (by decide) hg_55 rfl 1 (by decide) (List.mem_of_getElem? (i := 8) rfl) (v := .ref (ad 198)) hk_46 dX12_goWarm_105 ?_
                    refine lv_iconst (v := 2) hx hb dX12_goWarm_108 (by decide) ?_
                    refine q_iald X hP (by decide) hg_57 (by unfold vp_in; decide) dX12_goWarm_109 ?_
                    refine lv_topi (fun z_67 ez_67 => ?_)
                    have hqz_67 : wq (2) z_67.toInt := ez_67 ▸ hFc_47 _
                    clear hqz_67
                    have hsz_67 : z_67.toInt = z_48.toInt := by rw [ez_67, ez_48]
                    refine lv_i2l hx hb dX12_goWarm_110 rfl ?_
                    refine lv_topl (fun z_68 ez_68 => ?_)
                    have hz_68 : z_68.toInt = z_67.toInt := ez_68 ▸ j_of rfl
                    have := n_hi z_67
                    have := n_lo z_67
                    refine lv_lmul hx hb dX12_goWarm_111 ?_
                    refine lv_topl (fun z_69 ez_69 => ?_)
                    refine lv_ladd hx hb dX12_goWarm_112 ?_
                    refine lv_topl (fun z_70 ez_70 => ?_)
                    refine s_last X hP hj hA hS (by decide) hgc_53 (n_in (rfl : z_64.toInt = z_64.toInt) (by omega) (by omega)) dX12_goWarm_113 hWc_53 (sh_210 ad K) (hFc_53.put trivial) (fun fc_71 gc_71 H locs ec_71 hFc_71 hgc_71 hfc_71 hWc_71 hP hS => ?_)
                    have hg_73 := (hfc_71 197 (by decide)).trans hg_55
                    have hg_74 := (hfc_71 209 (by decide)).trans hg_56
                    have hg_75 := (hfc_71 198 (by decide)).trans hg_57
                    have hfr_72 : ∀ j, j ≠ 210 → gc_71 j = g j := fun j hj => (hfc_71 j (by omega)).trans (hfr_54 j hj)
                    have hcl_76 := n_cl (rfl : z_64.toInt = z_64.toInt) (by omega)
                    have hz_77 : (∀ j : Nat, dy.toInt + 1 < j → j ≤ 14 → gA gc_71 210 j = 0) := fun j h1 h2 => (gA_ne hgc_53 hgc_71 ec_71 (by omega)).trans (hz_59 j h1 h2)
                    exact HJ114 gc_71 _ _ ls hz_77 hWc_71 hfr_72 hg_73 hg_74 hP hS (lv_sub hl [0, 1, 2] rfl)
              · have hhc_9 := j_ceq (rfl : z_6.toInt = z_6.toInt) (by decide : (0 : Int64).toInt = 0) hc_9
                refine lv_goto (tgt := 114) hx hb dX12_goWarm_40 (by decide) ?_
                exact HJ114 G23 _ _ ls he23_0 hW23 hfr23 hgc_3 hgc_5 hP hS (lv_sub hl [0, 1, 2] rfl)
        have hiv23_2 : (0 : Int32).toInt = 0 := by decide
        exact HL23 _ 0 G2 _ _ ls (Nat.lt_succ_self _) (by omega) (fun j h1 h2 => he2_0 j (by omega)) hW2 hfr2 hP hS (lv_sub hl [0, 1, 2] rfl)
      · have hhc_1 := n_nlt (by decide : (14 : Int32).toInt = 14) (rfl : v2_2.toInt = v2_2.toInt) hc_1
        refine lv_aload_n hx hb dX12_goWarm_8 rfl (lv_at hl 1 rfl) ?_
        obtain ⟨fsc_78, hgc_78, hOc_78⟩ := hW2.obj (i := 197) (by decide) (sh_197 ad K)
        have hk_79 := hOc_78.ref 28 rfl
        refine q_get X iX12_goWarm_12 hP (by decide) hgc_78 rfl 28 (by decide) (List.mem_of_getElem? (i := 1) rfl) (v := .ref (ad 210)) hk_79 dX12_goWarm_9 ?_
        refine lv_iload_n hx hb dX12_goWarm_12 rfl (lv_at hl 0 rfl) ?_
        refine lv_lconst (v := 0) hx hb dX12_goWarm_13 (by decide) ?_
        obtain ⟨fc_80, hgc_80, hFc_80⟩ := hW2.arj (i := 210) (by decide) (sh_210 ad K)
        refine s_last X hP hj hA hS (by decide) hgc_80 (n_in (rfl : v2_2.toInt = v2_2.toInt) (by omega) (by omega)) dX12_goWarm_14 hW2 (sh_210 ad K) (hFc_80.put trivial) (fun fc_81 gc_81 H locs ec_81 hFc_81 hgc_81 hfc_81 hWc_81 hP hS => ?_)
        have hg_83 := (hfc_81 197 (by decide)).trans hgc_78
        have hfr_82 : ∀ j, j ≠ 210 → gc_81 j = g j := fun j hj => (hfc_81 j (by omega)).trans (hfr2 j hj)
        have hcl_84 := n_cl (rfl : v2_2.toInt = v2_2.toInt) (by omega)
        have hx0q_85 : (0 : Int64).toInt = 0 := by decide
        obtain ⟨x_86, ex_86⟩ : ∃ y : Int32, y = v2_2 + 1 := ⟨_, rfl⟩
        have hx_86 : x_86.toInt = v2_2.toInt + 1 := n_add rfl (by decide : (1 : Int32).toInt = 1) ex_86 (by omega) (by omega)
        refine lv_iinc (v := x_86) (lv' := [(2, .int x_86), (0, .ref (ad 197)), (1, .int dy)]) hx hb dX12_goWarm_15 hl (k := 0) rfl (by rw [ex_86]; rfl) (by decide) rfl (fun ls hl => ?_)
        refine lv_goto (tgt := 2) hx hb dX12_goWarm_18 (by decide) ?_
        exact ih2 x_86 gc_81 _ _ ls (by omega) (by omega) (fun j h => by by_cases q : (j : Int) = v2_2.toInt; exact (gA_at hgc_80 hgc_81 ec_81 (by omega)).trans (by omega); exact (gA_ne hgc_80 hgc_81 ec_81 (by omega)).trans (he2_0 j (by omega))) hWc_81 hfr_82 hP hS (lv_sub hl [0, 1, 2] rfl)
  have hiv2_2 : (0 : Int32).toInt = 0 := by decide
  exact HL2 _ 0 g _ _ ls (Nat.lt_succ_self _) (by omega) (fun j h => by exfalso; omega) hW hfr hP hS (lv_sub hl [0, 1, 2] rfl)

theorem dX12_layWarm_0 : decode cX12_layWarm 0 = .ok (.aload_n 0, 1) := by decide +kernel
theorem dX12_layWarm_1 : decode cX12_layWarm 1 = .ok (.iconst 0, 1) := by decide +kernel
theorem dX12_layWarm_2 : decode cX12_layWarm 2 = .ok (.invokevirtual 240, 3) := by decide +kernel
theorem dX12_layWarm_5 : decode cX12_layWarm 5 = .ok (.iconst 0, 1) := by decide +kernel
theorem dX12_layWarm_6 : decode cX12_layWarm 6 = .ok (.istore_n 3, 1) := by decide +kernel
theorem dX12_layWarm_7 : decode cX12_layWarm 7 = .ok (.iload_n 3, 1) := by decide +kernel
theorem dX12_layWarm_8 : decode cX12_layWarm 8 = .ok (.bipush 14, 2) := by decide +kernel
theorem dX12_layWarm_10 : decode cX12_layWarm 10 = .ok (.if_icmp .gt 24, 3) := by decide +kernel
theorem dX12_layWarm_13 : decode cX12_layWarm 13 = .ok (.aload_n 0, 1) := by decide +kernel
theorem dX12_layWarm_14 : decode cX12_layWarm 14 = .ok (.getfield 49, 3) := by decide +kernel
theorem dX12_layWarm_17 : decode cX12_layWarm 17 = .ok (.iload_n 3, 1) := by decide +kernel
theorem dX12_layWarm_18 : decode cX12_layWarm 18 = .ok (.iload_n 3, 1) := by decide +kernel
theorem dX12_layWarm_19 : decode cX12_layWarm 19 = .ok (.ifCond .ne 7, 3) := by decide +kernel
theorem dX12_layWarm_22 : decode cX12_layWarm 22 = .ok (.lconst 1, 1) := by decide +kernel
theorem dX12_layWarm_23 : decode cX12_layWarm 23 = .ok (.goto 4, 3) := by decide +kernel
theorem dX12_layWarm_27 : decode cX12_layWarm 27 = .ok (.lastore, 1) := by decide +kernel
theorem dX12_layWarm_28 : decode cX12_layWarm 28 = .ok (.iinc 3 1, 3) := by decide +kernel
theorem dX12_layWarm_31 : decode cX12_layWarm 31 = .ok (.goto (-24), 3) := by decide +kernel
theorem dX12_layWarm_26 : decode cX12_layWarm 26 = .ok (.lconst 0, 1) := by decide +kernel
theorem dX12_layWarm_34 : decode cX12_layWarm 34 = .ok (.aload_n 0, 1) := by decide +kernel
theorem dX12_layWarm_35 : decode cX12_layWarm 35 = .ok (.lconst 1, 1) := by decide +kernel
theorem dX12_layWarm_36 : decode cX12_layWarm 36 = .ok (.putfield 353, 3) := by decide +kernel
theorem dX12_layWarm_39 : decode cX12_layWarm 39 = .ok (.iload_n 2, 1) := by decide +kernel
theorem dX12_layWarm_40 : decode cX12_layWarm 40 = .ok (.istore_n 3, 1) := by decide +kernel
theorem dX12_layWarm_41 : decode cX12_layWarm 41 = .ok (.iconst 0, 1) := by decide +kernel
theorem dX12_layWarm_42 : decode cX12_layWarm 42 = .ok (.istore 4, 2) := by decide +kernel
theorem dX12_layWarm_44 : decode cX12_layWarm 44 = .ok (.iload 4, 2) := by decide +kernel
theorem dX12_layWarm_46 : decode cX12_layWarm 46 = .ok (.aload_n 0, 1) := by decide +kernel
theorem dX12_layWarm_47 : decode cX12_layWarm 47 = .ok (.getfield 231, 3) := by decide +kernel
theorem dX12_layWarm_50 : decode cX12_layWarm 50 = .ok (.if_icmp .ge 181, 3) := by decide +kernel
theorem dX12_layWarm_53 : decode cX12_layWarm 53 = .ok (.aload_n 0, 1) := by decide +kernel
theorem dX12_layWarm_54 : decode cX12_layWarm 54 = .ok (.iload 4, 2) := by decide +kernel
theorem dX12_layWarm_56 : decode cX12_layWarm 56 = .ok (.invokevirtual 357, 3) := by decide +kernel
theorem dX12_layWarm_59 : decode cX12_layWarm 59 = .ok (.aload_n 0, 1) := by decide +kernel
theorem dX12_layWarm_60 : decode cX12_layWarm 60 = .ok (.iload 4, 2) := by decide +kernel
theorem dX12_layWarm_62 : decode cX12_layWarm 62 = .ok (.invokevirtual 350, 3) := by decide +kernel
theorem dX12_layWarm_65 : decode cX12_layWarm 65 = .ok (.ifCond .eq 8, 3) := by decide +kernel
theorem dX12_layWarm_68 : decode cX12_layWarm 68 = .ok (.bipush 10, 2) := by decide +kernel
theorem dX12_layWarm_70 : decode cX12_layWarm 70 = .ok (.goto 4, 3) := by decide +kernel
theorem dX12_layWarm_73 : decode cX12_layWarm 73 = .ok (.iconst 1, 1) := by decide +kernel
theorem dX12_layWarm_74 : decode cX12_layWarm 74 = .ok (.istore 5, 2) := by decide +kernel
theorem dX12_layWarm_76 : decode cX12_layWarm 76 = .ok (.aload_n 0, 1) := by decide +kernel
theorem dX12_layWarm_77 : decode cX12_layWarm 77 = .ok (.dup, 1) := by decide +kernel
theorem dX12_layWarm_78 : decode cX12_layWarm 78 = .ok (.getfield 353, 3) := by decide +kernel
theorem dX12_layWarm_81 : decode cX12_layWarm 81 = .ok (.iload 5, 2) := by decide +kernel
theorem dX12_layWarm_83 : decode cX12_layWarm 83 = .ok (.i2l, 1) := by decide +kernel
theorem dX12_layWarm_84 : decode cX12_layWarm 84 = .ok (.lmul, 1) := by decide +kernel
theorem dX12_layWarm_85 : decode cX12_layWarm 85 = .ok (.putfield 353, 3) := by decide +kernel
theorem dX12_layWarm_88 : decode cX12_layWarm 88 = .ok (.iconst 0, 1) := by decide +kernel
theorem dX12_layWarm_89 : decode cX12_layWarm 89 = .ok (.istore 6, 2) := by decide +kernel
theorem dX12_layWarm_91 : decode cX12_layWarm 91 = .ok (.iload 6, 2) := by decide +kernel
theorem dX12_layWarm_93 : decode cX12_layWarm 93 = .ok (.iload 4, 2) := by decide +kernel
theorem dX12_layWarm_95 : decode cX12_layWarm 95 = .ok (.if_icmp .ge 22, 3) := by decide +kernel
theorem dX12_layWarm_117 : decode cX12_layWarm 117 = .ok (.aload_n 0, 1) := by decide +kernel
theorem dX12_layWarm_118 : decode cX12_layWarm 118 = .ok (.getfield 56, 3) := by decide +kernel
theorem dX12_layWarm_121 : decode cX12_layWarm 121 = .ok (.iload 4, 2) := by decide +kernel
theorem dX12_layWarm_123 : decode cX12_layWarm 123 = .ok (.lconst 0, 1) := by decide +kernel
theorem dX12_layWarm_124 : decode cX12_layWarm 124 = .ok (.lastore, 1) := by decide +kernel
theorem dX12_layWarm_125 : decode cX12_layWarm 125 = .ok (.iload_n 3, 1) := by decide +kernel
theorem dX12_layWarm_126 : decode cX12_layWarm 126 = .ok (.aload_n 0, 1) := by decide +kernel
theorem dX12_layWarm_127 : decode cX12_layWarm 127 = .ok (.getfield 34, 3) := by decide +kernel
theorem dX12_layWarm_130 : decode cX12_layWarm 130 = .ok (.bipush 14, 2) := by decide +kernel
theorem dX12_layWarm_132 : decode cX12_layWarm 132 = .ok (.iload_n 1, 1) := by decide +kernel
theorem dX12_layWarm_133 : decode cX12_layWarm 133 = .ok (.imul, 1) := by decide +kernel
theorem dX12_layWarm_134 : decode cX12_layWarm 134 = .ok (.iload 4, 2) := by decide +kernel
theorem dX12_layWarm_136 : decode cX12_layWarm 136 = .ok (.iadd, 1) := by decide +kernel
theorem dX12_layWarm_137 : decode cX12_layWarm 137 = .ok (.iaload, 1) := by decide +kernel
theorem dX12_layWarm_138 : decode cX12_layWarm 138 = .ok (.isub, 1) := by decide +kernel
theorem dX12_layWarm_139 : decode cX12_layWarm 139 = .ok (.istore_n 3, 1) := by decide +kernel
theorem dX12_layWarm_140 : decode cX12_layWarm 140 = .ok (.iconst 0, 1) := by decide +kernel
theorem dX12_layWarm_141 : decode cX12_layWarm 141 = .ok (.istore 6, 2) := by decide +kernel
theorem dX12_layWarm_143 : decode cX12_layWarm 143 = .ok (.iload 6, 2) := by decide +kernel
theorem dX12_layWarm_145 : decode cX12_layWarm 145 = .ok (.bipush 14, 2) := by decide +kernel
theorem dX12_layWarm_147 : decode cX12_layWarm 147 = .ok (.if_icmp .gt 78, 3) := by decide +kernel
theorem dX12_layWarm_150 : decode cX12_layWarm 150 = .ok (.iload_n 3, 1) := by decide +kernel
theorem dX12_layWarm_151 : decode cX12_layWarm 151 = .ok (.iload 6, 2) := by decide +kernel
theorem dX12_layWarm_153 : decode cX12_layWarm 153 = .ok (.aload_n 0, 1) := by decide +kernel
theorem dX12_layWarm_154 : decode cX12_layWarm 154 = .ok (.iload_n 1, 1) := by decide +kernel
theorem dX12_layWarm_155 : decode cX12_layWarm 155 = .ok (.invokevirtual 215, 3) := by decide +kernel
theorem dX12_layWarm_158 : decode cX12_layWarm 158 = .ok (.imul, 1) := by decide +kernel
theorem dX12_layWarm_159 : decode cX12_layWarm 159 = .ok (.isub, 1) := by decide +kernel
theorem dX12_layWarm_160 : decode cX12_layWarm 160 = .ok (.ifCond .gt 7, 3) := by decide +kernel
theorem dX12_layWarm_163 : decode cX12_layWarm 163 = .ok (.iconst 1, 1) := by decide +kernel
theorem dX12_layWarm_164 : decode cX12_layWarm 164 = .ok (.goto 4, 3) := by decide +kernel
theorem dX12_layWarm_167 : decode cX12_layWarm 167 = .ok (.iconst 0, 1) := by decide +kernel
theorem dX12_layWarm_168 : decode cX12_layWarm 168 = .ok (.istore 7, 2) := by decide +kernel
theorem dX12_layWarm_170 : decode cX12_layWarm 170 = .ok (.aload_n 0, 1) := by decide +kernel
theorem dX12_layWarm_171 : decode cX12_layWarm 171 = .ok (.getfield 56, 3) := by decide +kernel
theorem dX12_layWarm_174 : decode cX12_layWarm 174 = .ok (.iload 4, 2) := by decide +kernel
theorem dX12_layWarm_176 : decode cX12_layWarm 176 = .ok (.dup2, 1) := by decide +kernel
theorem dX12_layWarm_177 : decode cX12_layWarm 177 = .ok (.laload, 1) := by decide +kernel
theorem dX12_layWarm_178 : decode cX12_layWarm 178 = .ok (.iload 7, 2) := by decide +kernel
theorem dX12_layWarm_180 : decode cX12_layWarm 180 = .ok (.ifCond .eq 13, 3) := by decide +kernel
theorem dX12_layWarm_183 : decode cX12_layWarm 183 = .ok (.aload_n 0, 1) := by decide +kernel
theorem dX12_layWarm_184 : decode cX12_layWarm 184 = .ok (.getfield 53, 3) := by decide +kernel
theorem dX12_layWarm_187 : decode cX12_layWarm 187 = .ok (.iload 6, 2) := by decide +kernel
theorem dX12_layWarm_189 : decode cX12_layWarm 189 = .ok (.laload, 1) := by decide +kernel
theorem dX12_layWarm_190 : decode cX12_layWarm 190 = .ok (.goto 4, 3) := by decide +kernel
theorem dX12_layWarm_193 : decode cX12_layWarm 193 = .ok (.lconst 0, 1) := by decide +kernel
theorem dX12_layWarm_194 : decode cX12_layWarm 194 = .ok (.ladd, 1) := by decide +kernel
theorem dX12_layWarm_195 : decode cX12_layWarm 195 = .ok (.lastore, 1) := by decide +kernel
theorem dX12_layWarm_196 : decode cX12_layWarm 196 = .ok (.aload_n 0, 1) := by decide +kernel
theorem dX12_layWarm_197 : decode cX12_layWarm 197 = .ok (.getfield 49, 3) := by decide +kernel
theorem dX12_layWarm_200 : decode cX12_layWarm 200 = .ok (.iload 6, 2) := by decide +kernel
theorem dX12_layWarm_202 : decode cX12_layWarm 202 = .ok (.iload 7, 2) := by decide +kernel
theorem dX12_layWarm_204 : decode cX12_layWarm 204 = .ok (.ifCond .eq 7, 3) := by decide +kernel
theorem dX12_layWarm_207 : decode cX12_layWarm 207 = .ok (.lconst 0, 1) := by decide +kernel
theorem dX12_layWarm_208 : decode cX12_layWarm 208 = .ok (.goto 10, 3) := by decide +kernel
theorem dX12_layWarm_211 : decode cX12_layWarm 211 = .ok (.aload_n 0, 1) := by decide +kernel
theorem dX12_layWarm_212 : decode cX12_layWarm 212 = .ok (.getfield 53, 3) := by decide +kernel
theorem dX12_layWarm_215 : decode cX12_layWarm 215 = .ok (.iload 6, 2) := by decide +kernel
theorem dX12_layWarm_217 : decode cX12_layWarm 217 = .ok (.laload, 1) := by decide +kernel
theorem dX12_layWarm_218 : decode cX12_layWarm 218 = .ok (.lastore, 1) := by decide +kernel
theorem dX12_layWarm_219 : decode cX12_layWarm 219 = .ok (.iinc 6 1, 3) := by decide +kernel
theorem dX12_layWarm_222 : decode cX12_layWarm 222 = .ok (.goto (-79), 3) := by decide +kernel
theorem dX12_layWarm_225 : decode cX12_layWarm 225 = .ok (.iinc 4 1, 3) := by decide +kernel
theorem dX12_layWarm_228 : decode cX12_layWarm 228 = .ok (.goto (-184), 3) := by decide +kernel
theorem dX12_layWarm_98 : decode cX12_layWarm 98 = .ok (.aload_n 0, 1) := by decide +kernel
theorem dX12_layWarm_99 : decode cX12_layWarm 99 = .ok (.getfield 56, 3) := by decide +kernel
theorem dX12_layWarm_102 : decode cX12_layWarm 102 = .ok (.iload 6, 2) := by decide +kernel
theorem dX12_layWarm_104 : decode cX12_layWarm 104 = .ok (.dup2, 1) := by decide +kernel
theorem dX12_layWarm_105 : decode cX12_layWarm 105 = .ok (.laload, 1) := by decide +kernel
theorem dX12_layWarm_106 : decode cX12_layWarm 106 = .ok (.iload 5, 2) := by decide +kernel
theorem dX12_layWarm_108 : decode cX12_layWarm 108 = .ok (.i2l, 1) := by decide +kernel
theorem dX12_layWarm_109 : decode cX12_layWarm 109 = .ok (.lmul, 1) := by decide +kernel
theorem dX12_layWarm_110 : decode cX12_layWarm 110 = .ok (.lastore, 1) := by decide +kernel
theorem dX12_layWarm_111 : decode cX12_layWarm 111 = .ok (.iinc 6 1, 3) := by decide +kernel
theorem dX12_layWarm_114 : decode cX12_layWarm 114 = .ok (.goto (-23), 3) := by decide +kernel
theorem dX12_layWarm_231 : decode cX12_layWarm 231 = .ok (.aload_n 0, 1) := by decide +kernel
theorem dX12_layWarm_232 : decode cX12_layWarm 232 = .ok (.lconst 0, 1) := by decide +kernel
theorem dX12_layWarm_233 : decode cX12_layWarm 233 = .ok (.putfield 360, 3) := by decide +kernel
theorem dX12_layWarm_236 : decode cX12_layWarm 236 = .ok (.iconst 0, 1) := by decide +kernel
theorem dX12_layWarm_237 : decode cX12_layWarm 237 = .ok (.istore 4, 2) := by decide +kernel
theorem dX12_layWarm_239 : decode cX12_layWarm 239 = .ok (.iload 4, 2) := by decide +kernel
theorem dX12_layWarm_241 : decode cX12_layWarm 241 = .ok (.bipush 14, 2) := by decide +kernel
theorem dX12_layWarm_243 : decode cX12_layWarm 243 = .ok (.if_icmp .gt 25, 3) := by decide +kernel
theorem dX12_layWarm_246 : decode cX12_layWarm 246 = .ok (.aload_n 0, 1) := by decide +kernel
theorem dX12_layWarm_247 : decode cX12_layWarm 247 = .ok (.dup, 1) := by decide +kernel
theorem dX12_layWarm_248 : decode cX12_layWarm 248 = .ok (.getfield 360, 3) := by decide +kernel
theorem dX12_layWarm_251 : decode cX12_layWarm 251 = .ok (.aload_n 0, 1) := by decide +kernel
theorem dX12_layWarm_252 : decode cX12_layWarm 252 = .ok (.getfield 49, 3) := by decide +kernel
theorem dX12_layWarm_255 : decode cX12_layWarm 255 = .ok (.iload 4, 2) := by decide +kernel
theorem dX12_layWarm_257 : decode cX12_layWarm 257 = .ok (.laload, 1) := by decide +kernel
theorem dX12_layWarm_258 : decode cX12_layWarm 258 = .ok (.ladd, 1) := by decide +kernel
theorem dX12_layWarm_259 : decode cX12_layWarm 259 = .ok (.putfield 360, 3) := by decide +kernel
theorem dX12_layWarm_262 : decode cX12_layWarm 262 = .ok (.iinc 4 1, 3) := by decide +kernel
theorem dX12_layWarm_265 : decode cX12_layWarm 265 = .ok (.goto (-26), 3) := by decide +kernel
theorem dX12_layWarm_268 : decode cX12_layWarm 268 = .ok (.return_, 1) := by decide +kernel
def vX12_layWarm : List Cond := .code yX12_layWarm cX12_layWarm 8 none :: ([.methodLink RX12 240 yX12_layOff, .instanceMethod yX12_layOff, .selects RX12 yX12_layOff yX12_layOff, .initialized RX12, .code yX12_layOff cX12_layOff 5 none, .fieldLink RX12 9 "IcicleClockModel" "world" "[I", .fieldLink RX12 231 "IcicleClockModel" "days" "I", .fieldLink RX12 34 "IcicleClockModel" "off" "[I", .methodLink RX12 209 yX12_thawOf, .instanceMethod yX12_thawOf, .selects RX12 yX12_thawOf yX12_thawOf, .code yX12_thawOf cX12_thawOf 2 (some .int), .methodLink RX12 234 yX12_bit, .static yX12_bit, .code yX12_bit cX12_bit 2 (some .int), .methodLink RX12 215 yX12_sunOf, .instanceMethod yX12_sunOf, .selects RX12 yX12_sunOf yX12_sunOf, .code yX12_sunOf cX12_sunOf 2 (some .int), .methodLink RX12 218 yX12_meltBy, .static yX12_meltBy, .code yX12_meltBy cX12_meltBy 2 (some .int), .fieldLink RX12 49 "IcicleClockModel" "hangs" "[J", .fieldLink RX12 353 "IcicleClockModel" "oftenAll" "J", .methodLink RX12 357 yX12_goWarm, .instanceMethod yX12_goWarm, .selects RX12 yX12_goWarm yX12_goWarm, .code yX12_goWarm cX12_goWarm 3 none, .fieldLink RX12 53 "IcicleClockModel" "hangsThen" "[J", .methodLink RX12 350 yX12_isThaw, .instanceMethod yX12_isThaw, .selects RX12 yX12_isThaw yX12_isThaw, .code yX12_isThaw cX12_isThaw 2 (some .boolean), .fieldLink RX12 56 "IcicleClockModel" "oftenOn" "[J", .fieldLink RX12 360 "IcicleClockModel" "oftenNever" "J"] ++ wsX120)
theorem iX12_layWarm_12 : ∀ w ∈ wsX120, w ∈ vX12_layWarm := fun _ h => List.mem_cons_of_mem _ (List.mem_append_right _ h)
set_option maxRecDepth 20000 in
theorem gg_X12_layWarm_X12_layOff : GoodIn vX12_layWarm (wsV RX12 240 RX12 yX12_layOff vX12_layOff) := goodIn_r _ [1, 2, 3, 4, 5, 6, 7, 8, 9, 10, 11, 4, 12, 13, 14, 15, 16, 17, 18, 19, 20, 21, 22, 36, 37, 38, 39, 40, 41, 42, 43, 44, 45, 46, 47, 48, 49, 50, 51, 52, 53, 54, 55, 56, 57, 58, 59, 60, 61, 62, 63, 64, 65, 66, 67, 68, 69, 70, 71, 72, 73, 74, 75] (by decide +kernel) (by decide +kernel)
set_option maxRecDepth 20000 in
theorem gg_X12_layWarm_X12_goWarm : GoodIn vX12_layWarm (wsV RX12 357 RX12 yX12_goWarm vX12_goWarm) := goodIn_r _ [25, 26, 27, 4, 28, 29, 23, 30, 31, 32, 4, 33, 6, 36, 37, 38, 39, 40, 41, 42, 43, 44, 45, 46, 47, 48, 49, 50, 51, 52, 53, 54, 55, 56, 57, 58, 59, 60, 61, 62, 63, 64, 65, 66, 67, 68, 69, 70, 71, 72, 73, 74, 75] (by decide +kernel) (by decide +kernel)
set_option maxRecDepth 20000 in
theorem gg_X12_layWarm_X12_isThaw : GoodIn vX12_layWarm (wsV RX12 350 RX12 yX12_isThaw vX12_isThaw) := goodIn_r _ [30, 31, 32, 4, 33, 6, 36, 37, 38, 39, 40, 41, 42, 43, 44, 45, 46, 47, 48, 49, 50, 51, 52, 53, 54, 55, 56, 57, 58, 59, 60, 61, 62, 63, 64, 65, 66, 67, 68, 69, 70, 71, 72, 73, 74, 75] (by decide +kernel) (by decide +kernel)
set_option maxRecDepth 20000 in
theorem gg_X12_layWarm_X12_sunOf : GoodIn vX12_layWarm (wsV RX12 215 RX12 yX12_sunOf vX12_sunOf) := goodIn_r _ [16, 17, 18, 4, 19, 6, 36, 37, 38, 39, 40, 41, 42, 43, 44, 45, 46, 47, 48, 49, 50, 51, 52, 53, 54, 55, 56, 57, 58, 59, 60, 61, 62, 63, 64, 65, 66, 67, 68, 69, 70, 71, 72, 73, 74, 75] (by decide +kernel) (by decide +kernel)
set_option maxHeartbeats 4000000 in
set_option maxRecDepth 100000 in
theorem s_X12_layWarm (l : Launch) (D : va_G) (cs : Nat → ClassId) (ad : Nat → Nat) (kS : kSt) (K : sK) (hKO : KO K) (hj : wJ ad 218) (g : Nat → va_E) (hW : WF (shp ad K) ad cs g) (ev : Int32) (len : Int32) (hp0 : 0 ≤ ev.toInt ∧ ev.toInt ≤ 4) : sV l yX12_layWarm vX12_layWarm { frames := 2, cells := 0, slots := 0, locals := 45 } D cs ad kS [.ref (ad 197), .int ev, .int len] g (fun g2 => WF (shp ad K) ad cs g2 ∧ (∀ j, j ≠ 197 ∧ j ≠ 204 ∧ j ≠ 209 ∧ j ≠ 210 ∧ j ≠ 211 → g2 j = g j) ∧ (1 ≤ gJ g2 197 30)) := by
  refine Met.startS (cc := cX12_layWarm) (maxL := 8) (ret := none) RX12 rfl (by decide) rfl (Nat.le_of_ble_eq_true rfl) ?_
  intro p e s m below meth c ls X Z hP hl
  have hx := X.1
  have hb := X.2.1
  have hS : va_S (wA ad 218) s.heap s.heap [] := va_S.rf
  have hA : ∀ i, i < 218 → wA ad 218 (ad i) := fun i h => ⟨i, h, rfl⟩
  have hfr : ∀ j, j ≠ 197 ∧ j ≠ 204 ∧ j ≠ 209 ∧ j ≠ 210 ∧ j ≠ 211 → g j = g j := fun _ _ => rfl
  have hl : lv_has ls 8 [(0, .ref (ad 197)), (1, .int ev), (2, .int len)] := hl
  obtain ⟨fsc_1, hgc_1, hOc_1⟩ := hW.obj (i := 197) (by decide) (sh_197 ad K)
  obtain ⟨x_3, hk_2, -⟩ := hOc_1.lng 30 rfl
  have hgix_3 := gJ_of hgc_1 hk_2
  refine lv_aload_n hx hb dX12_layWarm_0 rfl (lv_at hl 0 rfl) ?_
  refine lv_iconst (v := 0) hx hb dX12_layWarm_1 (by decide) ?_
  have hgi_4 := gJ_of hgc_1 hk_2
  refine s_callv (q := (RX12, TX12, 40)) (As := [.int 0]) (rest := []) X Z (s_X12_layOff l D cs ad kS K hKO hj g hW 0) (cwV 1 X.2.2.2.2.1 gg_X12_layWarm_X12_layOff rfl rfl rfl (by decide +kernel) ⟨Nat.le_of_ble_eq_true rfl, Nat.le_of_ble_eq_true rfl⟩) (by decide) hgc_1 rfl hP hA hS.2.1 hS rfl hl.1 rfl (Nat.le_of_ble_eq_true rfl) dX12_layWarm_2 ⟨Nat.le_of_ble_eq_true rfl, Nat.le_of_ble_eq_true rfl⟩ (fun g_6 H locs hw_5 hP hS => ?_)
  obtain ⟨hw_5W, hw_5f⟩ := hw_5
  have hfr_8 : ∀ j, j ≠ 197 ∧ j ≠ 204 ∧ j ≠ 209 ∧ j ≠ 210 ∧ j ≠ 211 → g_6 j = g j := fun j hj => (hw_5f j (by omega)).trans (hfr j hj)
  refine lv_iconst (v := 0) hx hb dX12_layWarm_5 (by decide) ?_
  refine lv_istore_n (lv' := [(3, .int 0), (0, .ref (ad 197)), (1, .int ev), (2, .int len)]) hx hb dX12_layWarm_6 rfl hl (by decide) rfl (fun ls hl => ?_)
  have HL7 : ∀ (n7 : Nat) (v7_3 : Int32) (G7 : Nat → va_E) (H : Heap) (locs : List Loc) (ls : Array Slot), (15 - v7_3.toInt).toNat < n7 → (0 ≤ v7_3.toInt ∧ v7_3.toInt ≤ 15) → (∀ j : Nat, 0 < j → (j : Int) < v7_3.toInt → gA G7 209 j = 0) → WF (shp ad K) ad cs G7 → (∀ j, j ≠ 197 ∧ j ≠ 204 ∧ j ≠ 209 ∧ j ≠ 210 ∧ j ≠ 211 → G7 j = g j) → va_P D vwCl (wL ad G7 218) H → va_S (wA ad 218) s.heap H locs → lv_has ls 8 [(3, .int v7_3), (0, .ref (ad 197)), (1, .int ev), (2, .int len)] → W p l e ({ frames := 2, cells := 0, slots := 0, locals := 45 } : Room) s m ([.ref (ad 197), .int ev, .int len] : List Value).toArray below meth c H locs 0 0 (MQ below (qV D ad 218 (fun g2 => WF (shp ad K) ad cs g2 ∧ (∀ j, j ≠ 197 ∧ j ≠ 204 ∧ j ≠ 209 ∧ j ≠ 210 ∧ j ≠ 211 → g2 j = g j) ∧ (1 ≤ gJ g2 197 30))) ([.ref (ad 197), .int ev, .int len] : List Value).toArray s 0 0 (wA ad 218)) (F0 m 7 ls []) := by
    intro n7
    induction n7 with
    | zero =>
      intro v7_3 G7 H locs ls hm7 hv7_0 he7_0 hW7 hfr7 hP hS hl
      exact absurd hm7 (Nat.not_lt_zero _)
    | succ n7 ih7 =>
      intro v7_3 G7 H locs ls hm7 hv7_0 he7_0 hW7 hfr7 hP hS hl
      refine lv_iload_n hx hb dX12_layWarm_7 rfl (lv_at hl 0 rfl) ?_
      refine lv_bipush (v := 14) hx hb dX12_layWarm_8 (by decide) ?_
      refine lv_icmp_gt (tgt := 34) hx hb dX12_layWarm_10 (by decide) (fun hc_9 => ?_) (fun hc_9 => ?_)
      · have hhc_9 := n_lt (by decide : (14 : Int32).toInt = 14) (rfl : v7_3.toInt = v7_3.toInt) hc_9
        refine lv_aload_n hx hb dX12_layWarm_34 rfl (lv_at hl 1 rfl) ?_
        refine lv_lconst (v := 1) hx hb dX12_layWarm_35 (by decide) ?_
        obtain ⟨fsc_10, hgc_10, hOc_10⟩ := hW7.obj (i := 197) (by decide) (sh_197 ad K)
        refine s_put X iX12_layWarm_12 tyX12 tyX12_ok nmX12 hP hj hA hS (by decide) hgc_10 rfl 30 (by decide) (List.mem_of_getElem? (i := 24) rfl) rfl (ty := .long) (v := .long 1) (by decide +kernel) rfl rfl dX12_layWarm_36 hW7 (sh_197 ad K) hOc_10 rfl ⟨1, rfl, j_lo _, j_hi _⟩ (fun fsc_11 gc_11 H locs hOc_11 hkc_11 hnc_11 hgc_11 hfc_11 hWc_11 hP hS => ?_)
        have hfr_12 : ∀ j, j ≠ 197 ∧ j ≠ 204 ∧ j ≠ 209 ∧ j ≠ 210 ∧ j ≠ 211 → gc_11 j = g j := fun j hj => (hfc_11 j (by omega)).trans (hfr7 j hj)
        have hgi_13 := gJ_of hgc_11 hkc_11
        rw [(by decide : (1 : Int64).toInt = 1)] at hgi_13
        refine lv_iload_n hx hb dX12_layWarm_39 rfl (lv_at hl 3 rfl) ?_
        refine lv_istore_n (lv' := [(3, .int len), (0, .ref (ad 197)), (1, .int ev), (2, .int len)]) hx hb dX12_layWarm_40 rfl hl (by decide) rfl (fun ls hl => ?_)
        refine lv_iconst (v := 0) hx hb dX12_layWarm_41 (by decide) ?_
        refine lv_istore (lv' := [(4, .int 0), (3, .int len), (0, .ref (ad 197)), (1, .int ev), (2, .int len)]) hx hb dX12_layWarm_42 hl (by decide) rfl (fun ls hl => ?_)
        have HL44 : ∀ (n44 : Nat) (v44_4 : Int32) (v44_3 : Int32) (G44 : Nat → va_E) (H : Heap) (locs : List Loc) (ls : Array Slot), (14 - v44_4.toInt).toNat < n44 → (0 ≤ v44_4.toInt ∧ v44_4.toInt ≤ 14) → (∀ j : Nat, v44_4.toInt < j → j ≤ 14 → gA G44 209 j = 0) → (1 ≤ gJ G44 197 30 ∧ gJ G44 197 30 ≤ tenP (v44_4.toInt)) → WF (shp ad K) ad cs G44 → (∀ j, j ≠ 197 ∧ j ≠ 204 ∧ j ≠ 209 ∧ j ≠ 210 ∧ j ≠ 211 → G44 j = g j) → va_P D vwCl (wL ad G44 218) H → va_S (wA ad 218) s.heap H locs → lv_has ls 8 [(4, .int v44_4), (3, .int v44_3), (0, .ref (ad 197)), (1, .int ev)] → W p l e ({ frames := 2, cells := 0, slots := 0, locals := 45 } : Room) s m ([.ref (ad 197), .int ev, .int len] : List Value).toArray below meth c H locs 0 0 (MQ below (qV D ad 218 (fun g2 => WF (shp ad K) ad cs g2 ∧ (∀ j, j ≠ 197 ∧ j ≠ 204 ∧ j ≠ 209 ∧ j ≠ 210 ∧ j ≠ 211 → g2 j = g j) ∧ (1 ≤ gJ g2 197 30))) ([.ref (ad 197), .int ev, .int len] : List Value).toArray s 0 0 (wA ad 218)) (F0 m 44 ls []) := by
          intro n44
          induction n44 with
          | zero =>
            intro v44_4 v44_3 G44 H locs ls hm44 hv44_0 he44_0 he44_1 hW44 hfr44 hP hS hl
            exact absurd hm44 (Nat.not_lt_zero _)
          | succ n44 ih44 =>
            intro v44_4 v44_3 G44 H locs ls hm44 hv44_0 he44_0 he44_1 hW44 hfr44 hP hS hl
            refine lv_iload hx hb dX12_layWarm_44 (lv_at hl 0 rfl) ?_
            refine lv_aload_n hx hb dX12_layWarm_46 rfl (lv_at hl 2 rfl) ?_
            obtain ⟨fsc_14, hgc_14, hOc_14⟩ := hW44.obj (i := 197) (by decide) (sh_197 ad K)
            obtain ⟨x_16, hk_15, hlx_16, hhx_16⟩ := hOc_14.int 17 rfl
            refine q_get X iX12_layWarm_12 hP (by decide) hgc_14 rfl 17 (by decide) (List.mem_of_getElem? (i := 7) rfl) (v := .int x_16) hk_15 dX12_layWarm_47 ?_
            refine lv_icmp_ge (tgt := 231) hx hb dX12_layWarm_50 (by decide) (fun hc_17 => ?_) (fun hc_17 => ?_)
            · have hhc_17 := n_le (rfl : x_16.toInt = x_16.toInt) (rfl : v44_4.toInt = v44_4.toInt) hc_17
              refine lv_aload_n hx hb dX12_layWarm_231 rfl (lv_at hl 2 rfl) ?_
              refine lv_lconst (v := 0) hx hb dX12_layWarm_232 (by decide) ?_
              refine s_put X iX12_layWarm_12 tyX12 tyX12_ok nmX12 hP hj hA hS (by decide) hgc_14 rfl 31 (by decide) (List.mem_of_getElem? (i := 35) rfl) rfl (ty := .long) (v := .long 0) (by decide +kernel) rfl rfl dX12_layWarm_233 hW44 (sh_197 ad K) hOc_14 rfl ⟨0, rfl, j_lo _, j_hi _⟩ (fun fsc_18 gc_18 H locs hOc_18 hkc_18 hnc_18 hgc_18 hfc_18 hWc_18 hP hS => ?_)
              have hk_19 := (hnc_18 17 (by decide)).trans hk_15
              have hfr_20 : ∀ j, j ≠ 197 ∧ j ≠ 204 ∧ j ≠ 209 ∧ j ≠ 210 ∧ j ≠ 211 → gc_18 j = g j := fun j hj => (hfc_18 j (by omega)).trans (hfr44 j hj)
              refine lv_iconst (v := 0) hx hb dX12_layWarm_236 (by decide) ?_
              refine lv_istore (lv' := [(4, .int 0), (3, .int v44_3), (0, .ref (ad 197)), (1, .int ev)]) hx hb dX12_layWarm_237 hl (by decide) rfl (fun ls hl => ?_)
              have HL239 : ∀ (n239 : Nat) (v239_4 : Int32) (G239 : Nat → va_E) (H : Heap) (locs : List Loc) (ls : Array Slot), (15 - v239_4.toInt).toNat < n239 → (0 ≤ v239_4.toInt ∧ v239_4.toInt ≤ 15) → 1 ≤ gJ G239 197 30 → WF (shp ad K) ad cs G239 → (∀ j, j ≠ 197 ∧ j ≠ 204 ∧ j ≠ 209 ∧ j ≠ 210 ∧ j ≠ 211 → G239 j = g j) → va_P D vwCl (wL ad G239 218) H → va_S (wA ad 218) s.heap H locs → lv_has ls 8 [(4, .int v239_4), (0, .ref (ad 197))] → W p l e ({ frames := 2, cells := 0, slots := 0, locals := 45 } : Room) s m ([.ref (ad 197), .int ev, .int len] : List Value).toArray below meth c H locs 0 0 (MQ below (qV D ad 218 (fun g2 => WF (shp ad K) ad cs g2 ∧ (∀ j, j ≠ 197 ∧ j ≠ 204 ∧ j ≠ 209 ∧ j ≠ 210 ∧ j ≠ 211 → g2 j = g j) ∧ (1 ≤ gJ g2 197 30))) ([.ref (ad 197), .int ev, .int len] : List Value).toArray s 0 0 (wA ad 218)) (F0 m 239 ls []) := by
                intro n239
                induction n239 with
                | zero =>
                  intro v239_4 G239 H locs ls hm239 hv239_0 he239_0 hW239 hfr239 hP hS hl
                  exact absurd hm239 (Nat.not_lt_zero _)
                | succ n239 ih239 =>
                  intro v239_4 G239 H locs ls hm239 hv239_0 he239_0 hW239 hfr239 hP hS hl
                  refine lv_iload hx hb dX12_layWarm_239 (lv_at hl 0 rfl) ?_
                  refine lv_bipush (v := 14) hx hb dX12_layWarm_241 (by decide) ?_
                  refine lv_icmp_gt (tgt := 268) hx hb dX12_layWarm_243 (by decide) (fun hc_21 => ?_) (fun hc_21 => ?_)
                  · have hhc_21 := n_lt (by decide : (14 : Int32).toInt = 14) (rfl : v239_4.toInt = v239_4.toInt) hc_21
                    obtain ⟨fsc_22, hgc_22, hOc_22⟩ := hW239.obj (i := 197) (by decide) (sh_197 ad K)
                    obtain ⟨x_24, hk_23, -⟩ := hOc_22.lng 30 rfl
                    have hgix_24 := gJ_of hgc_22 hk_23
                    exact q_vret X hP hS ⟨hW239, hfr239, (by omega)⟩ dX12_layWarm_268
                  · have hhc_21 := n_nlt (by decide : (14 : Int32).toInt = 14) (rfl : v239_4.toInt = v239_4.toInt) hc_21
                    refine lv_aload_n hx hb dX12_layWarm_246 rfl (lv_at hl 1 rfl) ?_
                    refine lv_dup hx hb dX12_layWarm_247 rfl ?_
                    obtain ⟨fsc_26, hgc_26, hOc_26⟩ := hW239.obj (i := 197) (by decide) (sh_197 ad K)
                    obtain ⟨x_28, hk_27, -⟩ := hOc_26.lng 31 rfl
                    refine q_get X iX12_layWarm_12 hP (by decide) hgc_26 rfl 31 (by decide) (List.mem_of_getElem? (i := 35) rfl) (v := .long x_28) hk_27 dX12_layWarm_248 ?_
                    refine lv_aload_n hx hb dX12_layWarm_251 rfl (lv_at hl 1 rfl) ?_
                    have hk_29 := hOc_26.ref 27 rfl
                    refine q_get X iX12_layWarm_12 hP (by decide) hgc_26 rfl 27 (by decide) (List.mem_of_getElem? (i := 23) rfl) (v := .ref (ad 209)) hk_29 dX12_layWarm_252 ?_
                    refine lv_iload hx hb dX12_layWarm_255 (lv_at hl 0 rfl) ?_
                    obtain ⟨fc_30, hgc_30, hFc_30⟩ := hW239.arj (i := 209) (by decide) (sh_209 ad K)
                    refine q_lald X hP (by decide) hgc_30 (n_in (rfl : v239_4.toInt = v239_4.toInt) (by omega) (by omega)) dX12_layWarm_257 ?_
                    refine lv_topl (fun z_31 ez_31 => ?_)
                    refine lv_ladd hx hb dX12_layWarm_258 ?_
                    refine lv_topl (fun z_32 ez_32 => ?_)
                    refine s_put X iX12_layWarm_12 tyX12 tyX12_ok nmX12 hP hj hA hS (by decide) hgc_26 rfl 31 (by decide) (List.mem_of_getElem? (i := 35) rfl) rfl (ty := .long) (v := .long z_32) (by decide +kernel) rfl rfl dX12_layWarm_259 hW239 (sh_197 ad K) hOc_26 rfl ⟨z_32, rfl, j_lo _, j_hi _⟩ (fun fsc_33 gc_33 H locs hOc_33 hkc_33 hnc_33 hgc_33 hfc_33 hWc_33 hP hS => ?_)
                    have hk_34 := (hnc_33 27 (by decide)).trans hk_29
                    have hg_36 := (hfc_33 209 (by decide)).trans hgc_30
                    have hfr_35 : ∀ j, j ≠ 197 ∧ j ≠ 204 ∧ j ≠ 209 ∧ j ≠ 210 ∧ j ≠ 211 → gc_33 j = g j := fun j hj => (hfc_33 j (by omega)).trans (hfr239 j hj)
                    obtain ⟨x_37, ex_37⟩ : ∃ y : Int32, y = v239_4 + 1 := ⟨_, rfl⟩
                    have hx_37 : x_37.toInt = v239_4.toInt + 1 := n_add rfl (by decide : (1 : Int32).toInt = 1) ex_37 (by omega) (by omega)
                    refine lv_iinc (v := x_37) (lv' := [(4, .int x_37), (0, .ref (ad 197))]) hx hb dX12_layWarm_262 hl (k := 0) rfl (by rw [ex_37]; rfl) (by decide) rfl (fun ls hl => ?_)
                    refine lv_goto (tgt := 239) hx hb dX12_layWarm_265 (by decide) ?_
                    obtain ⟨x_39, hk_38, -⟩ := hOc_33.lng 30 rfl
                    have hgix_39 := gJ_of hgc_33 hk_38
                    exact ih239 x_37 gc_33 _ _ ls (by omega) (by omega) (by omega) hWc_33 hfr_35 hP hS (lv_sub hl [0, 1] rfl)
              obtain ⟨x_42, hk_41, -⟩ := hOc_18.lng 30 rfl
              have hgix_42 := gJ_of hgc_18 hk_41
              have hiv239_4 : (0 : Int32).toInt = 0 := by decide
              exact HL239 _ 0 gc_18 _ _ ls (Nat.lt_succ_self _) (by omega) (by omega) hWc_18 hfr_20 hP hS (lv_sub hl [0, 2] rfl)
            · have hhc_17 := n_nle (rfl : x_16.toInt = x_16.toInt) (rfl : v44_4.toInt = v44_4.toInt) hc_17
              refine lv_aload_n hx hb dX12_layWarm_53 rfl (lv_at hl 2 rfl) ?_
              refine lv_iload hx hb dX12_layWarm_54 (lv_at hl 0 rfl) ?_
              obtain ⟨x_45, hk_44, -⟩ := hOc_14.lng 30 rfl
              have hgix_45 := gJ_of hgc_14 hk_44
              refine s_callv (q := (RX12, TX12, 40)) (As := [.int v44_4]) (rest := []) X Z (s_X12_goWarm l D cs ad kS K hKO hj G44 hW44 v44_4 (by omega) (fun j h1 h2 => he44_0 j h1 h2)) (cwV 1 X.2.2.2.2.1 gg_X12_layWarm_X12_goWarm rfl rfl rfl (by decide +kernel) ⟨Nat.le_of_ble_eq_true rfl, Nat.le_of_ble_eq_true rfl⟩) (by decide) hgc_14 rfl hP hA hS.2.1 hS rfl hl.1 rfl (Nat.le_of_ble_eq_true rfl) dX12_layWarm_56 ⟨Nat.le_of_ble_eq_true rfl, Nat.le_of_ble_eq_true rfl⟩ (fun g_48 H locs hw_47 hP hS => ?_)
              obtain ⟨hw_47W, hw_47f, hw_47⟩ := hw_47
              have hfr_50 : ∀ j, j ≠ 197 ∧ j ≠ 204 ∧ j ≠ 209 ∧ j ≠ 210 ∧ j ≠ 211 → g_48 j = g j := fun j hj => (hw_47f j (by omega)).trans (hfr44 j hj)
              have hg_51 := (hw_47f 197 (by omega)).trans hgc_14
              refine lv_aload_n hx hb dX12_layWarm_59 rfl (lv_at hl 2 rfl) ?_
              refine lv_iload hx hb dX12_layWarm_60 (lv_at hl 0 rfl) ?_
              have hgi_52 := gJ_of hg_51 hk_44
              refine s_calli (q := (RX12, TX12, 40)) (As := [.int v44_4]) (rest := []) X Z (s_X12_isThaw l D cs ad kS K hKO hj g_48 hw_47W v44_4 (by omega)) (cwV 1 X.2.2.2.2.1 gg_X12_layWarm_X12_isThaw rfl rfl rfl (by decide +kernel) ⟨Nat.le_of_ble_eq_true rfl, Nat.le_of_ble_eq_true rfl⟩) (by decide) hg_51 rfl hP hA hS.2.1 hS rfl hl.1 rfl (Nat.le_of_ble_eq_true rfl) dX12_layWarm_62 ⟨Nat.le_of_ble_eq_true rfl, Nat.le_of_ble_eq_true rfl⟩ (fun r_55 g_54 H locs hw_53 hP hS => ?_)
              obtain ⟨hw_53g, hw_53⟩ := hw_53
              rw [hw_53g] at hP
              have HJ74 : ∀ (v74_s0 : Int32) (G74 : Nat → va_E) (H : Heap) (locs : List Loc) (ls : Array Slot), (1 ≤ v74_s0.toInt ∧ v74_s0.toInt ≤ 10) → (∀ j : Nat, v44_4.toInt + 1 < j → j ≤ 14 → gA G74 210 j = 0) → (1 ≤ gJ G74 197 30 ∧ gJ G74 197 30 ≤ tenP (v44_4.toInt)) → (v74_s0.toInt = 1 ∨ v74_s0.toInt = 10) → WF (shp ad K) ad cs G74 → (∀ j, j ≠ 197 ∧ j ≠ 204 ∧ j ≠ 209 ∧ j ≠ 210 ∧ j ≠ 211 → G74 j = g j) → G74 197 = .inr (12, fsc_14) → va_P D vwCl (wL ad G74 218) H → va_S (wA ad 218) s.heap H locs → lv_has ls 8 [(4, .int v44_4), (3, .int v44_3), (0, .ref (ad 197)), (1, .int ev)] → W p l e ({ frames := 2, cells := 0, slots := 0, locals := 45 } : Room) s m ([.ref (ad 197), .int ev, .int len] : List Value).toArray below meth c H locs 0 0 (MQ below (qV D ad 218 (fun g2 => WF (shp ad K) ad cs g2 ∧ (∀ j, j ≠ 197 ∧ j ≠ 204 ∧ j ≠ 209 ∧ j ≠ 210 ∧ j ≠ 211 → g2 j = g j) ∧ (1 ≤ gJ g2 197 30))) ([.ref (ad 197), .int ev, .int len] : List Value).toArray s 0 0 (wA ad 218)) (F0 m 74 ls [.int v74_s0]) := by
                intro v74_s0 G74 H locs ls hv74_0 he74_0 he74_1 he74_2 hW74 hfr74 hg74_0 hP hS hl
                refine lv_istore (lv' := [(5, .int v74_s0), (4, .int v44_4), (3, .int v44_3), (0, .ref (ad 197)), (1, .int ev)]) hx hb dX12_layWarm_74 hl (by decide) rfl (fun ls hl => ?_)
                refine lv_aload_n hx hb dX12_layWarm_76 rfl (lv_at hl 3 rfl) ?_
                refine lv_dup hx hb dX12_layWarm_77 rfl ?_
                refine q_get X iX12_layWarm_12 hP (by decide) hg74_0 rfl 30 (by decide) (List.mem_of_getElem? (i := 24) rfl) (v := .long x_45) hk_44 dX12_layWarm_78 ?_
                refine lv_iload hx hb dX12_layWarm_81 (lv_at hl 0 rfl) ?_
                refine lv_i2l hx hb dX12_layWarm_83 rfl ?_
                refine lv_topl (fun z_56 ez_56 => ?_)
                have hz_56 : z_56.toInt = v74_s0.toInt := ez_56 ▸ j_of rfl
                refine lv_lmul hx hb dX12_layWarm_84 ?_
                refine lv_topl (fun z_57 ez_57 => ?_)
                have hten := ten_mul (d := v44_4.toInt) ez_57 (by omega) (by omega) (by omega)
                refine s_put X iX12_layWarm_12 tyX12 tyX12_ok nmX12 hP hj hA hS (by decide) hg74_0 rfl 30 (by decide) (List.mem_of_getElem? (i := 24) rfl) rfl (ty := .long) (v := .long z_57) (by decide +kernel) rfl rfl dX12_layWarm_85 hW74 (sh_197 ad K) hOc_14 rfl ⟨z_57, rfl, j_lo _, j_hi _⟩ (fun fsc_58 gc_58 H locs hOc_58 hkc_58 hnc_58 hgc_58 hfc_58 hWc_58 hP hS => ?_)
                have hk_59 := (hnc_58 17 (by decide)).trans hk_15
                have hfr_60 : ∀ j, j ≠ 197 ∧ j ≠ 204 ∧ j ≠ 209 ∧ j ≠ 210 ∧ j ≠ 211 → gc_58 j = g j := fun j hj => (hfc_58 j (by omega)).trans (hfr74 j hj)
                have hgi_61 := gJ_of hgc_58 hkc_58
                refine lv_iconst (v := 0) hx hb dX12_layWarm_88 (by decide) ?_
                refine lv_istore (lv' := [(6, .int 0), (5, .int v74_s0), (4, .int v44_4), (3, .int v44_3), (0, .ref (ad 197)), (1, .int ev)]) hx hb dX12_layWarm_89 hl (by decide) rfl (fun ls hl => ?_)
                have HL91 : ∀ (n91 : Nat) (v91_6 : Int32) (G91 : Nat → va_E) (H : Heap) (locs : List Loc) (ls : Array Slot), (13 - v91_6.toInt).toNat < n91 → (0 ≤ v91_6.toInt ∧ v91_6.toInt ≤ 13) → (∀ j : Nat, v44_4.toInt + 1 < j → j ≤ 14 → gA G91 210 j = 0) → (1 ≤ gJ G91 197 30 ∧ gJ G91 197 30 ≤ tenP (v44_4.toInt + 1)) → WF (shp ad K) ad cs G91 → (∀ j, j ≠ 197 ∧ j ≠ 204 ∧ j ≠ 209 ∧ j ≠ 210 ∧ j ≠ 211 → G91 j = g j) → va_P D vwCl (wL ad G91 218) H → va_S (wA ad 218) s.heap H locs → lv_has ls 8 [(6, .int v91_6), (5, .int v74_s0), (4, .int v44_4), (3, .int v44_3), (0, .ref (ad 197)), (1, .int ev)] → W p l e ({ frames := 2, cells := 0, slots := 0, locals := 45 } : Room) s m ([.ref (ad 197), .int ev, .int len] : List Value).toArray below meth c H locs 0 0 (MQ below (qV D ad 218 (fun g2 => WF (shp ad K) ad cs g2 ∧ (∀ j, j ≠ 197 ∧ j ≠ 204 ∧ j ≠ 209 ∧ j ≠ 210 ∧ j ≠ 211 → g2 j = g j) ∧ (1 ≤ gJ g2 197 30))) ([.ref (ad 197), .int ev, .int len] : List Value).toArray s 0 0 (wA ad 218)) (F0 m 91 ls []) := by
                  intro n91
                  induction n91 with
                  | zero =>
                    intro v91_6 G91 H locs ls hm91 hv91_0 he91_0 he91_1 hW91 hfr91 hP hS hl
                    exact absurd hm91 (Nat.not_lt_zero _)
                  | succ n91 ih91 =>
                    intro v91_6 G91 H locs ls hm91 hv91_0 he91_0 he91_1 hW91 hfr91 hP hS hl
                    refine lv_iload hx hb dX12_layWarm_91 (lv_at hl 0 rfl) ?_
                    refine lv_iload hx hb dX12_layWarm_93 (lv_at hl 2 rfl) ?_
                    refine lv_icmp_ge (tgt := 117) hx hb dX12_layWarm_95 (by decide) (fun hc_62 => ?_) (fun hc_62 => ?_)
                    · have hhc_62 := n_le (rfl : v44_4.toInt = v44_4.toInt) (rfl : v91_6.toInt = v91_6.toInt) hc_62
                      refine lv_aload_n hx hb dX12_layWarm_117 rfl (lv_at hl 4 rfl) ?_
                      obtain ⟨fsc_63, hgc_63, hOc_63⟩ := hW91.obj (i := 197) (by decide) (sh_197 ad K)
                      have hk_64 := hOc_63.ref 29 rfl
                      refine q_get X iX12_layWarm_12 hP (by decide) hgc_63 rfl 29 (by decide) (List.mem_of_getElem? (i := 34) rfl) (v := .ref (ad 211)) hk_64 dX12_layWarm_118 ?_
                      refine lv_iload hx hb dX12_layWarm_121 (lv_at hl 2 rfl) ?_
                      refine lv_lconst (v := 0) hx hb dX12_layWarm_123 (by decide) ?_
                      obtain ⟨fc_65, hgc_65, hFc_65⟩ := hW91.arj (i := 211) (by decide) (sh_211 ad K)
                      refine s_last X hP hj hA hS (by decide) hgc_65 (n_in (rfl : v44_4.toInt = v44_4.toInt) (by omega) (by omega)) dX12_layWarm_124 hW91 (sh_211 ad K) (hFc_65.put trivial) (fun fc_66 gc_66 H locs ec_66 hFc_66 hgc_66 hfc_66 hWc_66 hP hS => ?_)
                      have hg_68 := (hfc_66 197 (by decide)).trans hgc_63
                      have hfr_67 : ∀ j, j ≠ 197 ∧ j ≠ 204 ∧ j ≠ 209 ∧ j ≠ 210 ∧ j ≠ 211 → gc_66 j = g j := fun j hj => (hfc_66 j (by omega)).trans (hfr91 j hj)
                      refine lv_iload_n hx hb dX12_layWarm_125 rfl (lv_at hl 3 rfl) ?_
                      refine lv_aload_n hx hb dX12_layWarm_126 rfl (lv_at hl 4 rfl) ?_
                      have hk_69 := hOc_63.ref 15 rfl
                      refine q_get X iX12_layWarm_12 hP (by decide) hg_68 rfl 15 (by decide) (List.mem_of_getElem? (i := 8) rfl) (v := .ref (ad 204)) hk_69 dX12_layWarm_127 ?_
                      refine lv_bipush (v := 14) hx hb dX12_layWarm_130 (by decide) ?_
                      refine lv_iload_n hx hb dX12_layWarm_132 rfl (lv_at hl 5 rfl) ?_
                      refine lv_imul hx hb dX12_layWarm_133 ?_
                      refine lv_topi (fun z_70 ez_70 => ?_)
                      have hz_70 : z_70.toInt = 14 * ev.toInt := n_mul (by decide : (14 : Int32).toInt = 14) (rfl : ev.toInt = ev.toInt) ez_70 (by omega) (by omega)
                      refine lv_iload hx hb dX12_layWarm_134 (lv_at hl 2 rfl) ?_
                      refine lv_iadd hx hb dX12_layWarm_136 ?_
                      refine lv_topi (fun z_71 ez_71 => ?_)
                      have hz_71 : z_71.toInt = z_70.toInt + v44_4.toInt := n_add (rfl : z_70.toInt = z_70.toInt) (rfl : v44_4.toInt = v44_4.toInt) ez_71 (by omega) (by omega)
                      obtain ⟨fc_72, hgc_72, hFc_72⟩ := hWc_66.arr (i := 204) (by decide) (sh_204 ad K)
                      refine q_iald X hP (by decide) hgc_72 (n_in (rfl : z_71.toInt = z_71.toInt) (by omega) (by omega)) dX12_layWarm_137 ?_
                      refine lv_topi (fun z_73 ez_73 => ?_)
                      refine lv_isub hx hb dX12_layWarm_138 ?_
                      refine lv_topi (fun z_74 ez_74 => ?_)
                      refine lv_istore_n (lv' := [(3, .int z_74), (6, .int v91_6), (5, .int v74_s0), (4, .int v44_4), (0, .ref (ad 197)), (1, .int ev)]) hx hb dX12_layWarm_139 rfl hl (by decide) rfl (fun ls hl => ?_)
                      refine lv_iconst (v := 0) hx hb dX12_layWarm_140 (by decide) ?_
                      refine lv_istore (lv' := [(6, .int 0), (3, .int z_74), (5, .int v74_s0), (4, .int v44_4), (0, .ref (ad 197)), (1, .int ev)]) hx hb dX12_layWarm_141 hl (by decide) rfl (fun ls hl => ?_)
                      have HL143 : ∀ (n143 : Nat) (v143_6 : Int32) (G143 : Nat → va_E) (H : Heap) (locs : List Loc) (ls : Array Slot), (15 - v143_6.toInt).toNat < n143 → (0 ≤ v143_6.toInt ∧ v143_6.toInt ≤ 15) → (∀ j : Nat, v44_4.toInt + 1 < j → j ≤ 14 → gA G143 210 j = 0) → (1 ≤ gJ G143 197 30 ∧ gJ G143 197 30 ≤ tenP (v44_4.toInt + 1)) → (∀ j : Nat, v44_4.toInt + 1 < j → (j : Int) < v143_6.toInt → gA G143 209 j = 0) → WF (shp ad K) ad cs G143 → (∀ j, j ≠ 197 ∧ j ≠ 204 ∧ j ≠ 209 ∧ j ≠ 210 ∧ j ≠ 211 → G143 j = g j) → va_P D vwCl (wL ad G143 218) H → va_S (wA ad 218) s.heap H locs → lv_has ls 8 [(6, .int v143_6), (3, .int z_74), (4, .int v44_4), (0, .ref (ad 197)), (1, .int ev)] → W p l e ({ frames := 2, cells := 0, slots := 0, locals := 45 } : Room) s m ([.ref (ad 197), .int ev, .int len] : List Value).toArray below meth c H locs 0 0 (MQ below (qV D ad 218 (fun g2 => WF (shp ad K) ad cs g2 ∧ (∀ j, j ≠ 197 ∧ j ≠ 204 ∧ j ≠ 209 ∧ j ≠ 210 ∧ j ≠ 211 → g2 j = g j) ∧ (1 ≤ gJ g2 197 30))) ([.ref (ad 197), .int ev, .int len] : List Value).toArray s 0 0 (wA ad 218)) (F0 m 143 ls []) := by
                        intro n143
                        induction n143 with
                        | zero =>
                          intro v143_6 G143 H locs ls hm143 hv143_0 he143_0 he143_1 he143_2 hW143 hfr143 hP hS hl
                          exact absurd hm143 (Nat.not_lt_zero _)
                        | succ n143 ih143 =>
                          intro v143_6 G143 H locs ls hm143 hv143_0 he143_0 he143_1 he143_2 hW143 hfr143 hP hS hl
                          refine lv_iload hx hb dX12_layWarm_143 (lv_at hl 0 rfl) ?_
                          refine lv_bipush (v := 14) hx hb dX12_layWarm_145 (by decide) ?_
                          refine lv_icmp_gt (tgt := 225) hx hb dX12_layWarm_147 (by decide) (fun hc_75 => ?_) (fun hc_75 => ?_)
                          · have hhc_75 := n_lt (by decide : (14 : Int32).toInt = 14) (rfl : v143_6.toInt = v143_6.toInt) hc_75
                            obtain ⟨x_76, ex_76⟩ : ∃ y : Int32, y = v44_4 + 1 := ⟨_, rfl⟩
                            have hx_76 : x_76.toInt = v44_4.toInt + 1 := n_add rfl (by decide : (1 : Int32).toInt = 1) ex_76 (by omega) (by omega)
                            refine lv_iinc (v := x_76) (lv' := [(4, .int x_76), (6, .int v143_6), (3, .int z_74), (0, .ref (ad 197)), (1, .int ev)]) hx hb dX12_layWarm_225 hl (k := 2) rfl (by rw [ex_76]; rfl) (by decide) rfl (fun ls hl => ?_)
                            refine lv_goto (tgt := 44) hx hb dX12_layWarm_228 (by decide) ?_
                            obtain ⟨fsc_77, hgc_77, hOc_77⟩ := hW143.obj (i := 197) (by decide) (sh_197 ad K)
                            obtain ⟨x_79, hk_78, -⟩ := hOc_77.lng 30 rfl
                            have hgix_79 := gJ_of hgc_77 hk_78
                            have ht1 : x_76.toInt = v44_4.toInt + 1 := hx_76
                            exact ih44 x_76 z_74 G143 _ _ ls (by omega) (by omega) (fun j h1 h2 => he143_2 j (by omega) (by omega)) (by rw [ht1]; exact he143_1) hW143 hfr143 hP hS (lv_sub hl [0, 2, 3, 4] rfl)
                          · have hhc_75 := n_nlt (by decide : (14 : Int32).toInt = 14) (rfl : v143_6.toInt = v143_6.toInt) hc_75
                            refine lv_iload_n hx hb dX12_layWarm_150 rfl (lv_at hl 1 rfl) ?_
                            refine lv_iload hx hb dX12_layWarm_151 (lv_at hl 0 rfl) ?_
                            refine lv_aload_n hx hb dX12_layWarm_153 rfl (lv_at hl 3 rfl) ?_
                            refine lv_iload_n hx hb dX12_layWarm_154 rfl (lv_at hl 4 rfl) ?_
                            obtain ⟨fsc_81, hgc_81, hOc_81⟩ := hW143.obj (i := 197) (by decide) (sh_197 ad K)
                            obtain ⟨x_83, hk_82, -⟩ := hOc_81.lng 30 rfl
                            have hgix_83 := gJ_of hgc_81 hk_82
                            refine s_calli (q := (RX12, TX12, 40)) (As := [.int ev]) (rest := [.int v143_6, .int z_74]) X Z (s_X12_sunOf l D cs ad kS K hKO hj G143 hW143 ev (by omega)) (cwV 1 X.2.2.2.2.1 gg_X12_layWarm_X12_sunOf rfl rfl rfl (by decide +kernel) ⟨Nat.le_of_ble_eq_true rfl, Nat.le_of_ble_eq_true rfl⟩) (by decide) hgc_81 rfl hP hA hS.2.1 hS rfl hl.1 rfl (Nat.le_of_ble_eq_true rfl) dX12_layWarm_155 ⟨Nat.le_of_ble_eq_true rfl, Nat.le_of_ble_eq_true rfl⟩ (fun r_87 g_86 H locs hw_85 hP hS => ?_)
                            rw [hw_85] at hP
                            refine lv_imul hx hb dX12_layWarm_158 ?_
                            refine lv_topi (fun z_88 ez_88 => ?_)
                            refine lv_isub hx hb dX12_layWarm_159 ?_
                            refine lv_topi (fun z_89 ez_89 => ?_)
                            refine lv_if_gt (tgt := 167) hx hb dX12_layWarm_160 (by decide) (fun hc_90 => ?_) (fun hc_90 => ?_)
                            · have hhc_90 := n_lt (by decide : (0 : Int32).toInt = 0) (rfl : z_89.toInt = z_89.toInt) hc_90
                              refine lv_iconst (v := 0) hx hb dX12_layWarm_167 (by decide) ?_
                              refine lv_istore (lv' := [(7, .int 0), (6, .int v143_6), (3, .int z_74), (4, .int v44_4), (0, .ref (ad 197)), (1, .int ev)]) hx hb dX12_layWarm_168 hl (by decide) rfl (fun ls hl => ?_)
                              refine lv_aload_n hx hb dX12_layWarm_170 rfl (lv_at hl 4 rfl) ?_
                              have hk_91 := hOc_81.ref 29 rfl
                              refine q_get X iX12_layWarm_12 hP (by decide) hgc_81 rfl 29 (by decide) (List.mem_of_getElem? (i := 34) rfl) (v := .ref (ad 211)) hk_91 dX12_layWarm_171 ?_
                              refine lv_iload hx hb dX12_layWarm_174 (lv_at hl 3 rfl) ?_
                              refine lv_dup2_11 hx hb dX12_layWarm_176 rfl rfl ?_
                              obtain ⟨fc_92, hgc_92, hFc_92⟩ := hW143.arj (i := 211) (by decide) (sh_211 ad K)
                              refine q_lald X hP (by decide) hgc_92 (n_in (rfl : v44_4.toInt = v44_4.toInt) (by omega) (by omega)) dX12_layWarm_177 ?_
                              refine lv_topl (fun z_93 ez_93 => ?_)
                              refine lv_iload hx hb dX12_layWarm_178 (lv_at hl 0 rfl) ?_
                              refine lv_if_eq (tgt := 193) hx hb dX12_layWarm_180 (by decide) (fun _ => ?_) (fun h => absurd h (by decide))
                              refine lv_lconst (v := 0) hx hb dX12_layWarm_193 (by decide) ?_
                              refine lv_ladd hx hb dX12_layWarm_194 ?_
                              refine lv_topl (fun z_94 ez_94 => ?_)
                              refine s_last X hP hj hA hS (by decide) hgc_92 (n_in (rfl : v44_4.toInt = v44_4.toInt) (by omega) (by omega)) dX12_layWarm_195 hW143 (sh_211 ad K) (hFc_92.put trivial) (fun fc_95 gc_95 H locs ec_95 hFc_95 hgc_95 hfc_95 hWc_95 hP hS => ?_)
                              have hg_97 := (hfc_95 197 (by decide)).trans hgc_81
                              have hfr_96 : ∀ j, j ≠ 197 ∧ j ≠ 204 ∧ j ≠ 209 ∧ j ≠ 210 ∧ j ≠ 211 → gc_95 j = g j := fun j hj => (hfc_95 j (by omega)).trans (hfr143 j hj)
                              refine lv_aload_n hx hb dX12_layWarm_196 rfl (lv_at hl 4 rfl) ?_
                              have hk_98 := hOc_81.ref 27 rfl
                              refine q_get X iX12_layWarm_12 hP (by decide) hg_97 rfl 27 (by decide) (List.mem_of_getElem? (i := 23) rfl) (v := .ref (ad 209)) hk_98 dX12_layWarm_197 ?_
                              refine lv_iload hx hb dX12_layWarm_200 (lv_at hl 1 rfl) ?_
                              refine lv_iload hx hb dX12_layWarm_202 (lv_at hl 0 rfl) ?_
                              refine lv_if_eq (tgt := 211) hx hb dX12_layWarm_204 (by decide) (fun _ => ?_) (fun h => absurd h (by decide))
                              refine lv_aload_n hx hb dX12_layWarm_211 rfl (lv_at hl 4 rfl) ?_
                              have hk_99 := hOc_81.ref 28 rfl
                              refine q_get X iX12_layWarm_12 hP (by decide) hg_97 rfl 28 (by decide) (List.mem_of_getElem? (i := 29) rfl) (v := .ref (ad 210)) hk_99 dX12_layWarm_212 ?_
                              refine lv_iload hx hb dX12_layWarm_215 (lv_at hl 1 rfl) ?_
                              obtain ⟨fc_100, hgc_100, hFc_100⟩ := hWc_95.arj (i := 210) (by decide) (sh_210 ad K)
                              refine q_lald X hP (by decide) hgc_100 (n_in (rfl : v143_6.toInt = v143_6.toInt) (by omega) (by omega)) dX12_layWarm_217 ?_
                              refine lv_topl (fun z_101 ez_101 => ?_)
                              have hgaz_101 : gA gc_95 210 (v143_6.toNatClampNeg) = z_101.toInt := by rw [ez_101]; exact gA_ofL hgc_100 _
                              obtain ⟨fc_102, hgc_102, hFc_102⟩ := hWc_95.arj (i := 209) (by decide) (sh_209 ad K)
                              refine s_last X hP hj hA hS (by decide) hgc_102 (n_in (rfl : v143_6.toInt = v143_6.toInt) (by omega) (by omega)) dX12_layWarm_218 hWc_95 (sh_209 ad K) (hFc_102.put trivial) (fun fc_103 gc_103 H locs ec_103 hFc_103 hgc_103 hfc_103 hWc_103 hP hS => ?_)
                              have hg_105 := (hfc_103 197 (by decide)).trans hg_97
                              have hg_106 := (hfc_103 211 (by decide)).trans hgc_95
                              have hg_107 := (hfc_103 210 (by decide)).trans hgc_100
                              have hfr_104 : ∀ j, j ≠ 197 ∧ j ≠ 204 ∧ j ≠ 209 ∧ j ≠ 210 ∧ j ≠ 211 → gc_103 j = g j := fun j hj => (hfc_103 j (by omega)).trans (hfr_96 j hj)
                              have hcl_108 := n_cl (rfl : v143_6.toInt = v143_6.toInt) (by omega)
                              obtain ⟨x_109, ex_109⟩ : ∃ y : Int32, y = v143_6 + 1 := ⟨_, rfl⟩
                              have hx_109 : x_109.toInt = v143_6.toInt + 1 := n_add rfl (by decide : (1 : Int32).toInt = 1) ex_109 (by omega) (by omega)
                              refine lv_iinc (v := x_109) (lv' := [(6, .int x_109), (7, .int 0), (3, .int z_74), (4, .int v44_4), (0, .ref (ad 197)), (1, .int ev)]) hx hb dX12_layWarm_219 hl (k := 1) rfl (by rw [ex_109]; rfl) (by decide) rfl (fun ls hl => ?_)
                              refine lv_goto (tgt := 143) hx hb dX12_layWarm_222 (by decide) ?_
                              have hgi_110 := gJ_of hg_105 hk_82
                              exact ih143 x_109 gc_103 _ _ ls (by omega) (by omega) (fun j h1 h2 => by rw [gA_tr (hfc_103 210 (by omega)) j, gA_tr (hfc_95 210 (by omega)) j]; exact he143_0 j h1 h2) (by unfold gJ; rw [hfc_103 197 (by omega), hfc_95 197 (by omega)]; exact he143_1) (fun j h1 h2 => by by_cases q : (j : Int) = v143_6.toInt; exact (gA_at hgc_102 hgc_103 ec_103 (by omega)).trans (by have h5 := he143_0 v143_6.toNatClampNeg (by omega) (by omega); have h6 := gA_tr (hfc_95 210 (by omega)) v143_6.toNatClampNeg; have h7 := hgaz_101; omega); exact (gA_ne hgc_102 hgc_103 ec_103 (by omega)).trans ((gA_tr (hfc_95 209 (by omega)) j).trans (he143_2 j h1 (by omega)))) hWc_103 hfr_104 hP hS (lv_sub hl [0, 2, 3, 4, 5] rfl)
                            · have hhc_90 := n_nlt (by decide : (0 : Int32).toInt = 0) (rfl : z_89.toInt = z_89.toInt) hc_90
                              refine lv_iconst (v := 1) hx hb dX12_layWarm_163 (by decide) ?_
                              refine lv_goto (tgt := 168) hx hb dX12_layWarm_164 (by decide) ?_
                              refine lv_istore (lv' := [(7, .int 1), (6, .int v143_6), (3, .int z_74), (4, .int v44_4), (0, .ref (ad 197)), (1, .int ev)]) hx hb dX12_layWarm_168 hl (by decide) rfl (fun ls hl => ?_)
                              refine lv_aload_n hx hb dX12_layWarm_170 rfl (lv_at hl 4 rfl) ?_
                              have hk_111 := hOc_81.ref 29 rfl
                              refine q_get X iX12_layWarm_12 hP (by decide) hgc_81 rfl 29 (by decide) (List.mem_of_getElem? (i := 34) rfl) (v := .ref (ad 211)) hk_111 dX12_layWarm_171 ?_
                              refine lv_iload hx hb dX12_layWarm_174 (lv_at hl 3 rfl) ?_
                              refine lv_dup2_11 hx hb dX12_layWarm_176 rfl rfl ?_
                              obtain ⟨fc_112, hgc_112, hFc_112⟩ := hW143.arj (i := 211) (by decide) (sh_211 ad K)
                              refine q_lald X hP (by decide) hgc_112 (n_in (rfl : v44_4.toInt = v44_4.toInt) (by omega) (by omega)) dX12_layWarm_177 ?_
                              refine lv_topl (fun z_113 ez_113 => ?_)
                              refine lv_iload hx hb dX12_layWarm_178 (lv_at hl 0 rfl) ?_
                              refine lv_if_eq (tgt := 193) hx hb dX12_layWarm_180 (by decide) (fun h => absurd h (by decide)) (fun _ => ?_)
                              refine lv_aload_n hx hb dX12_layWarm_183 rfl (lv_at hl 4 rfl) ?_
                              have hk_114 := hOc_81.ref 28 rfl
                              refine q_get X iX12_layWarm_12 hP (by decide) hgc_81 rfl 28 (by decide) (List.mem_of_getElem? (i := 29) rfl) (v := .ref (ad 210)) hk_114 dX12_layWarm_184 ?_
                              refine lv_iload hx hb dX12_layWarm_187 (lv_at hl 1 rfl) ?_
                              obtain ⟨fc_115, hgc_115, hFc_115⟩ := hW143.arj (i := 210) (by decide) (sh_210 ad K)
                              refine q_lald X hP (by decide) hgc_115 (n_in (rfl : v143_6.toInt = v143_6.toInt) (by omega) (by omega)) dX12_layWarm_189 ?_
                              refine lv_topl (fun z_116 ez_116 => ?_)
                              refine lv_goto (tgt := 194) hx hb dX12_layWarm_190 (by decide) ?_
                              refine lv_ladd hx hb dX12_layWarm_194 ?_
                              refine lv_topl (fun z_117 ez_117 => ?_)
                              refine s_last X hP hj hA hS (by decide) hgc_112 (n_in (rfl : v44_4.toInt = v44_4.toInt) (by omega) (by omega)) dX12_layWarm_195 hW143 (sh_211 ad K) (hFc_112.put trivial) (fun fc_118 gc_118 H locs ec_118 hFc_118 hgc_118 hfc_118 hWc_118 hP hS => ?_)
                              have hg_120 := (hfc_118 197 (by decide)).trans hgc_81
                              have hg_121 := (hfc_118 210 (by decide)).trans hgc_115
                              have hfr_119 : ∀ j, j ≠ 197 ∧ j ≠ 204 ∧ j ≠ 209 ∧ j ≠ 210 ∧ j ≠ 211 → gc_118 j = g j := fun j hj => (hfc_118 j (by omega)).trans (hfr143 j hj)
                              refine lv_aload_n hx hb dX12_layWarm_196 rfl (lv_at hl 4 rfl) ?_
                              have hk_122 := hOc_81.ref 27 rfl
                              refine q_get X iX12_layWarm_12 hP (by decide) hg_120 rfl 27 (by decide) (List.mem_of_getElem? (i := 23) rfl) (v := .ref (ad 209)) hk_122 dX12_layWarm_197 ?_
                              refine lv_iload hx hb dX12_layWarm_200 (lv_at hl 1 rfl) ?_
                              refine lv_iload hx hb dX12_layWarm_202 (lv_at hl 0 rfl) ?_
                              refine lv_if_eq (tgt := 211) hx hb dX12_layWarm_204 (by decide) (fun h => absurd h (by decide)) (fun _ => ?_)
                              refine lv_lconst (v := 0) hx hb dX12_layWarm_207 (by decide) ?_
                              refine lv_goto (tgt := 218) hx hb dX12_layWarm_208 (by decide) ?_
                              obtain ⟨fc_123, hgc_123, hFc_123⟩ := hWc_118.arj (i := 209) (by decide) (sh_209 ad K)
                              refine s_last X hP hj hA hS (by decide) hgc_123 (n_in (rfl : v143_6.toInt = v143_6.toInt) (by omega) (by omega)) dX12_layWarm_218 hWc_118 (sh_209 ad K) (hFc_123.put trivial) (fun fc_124 gc_124 H locs ec_124 hFc_124 hgc_124 hfc_124 hWc_124 hP hS => ?_)
                              have hg_126 := (hfc_124 197 (by decide)).trans hg_120
                              have hg_127 := (hfc_124 210 (by decide)).trans hg_121
                              have hg_128 := (hfc_124 211 (by decide)).trans hgc_118
                              have hfr_125 : ∀ j, j ≠ 197 ∧ j ≠ 204 ∧ j ≠ 209 ∧ j ≠ 210 ∧ j ≠ 211 → gc_124 j = g j := fun j hj => (hfc_124 j (by omega)).trans (hfr_119 j hj)
                              have hcl_129 := n_cl (rfl : v143_6.toInt = v143_6.toInt) (by omega)
                              have hx0q_130 : (0 : Int64).toInt = 0 := by decide
                              obtain ⟨x_131, ex_131⟩ : ∃ y : Int32, y = v143_6 + 1 := ⟨_, rfl⟩
                              have hx_131 : x_131.toInt = v143_6.toInt + 1 := n_add rfl (by decide : (1 : Int32).toInt = 1) ex_131 (by omega) (by omega)
                              refine lv_iinc (v := x_131) (lv' := [(6, .int x_131), (7, .int 1), (3, .int z_74), (4, .int v44_4), (0, .ref (ad 197)), (1, .int ev)]) hx hb dX12_layWarm_219 hl (k := 1) rfl (by rw [ex_131]; rfl) (by decide) rfl (fun ls hl => ?_)
                              refine lv_goto (tgt := 143) hx hb dX12_layWarm_222 (by decide) ?_
                              have hgi_132 := gJ_of hg_126 hk_82
                              exact ih143 x_131 gc_124 _ _ ls (by omega) (by omega) (fun j h1 h2 => by rw [gA_tr (hfc_124 210 (by omega)) j, gA_tr (hfc_118 210 (by omega)) j]; exact he143_0 j h1 h2) (by unfold gJ; rw [hfc_124 197 (by omega), hfc_118 197 (by omega)]; exact he143_1) (fun j h1 h2 => by by_cases q : (j : Int) = v143_6.toInt; exact (gA_at hgc_123 hgc_124 ec_124 (by omega)).trans (by omega); exact (gA_ne hgc_123 hgc_124 ec_124 (by omega)).trans ((gA_tr (hfc_118 209 (by omega)) j).trans (he143_2 j h1 (by omega)))) hWc_124 hfr_125 hP hS (lv_sub hl [0, 2, 3, 4, 5] rfl)
                      obtain ⟨x_134, hk_133, -⟩ := hOc_63.lng 30 rfl
                      have hgix_134 := gJ_of hg_68 hk_133
                      have hiv143_6 : (0 : Int32).toInt = 0 := by decide
                      exact HL143 _ 0 gc_66 _ _ ls (Nat.lt_succ_self _) (by omega) (fun j h1 h2 => by rw [gA_tr (hfc_66 210 (by omega)) j]; exact he91_0 j h1 h2) (by unfold gJ; rw [hfc_66 197 (by omega)]; exact he91_1) (fun j h1 h2 => by exfalso; omega) hWc_66 hfr_67 hP hS (lv_sub hl [0, 1, 3, 4, 5] rfl)
                    · have hhc_62 := n_nle (rfl : v44_4.toInt = v44_4.toInt) (rfl : v91_6.toInt = v91_6.toInt) hc_62
                      refine lv_aload_n hx hb dX12_layWarm_98 rfl (lv_at hl 4 rfl) ?_
                      obtain ⟨fsc_136, hgc_136, hOc_136⟩ := hW91.obj (i := 197) (by decide) (sh_197 ad K)
                      have hk_137 := hOc_136.ref 29 rfl
                      refine q_get X iX12_layWarm_12 hP (by decide) hgc_136 rfl 29 (by decide) (List.mem_of_getElem? (i := 34) rfl) (v := .ref (ad 211)) hk_137 dX12_layWarm_99 ?_
                      refine lv_iload hx hb dX12_layWarm_102 (lv_at hl 0 rfl) ?_
                      refine lv_dup2_11 hx hb dX12_layWarm_104 rfl rfl ?_
                      obtain ⟨fc_138, hgc_138, hFc_138⟩ := hW91.arj (i := 211) (by decide) (sh_211 ad K)
                      refine q_lald X hP (by decide) hgc_138 (n_in (rfl : v91_6.toInt = v91_6.toInt) (by omega) (by omega)) dX12_layWarm_105 ?_
                      refine lv_topl (fun z_139 ez_139 => ?_)
                      refine lv_iload hx hb dX12_layWarm_106 (lv_at hl 1 rfl) ?_
                      refine lv_i2l hx hb dX12_layWarm_108 rfl ?_
                      refine lv_topl (fun z_140 ez_140 => ?_)
                      have hz_140 : z_140.toInt = v74_s0.toInt := ez_140 ▸ j_of rfl
                      refine lv_lmul hx hb dX12_layWarm_109 ?_
                      refine lv_topl (fun z_141 ez_141 => ?_)
                      refine s_last X hP hj hA hS (by decide) hgc_138 (n_in (rfl : v91_6.toInt = v91_6.toInt) (by omega) (by omega)) dX12_layWarm_110 hW91 (sh_211 ad K) (hFc_138.put trivial) (fun fc_142 gc_142 H locs ec_142 hFc_142 hgc_142 hfc_142 hWc_142 hP hS => ?_)
                      have hg_144 := (hfc_142 197 (by decide)).trans hgc_136
                      have hfr_143 : ∀ j, j ≠ 197 ∧ j ≠ 204 ∧ j ≠ 209 ∧ j ≠ 210 ∧ j ≠ 211 → gc_142 j = g j := fun j hj => (hfc_142 j (by omega)).trans (hfr91 j hj)
                      obtain ⟨x_145, ex_145⟩ : ∃ y : Int32, y = v91_6 + 1 := ⟨_, rfl⟩
                      have hx_145 : x_145.toInt = v91_6.toInt + 1 := n_add rfl (by decide : (1 : Int32).toInt = 1) ex_145 (by omega) (by omega)
                      refine lv_iinc (v := x_145) (lv' := [(6, .int x_145), (5, .int v74_s0), (4, .int v44_4), (3, .int v44_3), (0, .ref (ad 197)), (1, .int ev)]) hx hb dX12_layWarm_111 hl (k := 0) rfl (by rw [ex_145]; rfl) (by decide) rfl (fun ls hl => ?_)
                      refine lv_goto (tgt := 91) hx hb dX12_layWarm_114 (by decide) ?_
                      obtain ⟨x_147, hk_146, -⟩ := hOc_136.lng 30 rfl
                      have hgix_147 := gJ_of hg_144 hk_146
                      exact ih91 x_145 gc_142 _ _ ls (by omega) (by omega) (fun j h1 h2 => by rw [gA_tr (hfc_142 210 (by omega)) j]; exact he91_0 j h1 h2) (by unfold gJ; rw [hfc_142 197 (by omega)]; exact he91_1) hWc_142 hfr_143 hP hS (lv_sub hl [0, 1, 2, 3, 4, 5] rfl)
                have hgi_149 := gJ_of hgc_58 hkc_58
                have hiv91_6 : (0 : Int32).toInt = 0 := by decide
                exact HL91 _ 0 gc_58 _ _ ls (Nat.lt_succ_self _) (by omega) (fun j h1 h2 => by rw [gA_tr (hfc_58 210 (by omega)) j]; exact he74_0 j h1 h2) (by omega) hWc_58 hfr_60 hP hS (lv_sub hl [0, 1, 2, 3, 4, 5] rfl)
              refine lv_if_eq (tgt := 73) hx hb dX12_layWarm_65 (by decide) (fun hc_150 => ?_) (fun hc_150 => ?_)
              · have hhc_150 := n_eq (rfl : r_55.toInt = r_55.toInt) (by decide : (0 : Int32).toInt = 0) hc_150
                refine lv_iconst (v := 1) hx hb dX12_layWarm_73 (by decide) ?_
                have hgi_151 := gJ_of hg_51 hk_44
                have hiv74_s0 : (1 : Int32).toInt = 1 := by decide
                exact HJ74 1 g_48 _ _ ls (by omega) hw_47 (by omega) (by omega) hw_47W hfr_50 hg_51 hP hS (lv_sub hl [0, 1, 2, 3] rfl)
              · have hhc_150 := n_ne (rfl : r_55.toInt = r_55.toInt) (by decide : (0 : Int32).toInt = 0) hc_150
                refine lv_bipush (v := 10) hx hb dX12_layWarm_68 (by decide) ?_
                refine lv_goto (tgt := 74) hx hb dX12_layWarm_70 (by decide) ?_
                have hgi_152 := gJ_of hg_51 hk_44
                have hiv74_s0 : (10 : Int32).toInt = 10 := by decide
                exact HJ74 10 g_48 _ _ ls (by omega) hw_47 (by omega) (by omega) hw_47W hfr_50 hg_51 hP hS (lv_sub hl [0, 1, 2, 3] rfl)
        have hgi_153 := gJ_of hgc_11 hkc_11
        rw [(by decide : (1 : Int64).toInt = 1)] at hgi_153
        have hiv44_4 : (0 : Int32).toInt = 0 := by decide
        have ht0 := tenP_zero (d := (0 : Int32).toInt) (by decide)
        exact HL44 _ 0 len gc_11 _ _ ls (Nat.lt_succ_self _) (by omega) (fun j h1 h2 => by have h3 := gA_tr (hfc_11 209 (by omega)) j; rw [h3]; exact he7_0 j (by omega) (by omega)) (by omega) hWc_11 hfr_12 hP hS (lv_sub hl [0, 1, 2, 3] rfl)
      · have hhc_9 := n_nlt (by decide : (14 : Int32).toInt = 14) (rfl : v7_3.toInt = v7_3.toInt) hc_9
        refine lv_aload_n hx hb dX12_layWarm_13 rfl (lv_at hl 1 rfl) ?_
        obtain ⟨fsc_154, hgc_154, hOc_154⟩ := hW7.obj (i := 197) (by decide) (sh_197 ad K)
        have hk_155 := hOc_154.ref 27 rfl
        refine q_get X iX12_layWarm_12 hP (by decide) hgc_154 rfl 27 (by decide) (List.mem_of_getElem? (i := 23) rfl) (v := .ref (ad 209)) hk_155 dX12_layWarm_14 ?_
        refine lv_iload_n hx hb dX12_layWarm_17 rfl (lv_at hl 0 rfl) ?_
        refine lv_iload_n hx hb dX12_layWarm_18 rfl (lv_at hl 0 rfl) ?_
        refine lv_if_ne (tgt := 26) hx hb dX12_layWarm_19 (by decide) (fun hc_156 => ?_) (fun hc_156 => ?_)
        · have hhc_156 := n_ne (rfl : v7_3.toInt = v7_3.toInt) (by decide : (0 : Int32).toInt = 0) hc_156
          refine lv_lconst (v := 0) hx hb dX12_layWarm_26 (by decide) ?_
          obtain ⟨fc_157, hgc_157, hFc_157⟩ := hW7.arj (i := 209) (by decide) (sh_209 ad K)
          refine s_last X hP hj hA hS (by decide) hgc_157 (n_in (rfl : v7_3.toInt = v7_3.toInt) (by omega) (by omega)) dX12_layWarm_27 hW7 (sh_209 ad K) (hFc_157.put trivial) (fun fc_158 gc_158 H locs ec_158 hFc_158 hgc_158 hfc_158 hWc_158 hP hS => ?_)
          have hg_160 := (hfc_158 197 (by decide)).trans hgc_154
          have hfr_159 : ∀ j, j ≠ 197 ∧ j ≠ 204 ∧ j ≠ 209 ∧ j ≠ 210 ∧ j ≠ 211 → gc_158 j = g j := fun j hj => (hfc_158 j (by omega)).trans (hfr7 j hj)
          have hcl_161 := n_cl (rfl : v7_3.toInt = v7_3.toInt) (by omega)
          have hx0q_162 : (0 : Int64).toInt = 0 := by decide
          obtain ⟨x_163, ex_163⟩ : ∃ y : Int32, y = v7_3 + 1 := ⟨_, rfl⟩
          have hx_163 : x_163.toInt = v7_3.toInt + 1 := n_add rfl (by decide : (1 : Int32).toInt = 1) ex_163 (by omega) (by omega)
          refine lv_iinc (v := x_163) (lv' := [(3, .int x_163), (0, .ref (ad 197)), (1, .int ev), (2, .int len)]) hx hb dX12_layWarm_28 hl (k := 0) rfl (by rw [ex_163]; rfl) (by decide) rfl (fun ls hl => ?_)
          refine lv_goto (tgt := 7) hx hb dX12_layWarm_31 (by decide) ?_
          obtain ⟨x_165, hk_164, -⟩ := hOc_154.lng 30 rfl
          have hgix_165 := gJ_of hg_160 hk_164
          exact ih7 x_163 gc_158 _ _ ls (by omega) (by omega) (fun j h h2 => by by_cases q : (j : Int) = v7_3.toInt; exact (gA_at hgc_157 hgc_158 ec_158 (by omega)).trans (by omega); exact (gA_ne hgc_157 hgc_158 ec_158 (by omega)).trans (he7_0 j h (by omega))) hWc_158 hfr_159 hP hS (lv_sub hl [0, 1, 2, 3] rfl)
        · have hhc_156 := n_eq (rfl : v7_3.toInt = v7_3.toInt) (by decide : (0 : Int32).toInt = 0) hc_156
          refine lv_lconst (v := 1) hx hb dX12_layWarm_22 (by decide) ?_
          refine lv_goto (tgt := 27) hx hb dX12_layWarm_23 (by decide) ?_
          obtain ⟨fc_167, hgc_167, hFc_167⟩ := hW7.arj (i := 209) (by decide) (sh_209 ad K)
          refine s_last X hP hj hA hS (by decide) hgc_167 (n_in (rfl : v7_3.toInt = v7_3.toInt) (by omega) (by omega)) dX12_layWarm_27 hW7 (sh_209 ad K) (hFc_167.put trivial) (fun fc_168 gc_168 H locs ec_168 hFc_168 hgc_168 hfc_168 hWc_168 hP hS => ?_)
          have hg_170 := (hfc_168 197 (by decide)).trans hgc_154
          have hfr_169 : ∀ j, j ≠ 197 ∧ j ≠ 204 ∧ j ≠ 209 ∧ j ≠ 210 ∧ j ≠ 211 → gc_168 j = g j := fun j hj => (hfc_168 j (by omega)).trans (hfr7 j hj)
          have hcl_171 := n_cl (rfl : v7_3.toInt = v7_3.toInt) (by omega)
          have hx0q_172 : (1 : Int64).toInt = 1 := by decide
          obtain ⟨x_173, ex_173⟩ : ∃ y : Int32, y = v7_3 + 1 := ⟨_, rfl⟩
          have hx_173 : x_173.toInt = v7_3.toInt + 1 := n_add rfl (by decide : (1 : Int32).toInt = 1) ex_173 (by omega) (by omega)
          refine lv_iinc (v := x_173) (lv' := [(3, .int x_173), (0, .ref (ad 197)), (1, .int ev), (2, .int len)]) hx hb dX12_layWarm_28 hl (k := 0) rfl (by rw [ex_173]; rfl) (by decide) rfl (fun ls hl => ?_)
          refine lv_goto (tgt := 7) hx hb dX12_layWarm_31 (by decide) ?_
          obtain ⟨x_175, hk_174, -⟩ := hOc_154.lng 30 rfl
          have hgix_175 := gJ_of hg_170 hk_174
          exact ih7 x_173 gc_168 _ _ ls (by omega) (by omega) (fun j h h2 => by by_cases q : (j : Int) = v7_3.toInt; exact (gA_at hgc_167 hgc_168 ec_168 (by omega)).trans (by omega); exact (gA_ne hgc_167 hgc_168 ec_168 (by omega)).trans (he7_0 j h (by omega))) hWc_168 hfr_169 hP hS (lv_sub hl [0, 1, 2, 3] rfl)
  obtain ⟨fsc_177, hgc_177, hOc_177⟩ := hw_5W.obj (i := 197) (by decide) (sh_197 ad K)
  obtain ⟨x_179, hk_178, -⟩ := hOc_177.lng 30 rfl
  have hgix_179 := gJ_of hgc_177 hk_178
  have hiv7_3 : (0 : Int32).toInt = 0 := by decide
  exact HL7 _ 0 g_6 _ _ ls (Nat.lt_succ_self _) (by omega) (fun j h h2 => by exfalso; omega) hw_5W hfr_8 hP hS (lv_sub hl [0, 1, 2, 3] rfl)
