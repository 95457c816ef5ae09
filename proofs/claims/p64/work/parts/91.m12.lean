set_option maxHeartbeats 4000000 in
set_option maxRecDepth 100000 in
theorem s_latAtF (l : Launch) (D : va_G) (cs : Nat → ClassId) (ad : Nat → Nat) (kS : kSt) (K : sK) (hKO : KO K) (hj : wJ ad 218) (g : Nat → va_E) (hW : WF (shp ad K) ad cs g) (i : Nat) (k : Int32) (hi : i < 15) (h1 : 0 ≤ k.toInt) (h2 : k.toInt < (lenS.getD i 0 : Int)) : sI l yJ1_charAt_3b067 vJ1_charAt_3b067 { frames := 2, cells := 0, slots := 0, locals := 43 } D cs ad kS [.ref (kS.2.1 i), .int k] g (fun r g2 => g2 = g ∧ narrow .char (.int r) = .int r ∧ r.toInt = chS kS i k.toNatClampNeg) := by
  refine Met.startS (cc := cJ1_charAt_3b067) (maxL := 2) (ret := (some .char)) RJ1 rfl (by decide) rfl (Nat.le_of_ble_eq_true rfl) ?_
  intro p e s m below meth c ls X Z hP hl
  have hx := X.1
  have hb := X.2.1
  have hS : va_S (wA ad 218) s.heap s.heap [] := va_S.rf
  have hA : ∀ i, i < 218 → wA ad 218 (ad i) := fun i h => ⟨i, h, rfl⟩
  have hl : lv_has ls 2 [(0, .ref (kS.2.1 i)), (1, .int k)] := hl
  have hle := lenS_le i
  have hlen : (Int32.ofNat (lenS.getD i 0)).toInt = (lenS.getD i 0 : Int) := nI_toInt (by omega)
  refine lv_iload_n hx hb dJ1_charAt_3b067_0 rfl (lv_at hl 1 rfl) ?_
  refine lv_aload_n hx hb dJ1_charAt_3b067_1 rfl (lv_at hl 0 rfl) ?_
  refine va_tlen hx hb (Z.1 i hi).2.2.2.1 hS rfl dJ1_charAt_3b067_2 ?_
  refine s_callSv (As := [.int k, .int (Int32.ofNat (lenS.getD i 0))]) (rest := []) X Z (s_chk l D cs ad kS K hKO hj g hW k (Int32.ofNat (lenS.getD i 0)) h1 (by omega)) (va_cwS 2 X.2.2.2.2.1 gg_lat_chk rfl rfl rfl (by decide +kernel) ⟨Nat.le_of_ble_eq_true rfl, Nat.le_of_ble_eq_true rfl⟩) hP hA hS.2.1 hS rfl hl.1 rfl (Nat.le_of_ble_eq_true rfl) dJ1_charAt_3b067_3 ⟨Nat.le_of_ble_eq_true rfl, Nat.le_of_ble_eq_true rfl⟩ (fun g2 H locs hw hP hS => ?_)
  rw [hw] at hP
  refine lv_aload_n hx hb dJ1_charAt_3b067_6 rfl (lv_at hl 0 rfl) ?_
  refine lv_iload_n hx hb dJ1_charAt_3b067_7 rfl (lv_at hl 1 rfl) ?_
  have hc := n_cl (rfl : k.toInt = k.toInt) h1
  obtain ⟨x, hxx⟩ := (Z.1 i hi).2.2.2.2 k.toNatClampNeg (by omega)
  refine va_tb hx hb (Z.1 i hi).2.2.2.1 hS (n_in (rfl : k.toInt = k.toInt) h1 h2) hxx dJ1_charAt_3b067_8 ?_
  refine lv_sipush (v := 255) hx hb dJ1_charAt_3b067_9 (by decide) ?_
  refine lv_iand hx hb dJ1_charAt_3b067_12 ?_
  refine lv_i2c hx hb dJ1_charAt_3b067_13 (sc_c2 x) ?_
  exact q_nret X hP hS (sc_nar x) ⟨rfl, sc_nar x, (chS_of hxx).symm⟩ dJ1_charAt_3b067_14
set_option maxHeartbeats 4000000 in
set_option maxRecDepth 100000 in
theorem s_charAtF (l : Launch) (D : va_G) (cs : Nat → ClassId) (ad : Nat → Nat) (kS : kSt) (K : sK) (hKO : KO K) (hj : wJ ad 218) (g : Nat → va_E) (hW : WF (shp ad K) ad cs g) (i : Nat) (k : Int32) (hi : i < 15) (h1 : 0 ≤ k.toInt) (h2 : k.toInt < (lenS.getD i 0 : Int)) : sI l yJ0_charAt_5068e vJ0_charAt_5068e { frames := 3, cells := 0, slots := 0, locals := 64 } D cs ad kS [.ref (kS.1 i), .int k] g (fun r g2 => g2 = g ∧ r.toInt = chS kS i k.toNatClampNeg) := by
  refine Met.startS (cc := cJ0_charAt_5068e) (maxL := 2) (ret := (some .char)) RJ0 rfl (by decide) rfl (Nat.le_of_ble_eq_true rfl) ?_
  intro p e s m below meth c ls X Z hP hl
  have hx := X.1
  have hb := X.2.1
  have hS : va_S (wA ad 218) s.heap s.heap [] := va_S.rf
  have hA : ∀ i, i < 218 → wA ad 218 (ad i) := fun i h => ⟨i, h, rfl⟩
  have hl : lv_has ls 2 [(0, .ref (kS.1 i)), (1, .int k)] := hl
  refine lv_aload_n hx hb dJ0_charAt_5068e_0 rfl (lv_at hl 0 rfl) ?_
  refine s_callt (As := []) (rest := []) X Z hi (s_isLatin1 l D cs ad kS K hKO hj g hW i hi) (cwV 0 X.2.2.2.2.1 gg_chr_lat1 rfl rfl rfl (by decide +kernel) ⟨Nat.le_of_ble_eq_true rfl, Nat.le_of_ble_eq_true rfl⟩) hP hA hS.2.1 hS rfl hl.1 rfl (Nat.le_of_ble_eq_true rfl) dJ0_charAt_5068e_1 ⟨Nat.le_of_ble_eq_true rfl, Nat.le_of_ble_eq_true rfl⟩ (fun r g2 H locs hw hP hS => ?_)
  obtain ⟨hwg, rfl⟩ := hw
  rw [hwg] at hP
  refine lv_if_eq (tgt := 16) hx hb dJ0_charAt_5068e_4 (by decide) (fun h => absurd h (by decide)) (fun _ => ?_)
  refine lv_aload_n hx hb dJ0_charAt_5068e_7 rfl (lv_at hl 0 rfl) ?_
  refine vk_getf hx hb (Z.1 i hi).2.2.1 hS X.2.2.2.2.2.1 (X.2.2.2.2.1 _ (List.mem_of_getElem? (i := 1) rfl)) (fun _ h => h) dJ0_charAt_5068e_8 ?_
  refine lv_iload_n hx hb dJ0_charAt_5068e_11 rfl (lv_at hl 1 rfl) ?_
  refine s_callSi (As := [.ref (kS.2.1 i), .int k]) (rest := []) X Z (s_latAtF l D cs ad kS K hKO hj g hW i k hi h1 h2) (va_cwS 2 X.2.2.2.2.1 gg_chr_at rfl rfl rfl (by decide +kernel) ⟨Nat.le_of_ble_eq_true rfl, Nat.le_of_ble_eq_true rfl⟩) hP hA hS.2.1 hS rfl hl.1 rfl (Nat.le_of_ble_eq_true rfl) dJ0_charAt_5068e_12 ⟨Nat.le_of_ble_eq_true rfl, Nat.le_of_ble_eq_true rfl⟩ (fun r g2 H locs hw hP hS => ?_)
  obtain ⟨hwg, hn, hch⟩ := hw
  rw [hwg] at hP
  exact q_nret X hP hS hn ⟨rfl, hch⟩ dJ0_charAt_5068e_15

theorem dX12_see_0 : decode cX12_see 0 = .ok (.iload_n 1, 1) := by decide +kernel
theorem dX12_see_1 : decode cX12_see 1 = .ok (.aload_n 0, 1) := by decide +kernel
theorem dX12_see_2 : decode cX12_see 2 = .ok (.getfield 89, 3) := by decide +kernel
theorem dX12_see_5 : decode cX12_see 5 = .ok (.if_icmp .ge 16, 3) := by decide +kernel
theorem dX12_see_8 : decode cX12_see 8 = .ok (.aload_n 0, 1) := by decide +kernel
theorem dX12_see_9 : decode cX12_see 9 = .ok (.getfield 20, 3) := by decide +kernel
theorem dX12_see_12 : decode cX12_see 12 = .ok (.iload_n 1, 1) := by decide +kernel
theorem dX12_see_13 : decode cX12_see 13 = .ok (.baload, 1) := by decide +kernel
theorem dX12_see_14 : decode cX12_see 14 = .ok (.sipush 255, 3) := by decide +kernel
theorem dX12_see_17 : decode cX12_see 17 = .ok (.iand, 1) := by decide +kernel
theorem dX12_see_18 : decode cX12_see 18 = .ok (.goto 4, 3) := by decide +kernel
theorem dX12_see_21 : decode cX12_see 21 = .ok (.iconst (-1), 1) := by decide +kernel
theorem dX12_see_22 : decode cX12_see 22 = .ok (.ireturn, 1) := by decide +kernel
noncomputable def vX12_see : List Cond := .code yX12_see cX12_see 2 (some .int) :: (([.fieldLink RX12 89 "IcicleClockModel" "size" "I", .fieldLink RX12 20 "IcicleClockModel" "tape" "[B"] : List Cond) ++ wsX120)
theorem iX12_see_12 : ∀ w ∈ wsX120, w ∈ vX12_see := fun _ h => List.mem_cons_of_mem _ (List.mem_append_right _ (h))
theorem gs_X12_see : Gd vX12_see := Gd.cons (by decide +kernel) (Gd.app (Gd.r (by decide +kernel)) gwX_12)
set_option maxHeartbeats 4000000 in
set_option maxRecDepth 100000 in
theorem s_X12_see (l : Launch) (D : va_G) (cs : Nat → ClassId) (ad : Nat → Nat) (kS : kSt) (K : sK) (hKO : KO K) (hj : wJ ad 218) (g : Nat → va_E) (hW : WF (shp ad K) ad cs g) (kk : Int32) (hp0 : 0 ≤ kk.toInt ∧ kk.toInt ≤ 1000) : sI l yX12_see vX12_see { frames := 0, cells := 0, slots := 0, locals := 0 } D cs ad kS [.ref (ad 197), .int kk] g (fun r g2 => g2 = g ∧ (-1 ≤ r.toInt ∧ r.toInt ≤ 255 ∧ r.toInt = seeI g kk.toInt ∧ (r.toInt ≠ -1 → kk.toInt ≤ 999))) := by
  refine Met.startS (cc := cX12_see) (maxL := 2) (ret := (some .int)) RX12 rfl (by decide) rfl (Nat.le_of_ble_eq_true rfl) ?_
  intro p e s m below meth c ls X Z hP hl
  have hx := X.1
  have hb := X.2.1
  have hS : va_S (wA ad 218) s.heap s.heap [] := va_S.rf
  have hA : ∀ i, i < 218 → wA ad 218 (ad i) := fun i h => ⟨i, h, rfl⟩
  have hl : lv_has ls 2 [(0, .ref (ad 197)), (1, .int kk)] := hl
  obtain ⟨fsc_1, hgc_1, hOc_1⟩ := hW.obj (i := 197) (by decide) (sh_197 ad K)
  obtain ⟨x_3, hk_2, hlx_3, hhx_3⟩ := hOc_1.int 7 rfl
  have hgix_3 := gI_of hgc_1 hk_2
  refine lv_iload_n hx hb dX12_see_0 rfl (lv_at hl 1 rfl) ?_
  refine lv_aload_n hx hb dX12_see_1 rfl (lv_at hl 0 rfl) ?_
  refine q_get X iX12_see_12 hP (by decide) hgc_1 rfl 7 (by decide) (List.mem_of_getElem? (i := 1) rfl) (v := .int x_3) hk_2 dX12_see_2 ?_
  refine lv_icmp_ge (tgt := 21) hx hb dX12_see_5 (by decide) (fun hc_4 => ?_) (fun hc_4 => ?_)
  · have hhc_4 := n_le (rfl : x_3.toInt = x_3.toInt) (rfl : kk.toInt = kk.toInt) hc_4
    refine lv_iconst (v := (-1)) hx hb dX12_see_21 (by decide) ?_
    have hgi_5 := gI_of hgc_1 hk_2
    have hr0 : (-1 : Int32).toInt = -1 := by decide
    exact q_iret X hP hS ⟨rfl, ⟨by omega, by omega, by rw [seeI_no (by omega)]; omega, fun q => by exfalso; omega⟩⟩ dX12_see_22
  · have hhc_4 := n_nle (rfl : x_3.toInt = x_3.toInt) (rfl : kk.toInt = kk.toInt) hc_4
    refine lv_aload_n hx hb dX12_see_8 rfl (lv_at hl 0 rfl) ?_
    have hk_6 := hOc_1.ref 4 rfl
    refine q_get X iX12_see_12 hP (by decide) hgc_1 rfl 4 (by decide) (List.mem_of_getElem? (i := 2) rfl) (v := .ref (ad 201)) hk_6 dX12_see_9 ?_
    refine lv_iload_n hx hb dX12_see_12 rfl (lv_at hl 1 rfl) ?_
    obtain ⟨fc_7, hgc_7, hFc_7⟩ := hW.arr (i := 201) (by decide) (sh_201 ad K)
    refine q_bald X hP (by decide) hgc_7 (n_in (rfl : kk.toInt = kk.toInt) (by omega) (by omega)) dX12_see_13 ?_
    refine lv_topi (fun z_8 ez_8 => ?_)
    refine lv_sipush (v := 255) hx hb dX12_see_14 (by decide) ?_
    refine lv_iand hx hb dX12_see_17 ?_
    refine lv_topi (fun z_9 ez_9 => ?_)
    have hz_9 : 0 ≤ z_9.toInt ∧ z_9.toInt ≤ 255 := n_and 8 (by decide) (by decide) (by decide) ez_9
    refine lv_goto (tgt := 22) hx hb dX12_see_18 (by decide) ?_
    have hgi_10 := gI_of hgc_1 hk_2
    exact q_iret X hP hS ⟨rfl, ⟨by omega, by omega, seeI_at hgc_7 (by omega) (by rw [ez_9, ez_8]), by omega⟩⟩ dX12_see_22

theorem dX12_advance_0 : decode cX12_advance 0 = .ok (.aload_n 0, 1) := by decide +kernel
theorem dX12_advance_1 : decode cX12_advance 1 = .ok (.aload_n 0, 1) := by decide +kernel
theorem dX12_advance_2 : decode cX12_advance 2 = .ok (.getfield 92, 3) := by decide +kernel
theorem dX12_advance_5 : decode cX12_advance 5 = .ok (.invokevirtual 95, 3) := by decide +kernel
theorem dX12_advance_8 : decode cX12_advance 8 = .ok (.bipush 32, 2) := by decide +kernel
theorem dX12_advance_10 : decode cX12_advance 10 = .ok (.if_icmp .eq 16, 3) := by decide +kernel
theorem dX12_advance_13 : decode cX12_advance 13 = .ok (.aload_n 0, 1) := by decide +kernel
theorem dX12_advance_14 : decode cX12_advance 14 = .ok (.aload_n 0, 1) := by decide +kernel
theorem dX12_advance_15 : decode cX12_advance 15 = .ok (.getfield 92, 3) := by decide +kernel
theorem dX12_advance_18 : decode cX12_advance 18 = .ok (.invokevirtual 95, 3) := by decide +kernel
theorem dX12_advance_21 : decode cX12_advance 21 = .ok (.bipush 10, 2) := by decide +kernel
theorem dX12_advance_23 : decode cX12_advance 23 = .ok (.if_icmp .ne 16, 3) := by decide +kernel
theorem dX12_advance_39 : decode cX12_advance 39 = .ok (.aload_n 0, 1) := by decide +kernel
theorem dX12_advance_40 : decode cX12_advance 40 = .ok (.aload_n 0, 1) := by decide +kernel
theorem dX12_advance_41 : decode cX12_advance 41 = .ok (.getfield 92, 3) := by decide +kernel
theorem dX12_advance_44 : decode cX12_advance 44 = .ok (.putfield 99, 3) := by decide +kernel
theorem dX12_advance_47 : decode cX12_advance 47 = .ok (.aload_n 0, 1) := by decide +kernel
theorem dX12_advance_48 : decode cX12_advance 48 = .ok (.aload_n 0, 1) := by decide +kernel
theorem dX12_advance_49 : decode cX12_advance 49 = .ok (.getfield 92, 3) := by decide +kernel
theorem dX12_advance_52 : decode cX12_advance 52 = .ok (.invokevirtual 95, 3) := by decide +kernel
theorem dX12_advance_55 : decode cX12_advance 55 = .ok (.istore_n 1, 1) := by decide +kernel
theorem dX12_advance_56 : decode cX12_advance 56 = .ok (.iload_n 1, 1) := by decide +kernel
theorem dX12_advance_57 : decode cX12_advance 57 = .ok (.iconst (-1), 1) := by decide +kernel
theorem dX12_advance_58 : decode cX12_advance 58 = .ok (.if_icmp .ne 11, 3) := by decide +kernel
theorem dX12_advance_61 : decode cX12_advance 61 = .ok (.aload_n 0, 1) := by decide +kernel
theorem dX12_advance_62 : decode cX12_advance 62 = .ok (.iconst 0, 1) := by decide +kernel
theorem dX12_advance_63 : decode cX12_advance 63 = .ok (.putfield 102, 3) := by decide +kernel
theorem dX12_advance_66 : decode cX12_advance 66 = .ok (.goto 173, 3) := by decide +kernel
theorem dX12_advance_69 : decode cX12_advance 69 = .ok (.iload_n 1, 1) := by decide +kernel
theorem dX12_advance_70 : decode cX12_advance 70 = .ok (.i2l, 1) := by decide +kernel
theorem dX12_advance_71 : decode cX12_advance 71 = .ok (.ldc2_w 105, 3) := by decide +kernel
theorem dX12_advance_74 : decode cX12_advance 74 = .ok (.ldc2_w 107, 3) := by decide +kernel
theorem dX12_advance_77 : decode cX12_advance 77 = .ok (.invokestatic 82, 3) := by decide +kernel
theorem dX12_advance_80 : decode cX12_advance 80 = .ok (.ifCond .eq 45, 3) := by decide +kernel
theorem dX12_advance_83 : decode cX12_advance 83 = .ok (.aload_n 0, 1) := by decide +kernel
theorem dX12_advance_84 : decode cX12_advance 84 = .ok (.aload_n 0, 1) := by decide +kernel
theorem dX12_advance_85 : decode cX12_advance 85 = .ok (.getfield 92, 3) := by decide +kernel
theorem dX12_advance_88 : decode cX12_advance 88 = .ok (.invokevirtual 95, 3) := by decide +kernel
theorem dX12_advance_91 : decode cX12_advance 91 = .ok (.i2l, 1) := by decide +kernel
theorem dX12_advance_92 : decode cX12_advance 92 = .ok (.ldc2_w 105, 3) := by decide +kernel
theorem dX12_advance_95 : decode cX12_advance 95 = .ok (.ldc2_w 107, 3) := by decide +kernel
theorem dX12_advance_98 : decode cX12_advance 98 = .ok (.invokestatic 82, 3) := by decide +kernel
theorem dX12_advance_101 : decode cX12_advance 101 = .ok (.ifCond .eq 16, 3) := by decide +kernel
theorem dX12_advance_104 : decode cX12_advance 104 = .ok (.aload_n 0, 1) := by decide +kernel
theorem dX12_advance_105 : decode cX12_advance 105 = .ok (.dup, 1) := by decide +kernel
theorem dX12_advance_106 : decode cX12_advance 106 = .ok (.getfield 92, 3) := by decide +kernel
theorem dX12_advance_109 : decode cX12_advance 109 = .ok (.iconst 1, 1) := by decide +kernel
theorem dX12_advance_110 : decode cX12_advance 110 = .ok (.iadd, 1) := by decide +kernel
theorem dX12_advance_111 : decode cX12_advance 111 = .ok (.putfield 92, 3) := by decide +kernel
theorem dX12_advance_114 : decode cX12_advance 114 = .ok (.goto (-31), 3) := by decide +kernel
theorem dX12_advance_117 : decode cX12_advance 117 = .ok (.aload_n 0, 1) := by decide +kernel
theorem dX12_advance_118 : decode cX12_advance 118 = .ok (.iconst 1, 1) := by decide +kernel
theorem dX12_advance_119 : decode cX12_advance 119 = .ok (.putfield 102, 3) := by decide +kernel
theorem dX12_advance_122 : decode cX12_advance 122 = .ok (.goto 117, 3) := by decide +kernel
theorem dX12_advance_125 : decode cX12_advance 125 = .ok (.iload_n 1, 1) := by decide +kernel
theorem dX12_advance_126 : decode cX12_advance 126 = .ok (.i2l, 1) := by decide +kernel
theorem dX12_advance_127 : decode cX12_advance 127 = .ok (.ldc2_w 109, 3) := by decide +kernel
theorem dX12_advance_130 : decode cX12_advance 130 = .ok (.ldc2_w 111, 3) := by decide +kernel
theorem dX12_advance_133 : decode cX12_advance 133 = .ok (.invokestatic 82, 3) := by decide +kernel
theorem dX12_advance_136 : decode cX12_advance 136 = .ok (.ifCond .eq 78, 3) := by decide +kernel
theorem dX12_advance_139 : decode cX12_advance 139 = .ok (.aload_n 0, 1) := by decide +kernel
theorem dX12_advance_140 : decode cX12_advance 140 = .ok (.iconst 0, 1) := by decide +kernel
theorem dX12_advance_141 : decode cX12_advance 141 = .ok (.putfield 113, 3) := by decide +kernel
theorem dX12_advance_144 : decode cX12_advance 144 = .ok (.aload_n 0, 1) := by decide +kernel
theorem dX12_advance_145 : decode cX12_advance 145 = .ok (.aload_n 0, 1) := by decide +kernel
theorem dX12_advance_146 : decode cX12_advance 146 = .ok (.getfield 92, 3) := by decide +kernel
theorem dX12_advance_149 : decode cX12_advance 149 = .ok (.invokevirtual 95, 3) := by decide +kernel
theorem dX12_advance_152 : decode cX12_advance 152 = .ok (.i2l, 1) := by decide +kernel
theorem dX12_advance_153 : decode cX12_advance 153 = .ok (.ldc2_w 109, 3) := by decide +kernel
theorem dX12_advance_156 : decode cX12_advance 156 = .ok (.ldc2_w 111, 3) := by decide +kernel
theorem dX12_advance_159 : decode cX12_advance 159 = .ok (.invokestatic 82, 3) := by decide +kernel
theorem dX12_advance_162 : decode cX12_advance 162 = .ok (.ifCond .eq 44, 3) := by decide +kernel
theorem dX12_advance_165 : decode cX12_advance 165 = .ok (.aload_n 0, 1) := by decide +kernel
theorem dX12_advance_166 : decode cX12_advance 166 = .ok (.ldc 116, 2) := by decide +kernel
theorem dX12_advance_168 : decode cX12_advance 168 = .ok (.bipush 10, 2) := by decide +kernel
theorem dX12_advance_170 : decode cX12_advance 170 = .ok (.aload_n 0, 1) := by decide +kernel
theorem dX12_advance_171 : decode cX12_advance 171 = .ok (.getfield 113, 3) := by decide +kernel
theorem dX12_advance_174 : decode cX12_advance 174 = .ok (.imul, 1) := by decide +kernel
theorem dX12_advance_175 : decode cX12_advance 175 = .ok (.aload_n 0, 1) := by decide +kernel
theorem dX12_advance_176 : decode cX12_advance 176 = .ok (.aload_n 0, 1) := by decide +kernel
theorem dX12_advance_177 : decode cX12_advance 177 = .ok (.getfield 92, 3) := by decide +kernel
theorem dX12_advance_180 : decode cX12_advance 180 = .ok (.invokevirtual 95, 3) := by decide +kernel
theorem dX12_advance_183 : decode cX12_advance 183 = .ok (.iadd, 1) := by decide +kernel
theorem dX12_advance_184 : decode cX12_advance 184 = .ok (.bipush 48, 2) := by decide +kernel
theorem dX12_advance_186 : decode cX12_advance 186 = .ok (.isub, 1) := by decide +kernel
theorem dX12_advance_187 : decode cX12_advance 187 = .ok (.invokestatic 117, 3) := by decide +kernel
theorem dX12_advance_190 : decode cX12_advance 190 = .ok (.putfield 113, 3) := by decide +kernel
theorem dX12_advance_193 : decode cX12_advance 193 = .ok (.aload_n 0, 1) := by decide +kernel
theorem dX12_advance_194 : decode cX12_advance 194 = .ok (.dup, 1) := by decide +kernel
theorem dX12_advance_195 : decode cX12_advance 195 = .ok (.getfield 92, 3) := by decide +kernel
theorem dX12_advance_198 : decode cX12_advance 198 = .ok (.iconst 1, 1) := by decide +kernel
theorem dX12_advance_199 : decode cX12_advance 199 = .ok (.iadd, 1) := by decide +kernel
theorem dX12_advance_200 : decode cX12_advance 200 = .ok (.putfield 92, 3) := by decide +kernel
theorem dX12_advance_203 : decode cX12_advance 203 = .ok (.goto (-59), 3) := by decide +kernel
theorem dX12_advance_206 : decode cX12_advance 206 = .ok (.aload_n 0, 1) := by decide +kernel
theorem dX12_advance_207 : decode cX12_advance 207 = .ok (.iconst 2, 1) := by decide +kernel
theorem dX12_advance_208 : decode cX12_advance 208 = .ok (.putfield 102, 3) := by decide +kernel
theorem dX12_advance_211 : decode cX12_advance 211 = .ok (.goto 28, 3) := by decide +kernel
theorem dX12_advance_214 : decode cX12_advance 214 = .ok (.aload_n 0, 1) := by decide +kernel
theorem dX12_advance_215 : decode cX12_advance 215 = .ok (.iload_n 1, 1) := by decide +kernel
theorem dX12_advance_216 : decode cX12_advance 216 = .ok (.bipush 59, 2) := by decide +kernel
theorem dX12_advance_218 : decode cX12_advance 218 = .ok (.if_icmp .ne 7, 3) := by decide +kernel
theorem dX12_advance_221 : decode cX12_advance 221 = .ok (.iconst 3, 1) := by decide +kernel
theorem dX12_advance_222 : decode cX12_advance 222 = .ok (.goto 4, 3) := by decide +kernel
theorem dX12_advance_225 : decode cX12_advance 225 = .ok (.iconst 4, 1) := by decide +kernel
theorem dX12_advance_226 : decode cX12_advance 226 = .ok (.putfield 102, 3) := by decide +kernel
theorem dX12_advance_229 : decode cX12_advance 229 = .ok (.aload_n 0, 1) := by decide +kernel
theorem dX12_advance_230 : decode cX12_advance 230 = .ok (.dup, 1) := by decide +kernel
theorem dX12_advance_231 : decode cX12_advance 231 = .ok (.getfield 92, 3) := by decide +kernel
theorem dX12_advance_234 : decode cX12_advance 234 = .ok (.iconst 1, 1) := by decide +kernel
theorem dX12_advance_235 : decode cX12_advance 235 = .ok (.iadd, 1) := by decide +kernel
theorem dX12_advance_236 : decode cX12_advance 236 = .ok (.putfield 92, 3) := by decide +kernel
theorem dX12_advance_239 : decode cX12_advance 239 = .ok (.return_, 1) := by decide +kernel
theorem dX12_advance_26 : decode cX12_advance 26 = .ok (.aload_n 0, 1) := by decide +kernel
theorem dX12_advance_27 : decode cX12_advance 27 = .ok (.dup, 1) := by decide +kernel
theorem dX12_advance_28 : decode cX12_advance 28 = .ok (.getfield 92, 3) := by decide +kernel
theorem dX12_advance_31 : decode cX12_advance 31 = .ok (.iconst 1, 1) := by decide +kernel
theorem dX12_advance_32 : decode cX12_advance 32 = .ok (.iadd, 1) := by decide +kernel
theorem dX12_advance_33 : decode cX12_advance 33 = .ok (.putfield 92, 3) := by decide +kernel
theorem dX12_advance_36 : decode cX12_advance 36 = .ok (.goto (-36), 3) := by decide +kernel
noncomputable def vX12_advance : List Cond := .code yX12_advance cX12_advance 2 none :: (([.fieldLink RX12 92 "IcicleClockModel" "at" "I", .methodLink RX12 95 yX12_see, .instanceMethod yX12_see, .selects RX12 yX12_see yX12_see, .initialized RX12, .fieldLink RX12 99 "IcicleClockModel" "from" "I", .fieldLink RX12 102 "IcicleClockModel" "token" "I", .constantLong RX12 105 (97), .constantLong RX12 107 (122), .methodLink RX12 82 yX12_in, .static yX12_in, .constantLong RX12 109 (48), .constantLong RX12 111 (57), .fieldLink RX12 113 "IcicleClockModel" "value" "I", .constant RX12 116 (99999), .methodLink RX12 117 Lib.Math.min.name, .static Lib.Math.min.name, .initialized "java/lang/Math", .code Lib.Math.min.name Lib.Math.min.code 2 (some .int)] : List Cond) ++ (wsX120 ++ (vX12_see ++ vX12_in)))
theorem iX12_advance_12 : ∀ w ∈ wsX120, w ∈ vX12_advance := fun _ h => List.mem_cons_of_mem _ (List.mem_append_right _ (List.mem_append_left _ h))
theorem gs_X12_advance : Gd vX12_advance := Gd.cons (by decide +kernel) (Gd.app (Gd.r (by decide +kernel)) (Gd.app gwX_12 (Gd.app gs_X12_see gs_X12_in)))
theorem gg_X12_advance_X12_see : GoodIn vX12_advance (wsV RX12 95 RX12 yX12_see vX12_see) := goodIn_app (goodIn_r _ [2, 3, 4, 5] (by decide +kernel) (by decide +kernel)) (fun w h => ⟨List.mem_cons_of_mem _ (List.mem_append_right _ (List.mem_append_right _ (List.mem_append_left _ h))), gs_X12_see w h⟩)
theorem gg_X12_advance_X12_in : GoodIn vX12_advance (wsS RX12 82 yX12_in vX12_in) := goodIn_app (goodIn_r _ [10, 11, 5] (by decide +kernel) (by decide +kernel)) (fun w h => ⟨List.mem_cons_of_mem _ (List.mem_append_right _ (List.mem_append_right _ (List.mem_append_right _ (h)))), gs_X12_in w h⟩)
set_option maxHeartbeats 4000000 in
set_option maxRecDepth 100000 in
theorem s_X12_advance (l : Launch) (D : va_G) (cs : Nat → ClassId) (ad : Nat → Nat) (kS : kSt) (K : sK) (hKO : KO K) (hj : wJ ad 218) (g : Nat → va_E) (hW : WF (shp ad K) ad cs g) : sV l yX12_advance vX12_advance { frames := 1, cells := 0, slots := 0, locals := 25 } D cs ad kS [.ref (ad 197)] g (fun g2 => WF (shp ad K) ad cs g2 ∧ (∀ j, j ≠ 197 → g2 j = g j) ∧ (gI g 197 8 ≤ gI g2 197 8 ∧ (gI g2 197 10 ≠ 0 → gI g 197 8 < gI g2 197 8) ∧ gI g2 197 12 = gI g 197 12)) := by
  refine Met.startS (cc := cX12_advance) (maxL := 2) (ret := none) RX12 rfl (by decide) rfl (Nat.le_of_ble_eq_true rfl) ?_
  intro p e s m below meth c ls X Z hP hl
  have hx := X.1
  have hb := X.2.1
  have hS : va_S (wA ad 218) s.heap s.heap [] := va_S.rf
  have hA : ∀ i, i < 218 → wA ad 218 (ad i) := fun i h => ⟨i, h, rfl⟩
  have hfr : ∀ j, j ≠ 197 → g j = g j := fun _ _ => rfl
  have hl : lv_has ls 2 [(0, .ref (ad 197))] := hl
  obtain ⟨fsc_1, hgc_1, hOc_1⟩ := hW.obj (i := 197) (by decide) (sh_197 ad K)
  obtain ⟨x_3, hk_2, hlx_3, hhx_3⟩ := hOc_1.int 10 rfl
  have hgix_3 := gI_of hgc_1 hk_2
  obtain ⟨x_5, hk_4, -⟩ := hOc_1.int 12 rfl
  have hgix_5 := gI_of hgc_1 hk_4
  obtain ⟨x_7, hk_6, hlx_7, hhx_7⟩ := hOc_1.int 7 rfl
  have hgix_7 := gI_of hgc_1 hk_6
  obtain ⟨x_9, hk_8, hlx_9, hhx_9⟩ := hOc_1.int 8 rfl
  have hgix_9 := gI_of hgc_1 hk_8
  have HL0 : ∀ (n0 : Nat) (G0 : Nat → va_E) (H : Heap) (locs : List Loc) (ls : Array Slot), (1000 - gI G0 197 8).toNat < n0 → gI g 197 8 ≤ gI G0 197 8 → gI G0 197 12 = gI g 197 12 → WF (shp ad K) ad cs G0 → (∀ j, j ≠ 197 → G0 j = g j) → va_P D vwCl (wL ad G0 218) H → va_S (wA ad 218) s.heap H locs → lv_has ls 2 [(0, .ref (ad 197))] → W p l e ({ frames := 1, cells := 0, slots := 0, locals := 25 } : Room) s m ([.ref (ad 197)] : List Value).toArray below meth c H locs 0 0 (MQ below (qV D ad 218 (fun g2 => WF (shp ad K) ad cs g2 ∧ (∀ j, j ≠ 197 → g2 j = g j) ∧ (gI g 197 8 ≤ gI g2 197 8 ∧ (gI g2 197 10 ≠ 0 → gI g 197 8 < gI g2 197 8) ∧ gI g2 197 12 = gI g 197 12))) ([.ref (ad 197)] : List Value).toArray s 0 0 (wA ad 218)) (F0 m 0 ls []) := by
    intro n0
    induction n0 with
    | zero =>
      intro G0 H locs ls hm0 he0_0 he0_1 hW0 hfr0 hP hS hl
      exact absurd hm0 (Nat.not_lt_zero _)
    | succ n0 ih0 =>
      intro G0 H locs ls hm0 he0_0 he0_1 hW0 hfr0 hP hS hl
      obtain ⟨fsc_10, hgc_10, hOc_10⟩ := hW0.obj (i := 197) (by decide) (sh_197 ad K)
      obtain ⟨x_12, hk_11, hlx_12, hhx_12⟩ := hOc_10.int 10 rfl
      have hgix_12 := gI_of hgc_10 hk_11
      obtain ⟨x_15, hk_14, -⟩ := hOc_10.int 12 rfl
      have hgix_15 := gI_of hgc_10 hk_14
      obtain ⟨x_18, hk_17, hlx_18, hhx_18⟩ := hOc_10.int 7 rfl
      have hgix_18 := gI_of hgc_10 hk_17
      obtain ⟨x_21, hk_20, hlx_21, hhx_21⟩ := hOc_10.int 8 rfl
      have hgix_21 := gI_of hgc_10 hk_20
      refine lv_aload_n hx hb dX12_advance_0 rfl (lv_at hl 0 rfl) ?_
      refine lv_aload_n hx hb dX12_advance_1 rfl (lv_at hl 0 rfl) ?_
      refine q_get X iX12_advance_12 hP (by decide) hgc_10 rfl 8 (by decide) (List.mem_of_getElem? (i := 1) rfl) (v := .int x_21) hk_20 dX12_advance_2 ?_
      have hgi_23 := gI_of hgc_10 hk_11
      have hgi_24 := gI_of hgc_10 hk_14
      have hgi_25 := gI_of hgc_10 hk_17
      have hgi_26 := gI_of hgc_10 hk_20
      refine s_calli (q := (RX12, TX12, 40)) (As := [.int x_21]) (rest := []) X Z (s_X12_see l D cs ad kS K hKO hj G0 hW0 x_21 (by omega)) (cwV 1 X.2.2.2.2.1 gg_X12_advance_X12_see rfl rfl rfl (by decide +kernel) ⟨Nat.le_of_ble_eq_true rfl, Nat.le_of_ble_eq_true rfl⟩) (by decide) hgc_10 rfl hP hA hS.2.1 hS rfl hl.1 rfl (Nat.le_of_ble_eq_true rfl) dX12_advance_5 ⟨Nat.le_of_ble_eq_true rfl, Nat.le_of_ble_eq_true rfl⟩ (fun r_29 g_28 H locs hw_27 hP hS => ?_)
      obtain ⟨hw_27g, hw_27⟩ := hw_27
      rw [hw_27g] at hP
      refine lv_bipush (v := 32) hx hb dX12_advance_8 (by decide) ?_
      have HJ26 : ∀ (G26 : Nat → va_E) (H : Heap) (locs : List Loc) (ls : Array Slot), (x_21.toInt ≤ 999) → gI g 197 8 ≤ gI G26 197 8 → gI G26 197 12 = gI g 197 12 → gI G26 197 8 ≤ 999 → WF (shp ad K) ad cs G26 → (∀ j, j ≠ 197 → G26 j = g j) → G26 197 = .inr (12, fsc_10) → va_P D vwCl (wL ad G26 218) H → va_S (wA ad 218) s.heap H locs → lv_has ls 2 [(0, .ref (ad 197))] → W p l e ({ frames := 1, cells := 0, slots := 0, locals := 25 } : Room) s m ([.ref (ad 197)] : List Value).toArray below meth c H locs 0 0 (MQ below (qV D ad 218 (fun g2 => WF (shp ad K) ad cs g2 ∧ (∀ j, j ≠ 197 → g2 j = g j) ∧ (gI g 197 8 ≤ gI g2 197 8 ∧ (gI g2 197 10 ≠ 0 → gI g 197 8 < gI g2 197 8) ∧ gI g2 197 12 = gI g 197 12))) ([.ref (ad 197)] : List Value).toArray s 0 0 (wA ad 218)) (F0 m 26 ls []) := by
        intro G26 H locs ls hv26_0 he26_0 he26_1 he26_2 hW26 hfr26 hg26_0 hP hS hl
        have hgi_30 := gI_of hg26_0 hk_11
        have hgi_31 := gI_of hg26_0 hk_14
        have hgi_32 := gI_of hg26_0 hk_17
        have hgi_33 := gI_of hg26_0 hk_20
        refine lv_aload_n hx hb dX12_advance_26 rfl (lv_at hl 0 rfl) ?_
        refine lv_dup hx hb dX12_advance_27 rfl ?_
        refine q_get X iX12_advance_12 hP (by decide) hg26_0 rfl 8 (by decide) (List.mem_of_getElem? (i := 1) rfl) (v := .int x_21) hk_20 dX12_advance_28 ?_
        refine lv_iconst (v := 1) hx hb dX12_advance_31 (by decide) ?_
        refine lv_iadd hx hb dX12_advance_32 ?_
        refine lv_topi (fun z_34 ez_34 => ?_)
        have hz_34 : z_34.toInt = x_21.toInt + 1 := n_add (rfl : x_21.toInt = x_21.toInt) (by decide : (1 : Int32).toInt = 1) ez_34 (by omega) (by omega)
        refine s_put X iX12_advance_12 tyX12 tyX12_ok nmX12 hP hj hA hS (by decide) hg26_0 rfl 8 (by decide) (List.mem_of_getElem? (i := 1) rfl) rfl (ty := .int) (v := .int z_34) (by decide +kernel) rfl rfl dX12_advance_33 hW26 (sh_197 ad K) hOc_10 rfl ⟨z_34, rfl, by omega, by omega⟩ (fun fsc_35 gc_35 H locs hOc_35 hkc_35 hnc_35 hgc_35 hfc_35 hWc_35 hP hS => ?_)
        have hk_36 := (hnc_35 10 (by decide)).trans hk_11
        have hk_37 := (hnc_35 12 (by decide)).trans hk_14
        have hk_38 := (hnc_35 7 (by decide)).trans hk_17
        have hfr_39 : ∀ j, j ≠ 197 → gc_35 j = g j := fun j hj => (hfc_35 j (by omega)).trans (hfr26 j hj)
        have hgi_40 := gI_of hgc_35 hkc_35
        have hgi_41 := gI_of hgc_35 hk_36
        have hgi_42 := gI_of hgc_35 hk_37
        have hgi_43 := gI_of hgc_35 hk_38
        refine lv_goto (tgt := 0) hx hb dX12_advance_36 (by decide) ?_
        have hgi_44 := gI_of hgc_35 hk_36
        have hgi_45 := gI_of hgc_35 hk_37
        have hgi_46 := gI_of hgc_35 hk_38
        have hgi_47 := gI_of hgc_35 hkc_35
        exact ih0 gc_35 _ _ ls (by omega) (by omega) (by omega) hWc_35 hfr_39 hP hS (lv_sub hl [0] rfl)
      refine lv_icmp_eq (tgt := 26) hx hb dX12_advance_10 (by decide) (fun hc_48 => ?_) (fun hc_48 => ?_)
      · have hhc_48 := n_eq (rfl : r_29.toInt = r_29.toInt) (by decide : (32 : Int32).toInt = 32) hc_48
        have hgi_49 := gI_of hgc_10 hk_11
        have hgi_50 := gI_of hgc_10 hk_14
        have hgi_51 := gI_of hgc_10 hk_17
        have hgi_52 := gI_of hgc_10 hk_20
        exact HJ26 G0 _ _ ls (by omega) (by omega) (by omega) (by omega) hW0 hfr0 hgc_10 hP hS (lv_sub hl [0] rfl)
      · have hhc_48 := n_ne (rfl : r_29.toInt = r_29.toInt) (by decide : (32 : Int32).toInt = 32) hc_48
        refine lv_aload_n hx hb dX12_advance_13 rfl (lv_at hl 0 rfl) ?_
        refine lv_aload_n hx hb dX12_advance_14 rfl (lv_at hl 0 rfl) ?_
        refine q_get X iX12_advance_12 hP (by decide) hgc_10 rfl 8 (by decide) (List.mem_of_getElem? (i := 1) rfl) (v := .int x_21) hk_20 dX12_advance_15 ?_
        have hgi_53 := gI_of hgc_10 hk_11
        have hgi_54 := gI_of hgc_10 hk_14
        have hgi_55 := gI_of hgc_10 hk_17
        have hgi_56 := gI_of hgc_10 hk_20
        refine s_calli (q := (RX12, TX12, 40)) (As := [.int x_21]) (rest := []) X Z (s_X12_see l D cs ad kS K hKO hj G0 hW0 x_21 (by omega)) (cwV 1 X.2.2.2.2.1 gg_X12_advance_X12_see rfl rfl rfl (by decide +kernel) ⟨Nat.le_of_ble_eq_true rfl, Nat.le_of_ble_eq_true rfl⟩) (by decide) hgc_10 rfl hP hA hS.2.1 hS rfl hl.1 rfl (Nat.le_of_ble_eq_true rfl) dX12_advance_18 ⟨Nat.le_of_ble_eq_true rfl, Nat.le_of_ble_eq_true rfl⟩ (fun r_59 g_58 H locs hw_57 hP hS => ?_)
        obtain ⟨hw_57g, hw_57⟩ := hw_57
        rw [hw_57g] at hP
        refine lv_bipush (v := 10) hx hb dX12_advance_21 (by decide) ?_
        refine lv_icmp_ne (tgt := 39) hx hb dX12_advance_23 (by decide) (fun hc_60 => ?_) (fun hc_60 => ?_)
        · have hhc_60 := n_ne (rfl : r_59.toInt = r_59.toInt) (by decide : (10 : Int32).toInt = 10) hc_60
          refine lv_aload_n hx hb dX12_advance_39 rfl (lv_at hl 0 rfl) ?_
          refine lv_aload_n hx hb dX12_advance_40 rfl (lv_at hl 0 rfl) ?_
          refine q_get X iX12_advance_12 hP (by decide) hgc_10 rfl 8 (by decide) (List.mem_of_getElem? (i := 1) rfl) (v := .int x_21) hk_20 dX12_advance_41 ?_
          refine s_put X iX12_advance_12 tyX12 tyX12_ok nmX12 hP hj hA hS (by decide) hgc_10 rfl 9 (by decide) (List.mem_of_getElem? (i := 6) rfl) rfl (ty := .int) (v := .int x_21) (by decide +kernel) rfl rfl dX12_advance_44 hW0 (sh_197 ad K) hOc_10 rfl ⟨x_21, rfl, by omega, by omega⟩ (fun fsc_61 gc_61 H locs hOc_61 hkc_61 hnc_61 hgc_61 hfc_61 hWc_61 hP hS => ?_)
          have hk_62 := (hnc_61 10 (by decide)).trans hk_11
          have hk_63 := (hnc_61 12 (by decide)).trans hk_14
          have hk_64 := (hnc_61 7 (by decide)).trans hk_17
          have hk_65 := (hnc_61 8 (by decide)).trans hk_20
          have hfr_66 : ∀ j, j ≠ 197 → gc_61 j = g j := fun j hj => (hfc_61 j (by omega)).trans (hfr0 j hj)
          have hgi_67 := gI_of hgc_61 hk_62
          have hgi_68 := gI_of hgc_61 hk_63
          have hgi_69 := gI_of hgc_61 hk_64
          have hgi_70 := gI_of hgc_61 hk_65
          refine lv_aload_n hx hb dX12_advance_47 rfl (lv_at hl 0 rfl) ?_
          refine lv_aload_n hx hb dX12_advance_48 rfl (lv_at hl 0 rfl) ?_
          refine q_get X iX12_advance_12 hP (by decide) hgc_61 rfl 8 (by decide) (List.mem_of_getElem? (i := 1) rfl) (v := .int x_21) hk_65 dX12_advance_49 ?_
          have hgi_71 := gI_of hgc_61 hk_62
          have hgi_72 := gI_of hgc_61 hk_63
          have hgi_73 := gI_of hgc_61 hk_64
          have hgi_74 := gI_of hgc_61 hk_65
          refine s_calli (q := (RX12, TX12, 40)) (As := [.int x_21]) (rest := []) X Z (s_X12_see l D cs ad kS K hKO hj gc_61 hWc_61 x_21 (by omega)) (cwV 1 X.2.2.2.2.1 gg_X12_advance_X12_see rfl rfl rfl (by decide +kernel) ⟨Nat.le_of_ble_eq_true rfl, Nat.le_of_ble_eq_true rfl⟩) (by decide) hgc_61 rfl hP hA hS.2.1 hS rfl hl.1 rfl (Nat.le_of_ble_eq_true rfl) dX12_advance_52 ⟨Nat.le_of_ble_eq_true rfl, Nat.le_of_ble_eq_true rfl⟩ (fun r_77 g_76 H locs hw_75 hP hS => ?_)
          obtain ⟨hw_75g, hw_75⟩ := hw_75
          rw [hw_75g] at hP
          refine lv_istore_n (lv' := [(1, .int r_77), (0, .ref (ad 197))]) hx hb dX12_advance_55 rfl hl (by decide) rfl (fun ls hl => ?_)
          refine lv_iload_n hx hb dX12_advance_56 rfl (lv_at hl 0 rfl) ?_
          refine lv_iconst (v := (-1)) hx hb dX12_advance_57 (by decide) ?_
          have HJ239 : ∀ (G239 : Nat → va_E) (H : Heap) (locs : List Loc) (ls : Array Slot), gI g 197 8 ≤ gI G239 197 8 → gI G239 197 12 = gI g 197 12 → (gI G239 197 10 ≠ 0 → gI g 197 8 < gI G239 197 8) → WF (shp ad K) ad cs G239 → (∀ j, j ≠ 197 → G239 j = g j) → va_P D vwCl (wL ad G239 218) H → va_S (wA ad 218) s.heap H locs → lv_has ls 2 [] → W p l e ({ frames := 1, cells := 0, slots := 0, locals := 25 } : Room) s m ([.ref (ad 197)] : List Value).toArray below meth c H locs 0 0 (MQ below (qV D ad 218 (fun g2 => WF (shp ad K) ad cs g2 ∧ (∀ j, j ≠ 197 → g2 j = g j) ∧ (gI g 197 8 ≤ gI g2 197 8 ∧ (gI g2 197 10 ≠ 0 → gI g 197 8 < gI g2 197 8) ∧ gI g2 197 12 = gI g 197 12))) ([.ref (ad 197)] : List Value).toArray s 0 0 (wA ad 218)) (F0 m 239 ls []) := by
            intro G239 H locs ls he239_0 he239_1 he239_2 hW239 hfr239 hP hS hl
            obtain ⟨fsc_78, hgc_78, hOc_78⟩ := hW239.obj (i := 197) (by decide) (sh_197 ad K)
            obtain ⟨x_80, hk_79, hlx_80, hhx_80⟩ := hOc_78.int 10 rfl
            have hgix_80 := gI_of hgc_78 hk_79
            obtain ⟨x_83, hk_82, -⟩ := hOc_78.int 12 rfl
            have hgix_83 := gI_of hgc_78 hk_82
            obtain ⟨x_86, hk_85, hlx_86, hhx_86⟩ := hOc_78.int 7 rfl
            have hgix_86 := gI_of hgc_78 hk_85
            obtain ⟨x_89, hk_88, hlx_89, hhx_89⟩ := hOc_78.int 8 rfl
            have hgix_89 := gI_of hgc_78 hk_88
            have hgi_91 := gI_of hgc_78 hk_79
            have hgi_92 := gI_of hgc_78 hk_82
            have hgi_93 := gI_of hgc_78 hk_85
            have hgi_94 := gI_of hgc_78 hk_88
            exact q_vret X hP hS ⟨hW239, hfr239, (by omega)⟩ dX12_advance_239
          refine lv_icmp_ne (tgt := 69) hx hb dX12_advance_58 (by decide) (fun hc_95 => ?_) (fun hc_95 => ?_)
          · have hhc_95 := n_ne (rfl : r_77.toInt = r_77.toInt) (by decide : (-1 : Int32).toInt = -1) hc_95
            refine lv_iload_n hx hb dX12_advance_69 rfl (lv_at hl 0 rfl) ?_
            refine lv_i2l hx hb dX12_advance_70 rfl ?_
            refine lv_topl (fun z_96 ez_96 => ?_)
            have hz_96 : z_96.toInt = r_77.toInt := ez_96 ▸ j_of rfl
            refine lv_ldc2 (v := 97) hx hb X.2.2.2.2.2.1 (X.2.2.2.2.1 _ (List.mem_of_getElem? (i := 8) rfl)) dX12_advance_71 ?_
            refine lv_ldc2 (v := 122) hx hb X.2.2.2.2.2.1 (X.2.2.2.2.1 _ (List.mem_of_getElem? (i := 9) rfl)) dX12_advance_74 ?_
            have hgi_97 := gI_of hgc_61 hk_62
            have hgi_98 := gI_of hgc_61 hk_63
            have hgi_99 := gI_of hgc_61 hk_64
            have hgi_100 := gI_of hgc_61 hk_65
            refine s_callSi (As := [.long z_96, .long 97, .long 122]) (rest := []) X Z (s_X12_in l D cs ad kS K hKO hj gc_61 hWc_61 z_96 97 122) (cwS 3 X.2.2.2.2.1 gg_X12_advance_X12_in rfl rfl rfl (by decide +kernel) ⟨Nat.le_of_ble_eq_true rfl, Nat.le_of_ble_eq_true rfl⟩) hP hA hS.2.1 hS rfl hl.1 rfl (Nat.le_of_ble_eq_true rfl) dX12_advance_77 ⟨Nat.le_of_ble_eq_true rfl, Nat.le_of_ble_eq_true rfl⟩ (fun r_103 g_102 H locs hw_101 hP hS => ?_)
            obtain ⟨hw_101g, hw_101⟩ := hw_101
            rw [hw_101g] at hP
            have hqk_104 : (97 : Int64).toInt = 97 := by decide
            have hqk_105 : (122 : Int64).toInt = 122 := by decide
            refine lv_if_eq (tgt := 125) hx hb dX12_advance_80 (by decide) (fun hc_106 => ?_) (fun hc_106 => ?_)
            · have hhc_106 := n_eq (rfl : r_103.toInt = r_103.toInt) (by decide : (0 : Int32).toInt = 0) hc_106
              refine lv_iload_n hx hb dX12_advance_125 rfl (lv_at hl 0 rfl) ?_
              refine lv_i2l hx hb dX12_advance_126 rfl ?_
              refine lv_topl (fun z_107 ez_107 => ?_)
              have hz_107 : z_107.toInt = r_77.toInt := ez_107 ▸ j_of rfl
              refine lv_ldc2 (v := 48) hx hb X.2.2.2.2.2.1 (X.2.2.2.2.1 _ (List.mem_of_getElem? (i := 12) rfl)) dX12_advance_127 ?_
              refine lv_ldc2 (v := 57) hx hb X.2.2.2.2.2.1 (X.2.2.2.2.1 _ (List.mem_of_getElem? (i := 13) rfl)) dX12_advance_130 ?_
              have hgi_108 := gI_of hgc_61 hk_62
              have hgi_109 := gI_of hgc_61 hk_63
              have hgi_110 := gI_of hgc_61 hk_64
              have hgi_111 := gI_of hgc_61 hk_65
              refine s_callSi (As := [.long z_107, .long 48, .long 57]) (rest := []) X Z (s_X12_in l D cs ad kS K hKO hj gc_61 hWc_61 z_107 48 57) (cwS 3 X.2.2.2.2.1 gg_X12_advance_X12_in rfl rfl rfl (by decide +kernel) ⟨Nat.le_of_ble_eq_true rfl, Nat.le_of_ble_eq_true rfl⟩) hP hA hS.2.1 hS rfl hl.1 rfl (Nat.le_of_ble_eq_true rfl) dX12_advance_133 ⟨Nat.le_of_ble_eq_true rfl, Nat.le_of_ble_eq_true rfl⟩ (fun r_114 g_113 H locs hw_112 hP hS => ?_)
              obtain ⟨hw_112g, hw_112⟩ := hw_112
              rw [hw_112g] at hP
              have hqk_115 : (48 : Int64).toInt = 48 := by decide
              have hqk_116 : (57 : Int64).toInt = 57 := by decide
              refine lv_if_eq (tgt := 214) hx hb dX12_advance_136 (by decide) (fun hc_117 => ?_) (fun hc_117 => ?_)
              · have hhc_117 := n_eq (rfl : r_114.toInt = r_114.toInt) (by decide : (0 : Int32).toInt = 0) hc_117
                refine lv_aload_n hx hb dX12_advance_214 rfl (lv_at hl 1 rfl) ?_
                refine lv_iload_n hx hb dX12_advance_215 rfl (lv_at hl 0 rfl) ?_
                refine lv_bipush (v := 59) hx hb dX12_advance_216 (by decide) ?_
                refine lv_icmp_ne (tgt := 225) hx hb dX12_advance_218 (by decide) (fun hc_118 => ?_) (fun hc_118 => ?_)
                · have hhc_118 := n_ne (rfl : r_77.toInt = r_77.toInt) (by decide : (59 : Int32).toInt = 59) hc_118
                  refine lv_iconst (v := 4) hx hb dX12_advance_225 (by decide) ?_
                  refine s_put X iX12_advance_12 tyX12 tyX12_ok nmX12 hP hj hA hS (by decide) hgc_61 rfl 10 (by decide) (List.mem_of_getElem? (i := 7) rfl) rfl (ty := .int) (v := .int 4) (by decide +kernel) rfl rfl dX12_advance_226 hWc_61 (sh_197 ad K) hOc_61 rfl ⟨4, rfl, by decide, by decide⟩ (fun fsc_119 gc_119 H locs hOc_119 hkc_119 hnc_119 hgc_119 hfc_119 hWc_119 hP hS => ?_)
                  have hk_120 := (hnc_119 9 (by decide)).trans hkc_61
                  have hk_121 := (hnc_119 12 (by decide)).trans hk_63
                  have hk_122 := (hnc_119 7 (by decide)).trans hk_64
                  have hk_123 := (hnc_119 8 (by decide)).trans hk_65
                  have hfr_124 : ∀ j, j ≠ 197 → gc_119 j = g j := fun j hj => (hfc_119 j (by omega)).trans (hfr_66 j hj)
                  have hgi_125 := gI_of hgc_119 hkc_119
                  rw [(by decide : (4 : Int32).toInt = 4)] at hgi_125
                  have hgi_126 := gI_of hgc_119 hk_121
                  have hgi_127 := gI_of hgc_119 hk_122
                  have hgi_128 := gI_of hgc_119 hk_123
                  refine lv_aload_n hx hb dX12_advance_229 rfl (lv_at hl 1 rfl) ?_
                  refine lv_dup hx hb dX12_advance_230 rfl ?_
                  refine q_get X iX12_advance_12 hP (by decide) hgc_119 rfl 8 (by decide) (List.mem_of_getElem? (i := 1) rfl) (v := .int x_21) hk_123 dX12_advance_231 ?_
                  refine lv_iconst (v := 1) hx hb dX12_advance_234 (by decide) ?_
                  refine lv_iadd hx hb dX12_advance_235 ?_
                  refine lv_topi (fun z_129 ez_129 => ?_)
                  have hz_129 : z_129.toInt = x_21.toInt + 1 := n_add (rfl : x_21.toInt = x_21.toInt) (by decide : (1 : Int32).toInt = 1) ez_129 (by omega) (by omega)
                  refine s_put X iX12_advance_12 tyX12 tyX12_ok nmX12 hP hj hA hS (by decide) hgc_119 rfl 8 (by decide) (List.mem_of_getElem? (i := 1) rfl) rfl (ty := .int) (v := .int z_129) (by decide +kernel) rfl rfl dX12_advance_236 hWc_119 (sh_197 ad K) hOc_119 rfl ⟨z_129, rfl, by omega, by omega⟩ (fun fsc_130 gc_130 H locs hOc_130 hkc_130 hnc_130 hgc_130 hfc_130 hWc_130 hP hS => ?_)
                  have hk_131 := (hnc_130 10 (by decide)).trans hkc_119
                  have hk_132 := (hnc_130 9 (by decide)).trans hk_120
                  have hk_133 := (hnc_130 12 (by decide)).trans hk_121
                  have hk_134 := (hnc_130 7 (by decide)).trans hk_122
                  have hfr_135 : ∀ j, j ≠ 197 → gc_130 j = g j := fun j hj => (hfc_130 j (by omega)).trans (hfr_124 j hj)
                  have hgi_136 := gI_of hgc_130 hkc_130
                  have hgi_137 := gI_of hgc_130 hk_131
                  rw [(by decide : (4 : Int32).toInt = 4)] at hgi_137
                  have hgi_138 := gI_of hgc_130 hk_133
                  have hgi_139 := gI_of hgc_130 hk_134
                  have hgi_140 := gI_of hgc_130 hk_131
                  rw [(by decide : (4 : Int32).toInt = 4)] at hgi_140
                  have hgi_141 := gI_of hgc_130 hk_133
                  have hgi_142 := gI_of hgc_130 hk_134
                  have hgi_143 := gI_of hgc_130 hkc_130
                  exact HJ239 gc_130 _ _ ls (by omega) (by omega) (by omega) hWc_130 hfr_135 hP hS (lv_sub hl [] rfl)
                · have hhc_118 := n_eq (rfl : r_77.toInt = r_77.toInt) (by decide : (59 : Int32).toInt = 59) hc_118
                  refine lv_iconst (v := 3) hx hb dX12_advance_221 (by decide) ?_
                  refine lv_goto (tgt := 226) hx hb dX12_advance_222 (by decide) ?_
                  refine s_put X iX12_advance_12 tyX12 tyX12_ok nmX12 hP hj hA hS (by decide) hgc_61 rfl 10 (by decide) (List.mem_of_getElem? (i := 7) rfl) rfl (ty := .int) (v := .int 3) (by decide +kernel) rfl rfl dX12_advance_226 hWc_61 (sh_197 ad K) hOc_61 rfl ⟨3, rfl, by decide, by decide⟩ (fun fsc_144 gc_144 H locs hOc_144 hkc_144 hnc_144 hgc_144 hfc_144 hWc_144 hP hS => ?_)
                  have hk_145 := (hnc_144 9 (by decide)).trans hkc_61
                  have hk_146 := (hnc_144 12 (by decide)).trans hk_63
                  have hk_147 := (hnc_144 7 (by decide)).trans hk_64
                  have hk_148 := (hnc_144 8 (by decide)).trans hk_65
                  have hfr_149 : ∀ j, j ≠ 197 → gc_144 j = g j := fun j hj => (hfc_144 j (by omega)).trans (hfr_66 j hj)
                  have hgi_150 := gI_of hgc_144 hkc_144
                  rw [(by decide : (3 : Int32).toInt = 3)] at hgi_150
                  have hgi_151 := gI_of hgc_144 hk_146
                  have hgi_152 := gI_of hgc_144 hk_147
                  have hgi_153 := gI_of hgc_144 hk_148
                  refine lv_aload_n hx hb dX12_advance_229 rfl (lv_at hl 1 rfl) ?_
                  refine lv_dup hx hb dX12_advance_230 rfl ?_
                  refine q_get X iX12_advance_12 hP (by decide) hgc_144 rfl 8 (by decide) (List.mem_of_getElem? (i := 1) rfl) (v := .int x_21) hk_148 dX12_advance_231 ?_
                  refine lv_iconst (v := 1) hx hb dX12_advance_234 (by decide) ?_
                  refine lv_iadd hx hb dX12_advance_235 ?_
                  refine lv_topi (fun z_154 ez_154 => ?_)
                  have hz_154 : z_154.toInt = x_21.toInt + 1 := n_add (rfl : x_21.toInt = x_21.toInt) (by decide : (1 : Int32).toInt = 1) ez_154 (by omega) (by omega)
                  refine s_put X iX12_advance_12 tyX12 tyX12_ok nmX12 hP hj hA hS (by decide) hgc_144 rfl 8 (by decide) (List.mem_of_getElem? (i := 1) rfl) rfl (ty := .int) (v := .int z_154) (by decide +kernel) rfl rfl dX12_advance_236 hWc_144 (sh_197 ad K) hOc_144 rfl ⟨z_154, rfl, by omega, by omega⟩ (fun fsc_155 gc_155 H locs hOc_155 hkc_155 hnc_155 hgc_155 hfc_155 hWc_155 hP hS => ?_)
                  have hk_156 := (hnc_155 10 (by decide)).trans hkc_144
                  have hk_157 := (hnc_155 9 (by decide)).trans hk_145
                  have hk_158 := (hnc_155 12 (by decide)).trans hk_146
                  have hk_159 := (hnc_155 7 (by decide)).trans hk_147
                  have hfr_160 : ∀ j, j ≠ 197 → gc_155 j = g j := fun j hj => (hfc_155 j (by omega)).trans (hfr_149 j hj)
                  have hgi_161 := gI_of hgc_155 hkc_155
                  have hgi_162 := gI_of hgc_155 hk_156
                  rw [(by decide : (3 : Int32).toInt = 3)] at hgi_162
                  have hgi_163 := gI_of hgc_155 hk_158
                  have hgi_164 := gI_of hgc_155 hk_159
                  have hgi_165 := gI_of hgc_155 hk_156
                  rw [(by decide : (3 : Int32).toInt = 3)] at hgi_165
                  have hgi_166 := gI_of hgc_155 hk_158
                  have hgi_167 := gI_of hgc_155 hk_159
                  have hgi_168 := gI_of hgc_155 hkc_155
                  exact HJ239 gc_155 _ _ ls (by omega) (by omega) (by omega) hWc_155 hfr_160 hP hS (lv_sub hl [] rfl)
              · have hhc_117 := n_ne (rfl : r_114.toInt = r_114.toInt) (by decide : (0 : Int32).toInt = 0) hc_117
                refine lv_aload_n hx hb dX12_advance_139 rfl (lv_at hl 1 rfl) ?_
                refine lv_iconst (v := 0) hx hb dX12_advance_140 (by decide) ?_
                refine s_put X iX12_advance_12 tyX12 tyX12_ok nmX12 hP hj hA hS (by decide) hgc_61 rfl 11 (by decide) (List.mem_of_getElem? (i := 14) rfl) rfl (ty := .int) (v := .int 0) (by decide +kernel) rfl rfl dX12_advance_141 hWc_61 (sh_197 ad K) hOc_61 rfl ⟨0, rfl, n_lo _, n_hi _⟩ (fun fsc_169 gc_169 H locs hOc_169 hkc_169 hnc_169 hgc_169 hfc_169 hWc_169 hP hS => ?_)
                have hk_170 := (hnc_169 9 (by decide)).trans hkc_61
                have hk_171 := (hnc_169 10 (by decide)).trans hk_62
                have hk_172 := (hnc_169 12 (by decide)).trans hk_63
                have hk_173 := (hnc_169 7 (by decide)).trans hk_64
                have hk_174 := (hnc_169 8 (by decide)).trans hk_65
                have hfr_175 : ∀ j, j ≠ 197 → gc_169 j = g j := fun j hj => (hfc_169 j (by omega)).trans (hfr_66 j hj)
                have hgi_176 := gI_of hgc_169 hk_171
                have hgi_177 := gI_of hgc_169 hk_172
                have hgi_178 := gI_of hgc_169 hk_173
                have hgi_179 := gI_of hgc_169 hk_174
                have HL144 : ∀ (n144 : Nat) (G144 : Nat → va_E) (H : Heap) (locs : List Loc) (ls : Array Slot), (1000 - gI G144 197 8).toNat < n144 → gI g 197 8 ≤ gI G144 197 8 → gI G144 197 12 = gI g 197 12 → (gI g 197 8 < gI G144 197 8 ∨ ∀ k : Int, k = gI G144 197 8 → 48 ≤ seeI G144 k ∧ seeI G144 k ≤ 57) → WF (shp ad K) ad cs G144 → (∀ j, j ≠ 197 → G144 j = g j) → va_P D vwCl (wL ad G144 218) H → va_S (wA ad 218) s.heap H locs → lv_has ls 2 [(0, .ref (ad 197))] → W p l e ({ frames := 1, cells := 0, slots := 0, locals := 25 } : Room) s m ([.ref (ad 197)] : List Value).toArray below meth c H locs 0 0 (MQ below (qV D ad 218 (fun g2 => WF (shp ad K) ad cs g2 ∧ (∀ j, j ≠ 197 → g2 j = g j) ∧ (gI g 197 8 ≤ gI g2 197 8 ∧ (gI g2 197 10 ≠ 0 → gI g 197 8 < gI g2 197 8) ∧ gI g2 197 12 = gI g 197 12))) ([.ref (ad 197)] : List Value).toArray s 0 0 (wA ad 218)) (F0 m 144 ls []) := by
                  intro n144
                  induction n144 with
                  | zero =>
                    intro G144 H locs ls hm144 he144_0 he144_1 he144_2 hW144 hfr144 hP hS hl
                    exact absurd hm144 (Nat.not_lt_zero _)
                  | succ n144 ih144 =>
                    intro G144 H locs ls hm144 he144_0 he144_1 he144_2 hW144 hfr144 hP hS hl
                    obtain ⟨fsc_180, hgc_180, hOc_180⟩ := hW144.obj (i := 197) (by decide) (sh_197 ad K)
                    obtain ⟨x_182, hk_181, hlx_182, hhx_182⟩ := hOc_180.int 10 rfl
                    have hgix_182 := gI_of hgc_180 hk_181
                    obtain ⟨x_185, hk_184, -⟩ := hOc_180.int 12 rfl
                    have hgix_185 := gI_of hgc_180 hk_184
                    obtain ⟨x_188, hk_187, hlx_188, hhx_188⟩ := hOc_180.int 7 rfl
                    have hgix_188 := gI_of hgc_180 hk_187
                    obtain ⟨x_191, hk_190, hlx_191, hhx_191⟩ := hOc_180.int 8 rfl
                    have hgix_191 := gI_of hgc_180 hk_190
                    refine lv_aload_n hx hb dX12_advance_144 rfl (lv_at hl 0 rfl) ?_
                    refine lv_aload_n hx hb dX12_advance_145 rfl (lv_at hl 0 rfl) ?_
                    refine q_get X iX12_advance_12 hP (by decide) hgc_180 rfl 8 (by decide) (List.mem_of_getElem? (i := 1) rfl) (v := .int x_191) hk_190 dX12_advance_146 ?_
                    have hgi_193 := gI_of hgc_180 hk_181
                    have hgi_194 := gI_of hgc_180 hk_184
                    have hgi_195 := gI_of hgc_180 hk_187
                    have hgi_196 := gI_of hgc_180 hk_190
                    refine s_calli (q := (RX12, TX12, 40)) (As := [.int x_191]) (rest := []) X Z (s_X12_see l D cs ad kS K hKO hj G144 hW144 x_191 (by omega)) (cwV 1 X.2.2.2.2.1 gg_X12_advance_X12_see rfl rfl rfl (by decide +kernel) ⟨Nat.le_of_ble_eq_true rfl, Nat.le_of_ble_eq_true rfl⟩) (by decide) hgc_180 rfl hP hA hS.2.1 hS rfl hl.1 rfl (Nat.le_of_ble_eq_true rfl) dX12_advance_149 ⟨Nat.le_of_ble_eq_true rfl, Nat.le_of_ble_eq_true rfl⟩ (fun r_199 g_198 H locs hw_197 hP hS => ?_)
                    obtain ⟨hw_197g, hw_197⟩ := hw_197
                    rw [hw_197g] at hP
                    have hser_199 : gI g 197 8 < gI G144 197 8 ∨ (48 ≤ r_199.toInt ∧ r_199.toInt ≤ 57) := he144_2.imp id (fun q => by rw [hw_197.2.2.1]; exact q _ (by omega))
                    refine lv_i2l hx hb dX12_advance_152 rfl ?_
                    refine lv_topl (fun z_200 ez_200 => ?_)
                    have hz_200 : z_200.toInt = r_199.toInt := ez_200 ▸ j_of rfl
                    refine lv_ldc2 (v := 48) hx hb X.2.2.2.2.2.1 (X.2.2.2.2.1 _ (List.mem_of_getElem? (i := 12) rfl)) dX12_advance_153 ?_
                    refine lv_ldc2 (v := 57) hx hb X.2.2.2.2.2.1 (X.2.2.2.2.1 _ (List.mem_of_getElem? (i := 13) rfl)) dX12_advance_156 ?_
                    have hgi_201 := gI_of hgc_180 hk_181
                    have hgi_202 := gI_of hgc_180 hk_184
                    have hgi_203 := gI_of hgc_180 hk_187
                    have hgi_204 := gI_of hgc_180 hk_190
                    refine s_callSi (As := [.long z_200, .long 48, .long 57]) (rest := []) X Z (s_X12_in l D cs ad kS K hKO hj G144 hW144 z_200 48 57) (cwS 3 X.2.2.2.2.1 gg_X12_advance_X12_in rfl rfl rfl (by decide +kernel) ⟨Nat.le_of_ble_eq_true rfl, Nat.le_of_ble_eq_true rfl⟩) hP hA hS.2.1 hS rfl hl.1 rfl (Nat.le_of_ble_eq_true rfl) dX12_advance_159 ⟨Nat.le_of_ble_eq_true rfl, Nat.le_of_ble_eq_true rfl⟩ (fun r_207 g_206 H locs hw_205 hP hS => ?_)
                    obtain ⟨hw_205g, hw_205⟩ := hw_205
                    rw [hw_205g] at hP
                    have hqk_208 : (48 : Int64).toInt = 48 := by decide
                    have hqk_209 : (57 : Int64).toInt = 57 := by decide
                    refine lv_if_eq (tgt := 206) hx hb dX12_advance_162 (by decide) (fun hc_210 => ?_) (fun hc_210 => ?_)
                    · have hhc_210 := n_eq (rfl : r_207.toInt = r_207.toInt) (by decide : (0 : Int32).toInt = 0) hc_210
                      refine lv_aload_n hx hb dX12_advance_206 rfl (lv_at hl 0 rfl) ?_
                      refine lv_iconst (v := 2) hx hb dX12_advance_207 (by decide) ?_
                      refine s_put X iX12_advance_12 tyX12 tyX12_ok nmX12 hP hj hA hS (by decide) hgc_180 rfl 10 (by decide) (List.mem_of_getElem? (i := 7) rfl) rfl (ty := .int) (v := .int 2) (by decide +kernel) rfl rfl dX12_advance_208 hW144 (sh_197 ad K) hOc_180 rfl ⟨2, rfl, by decide, by decide⟩ (fun fsc_211 gc_211 H locs hOc_211 hkc_211 hnc_211 hgc_211 hfc_211 hWc_211 hP hS => ?_)
                      have hk_212 := (hnc_211 12 (by decide)).trans hk_184
                      have hk_213 := (hnc_211 7 (by decide)).trans hk_187
                      have hk_214 := (hnc_211 8 (by decide)).trans hk_190
                      have hfr_215 : ∀ j, j ≠ 197 → gc_211 j = g j := fun j hj => (hfc_211 j (by omega)).trans (hfr144 j hj)
                      have hgi_216 := gI_of hgc_211 hkc_211
                      rw [(by decide : (2 : Int32).toInt = 2)] at hgi_216
                      have hgi_217 := gI_of hgc_211 hk_212
                      have hgi_218 := gI_of hgc_211 hk_213
                      have hgi_219 := gI_of hgc_211 hk_214
                      refine lv_goto (tgt := 239) hx hb dX12_advance_211 (by decide) ?_
                      have hgi_220 := gI_of hgc_211 hkc_211
                      rw [(by decide : (2 : Int32).toInt = 2)] at hgi_220
                      have hgi_221 := gI_of hgc_211 hk_212
                      have hgi_222 := gI_of hgc_211 hk_213
                      have hgi_223 := gI_of hgc_211 hk_214
                      exact HJ239 gc_211 _ _ ls (by omega) (by omega) (by omega) hWc_211 hfr_215 hP hS (lv_sub hl [] rfl)
                    · have hhc_210 := n_ne (rfl : r_207.toInt = r_207.toInt) (by decide : (0 : Int32).toInt = 0) hc_210
                      refine lv_aload_n hx hb dX12_advance_165 rfl (lv_at hl 0 rfl) ?_
                      refine lv_ldc (v := 99999) hx hb X.2.2.2.2.2.1 (X.2.2.2.2.1 _ (List.mem_of_getElem? (i := 15) rfl)) dX12_advance_166 ?_
                      refine lv_bipush (v := 10) hx hb dX12_advance_168 (by decide) ?_
                      refine lv_aload_n hx hb dX12_advance_170 rfl (lv_at hl 0 rfl) ?_
                      obtain ⟨x_225, hk_224, -⟩ := hOc_180.int 11 rfl
                      refine q_get X iX12_advance_12 hP (by decide) hgc_180 rfl 11 (by decide) (List.mem_of_getElem? (i := 14) rfl) (v := .int x_225) hk_224 dX12_advance_171 ?_
                      refine lv_imul hx hb dX12_advance_174 ?_
                      refine lv_topi (fun z_226 ez_226 => ?_)
                      refine lv_aload_n hx hb dX12_advance_175 rfl (lv_at hl 0 rfl) ?_
                      refine lv_aload_n hx hb dX12_advance_176 rfl (lv_at hl 0 rfl) ?_
                      refine q_get X iX12_advance_12 hP (by decide) hgc_180 rfl 8 (by decide) (List.mem_of_getElem? (i := 1) rfl) (v := .int x_191) hk_190 dX12_advance_177 ?_
                      have hgi_227 := gI_of hgc_180 hk_181
                      have hgi_228 := gI_of hgc_180 hk_184
                      have hgi_229 := gI_of hgc_180 hk_187
                      have hgi_230 := gI_of hgc_180 hk_190
                      refine s_calli (q := (RX12, TX12, 40)) (As := [.int x_191]) (rest := [.int z_226, .int 99999, .ref (ad 197)]) X Z (s_X12_see l D cs ad kS K hKO hj G144 hW144 x_191 (by omega)) (cwV 1 X.2.2.2.2.1 gg_X12_advance_X12_see rfl rfl rfl (by decide +kernel) ⟨Nat.le_of_ble_eq_true rfl, Nat.le_of_ble_eq_true rfl⟩) (by decide) hgc_180 rfl hP hA hS.2.1 hS rfl hl.1 rfl (Nat.le_of_ble_eq_true rfl) dX12_advance_180 ⟨Nat.le_of_ble_eq_true rfl, Nat.le_of_ble_eq_true rfl⟩ (fun r_233 g_232 H locs hw_231 hP hS => ?_)
                      obtain ⟨hw_231g, hw_231⟩ := hw_231
                      rw [hw_231g] at hP
                      refine lv_iadd hx hb dX12_advance_183 ?_
                      refine lv_topi (fun z_234 ez_234 => ?_)
                      refine lv_bipush (v := 48) hx hb dX12_advance_184 (by decide) ?_
                      refine lv_isub hx hb dX12_advance_186 ?_
                      refine lv_topi (fun z_235 ez_235 => ?_)
                      refine va_mmin hx hb (X.2.2.2.1.trans hl.1.symm) X.2.2.2.2.2.1 (X.2.2.2.2.1 _ (List.mem_of_getElem? (i := 16) rfl)) (X.2.2.2.2.1 _ (List.mem_of_getElem? (i := 17) rfl)) (X.2.2.2.2.1 _ (List.mem_of_getElem? (i := 18) rfl)) (X.2.2.2.2.1 _ (List.mem_of_getElem? (i := 19) rfl)) (Nat.le_of_ble_eq_true rfl) (Nat.le_of_ble_eq_true rfl) (Nat.le_of_ble_eq_true rfl) (Nat.le_of_ble_eq_true rfl) dX12_advance_187 ?_
                      refine lv_topi (fun z_236 ez_236 => ?_)
                      have hz_236 := n_min (by decide : (99999 : Int32).toInt = 99999) (rfl : z_235.toInt = z_235.toInt) ez_236
                      refine s_put X iX12_advance_12 tyX12 tyX12_ok nmX12 hP hj hA hS (by decide) hgc_180 rfl 11 (by decide) (List.mem_of_getElem? (i := 14) rfl) rfl (ty := .int) (v := .int z_236) (by decide +kernel) rfl rfl dX12_advance_190 hW144 (sh_197 ad K) hOc_180 rfl ⟨z_236, rfl, n_lo _, n_hi _⟩ (fun fsc_237 gc_237 H locs hOc_237 hkc_237 hnc_237 hgc_237 hfc_237 hWc_237 hP hS => ?_)
                      have hk_238 := (hnc_237 10 (by decide)).trans hk_181
                      have hk_239 := (hnc_237 12 (by decide)).trans hk_184
                      have hk_240 := (hnc_237 7 (by decide)).trans hk_187
                      have hk_241 := (hnc_237 8 (by decide)).trans hk_190
                      have hfr_242 : ∀ j, j ≠ 197 → gc_237 j = g j := fun j hj => (hfc_237 j (by omega)).trans (hfr144 j hj)
                      have hgi_243 := gI_of hgc_237 hk_238
                      have hgi_244 := gI_of hgc_237 hk_239
                      have hgi_245 := gI_of hgc_237 hk_240
                      have hgi_246 := gI_of hgc_237 hk_241
                      refine lv_aload_n hx hb dX12_advance_193 rfl (lv_at hl 0 rfl) ?_
                      refine lv_dup hx hb dX12_advance_194 rfl ?_
                      refine q_get X iX12_advance_12 hP (by decide) hgc_237 rfl 8 (by decide) (List.mem_of_getElem? (i := 1) rfl) (v := .int x_191) hk_241 dX12_advance_195 ?_
                      refine lv_iconst (v := 1) hx hb dX12_advance_198 (by decide) ?_
                      refine lv_iadd hx hb dX12_advance_199 ?_
                      refine lv_topi (fun z_247 ez_247 => ?_)
                      have hz_247 : z_247.toInt = x_191.toInt + 1 := n_add (rfl : x_191.toInt = x_191.toInt) (by decide : (1 : Int32).toInt = 1) ez_247 (by omega) (by omega)
                      refine s_put X iX12_advance_12 tyX12 tyX12_ok nmX12 hP hj hA hS (by decide) hgc_237 rfl 8 (by decide) (List.mem_of_getElem? (i := 1) rfl) rfl (ty := .int) (v := .int z_247) (by decide +kernel) rfl rfl dX12_advance_200 hWc_237 (sh_197 ad K) hOc_237 rfl ⟨z_247, rfl, by omega, by omega⟩ (fun fsc_248 gc_248 H locs hOc_248 hkc_248 hnc_248 hgc_248 hfc_248 hWc_248 hP hS => ?_)
                      have hk_249 := (hnc_248 11 (by decide)).trans hkc_237
                      have hk_250 := (hnc_248 10 (by decide)).trans hk_238
                      have hk_251 := (hnc_248 12 (by decide)).trans hk_239
                      have hk_252 := (hnc_248 7 (by decide)).trans hk_240
                      have hfr_253 : ∀ j, j ≠ 197 → gc_248 j = g j := fun j hj => (hfc_248 j (by omega)).trans (hfr_242 j hj)
                      have hgi_254 := gI_of hgc_248 hkc_248
                      have hgi_255 := gI_of hgc_248 hk_250
                      have hgi_256 := gI_of hgc_248 hk_251
                      have hgi_257 := gI_of hgc_248 hk_252
                      refine lv_goto (tgt := 144) hx hb dX12_advance_203 (by decide) ?_
                      have hgi_258 := gI_of hgc_248 hk_250
                      have hgi_259 := gI_of hgc_248 hk_251
                      have hgi_260 := gI_of hgc_248 hk_252
                      have hgi_261 := gI_of hgc_248 hkc_248
                      exact ih144 gc_248 _ _ ls (by omega) (by omega) (by omega) (Or.inl (by omega)) hWc_248 hfr_253 hP hS (lv_sub hl [0] rfl)
                have hgi_262 := gI_of hgc_169 hk_171
                have hgi_263 := gI_of hgc_169 hk_172
                have hgi_264 := gI_of hgc_169 hk_173
                have hgi_265 := gI_of hgc_169 hk_174
                exact HL144 _ gc_169 _ _ ls (Nat.lt_succ_self _) (by omega) (by omega) (Or.inr (fun k q => by rw [show k = x_21.toInt by omega, seeI_tr (g := gc_61) (by omega) (hfc_169 201 (by decide)), ← hw_75.2.2.1]; omega)) hWc_169 hfr_175 hP hS (lv_sub hl [1] rfl)
            · have hhc_106 := n_ne (rfl : r_103.toInt = r_103.toInt) (by decide : (0 : Int32).toInt = 0) hc_106
              have HL83 : ∀ (n83 : Nat) (G83 : Nat → va_E) (H : Heap) (locs : List Loc) (ls : Array Slot), (1000 - gI G83 197 8).toNat < n83 → gI g 197 8 ≤ gI G83 197 8 → gI G83 197 12 = gI g 197 12 → (gI g 197 8 < gI G83 197 8 ∨ ∀ k : Int, k = gI G83 197 8 → 97 ≤ seeI G83 k ∧ seeI G83 k ≤ 122) → WF (shp ad K) ad cs G83 → (∀ j, j ≠ 197 → G83 j = g j) → va_P D vwCl (wL ad G83 218) H → va_S (wA ad 218) s.heap H locs → lv_has ls 2 [(0, .ref (ad 197))] → W p l e ({ frames := 1, cells := 0, slots := 0, locals := 25 } : Room) s m ([.ref (ad 197)] : List Value).toArray below meth c H locs 0 0 (MQ below (qV D ad 218 (fun g2 => WF (shp ad K) ad cs g2 ∧ (∀ j, j ≠ 197 → g2 j = g j) ∧ (gI g 197 8 ≤ gI g2 197 8 ∧ (gI g2 197 10 ≠ 0 → gI g 197 8 < gI g2 197 8) ∧ gI g2 197 12 = gI g 197 12))) ([.ref (ad 197)] : List Value).toArray s 0 0 (wA ad 218)) (F0 m 83 ls []) := by
                intro n83
                induction n83 with
                | zero =>
                  intro G83 H locs ls hm83 he83_0 he83_1 he83_2 hW83 hfr83 hP hS hl
                  exact absurd hm83 (Nat.not_lt_zero _)
                | succ n83 ih83 =>
                  intro G83 H locs ls hm83 he83_0 he83_1 he83_2 hW83 hfr83 hP hS hl
                  obtain ⟨fsc_266, hgc_266, hOc_266⟩ := hW83.obj (i := 197) (by decide) (sh_197 ad K)
                  obtain ⟨x_268, hk_267, hlx_268, hhx_268⟩ := hOc_266.int 10 rfl
                  have hgix_268 := gI_of hgc_266 hk_267
                  obtain ⟨x_271, hk_270, -⟩ := hOc_266.int 12 rfl
                  have hgix_271 := gI_of hgc_266 hk_270
                  obtain ⟨x_274, hk_273, hlx_274, hhx_274⟩ := hOc_266.int 7 rfl
                  have hgix_274 := gI_of hgc_266 hk_273
                  obtain ⟨x_277, hk_276, hlx_277, hhx_277⟩ := hOc_266.int 8 rfl
                  have hgix_277 := gI_of hgc_266 hk_276
                  refine lv_aload_n hx hb dX12_advance_83 rfl (lv_at hl 0 rfl) ?_
                  refine lv_aload_n hx hb dX12_advance_84 rfl (lv_at hl 0 rfl) ?_
                  refine q_get X iX12_advance_12 hP (by decide) hgc_266 rfl 8 (by decide) (List.mem_of_getElem? (i := 1) rfl) (v := .int x_277) hk_276 dX12_advance_85 ?_
                  have hgi_279 := gI_of hgc_266 hk_267
                  have hgi_280 := gI_of hgc_266 hk_270
                  have hgi_281 := gI_of hgc_266 hk_273
                  have hgi_282 := gI_of hgc_266 hk_276
                  refine s_calli (q := (RX12, TX12, 40)) (As := [.int x_277]) (rest := []) X Z (s_X12_see l D cs ad kS K hKO hj G83 hW83 x_277 (by omega)) (cwV 1 X.2.2.2.2.1 gg_X12_advance_X12_see rfl rfl rfl (by decide +kernel) ⟨Nat.le_of_ble_eq_true rfl, Nat.le_of_ble_eq_true rfl⟩) (by decide) hgc_266 rfl hP hA hS.2.1 hS rfl hl.1 rfl (Nat.le_of_ble_eq_true rfl) dX12_advance_88 ⟨Nat.le_of_ble_eq_true rfl, Nat.le_of_ble_eq_true rfl⟩ (fun r_285 g_284 H locs hw_283 hP hS => ?_)
                  obtain ⟨hw_283g, hw_283⟩ := hw_283
                  rw [hw_283g] at hP
                  have hser_285 : gI g 197 8 < gI G83 197 8 ∨ (97 ≤ r_285.toInt ∧ r_285.toInt ≤ 122) := he83_2.imp id (fun q => by rw [hw_283.2.2.1]; exact q _ (by omega))
                  refine lv_i2l hx hb dX12_advance_91 rfl ?_
                  refine lv_topl (fun z_286 ez_286 => ?_)
                  have hz_286 : z_286.toInt = r_285.toInt := ez_286 ▸ j_of rfl
                  refine lv_ldc2 (v := 97) hx hb X.2.2.2.2.2.1 (X.2.2.2.2.1 _ (List.mem_of_getElem? (i := 8) rfl)) dX12_advance_92 ?_
                  refine lv_ldc2 (v := 122) hx hb X.2.2.2.2.2.1 (X.2.2.2.2.1 _ (List.mem_of_getElem? (i := 9) rfl)) dX12_advance_95 ?_
                  have hgi_287 := gI_of hgc_266 hk_267
                  have hgi_288 := gI_of hgc_266 hk_270
                  have hgi_289 := gI_of hgc_266 hk_273
                  have hgi_290 := gI_of hgc_266 hk_276
                  refine s_callSi (As := [.long z_286, .long 97, .long 122]) (rest := []) X Z (s_X12_in l D cs ad kS K hKO hj G83 hW83 z_286 97 122) (cwS 3 X.2.2.2.2.1 gg_X12_advance_X12_in rfl rfl rfl (by decide +kernel) ⟨Nat.le_of_ble_eq_true rfl, Nat.le_of_ble_eq_true rfl⟩) hP hA hS.2.1 hS rfl hl.1 rfl (Nat.le_of_ble_eq_true rfl) dX12_advance_98 ⟨Nat.le_of_ble_eq_true rfl, Nat.le_of_ble_eq_true rfl⟩ (fun r_293 g_292 H locs hw_291 hP hS => ?_)
                  obtain ⟨hw_291g, hw_291⟩ := hw_291
                  rw [hw_291g] at hP
                  have hqk_294 : (97 : Int64).toInt = 97 := by decide
                  have hqk_295 : (122 : Int64).toInt = 122 := by decide
                  refine lv_if_eq (tgt := 117) hx hb dX12_advance_101 (by decide) (fun hc_296 => ?_) (fun hc_296 => ?_)
                  · have hhc_296 := n_eq (rfl : r_293.toInt = r_293.toInt) (by decide : (0 : Int32).toInt = 0) hc_296
                    refine lv_aload_n hx hb dX12_advance_117 rfl (lv_at hl 0 rfl) ?_
                    refine lv_iconst (v := 1) hx hb dX12_advance_118 (by decide) ?_
                    refine s_put X iX12_advance_12 tyX12 tyX12_ok nmX12 hP hj hA hS (by decide) hgc_266 rfl 10 (by decide) (List.mem_of_getElem? (i := 7) rfl) rfl (ty := .int) (v := .int 1) (by decide +kernel) rfl rfl dX12_advance_119 hW83 (sh_197 ad K) hOc_266 rfl ⟨1, rfl, by decide, by decide⟩ (fun fsc_297 gc_297 H locs hOc_297 hkc_297 hnc_297 hgc_297 hfc_297 hWc_297 hP hS => ?_)
                    have hk_298 := (hnc_297 12 (by decide)).trans hk_270
                    have hk_299 := (hnc_297 7 (by decide)).trans hk_273
                    have hk_300 := (hnc_297 8 (by decide)).trans hk_276
                    have hfr_301 : ∀ j, j ≠ 197 → gc_297 j = g j := fun j hj => (hfc_297 j (by omega)).trans (hfr83 j hj)
                    have hgi_302 := gI_of hgc_297 hkc_297
                    rw [(by decide : (1 : Int32).toInt = 1)] at hgi_302
                    have hgi_303 := gI_of hgc_297 hk_298
                    have hgi_304 := gI_of hgc_297 hk_299
                    have hgi_305 := gI_of hgc_297 hk_300
                    refine lv_goto (tgt := 239) hx hb dX12_advance_122 (by decide) ?_
                    have hgi_306 := gI_of hgc_297 hkc_297
                    rw [(by decide : (1 : Int32).toInt = 1)] at hgi_306
                    have hgi_307 := gI_of hgc_297 hk_298
                    have hgi_308 := gI_of hgc_297 hk_299
                    have hgi_309 := gI_of hgc_297 hk_300
                    exact HJ239 gc_297 _ _ ls (by omega) (by omega) (by omega) hWc_297 hfr_301 hP hS (lv_sub hl [] rfl)
                  · have hhc_296 := n_ne (rfl : r_293.toInt = r_293.toInt) (by decide : (0 : Int32).toInt = 0) hc_296
                    refine lv_aload_n hx hb dX12_advance_104 rfl (lv_at hl 0 rfl) ?_
                    refine lv_dup hx hb dX12_advance_105 rfl ?_
                    refine q_get X iX12_advance_12 hP (by decide) hgc_266 rfl 8 (by decide) (List.mem_of_getElem? (i := 1) rfl) (v := .int x_277) hk_276 dX12_advance_106 ?_
                    refine lv_iconst (v := 1) hx hb dX12_advance_109 (by decide) ?_
                    refine lv_iadd hx hb dX12_advance_110 ?_
                    refine lv_topi (fun z_310 ez_310 => ?_)
                    have hz_310 : z_310.toInt = x_277.toInt + 1 := n_add (rfl : x_277.toInt = x_277.toInt) (by decide : (1 : Int32).toInt = 1) ez_310 (by omega) (by omega)
                    refine s_put X iX12_advance_12 tyX12 tyX12_ok nmX12 hP hj hA hS (by decide) hgc_266 rfl 8 (by decide) (List.mem_of_getElem? (i := 1) rfl) rfl (ty := .int) (v := .int z_310) (by decide +kernel) rfl rfl dX12_advance_111 hW83 (sh_197 ad K) hOc_266 rfl ⟨z_310, rfl, by omega, by omega⟩ (fun fsc_311 gc_311 H locs hOc_311 hkc_311 hnc_311 hgc_311 hfc_311 hWc_311 hP hS => ?_)
                    have hk_312 := (hnc_311 10 (by decide)).trans hk_267
                    have hk_313 := (hnc_311 12 (by decide)).trans hk_270
                    have hk_314 := (hnc_311 7 (by decide)).trans hk_273
                    have hfr_315 : ∀ j, j ≠ 197 → gc_311 j = g j := fun j hj => (hfc_311 j (by omega)).trans (hfr83 j hj)
                    have hgi_316 := gI_of hgc_311 hkc_311
                    have hgi_317 := gI_of hgc_311 hk_312
                    have hgi_318 := gI_of hgc_311 hk_313
                    have hgi_319 := gI_of hgc_311 hk_314
                    refine lv_goto (tgt := 83) hx hb dX12_advance_114 (by decide) ?_
                    have hgi_320 := gI_of hgc_311 hk_312
                    have hgi_321 := gI_of hgc_311 hk_313
                    have hgi_322 := gI_of hgc_311 hk_314
                    have hgi_323 := gI_of hgc_311 hkc_311
                    exact ih83 gc_311 _ _ ls (by omega) (by omega) (by omega) (Or.inl (by omega)) hWc_311 hfr_315 hP hS (lv_sub hl [0] rfl)
              have hgi_324 := gI_of hgc_61 hk_62
              have hgi_325 := gI_of hgc_61 hk_63
              have hgi_326 := gI_of hgc_61 hk_64
              have hgi_327 := gI_of hgc_61 hk_65
              exact HL83 _ gc_61 _ _ ls (Nat.lt_succ_self _) (by omega) (by omega) (Or.inr (fun k q => by rw [show k = x_21.toInt by omega, ← hw_75.2.2.1]; omega)) hWc_61 hfr_66 hP hS (lv_sub hl [1] rfl)
          · have hhc_95 := n_eq (rfl : r_77.toInt = r_77.toInt) (by decide : (-1 : Int32).toInt = -1) hc_95
            refine lv_aload_n hx hb dX12_advance_61 rfl (lv_at hl 1 rfl) ?_
            refine lv_iconst (v := 0) hx hb dX12_advance_62 (by decide) ?_
            refine s_put X iX12_advance_12 tyX12 tyX12_ok nmX12 hP hj hA hS (by decide) hgc_61 rfl 10 (by decide) (List.mem_of_getElem? (i := 7) rfl) rfl (ty := .int) (v := .int 0) (by decide +kernel) rfl rfl dX12_advance_63 hWc_61 (sh_197 ad K) hOc_61 rfl ⟨0, rfl, by decide, by decide⟩ (fun fsc_328 gc_328 H locs hOc_328 hkc_328 hnc_328 hgc_328 hfc_328 hWc_328 hP hS => ?_)
            have hk_329 := (hnc_328 9 (by decide)).trans hkc_61
            have hk_330 := (hnc_328 12 (by decide)).trans hk_63
            have hk_331 := (hnc_328 7 (by decide)).trans hk_64
            have hk_332 := (hnc_328 8 (by decide)).trans hk_65
            have hfr_333 : ∀ j, j ≠ 197 → gc_328 j = g j := fun j hj => (hfc_328 j (by omega)).trans (hfr_66 j hj)
            have hgi_334 := gI_of hgc_328 hkc_328
            rw [(by decide : (0 : Int32).toInt = 0)] at hgi_334
            have hgi_335 := gI_of hgc_328 hk_330
            have hgi_336 := gI_of hgc_328 hk_331
            have hgi_337 := gI_of hgc_328 hk_332
            refine lv_goto (tgt := 239) hx hb dX12_advance_66 (by decide) ?_
            have hgi_338 := gI_of hgc_328 hkc_328
            rw [(by decide : (0 : Int32).toInt = 0)] at hgi_338
            have hgi_339 := gI_of hgc_328 hk_330
            have hgi_340 := gI_of hgc_328 hk_331
            have hgi_341 := gI_of hgc_328 hk_332
            exact HJ239 gc_328 _ _ ls (by omega) (by omega) (by omega) hWc_328 hfr_333 hP hS (lv_sub hl [] rfl)
        · have hhc_60 := n_eq (rfl : r_59.toInt = r_59.toInt) (by decide : (10 : Int32).toInt = 10) hc_60
          have hgi_342 := gI_of hgc_10 hk_11
          have hgi_343 := gI_of hgc_10 hk_14
          have hgi_344 := gI_of hgc_10 hk_17
          have hgi_345 := gI_of hgc_10 hk_20
          exact HJ26 G0 _ _ ls (by omega) (by omega) (by omega) (by omega) hW0 hfr0 hgc_10 hP hS (lv_sub hl [0] rfl)
  have hgi_346 := gI_of hgc_1 hk_2
  have hgi_347 := gI_of hgc_1 hk_4
  have hgi_348 := gI_of hgc_1 hk_6
  have hgi_349 := gI_of hgc_1 hk_8
  exact HL0 _ g _ _ ls (Nat.lt_succ_self _) (by omega) (by omega) hW hfr hP hS (lv_sub hl [0] rfl)
