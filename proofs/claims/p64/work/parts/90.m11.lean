set_option maxHeartbeats 4000000 in
set_option maxRecDepth 100000 in
theorem s_X12_bitsF (l : Launch) (D : va_G) (cs : Nat → ClassId) (ad : Nat → Nat) (kS : kSt) (K : sK) (hKO : KO K) (hj : wJ ad 218) (g : Nat → va_E) (hW : WF (shp ad K) ad cs g) (st : Int32) : sI l yX12_bits vX12_bits { frames := 0, cells := 0, slots := 0, locals := 0 } D cs ad kS [.int st] g (fun r g2 => g2 = g ∧ (r.toInt = bI st 14 ∧ 0 ≤ r.toInt ∧ r.toInt ≤ 14)) := by
  refine Met.startS (cc := cX12_bits) (maxL := 3) (ret := (some .int)) RX12 rfl (by decide) rfl (Nat.le_of_ble_eq_true rfl) ?_
  intro p e s m below meth c ls X Z hP hl
  have hx := X.1
  have hb := X.2.1
  have hS : va_S (wA ad 218) s.heap s.heap [] := va_S.rf
  have hA : ∀ i, i < 218 → wA ad 218 (ad i) := fun i h => ⟨i, h, rfl⟩
  have hl : lv_has ls 3 [(0, .int st)] := hl
  refine lv_iconst (v := 0) hx hb dX12_bits_0 (by decide) ?_
  refine lv_istore_n (lv' := [(1, .int 0), (0, .int st)]) hx hb dX12_bits_1 rfl hl (by decide) rfl (fun ls hl => ?_)
  refine lv_iconst (v := 0) hx hb dX12_bits_2 (by decide) ?_
  refine lv_istore_n (lv' := [(2, .int 0), (1, .int 0), (0, .int st)]) hx hb dX12_bits_3 rfl hl (by decide) rfl (fun ls hl => ?_)
  have HL4 : ∀ (n4 : Nat) (v4_2 : Int32) (v4_1 : Int32) (H : Heap) (locs : List Loc) (ls : Array Slot), (14 - v4_2.toInt).toNat < n4 → (0 ≤ v4_2.toInt ∧ v4_2.toInt ≤ 14) → (0 ≤ v4_1.toInt ∧ v4_1.toInt ≤ 14) → v4_1.toInt = bI st v4_2.toNatClampNeg → va_P D vwCl (wL ad g 218) H → va_S (wA ad 218) s.heap H locs → lv_has ls 3 [(2, .int v4_2), (1, .int v4_1), (0, .int st)] → W p l e ({ frames := 0, cells := 0, slots := 0, locals := 0 } : Room) s m ([.int st] : List Value).toArray below meth c H locs 0 0 (MQ below (qI D ad 218 (fun r g2 => g2 = g ∧ (r.toInt = bI st 14 ∧ 0 ≤ r.toInt ∧ r.toInt ≤ 14))) ([.int st] : List Value).toArray s 0 0 (wA ad 218)) (F0 m 4 ls []) := by
    intro n4
    induction n4 with
    | zero =>
      intro v4_2 v4_1 H locs ls hm4 hv4_0 hv4_1 he4_0 hP hS hl
      exact absurd hm4 (Nat.not_lt_zero _)
    | succ n4 ih4 =>
      intro v4_2 v4_1 H locs ls hm4 hv4_0 hv4_1 he4_0 hP hS hl
      refine lv_iload_n hx hb dX12_bits_4 rfl (lv_at hl 0 rfl) ?_
      refine lv_bipush (v := 14) hx hb dX12_bits_5 (by decide) ?_
      have hble := bI_le st v4_2.toNatClampNeg
      have hbcl := n_cl (rfl : v4_2.toInt = v4_2.toInt) (by omega)
      refine lv_icmp_ge (tgt := 24) hx hb dX12_bits_7 (by decide) (fun hc_1 => ?_) (fun hc_1 => ?_)
      · have hhc_1 := n_le (by decide : (14 : Int32).toInt = 14) (rfl : v4_2.toInt = v4_2.toInt) hc_1
        refine lv_iload_n hx hb dX12_bits_24 rfl (lv_at hl 1 rfl) ?_
        exact q_iret X hP hS ⟨rfl, ⟨by rw [he4_0, show v4_2.toNatClampNeg = 14 by omega], by omega, by omega⟩⟩ dX12_bits_25
      · have hhc_1 := n_nle (by decide : (14 : Int32).toInt = 14) (rfl : v4_2.toInt = v4_2.toInt) hc_1
        refine lv_iload_n hx hb dX12_bits_10 rfl (lv_at hl 1 rfl) ?_
        refine lv_iload_n hx hb dX12_bits_11 rfl (lv_at hl 2 rfl) ?_
        refine lv_iload_n hx hb dX12_bits_12 rfl (lv_at hl 0 rfl) ?_
        refine lv_ishr hx hb dX12_bits_13 ?_
        refine lv_topi (fun z_2 ez_2 => ?_)
        refine lv_iconst (v := 1) hx hb dX12_bits_14 (by decide) ?_
        refine lv_iand hx hb dX12_bits_15 ?_
        refine lv_topi (fun z_3 ez_3 => ?_)
        have hz_3 : 0 ≤ z_3.toInt ∧ z_3.toInt ≤ 1 := n_and 1 (by decide) (by decide) (by decide) ez_3
        refine lv_iadd hx hb dX12_bits_16 ?_
        refine lv_topi (fun z_4 ez_4 => ?_)
        have hz_4 : z_4.toInt = v4_1.toInt + z_3.toInt := n_add (rfl : v4_1.toInt = v4_1.toInt) (rfl : z_3.toInt = z_3.toInt) ez_4 (by omega) (by omega)
        refine lv_istore_n (lv' := [(1, .int z_4), (2, .int v4_2), (0, .int st)]) hx hb dX12_bits_17 rfl hl (by decide) rfl (fun ls hl => ?_)
        obtain ⟨x_5, ex_5⟩ : ∃ y : Int32, y = v4_2 + 1 := ⟨_, rfl⟩
        have hx_5 : x_5.toInt = v4_2.toInt + 1 := n_add rfl (by decide : (1 : Int32).toInt = 1) ex_5 (by omega) (by omega)
        refine lv_iinc (v := x_5) (lv' := [(2, .int x_5), (1, .int z_4), (0, .int st)]) hx hb dX12_bits_18 hl (k := 1) rfl (by rw [ex_5]; rfl) (by decide) rfl (fun ls hl => ?_)
        refine lv_goto (tgt := 4) hx hb dX12_bits_21 (by decide) ?_
        exact ih4 x_5 z_4 _ _ ls (by omega) (by omega) (by omega) (by rw [bI_step (s := st) (k := v4_2) (by omega) (by omega) hx_5, ← he4_0]; unfold bitI; rw [← ez_2, ← ez_3]; omega) hP hS (lv_sub hl [0, 1, 2] rfl)
  have hiv4_2 : (0 : Int32).toInt = 0 := by decide
  have hiv4_1 : (0 : Int32).toInt = 0 := by decide
  exact HL4 _ 0 0 _ _ ls (Nat.lt_succ_self _) (by omega) (by omega) (by rw [show (0 : Int32).toNatClampNeg = 0 by decide]; show (0 : Int32).toInt = 0; decide) hP hS (lv_sub hl [0, 1, 2] rfl)

theorem dX12_roundBy_0 : decode cX12_roundBy 0 = .ok (.iload_n 1, 1) := by decide +kernel
theorem dX12_roundBy_1 : decode cX12_roundBy 1 = .ok (.iload_n 3, 1) := by decide +kernel
theorem dX12_roundBy_2 : decode cX12_roundBy 2 = .ok (.isub, 1) := by decide +kernel
theorem dX12_roundBy_3 : decode cX12_roundBy 3 = .ok (.invokestatic 273, 3) := by decide +kernel
theorem dX12_roundBy_6 : decode cX12_roundBy 6 = .ok (.aload_n 0, 1) := by decide +kernel
theorem dX12_roundBy_7 : decode cX12_roundBy 7 = .ok (.getfield 40, 3) := by decide +kernel
theorem dX12_roundBy_10 : decode cX12_roundBy 10 = .ok (.iload_n 3, 1) := by decide +kernel
theorem dX12_roundBy_11 : decode cX12_roundBy 11 = .ok (.iconst 5, 1) := by decide +kernel
theorem dX12_roundBy_12 : decode cX12_roundBy 12 = .ok (.ishl, 1) := by decide +kernel
theorem dX12_roundBy_13 : decode cX12_roundBy 13 = .ok (.iload_n 2, 1) := by decide +kernel
theorem dX12_roundBy_14 : decode cX12_roundBy 14 = .ok (.iconst 1, 1) := by decide +kernel
theorem dX12_roundBy_15 : decode cX12_roundBy 15 = .ok (.iload_n 3, 1) := by decide +kernel
theorem dX12_roundBy_16 : decode cX12_roundBy 16 = .ok (.ishl, 1) := by decide +kernel
theorem dX12_roundBy_17 : decode cX12_roundBy 17 = .ok (.iconst (-1), 1) := by decide +kernel
theorem dX12_roundBy_18 : decode cX12_roundBy 18 = .ok (.ixor, 1) := by decide +kernel
theorem dX12_roundBy_19 : decode cX12_roundBy 19 = .ok (.iand, 1) := by decide +kernel
theorem dX12_roundBy_20 : decode cX12_roundBy 20 = .ok (.ior, 1) := by decide +kernel
theorem dX12_roundBy_21 : decode cX12_roundBy 21 = .ok (.iaload, 1) := by decide +kernel
theorem dX12_roundBy_22 : decode cX12_roundBy 22 = .ok (.iadd, 1) := by decide +kernel
theorem dX12_roundBy_23 : decode cX12_roundBy 23 = .ok (.ireturn, 1) := by decide +kernel
noncomputable def vX12_roundBy : List Cond := .code yX12_roundBy cX12_roundBy 4 (some .int) :: (([.methodLink RX12 273 Lib.Math.abs.name, .static Lib.Math.abs.name, .initialized "java/lang/Math", .code Lib.Math.abs.name Lib.Math.abs.code 1 (some .int), .fieldLink RX12 40 "IcicleClockModel" "rounds" "[I"] : List Cond) ++ wsX120)
theorem iX12_roundBy_12 : ∀ w ∈ wsX120, w ∈ vX12_roundBy := fun _ h => List.mem_cons_of_mem _ (List.mem_append_right _ (h))
theorem gs_X12_roundBy : Gd vX12_roundBy := Gd.cons (by decide +kernel) (Gd.app (Gd.r (by decide +kernel)) gwX_12)
set_option maxHeartbeats 4000000 in
set_option maxRecDepth 100000 in
theorem s_X12_roundBy (l : Launch) (D : va_G) (cs : Nat → ClassId) (ad : Nat → Nat) (kS : kSt) (K : sK) (hKO : KO K) (hj : wJ ad 218) (g : Nat → va_E) (hW : WF (shp ad K) ad cs g) (fr : Int32) (st : Int32) (tt : Int32) (hp0 : 0 ≤ fr.toInt ∧ fr.toInt ≤ 4) (hp1 : 0 ≤ st.toInt ∧ st.toInt ≤ 31) (hp2 : 0 ≤ tt.toInt ∧ tt.toInt ≤ 4) : sI l yX12_roundBy vX12_roundBy { frames := 1, cells := 0, slots := 0, locals := 13 } D cs ad kS [.ref (ad 197), .int fr, .int st, .int tt] g (fun r g2 => g2 = g ∧ (r.toInt = ((fr.toInt - tt.toInt).natAbs : Int) + gA g 206 (32 * tt.toInt + (clI st tt).toInt).toNat ∧ 0 ≤ r.toInt ∧ r.toInt ≤ 4 + 4 * (clI st tt).toInt)) := by
  refine Met.startS (cc := cX12_roundBy) (maxL := 4) (ret := (some .int)) RX12 rfl (by decide) rfl (Nat.le_of_ble_eq_true rfl) ?_
  intro p e s m below meth c ls X Z hP hl
  have hx := X.1
  have hb := X.2.1
  have hS : va_S (wA ad 218) s.heap s.heap [] := va_S.rf
  have hA : ∀ i, i < 218 → wA ad 218 (ad i) := fun i h => ⟨i, h, rfl⟩
  have hl : lv_has ls 4 [(0, .ref (ad 197)), (1, .int fr), (2, .int st), (3, .int tt)] := hl
  refine lv_iload_n hx hb dX12_roundBy_0 rfl (lv_at hl 1 rfl) ?_
  refine lv_iload_n hx hb dX12_roundBy_1 rfl (lv_at hl 3 rfl) ?_
  refine lv_isub hx hb dX12_roundBy_2 ?_
  refine lv_topi (fun z_1 ez_1 => ?_)
  have hz_1 : z_1.toInt = fr.toInt - tt.toInt := n_sub (rfl : fr.toInt = fr.toInt) (rfl : tt.toInt = tt.toInt) ez_1 (by omega) (by omega)
  refine va_mabs hx hb (X.2.2.2.1.trans hl.1.symm) X.2.2.2.2.2.1 (X.2.2.2.2.1 _ (List.mem_of_getElem? (i := 1) rfl)) (X.2.2.2.2.1 _ (List.mem_of_getElem? (i := 2) rfl)) (X.2.2.2.2.1 _ (List.mem_of_getElem? (i := 3) rfl)) (X.2.2.2.2.1 _ (List.mem_of_getElem? (i := 4) rfl)) (Nat.le_of_ble_eq_true rfl) (Nat.le_of_ble_eq_true rfl) (Nat.le_of_ble_eq_true rfl) (Nat.le_of_ble_eq_true rfl) dX12_roundBy_3 ?_
  refine lv_topi (fun z_2 ez_2 => ?_)
  have hz_2 := n_abs (rfl : z_1.toInt = z_1.toInt) ez_2 (by omega)
  refine lv_aload_n hx hb dX12_roundBy_6 rfl (lv_at hl 0 rfl) ?_
  obtain ⟨fsc_3, hgc_3, hOc_3⟩ := hW.obj (i := 197) (by decide) (sh_197 ad K)
  have hk_4 := hOc_3.ref 19 rfl
  refine q_get X iX12_roundBy_12 hP (by decide) hgc_3 rfl 19 (by decide) (List.mem_of_getElem? (i := 5) rfl) (v := .ref (ad 206)) hk_4 dX12_roundBy_7 ?_
  refine lv_iload_n hx hb dX12_roundBy_10 rfl (lv_at hl 3 rfl) ?_
  refine lv_iconst (v := 5) hx hb dX12_roundBy_11 (by decide) ?_
  refine lv_ishl hx hb dX12_roundBy_12 ?_
  refine lv_topi (fun z_5 ez_5 => ?_)
  refine lv_iload_n hx hb dX12_roundBy_13 rfl (lv_at hl 2 rfl) ?_
  refine lv_iconst (v := 1) hx hb dX12_roundBy_14 (by decide) ?_
  refine lv_iload_n hx hb dX12_roundBy_15 rfl (lv_at hl 3 rfl) ?_
  refine lv_ishl hx hb dX12_roundBy_16 ?_
  refine lv_topi (fun z_6 ez_6 => ?_)
  refine lv_iconst (v := (-1)) hx hb dX12_roundBy_17 (by decide) ?_
  refine lv_ixor hx hb dX12_roundBy_18 ?_
  refine lv_topi (fun z_7 ez_7 => ?_)
  refine lv_iand hx hb dX12_roundBy_19 ?_
  refine lv_topi (fun z_8 ez_8 => ?_)
  refine lv_ior hx hb dX12_roundBy_20 ?_
  refine lv_topi (fun z_9 ez_9 => ?_)
  have hix := rr_ix (t := tt) (s := st) (by omega) (by omega) (by omega) (by omega)
  have hiz : z_9 = ixI tt st := by rw [ez_9, ez_5, ez_8, ez_7, ez_6]; rfl
  rw [← hiz] at hix
  obtain ⟨fc_10, hgc_10, hFc_10⟩ := hW.arr (i := 206) (by decide) (sh_206 ad K)
  refine q_iald X hP (by decide) hgc_10 (n_in (rfl : z_9.toInt = z_9.toInt) (by omega) (by omega)) dX12_roundBy_21 ?_
  refine lv_topi (fun z_11 ez_11 => ?_)
  have hqz_11 : rq (z_9.toNatClampNeg) z_11.toInt := ez_11 ▸ hFc_10 _
  have hcz_11 := n_cl (rfl : z_9.toInt = z_9.toInt) (by omega)
  unfold rq at hqz_11
  have hgaz_11 : gA g 206 (z_9.toNatClampNeg) = z_11.toInt := by rw [ez_11]; exact gA_of hgc_10 _
  refine lv_iadd hx hb dX12_roundBy_22 ?_
  refine lv_topi (fun z_12 ez_12 => ?_)
  have hz_12 : z_12.toInt = z_2.toInt + z_11.toInt := n_add (rfl : z_2.toInt = z_2.toInt) (rfl : z_11.toInt = z_11.toInt) ez_12 (by omega) (by omega)
  exact q_iret X hP hS ⟨rfl, ⟨by rw [show (32 * tt.toInt + (clI st tt).toInt).toNat = z_9.toNatClampNeg by omega, hgaz_11]; omega, by omega, by omega⟩⟩ dX12_roundBy_23

theorem dX12_isRound_0 : decode cX12_isRound 0 = .ok (.aload_n 0, 1) := by decide +kernel
theorem dX12_isRound_1 : decode cX12_isRound 1 = .ok (.iload_n 1, 1) := by decide +kernel
theorem dX12_isRound_2 : decode cX12_isRound 2 = .ok (.invokevirtual 212, 3) := by decide +kernel
theorem dX12_isRound_5 : decode cX12_isRound 5 = .ok (.ifCond .eq 27, 3) := by decide +kernel
theorem dX12_isRound_8 : decode cX12_isRound 8 = .ok (.iload_n 2, 1) := by decide +kernel
theorem dX12_isRound_9 : decode cX12_isRound 9 = .ok (.i2l, 1) := by decide +kernel
theorem dX12_isRound_10 : decode cX12_isRound 10 = .ok (.lconst 0, 1) := by decide +kernel
theorem dX12_isRound_11 : decode cX12_isRound 11 = .ok (.iconst 1, 1) := by decide +kernel
theorem dX12_isRound_12 : decode cX12_isRound 12 = .ok (.aload_n 0, 1) := by decide +kernel
theorem dX12_isRound_13 : decode cX12_isRound 13 = .ok (.getfield 9, 3) := by decide +kernel
theorem dX12_isRound_16 : decode cX12_isRound 16 = .ok (.iconst 4, 1) := by decide +kernel
theorem dX12_isRound_17 : decode cX12_isRound 17 = .ok (.iaload, 1) := by decide +kernel
theorem dX12_isRound_18 : decode cX12_isRound 18 = .ok (.ishl, 1) := by decide +kernel
theorem dX12_isRound_19 : decode cX12_isRound 19 = .ok (.iconst 1, 1) := by decide +kernel
theorem dX12_isRound_20 : decode cX12_isRound 20 = .ok (.isub, 1) := by decide +kernel
theorem dX12_isRound_21 : decode cX12_isRound 21 = .ok (.i2l, 1) := by decide +kernel
theorem dX12_isRound_22 : decode cX12_isRound 22 = .ok (.invokestatic 82, 3) := by decide +kernel
theorem dX12_isRound_25 : decode cX12_isRound 25 = .ok (.ifCond .eq 7, 3) := by decide +kernel
theorem dX12_isRound_28 : decode cX12_isRound 28 = .ok (.iconst 1, 1) := by decide +kernel
theorem dX12_isRound_29 : decode cX12_isRound 29 = .ok (.goto 4, 3) := by decide +kernel
theorem dX12_isRound_32 : decode cX12_isRound 32 = .ok (.iconst 0, 1) := by decide +kernel
theorem dX12_isRound_33 : decode cX12_isRound 33 = .ok (.ireturn, 1) := by decide +kernel
noncomputable def vX12_isRound : List Cond := .code yX12_isRound cX12_isRound 3 (some .boolean) :: (([.methodLink RX12 212 yX12_isEave, .instanceMethod yX12_isEave, .selects RX12 yX12_isEave yX12_isEave, .initialized RX12, .fieldLink RX12 9 "IcicleClockModel" "world" "[I", .methodLink RX12 82 yX12_in, .static yX12_in] : List Cond) ++ (wsX120 ++ (vX12_isEave ++ vX12_in)))
theorem iX12_isRound_12 : ∀ w ∈ wsX120, w ∈ vX12_isRound := fun _ h => List.mem_cons_of_mem _ (List.mem_append_right _ (List.mem_append_left _ h))
theorem gs_X12_isRound : Gd vX12_isRound := Gd.cons (by decide +kernel) (Gd.app (Gd.r (by decide +kernel)) (Gd.app gwX_12 (Gd.app gs_X12_isEave gs_X12_in)))
theorem gg_X12_isRound_X12_isEave : GoodIn vX12_isRound (wsV RX12 212 RX12 yX12_isEave vX12_isEave) := goodIn_app (goodIn_r _ [1, 2, 3, 4] (by decide +kernel) (by decide +kernel)) (fun w h => ⟨List.mem_cons_of_mem _ (List.mem_append_right _ (List.mem_append_right _ (List.mem_append_left _ h))), gs_X12_isEave w h⟩)
theorem gg_X12_isRound_X12_in : GoodIn vX12_isRound (wsS RX12 82 yX12_in vX12_in) := goodIn_app (goodIn_r _ [6, 7, 4] (by decide +kernel) (by decide +kernel)) (fun w h => ⟨List.mem_cons_of_mem _ (List.mem_append_right _ (List.mem_append_right _ (List.mem_append_right _ (h)))), gs_X12_in w h⟩)
set_option maxHeartbeats 4000000 in
set_option maxRecDepth 100000 in
theorem s_X12_isRound (l : Launch) (D : va_G) (cs : Nat → ClassId) (ad : Nat → Nat) (kS : kSt) (K : sK) (hKO : KO K) (hj : wJ ad 218) (g : Nat → va_E) (hW : WF (shp ad K) ad cs g) (fr : Int32) (st : Int32) : sI l yX12_isRound vX12_isRound { frames := 2, cells := 0, slots := 0, locals := 46 } D cs ad kS [.ref (ad 197), .int fr, .int st] g (fun r g2 => g2 = g ∧ (0 ≤ r.toInt ∧ r.toInt ≤ 1 ∧ (r.toInt ≠ 0 → 0 ≤ fr.toInt ∧ fr.toInt ≤ 4 ∧ fr.toInt < gA g 198 4 ∧ 0 ≤ st.toInt ∧ st.toInt ≤ 31 ∧ st.toInt < p2 (gA g 198 4)))) := by
  refine Met.startS (cc := cX12_isRound) (maxL := 3) (ret := (some .boolean)) RX12 rfl (by decide) rfl (Nat.le_of_ble_eq_true rfl) ?_
  intro p e s m below meth c ls X Z hP hl
  have hx := X.1
  have hb := X.2.1
  have hS : va_S (wA ad 218) s.heap s.heap [] := va_S.rf
  have hA : ∀ i, i < 218 → wA ad 218 (ad i) := fun i h => ⟨i, h, rfl⟩
  have hl : lv_has ls 3 [(0, .ref (ad 197)), (1, .int fr), (2, .int st)] := hl
  refine lv_aload_n hx hb dX12_isRound_0 rfl (lv_at hl 0 rfl) ?_
  refine lv_iload_n hx hb dX12_isRound_1 rfl (lv_at hl 1 rfl) ?_
  obtain ⟨fsc_4, hgc_4, hOc_4⟩ := hW.obj (i := 197) (by decide) (sh_197 ad K)
  refine s_calli (q := (RX12, TX12, 40)) (As := [.int fr]) (rest := []) X Z (s_X12_isEave l D cs ad kS K hKO hj g hW fr) (cwV 1 X.2.2.2.2.1 gg_X12_isRound_X12_isEave rfl rfl rfl (by decide +kernel) ⟨Nat.le_of_ble_eq_true rfl, Nat.le_of_ble_eq_true rfl⟩) (by decide) hgc_4 rfl hP hA hS.2.1 hS rfl hl.1 rfl (Nat.le_of_ble_eq_true rfl) dX12_isRound_2 ⟨Nat.le_of_ble_eq_true rfl, Nat.le_of_ble_eq_true rfl⟩ (fun r_3 g_2 H locs hw_1 hP hS => ?_)
  obtain ⟨hw_1g, hw_1⟩ := hw_1
  rw [hw_1g] at hP
  have HJ32 : ∀ (H : Heap) (locs : List Loc) (ls : Array Slot), va_P D vwCl (wL ad g 218) H → va_S (wA ad 218) s.heap H locs → lv_has ls 3 [] → W p l e ({ frames := 2, cells := 0, slots := 0, locals := 46 } : Room) s m ([.ref (ad 197), .int fr, .int st] : List Value).toArray below meth c H locs 0 0 (MQ below (qI D ad 218 (fun r g2 => g2 = g ∧ (0 ≤ r.toInt ∧ r.toInt ≤ 1 ∧ (r.toInt ≠ 0 → 0 ≤ fr.toInt ∧ fr.toInt ≤ 4 ∧ fr.toInt < gA g 198 4 ∧ 0 ≤ st.toInt ∧ st.toInt ≤ 31 ∧ st.toInt < p2 (gA g 198 4))))) ([.ref (ad 197), .int fr, .int st] : List Value).toArray s 0 0 (wA ad 218)) (F0 m 32 ls []) := by
    intro H locs ls hP hS hl
    refine lv_iconst (v := 0) hx hb dX12_isRound_32 (by decide) ?_
    have hr0 : (0 : Int32).toInt = 0 := by decide
    exact q_zret X hP hS rfl ⟨rfl, (by omega)⟩ dX12_isRound_33
  refine lv_if_eq (tgt := 32) hx hb dX12_isRound_5 (by decide) (fun hc_5 => ?_) (fun hc_5 => ?_)
  · have hhc_5 := n_eq (rfl : r_3.toInt = r_3.toInt) (by decide : (0 : Int32).toInt = 0) hc_5
    exact HJ32 _ _ ls hP hS (lv_sub hl [] rfl)
  · have hhc_5 := n_ne (rfl : r_3.toInt = r_3.toInt) (by decide : (0 : Int32).toInt = 0) hc_5
    refine lv_iload_n hx hb dX12_isRound_8 rfl (lv_at hl 2 rfl) ?_
    refine lv_i2l hx hb dX12_isRound_9 rfl ?_
    refine lv_topl (fun z_6 ez_6 => ?_)
    have hz_6 : z_6.toInt = st.toInt := ez_6 ▸ j_of rfl
    have := n_hi st
    have := n_lo st
    refine lv_lconst (v := 0) hx hb dX12_isRound_10 (by decide) ?_
    refine lv_iconst (v := 1) hx hb dX12_isRound_11 (by decide) ?_
    refine lv_aload_n hx hb dX12_isRound_12 rfl (lv_at hl 0 rfl) ?_
    have hk_7 := hOc_4.ref 1 rfl
    refine q_get X iX12_isRound_12 hP (by decide) hgc_4 rfl 1 (by decide) (List.mem_of_getElem? (i := 5) rfl) (v := .ref (ad 198)) hk_7 dX12_isRound_13 ?_
    refine lv_iconst (v := 4) hx hb dX12_isRound_16 (by decide) ?_
    obtain ⟨fc_8, hgc_8, hFc_8⟩ := hW.arr (i := 198) (by decide) (sh_198 ad K)
    refine q_iald X hP (by decide) hgc_8 (by unfold vp_in; decide) dX12_isRound_17 ?_
    refine lv_topi (fun z_9 ez_9 => ?_)
    have hqz_9 : wq (4) z_9.toInt := ez_9 ▸ hFc_8 _
    have hz_9 : 0 ≤ z_9.toInt ∧ z_9.toInt ≤ 5 := by unfold wq at hqz_9; omega
    clear hqz_9
    have hgaz_9 : gA g 198 ((4 : Int32).toNatClampNeg) = z_9.toInt := by rw [ez_9]; exact gA_of hgc_8 _
    rw [(by decide : (4 : Int32).toNatClampNeg = 4)] at hgaz_9
    have hp2e : p2 (gA g 198 4) = p2 z_9.toInt := by rw [hgaz_9]
    refine lv_ishl hx hb dX12_isRound_18 ?_
    refine lv_topi (fun z_10 ez_10 => ?_)
    have hsh := rr_shl (n := z_9) (by omega) (by omega)
    rw [← ez_10] at hsh
    refine lv_iconst (v := 1) hx hb dX12_isRound_19 (by decide) ?_
    refine lv_isub hx hb dX12_isRound_20 ?_
    refine lv_topi (fun z_11 ez_11 => ?_)
    have hz_11 : z_11.toInt = z_10.toInt - 1 := n_sub (rfl : z_10.toInt = z_10.toInt) (by decide : (1 : Int32).toInt = 1) ez_11 (by omega) (by omega)
    refine lv_i2l hx hb dX12_isRound_21 rfl ?_
    refine lv_topl (fun z_12 ez_12 => ?_)
    have hz_12 : z_12.toInt = z_11.toInt := ez_12 ▸ j_of rfl
    refine s_callSi (As := [.long z_6, .long 0, .long z_12]) (rest := []) X Z (s_X12_in l D cs ad kS K hKO hj g hW z_6 0 z_12) (cwS 3 X.2.2.2.2.1 gg_X12_isRound_X12_in rfl rfl rfl (by decide +kernel) ⟨Nat.le_of_ble_eq_true rfl, Nat.le_of_ble_eq_true rfl⟩) hP hA hS.2.1 hS rfl hl.1 rfl (Nat.le_of_ble_eq_true rfl) dX12_isRound_22 ⟨Nat.le_of_ble_eq_true rfl, Nat.le_of_ble_eq_true rfl⟩ (fun r_15 g_14 H locs hw_13 hP hS => ?_)
    obtain ⟨hw_13g, hw_13⟩ := hw_13
    rw [hw_13g] at hP
    have hqk_16 : (0 : Int64).toInt = 0 := by decide
    refine lv_if_eq (tgt := 32) hx hb dX12_isRound_25 (by decide) (fun hc_17 => ?_) (fun hc_17 => ?_)
    · have hhc_17 := n_eq (rfl : r_15.toInt = r_15.toInt) (by decide : (0 : Int32).toInt = 0) hc_17
      exact HJ32 _ _ ls hP hS (lv_sub hl [] rfl)
    · have hhc_17 := n_ne (rfl : r_15.toInt = r_15.toInt) (by decide : (0 : Int32).toInt = 0) hc_17
      refine lv_iconst (v := 1) hx hb dX12_isRound_28 (by decide) ?_
      refine lv_goto (tgt := 33) hx hb dX12_isRound_29 (by decide) ?_
      have hr0 : (1 : Int32).toInt = 1 := by decide
      exact q_zret X hP hS rfl ⟨rfl, (by omega)⟩ dX12_isRound_33

theorem dX12_layRounds_0 : decode cX12_layRounds 0 = .ok (.iconst 0, 1) := by decide +kernel
theorem dX12_layRounds_1 : decode cX12_layRounds 1 = .ok (.istore_n 3, 1) := by decide +kernel
theorem dX12_layRounds_2 : decode cX12_layRounds 2 = .ok (.iload_n 3, 1) := by decide +kernel
theorem dX12_layRounds_3 : decode cX12_layRounds 3 = .ok (.iload_n 2, 1) := by decide +kernel
theorem dX12_layRounds_4 : decode cX12_layRounds 4 = .ok (.if_icmp .gt 109, 3) := by decide +kernel
theorem dX12_layRounds_7 : decode cX12_layRounds 7 = .ok (.iconst 0, 1) := by decide +kernel
theorem dX12_layRounds_8 : decode cX12_layRounds 8 = .ok (.istore 4, 2) := by decide +kernel
theorem dX12_layRounds_10 : decode cX12_layRounds 10 = .ok (.iload 4, 2) := by decide +kernel
theorem dX12_layRounds_12 : decode cX12_layRounds 12 = .ok (.aload_n 0, 1) := by decide +kernel
theorem dX12_layRounds_13 : decode cX12_layRounds 13 = .ok (.getfield 9, 3) := by decide +kernel
theorem dX12_layRounds_16 : decode cX12_layRounds 16 = .ok (.iconst 4, 1) := by decide +kernel
theorem dX12_layRounds_17 : decode cX12_layRounds 17 = .ok (.iaload, 1) := by decide +kernel
theorem dX12_layRounds_18 : decode cX12_layRounds 18 = .ok (.if_icmp .ge 89, 3) := by decide +kernel
theorem dX12_layRounds_21 : decode cX12_layRounds 21 = .ok (.iload_n 3, 1) := by decide +kernel
theorem dX12_layRounds_22 : decode cX12_layRounds 22 = .ok (.iload_n 2, 1) := by decide +kernel
theorem dX12_layRounds_23 : decode cX12_layRounds 23 = .ok (.iconst (-1), 1) := by decide +kernel
theorem dX12_layRounds_24 : decode cX12_layRounds 24 = .ok (.ixor, 1) := by decide +kernel
theorem dX12_layRounds_25 : decode cX12_layRounds 25 = .ok (.iand, 1) := by decide +kernel
theorem dX12_layRounds_26 : decode cX12_layRounds 26 = .ok (.ifCond .ne 81, 3) := by decide +kernel
theorem dX12_layRounds_29 : decode cX12_layRounds 29 = .ok (.iload_n 3, 1) := by decide +kernel
theorem dX12_layRounds_30 : decode cX12_layRounds 30 = .ok (.ifCond .ne 7, 3) := by decide +kernel
theorem dX12_layRounds_33 : decode cX12_layRounds 33 = .ok (.iconst 0, 1) := by decide +kernel
theorem dX12_layRounds_34 : decode cX12_layRounds 34 = .ok (.goto 6, 3) := by decide +kernel
theorem dX12_layRounds_40 : decode cX12_layRounds 40 = .ok (.istore 5, 2) := by decide +kernel
theorem dX12_layRounds_42 : decode cX12_layRounds 42 = .ok (.iconst 0, 1) := by decide +kernel
theorem dX12_layRounds_43 : decode cX12_layRounds 43 = .ok (.istore 6, 2) := by decide +kernel
theorem dX12_layRounds_45 : decode cX12_layRounds 45 = .ok (.iload 6, 2) := by decide +kernel
theorem dX12_layRounds_47 : decode cX12_layRounds 47 = .ok (.aload_n 0, 1) := by decide +kernel
theorem dX12_layRounds_48 : decode cX12_layRounds 48 = .ok (.getfield 9, 3) := by decide +kernel
theorem dX12_layRounds_51 : decode cX12_layRounds 51 = .ok (.iconst 4, 1) := by decide +kernel
theorem dX12_layRounds_52 : decode cX12_layRounds 52 = .ok (.iaload, 1) := by decide +kernel
theorem dX12_layRounds_53 : decode cX12_layRounds 53 = .ok (.if_icmp .ge 35, 3) := by decide +kernel
theorem dX12_layRounds_56 : decode cX12_layRounds 56 = .ok (.iload_n 3, 1) := by decide +kernel
theorem dX12_layRounds_57 : decode cX12_layRounds 57 = .ok (.iload 6, 2) := by decide +kernel
theorem dX12_layRounds_59 : decode cX12_layRounds 59 = .ok (.invokestatic 234, 3) := by decide +kernel
theorem dX12_layRounds_62 : decode cX12_layRounds 62 = .ok (.iconst 1, 1) := by decide +kernel
theorem dX12_layRounds_63 : decode cX12_layRounds 63 = .ok (.if_icmp .ne 19, 3) := by decide +kernel
theorem dX12_layRounds_66 : decode cX12_layRounds 66 = .ok (.iload 5, 2) := by decide +kernel
theorem dX12_layRounds_68 : decode cX12_layRounds 68 = .ok (.aload_n 0, 1) := by decide +kernel
theorem dX12_layRounds_69 : decode cX12_layRounds 69 = .ok (.iload 4, 2) := by decide +kernel
theorem dX12_layRounds_71 : decode cX12_layRounds 71 = .ok (.iload_n 3, 1) := by decide +kernel
theorem dX12_layRounds_72 : decode cX12_layRounds 72 = .ok (.iload 6, 2) := by decide +kernel
theorem dX12_layRounds_74 : decode cX12_layRounds 74 = .ok (.invokevirtual 297, 3) := by decide +kernel
theorem dX12_layRounds_77 : decode cX12_layRounds 77 = .ok (.invokestatic 117, 3) := by decide +kernel
theorem dX12_layRounds_80 : decode cX12_layRounds 80 = .ok (.istore 5, 2) := by decide +kernel
theorem dX12_layRounds_82 : decode cX12_layRounds 82 = .ok (.iinc 6 1, 3) := by decide +kernel
theorem dX12_layRounds_85 : decode cX12_layRounds 85 = .ok (.goto (-40), 3) := by decide +kernel
theorem dX12_layRounds_88 : decode cX12_layRounds 88 = .ok (.aload_n 0, 1) := by decide +kernel
theorem dX12_layRounds_89 : decode cX12_layRounds 89 = .ok (.getfield 40, 3) := by decide +kernel
theorem dX12_layRounds_92 : decode cX12_layRounds 92 = .ok (.iload 4, 2) := by decide +kernel
theorem dX12_layRounds_94 : decode cX12_layRounds 94 = .ok (.iconst 5, 1) := by decide +kernel
theorem dX12_layRounds_95 : decode cX12_layRounds 95 = .ok (.ishl, 1) := by decide +kernel
theorem dX12_layRounds_96 : decode cX12_layRounds 96 = .ok (.iload_n 3, 1) := by decide +kernel
theorem dX12_layRounds_97 : decode cX12_layRounds 97 = .ok (.ior, 1) := by decide +kernel
theorem dX12_layRounds_98 : decode cX12_layRounds 98 = .ok (.iload 5, 2) := by decide +kernel
theorem dX12_layRounds_100 : decode cX12_layRounds 100 = .ok (.iastore, 1) := by decide +kernel
theorem dX12_layRounds_101 : decode cX12_layRounds 101 = .ok (.iinc 4 1, 3) := by decide +kernel
theorem dX12_layRounds_104 : decode cX12_layRounds 104 = .ok (.goto (-94), 3) := by decide +kernel
theorem dX12_layRounds_107 : decode cX12_layRounds 107 = .ok (.iinc 3 1, 3) := by decide +kernel
theorem dX12_layRounds_110 : decode cX12_layRounds 110 = .ok (.goto (-108), 3) := by decide +kernel
theorem dX12_layRounds_37 : decode cX12_layRounds 37 = .ok (.ldc_w 285, 3) := by decide +kernel
theorem dX12_layRounds_113 : decode cX12_layRounds 113 = .ok (.aload_n 0, 1) := by decide +kernel
theorem dX12_layRounds_114 : decode cX12_layRounds 114 = .ok (.getfield 40, 3) := by decide +kernel
theorem dX12_layRounds_117 : decode cX12_layRounds 117 = .ok (.iload_n 1, 1) := by decide +kernel
theorem dX12_layRounds_118 : decode cX12_layRounds 118 = .ok (.iconst 5, 1) := by decide +kernel
theorem dX12_layRounds_119 : decode cX12_layRounds 119 = .ok (.ishl, 1) := by decide +kernel
theorem dX12_layRounds_120 : decode cX12_layRounds 120 = .ok (.iload_n 2, 1) := by decide +kernel
theorem dX12_layRounds_121 : decode cX12_layRounds 121 = .ok (.ior, 1) := by decide +kernel
theorem dX12_layRounds_122 : decode cX12_layRounds 122 = .ok (.iaload, 1) := by decide +kernel
theorem dX12_layRounds_123 : decode cX12_layRounds 123 = .ok (.ireturn, 1) := by decide +kernel
noncomputable def vX12_layRounds : List Cond := .code yX12_layRounds cX12_layRounds 7 (some .int) :: (([.fieldLink RX12 9 "IcicleClockModel" "world" "[I", .methodLink RX12 234 yX12_bit, .static yX12_bit, .initialized RX12, .methodLink RX12 297 yX12_roundBy, .instanceMethod yX12_roundBy, .selects RX12 yX12_roundBy yX12_roundBy, .methodLink RX12 117 Lib.Math.min.name, .static Lib.Math.min.name, .initialized "java/lang/Math", .code Lib.Math.min.name Lib.Math.min.code 2 (some .int), .fieldLink RX12 40 "IcicleClockModel" "rounds" "[I", .constant RX12 285 (1000000000)] : List Cond) ++ (wsX120 ++ (vX12_bit ++ vX12_roundBy)))
theorem iX12_layRounds_12 : ∀ w ∈ wsX120, w ∈ vX12_layRounds := fun _ h => List.mem_cons_of_mem _ (List.mem_append_right _ (List.mem_append_left _ h))
theorem gs_X12_layRounds : Gd vX12_layRounds := Gd.cons (by decide +kernel) (Gd.app (Gd.r (by decide +kernel)) (Gd.app gwX_12 (Gd.app gs_X12_bit gs_X12_roundBy)))
theorem gg_X12_layRounds_X12_bit : GoodIn vX12_layRounds (wsS RX12 234 yX12_bit vX12_bit) := goodIn_app (goodIn_r _ [2, 3, 4] (by decide +kernel) (by decide +kernel)) (fun w h => ⟨List.mem_cons_of_mem _ (List.mem_append_right _ (List.mem_append_right _ (List.mem_append_left _ h))), gs_X12_bit w h⟩)
theorem gg_X12_layRounds_X12_roundBy : GoodIn vX12_layRounds (wsV RX12 297 RX12 yX12_roundBy vX12_roundBy) := goodIn_app (goodIn_r _ [5, 6, 7, 4] (by decide +kernel) (by decide +kernel)) (fun w h => ⟨List.mem_cons_of_mem _ (List.mem_append_right _ (List.mem_append_right _ (List.mem_append_right _ (h)))), gs_X12_roundBy w h⟩)
set_option maxHeartbeats 4000000 in
set_option maxRecDepth 100000 in
theorem s_X12_layRounds (l : Launch) (D : va_G) (cs : Nat → ClassId) (ad : Nat → Nat) (kS : kSt) (K : sK) (hKO : KO K) (hj : wJ ad 218) (g : Nat → va_E) (hW : WF (shp ad K) ad cs g) (fr : Int32) (st : Int32) (hp0 : 0 ≤ fr.toInt ∧ fr.toInt ≤ 4) (hp1 : 0 ≤ st.toInt ∧ st.toInt ≤ 31) (hp2 : st.toInt < p2 (gA g 198 4)) : sI l yX12_layRounds vX12_layRounds { frames := 2, cells := 0, slots := 0, locals := 36 } D cs ad kS [.ref (ad 197), .int fr, .int st] g (fun r g2 => WF (shp ad K) ad cs g2 ∧ (∀ j, j ≠ 206 → g2 j = g j) ∧ (rdA g2 (gA g 198 4) st (st.toInt + 1))) := by
  refine Met.startS (cc := cX12_layRounds) (maxL := 7) (ret := (some .int)) RX12 rfl (by decide) rfl (Nat.le_of_ble_eq_true rfl) ?_
  intro p e s m below meth c ls X Z hP hl
  have hx := X.1
  have hb := X.2.1
  have hS : va_S (wA ad 218) s.heap s.heap [] := va_S.rf
  have hA : ∀ i, i < 218 → wA ad 218 (ad i) := fun i h => ⟨i, h, rfl⟩
  have hfr : ∀ j, j ≠ 206 → g j = g j := fun _ _ => rfl
  obtain ⟨f198, hg198, hF198⟩ := hW.arr (i := 198) (by decide) (sh_198 ad K)
  have hnEg : 0 ≤ gA g 198 4 ∧ gA g 198 4 ≤ 5 := by rw [gA_of hg198]; have h8 := hF198 4; unfold wq at h8; omega
  have hl : lv_has ls 7 [(0, .ref (ad 197)), (1, .int fr), (2, .int st)] := hl
  refine lv_iconst (v := 0) hx hb dX12_layRounds_0 (by decide) ?_
  refine lv_istore_n (lv' := [(3, .int 0), (0, .ref (ad 197)), (1, .int fr), (2, .int st)]) hx hb dX12_layRounds_1 rfl hl (by decide) rfl (fun ls hl => ?_)
  have HL2 : ∀ (n2 : Nat) (v2_3 : Int32) (G2 : Nat → va_E) (H : Heap) (locs : List Loc) (ls : Array Slot), (32 - v2_3.toInt).toNat < n2 → (0 ≤ v2_3.toInt ∧ v2_3.toInt ≤ 32) → rdA G2 (gA g 198 4) st (v2_3.toInt) → WF (shp ad K) ad cs G2 → (∀ j, j ≠ 206 → G2 j = g j) → va_P D vwCl (wL ad G2 218) H → va_S (wA ad 218) s.heap H locs → lv_has ls 7 [(3, .int v2_3), (0, .ref (ad 197)), (1, .int fr), (2, .int st)] → W p l e ({ frames := 2, cells := 0, slots := 0, locals := 36 } : Room) s m ([.ref (ad 197), .int fr, .int st] : List Value).toArray below meth c H locs 0 0 (MQ below (qI D ad 218 (fun r g2 => WF (shp ad K) ad cs g2 ∧ (∀ j, j ≠ 206 → g2 j = g j) ∧ (rdA g2 (gA g 198 4) st (st.toInt + 1)))) ([.ref (ad 197), .int fr, .int st] : List Value).toArray s 0 0 (wA ad 218)) (F0 m 2 ls []) := by
    intro n2
    induction n2 with
    | zero =>
      intro v2_3 G2 H locs ls hm2 hv2_0 he2_0 hW2 hfr2 hP hS hl
      exact absurd hm2 (Nat.not_lt_zero _)
    | succ n2 ih2 =>
      intro v2_3 G2 H locs ls hm2 hv2_0 he2_0 hW2 hfr2 hP hS hl
      refine lv_iload_n hx hb dX12_layRounds_2 rfl (lv_at hl 0 rfl) ?_
      refine lv_iload_n hx hb dX12_layRounds_3 rfl (lv_at hl 3 rfl) ?_
      refine lv_icmp_gt (tgt := 113) hx hb dX12_layRounds_4 (by decide) (fun hc_1 => ?_) (fun hc_1 => ?_)
      · have hhc_1 := n_lt (rfl : st.toInt = st.toInt) (rfl : v2_3.toInt = v2_3.toInt) hc_1
        refine lv_aload_n hx hb dX12_layRounds_113 rfl (lv_at hl 1 rfl) ?_
        obtain ⟨fsc_2, hgc_2, hOc_2⟩ := hW2.obj (i := 197) (by decide) (sh_197 ad K)
        have hk_3 := hOc_2.ref 19 rfl
        refine q_get X iX12_layRounds_12 hP (by decide) hgc_2 rfl 19 (by decide) (List.mem_of_getElem? (i := 12) rfl) (v := .ref (ad 206)) hk_3 dX12_layRounds_114 ?_
        refine lv_iload_n hx hb dX12_layRounds_117 rfl (lv_at hl 2 rfl) ?_
        refine lv_iconst (v := 5) hx hb dX12_layRounds_118 (by decide) ?_
        refine lv_ishl hx hb dX12_layRounds_119 ?_
        refine lv_topi (fun z_4 ez_4 => ?_)
        refine lv_iload_n hx hb dX12_layRounds_120 rfl (lv_at hl 3 rfl) ?_
        refine lv_ior hx hb dX12_layRounds_121 ?_
        refine lv_topi (fun z_5 ez_5 => ?_)
        have hix : z_5.toInt = 32 * fr.toInt + st.toInt := by have h5 := rr_e (t := fr) (s := st) (by omega) (by omega) (by omega) (by omega); rw [show ixE fr st = z_5 by rw [ez_5, ez_4]; rfl] at h5; exact h5
        obtain ⟨fc_6, hgc_6, hFc_6⟩ := hW2.arr (i := 206) (by decide) (sh_206 ad K)
        refine q_iald X hP (by decide) hgc_6 (n_in (rfl : z_5.toInt = z_5.toInt) (by omega) (by omega)) dX12_layRounds_122 ?_
        refine lv_topi (fun z_7 ez_7 => ?_)
        have hqz_7 : rq (z_5.toNatClampNeg) z_7.toInt := ez_7 ▸ hFc_6 _
        have hcz_7 := n_cl (rfl : z_5.toInt = z_5.toInt) (by omega)
        unfold rq at hqz_7
        exact q_iret X hP hS ⟨hW2, hfr2, (fun p ev a b_ => he2_0 p ev a (by omega))⟩ dX12_layRounds_123
      · have hhc_1 := n_nlt (rfl : st.toInt = st.toInt) (rfl : v2_3.toInt = v2_3.toInt) hc_1
        refine lv_iconst (v := 0) hx hb dX12_layRounds_7 (by decide) ?_
        refine lv_istore (lv' := [(4, .int 0), (3, .int v2_3), (0, .ref (ad 197)), (1, .int fr), (2, .int st)]) hx hb dX12_layRounds_8 hl (by decide) rfl (fun ls hl => ?_)
        have HL10 : ∀ (n10 : Nat) (v10_4 : Int32) (G10 : Nat → va_E) (H : Heap) (locs : List Loc) (ls : Array Slot), (5 - v10_4.toInt).toNat < n10 → (0 ≤ v10_4.toInt ∧ v10_4.toInt ≤ 5) → rdA G10 (gA g 198 4) st (v2_3.toInt) → rdB G10 (gA g 198 4) st v2_3 (v10_4.toInt) → v10_4.toInt ≤ gA g 198 4 → WF (shp ad K) ad cs G10 → (∀ j, j ≠ 206 → G10 j = g j) → va_P D vwCl (wL ad G10 218) H → va_S (wA ad 218) s.heap H locs → lv_has ls 7 [(4, .int v10_4), (3, .int v2_3), (0, .ref (ad 197)), (1, .int fr), (2, .int st)] → W p l e ({ frames := 2, cells := 0, slots := 0, locals := 36 } : Room) s m ([.ref (ad 197), .int fr, .int st] : List Value).toArray below meth c H locs 0 0 (MQ below (qI D ad 218 (fun r g2 => WF (shp ad K) ad cs g2 ∧ (∀ j, j ≠ 206 → g2 j = g j) ∧ (rdA g2 (gA g 198 4) st (st.toInt + 1)))) ([.ref (ad 197), .int fr, .int st] : List Value).toArray s 0 0 (wA ad 218)) (F0 m 10 ls []) := by
          intro n10
          induction n10 with
          | zero =>
            intro v10_4 G10 H locs ls hm10 hv10_0 he10_0 he10_1 he10_2 hW10 hfr10 hP hS hl
            exact absurd hm10 (Nat.not_lt_zero _)
          | succ n10 ih10 =>
            intro v10_4 G10 H locs ls hm10 hv10_0 he10_0 he10_1 he10_2 hW10 hfr10 hP hS hl
            refine lv_iload hx hb dX12_layRounds_10 (lv_at hl 0 rfl) ?_
            refine lv_aload_n hx hb dX12_layRounds_12 rfl (lv_at hl 2 rfl) ?_
            obtain ⟨fsc_8, hgc_8, hOc_8⟩ := hW10.obj (i := 197) (by decide) (sh_197 ad K)
            have hk_9 := hOc_8.ref 1 rfl
            refine q_get X iX12_layRounds_12 hP (by decide) hgc_8 rfl 1 (by decide) (List.mem_of_getElem? (i := 1) rfl) (v := .ref (ad 198)) hk_9 dX12_layRounds_13 ?_
            refine lv_iconst (v := 4) hx hb dX12_layRounds_16 (by decide) ?_
            obtain ⟨fc_10, hgc_10, hFc_10⟩ := hW10.arr (i := 198) (by decide) (sh_198 ad K)
            refine q_iald X hP (by decide) hgc_10 (by unfold vp_in; decide) dX12_layRounds_17 ?_
            refine lv_topi (fun z_11 ez_11 => ?_)
            have hqz_11 : wq (4) z_11.toInt := ez_11 ▸ hFc_10 _
            have hz_11 : 0 ≤ z_11.toInt ∧ z_11.toInt ≤ 5 := by unfold wq at hqz_11; omega
            clear hqz_11
            have hgaz_11 : gA G10 198 ((4 : Int32).toNatClampNeg) = z_11.toInt := by rw [ez_11]; exact gA_of hgc_10 _
            rw [(by decide : (4 : Int32).toNatClampNeg = 4)] at hgaz_11
            have hnEz_11 := gA_tr (hfr10 198 (by omega)) 4
            have HJ107 : ∀ (G107 : Nat → va_E) (H : Heap) (locs : List Loc) (ls : Array Slot), rdA G107 (gA g 198 4) st (v2_3.toInt + 1) → WF (shp ad K) ad cs G107 → (∀ j, j ≠ 206 → G107 j = g j) → G107 197 = .inr (12, fsc_8) → G107 198 = .inl (cs 1, 118, .inl fc_10) → va_P D vwCl (wL ad G107 218) H → va_S (wA ad 218) s.heap H locs → lv_has ls 7 [(3, .int v2_3), (0, .ref (ad 197)), (1, .int fr), (2, .int st)] → W p l e ({ frames := 2, cells := 0, slots := 0, locals := 36 } : Room) s m ([.ref (ad 197), .int fr, .int st] : List Value).toArray below meth c H locs 0 0 (MQ below (qI D ad 218 (fun r g2 => WF (shp ad K) ad cs g2 ∧ (∀ j, j ≠ 206 → g2 j = g j) ∧ (rdA g2 (gA g 198 4) st (st.toInt + 1)))) ([.ref (ad 197), .int fr, .int st] : List Value).toArray s 0 0 (wA ad 218)) (F0 m 107 ls []) := by
              intro G107 H locs ls he107_0 hW107 hfr107 hg107_0 hg107_1 hP hS hl
              obtain ⟨x_12, ex_12⟩ : ∃ y : Int32, y = v2_3 + 1 := ⟨_, rfl⟩
              have hx_12 : x_12.toInt = v2_3.toInt + 1 := n_add rfl (by decide : (1 : Int32).toInt = 1) ex_12 (by omega) (by omega)
              refine lv_iinc (v := x_12) (lv' := [(3, .int x_12), (0, .ref (ad 197)), (1, .int fr), (2, .int st)]) hx hb dX12_layRounds_107 hl (k := 0) rfl (by rw [ex_12]; rfl) (by decide) rfl (fun ls hl => ?_)
              refine lv_goto (tgt := 2) hx hb dX12_layRounds_110 (by decide) ?_
              exact ih2 x_12 G107 _ _ ls (by omega) (by omega) (by rw [hx_12]; exact he107_0) hW107 hfr107 hP hS (lv_sub hl [0, 1, 2, 3] rfl)
            refine lv_icmp_ge (tgt := 107) hx hb dX12_layRounds_18 (by decide) (fun hc_13 => ?_) (fun hc_13 => ?_)
            · have hhc_13 := n_le (rfl : z_11.toInt = z_11.toInt) (rfl : v10_4.toInt = v10_4.toInt) hc_13
              exact HJ107 G10 _ _ ls (he10_0.next (e := v10_4.toInt) (fun _ => he10_1) (fun q => by omega) rfl) hW10 hfr10 hgc_8 hgc_10 hP hS (lv_sub hl [1, 2, 3, 4] rfl)
            · have hhc_13 := n_nle (rfl : z_11.toInt = z_11.toInt) (rfl : v10_4.toInt = v10_4.toInt) hc_13
              refine lv_iload_n hx hb dX12_layRounds_21 rfl (lv_at hl 1 rfl) ?_
              refine lv_iload_n hx hb dX12_layRounds_22 rfl (lv_at hl 4 rfl) ?_
              refine lv_iconst (v := (-1)) hx hb dX12_layRounds_23 (by decide) ?_
              refine lv_ixor hx hb dX12_layRounds_24 ?_
              refine lv_topi (fun z_14 ez_14 => ?_)
              refine lv_iand hx hb dX12_layRounds_25 ?_
              refine lv_topi (fun z_15 ez_15 => ?_)
              refine lv_if_ne (tgt := 107) hx hb dX12_layRounds_26 (by decide) (fun hc_16 => ?_) (fun hc_16 => ?_)
              · have hhc_16 := n_ne (rfl : z_15.toInt = z_15.toInt) (by decide : (0 : Int32).toInt = 0) hc_16
                exact HJ107 G10 _ _ ls (he10_0.next (e := v10_4.toInt) (fun _ => he10_1) (fun q => by exfalso; have h5 : z_15 = 0 := (by rw [ez_15, ez_14]; exact q); have h6 : z_15.toInt = 0 := (by rw [h5]; decide); omega) rfl) hW10 hfr10 hgc_8 hgc_10 hP hS (lv_sub hl [1, 2, 3, 4] rfl)
              · have hhc_16 := n_eq (rfl : z_15.toInt = z_15.toInt) (by decide : (0 : Int32).toInt = 0) hc_16
                refine lv_iload_n hx hb dX12_layRounds_29 rfl (lv_at hl 1 rfl) ?_
                refine lv_if_ne (tgt := 37) hx hb dX12_layRounds_30 (by decide) (fun hc_17 => ?_) (fun hc_17 => ?_)
                · have hhc_17 := n_ne (rfl : v2_3.toInt = v2_3.toInt) (by decide : (0 : Int32).toInt = 0) hc_17
                  refine lv_ldcw (v := 1000000000) hx hb X.2.2.2.2.2.1 (X.2.2.2.2.1 _ (List.mem_of_getElem? (i := 13) rfl)) dX12_layRounds_37 ?_
                  refine lv_istore (lv' := [(5, .int 1000000000), (4, .int v10_4), (3, .int v2_3), (0, .ref (ad 197)), (1, .int fr), (2, .int st)]) hx hb dX12_layRounds_40 hl (by decide) rfl (fun ls hl => ?_)
                  refine lv_iconst (v := 0) hx hb dX12_layRounds_42 (by decide) ?_
                  refine lv_istore (lv' := [(6, .int 0), (5, .int 1000000000), (4, .int v10_4), (3, .int v2_3), (0, .ref (ad 197)), (1, .int fr), (2, .int st)]) hx hb dX12_layRounds_43 hl (by decide) rfl (fun ls hl => ?_)
                  have HL45 : ∀ (n45 : Nat) (v45_6 : Int32) (v45_5 : Int32) (G45 : Nat → va_E) (H : Heap) (locs : List Loc) (ls : Array Slot), (5 - v45_6.toInt).toNat < n45 → (0 ≤ v45_6.toInt ∧ v45_6.toInt ≤ 5) → (0 ≤ v45_5.toInt ∧ v45_5.toInt ≤ 1000000000) → rbP G45 v2_3 v10_4 (v45_5.toInt) (v45_6.toInt) → v45_6.toInt ≤ gA g 198 4 → rdA G45 (gA g 198 4) st (v2_3.toInt) → rdB G45 (gA g 198 4) st v2_3 (v10_4.toInt) → WF (shp ad K) ad cs G45 → (∀ j, j ≠ 206 → G45 j = g j) → va_P D vwCl (wL ad G45 218) H → va_S (wA ad 218) s.heap H locs → lv_has ls 7 [(6, .int v45_6), (5, .int v45_5), (4, .int v10_4), (3, .int v2_3), (0, .ref (ad 197)), (1, .int fr), (2, .int st)] → W p l e ({ frames := 2, cells := 0, slots := 0, locals := 36 } : Room) s m ([.ref (ad 197), .int fr, .int st] : List Value).toArray below meth c H locs 0 0 (MQ below (qI D ad 218 (fun r g2 => WF (shp ad K) ad cs g2 ∧ (∀ j, j ≠ 206 → g2 j = g j) ∧ (rdA g2 (gA g 198 4) st (st.toInt + 1)))) ([.ref (ad 197), .int fr, .int st] : List Value).toArray s 0 0 (wA ad 218)) (F0 m 45 ls []) := by
                    intro n45
                    induction n45 with
                    | zero =>
                      intro v45_6 v45_5 G45 H locs ls hm45 hv45_0 hv45_1 he45_0 he45_1 he45_2 he45_3 hW45 hfr45 hP hS hl
                      exact absurd hm45 (Nat.not_lt_zero _)
                    | succ n45 ih45 =>
                      intro v45_6 v45_5 G45 H locs ls hm45 hv45_0 hv45_1 he45_0 he45_1 he45_2 he45_3 hW45 hfr45 hP hS hl
                      refine lv_iload hx hb dX12_layRounds_45 (lv_at hl 0 rfl) ?_
                      refine lv_aload_n hx hb dX12_layRounds_47 rfl (lv_at hl 4 rfl) ?_
                      obtain ⟨fsc_18, hgc_18, hOc_18⟩ := hW45.obj (i := 197) (by decide) (sh_197 ad K)
                      have hk_19 := hOc_18.ref 1 rfl
                      refine q_get X iX12_layRounds_12 hP (by decide) hgc_18 rfl 1 (by decide) (List.mem_of_getElem? (i := 1) rfl) (v := .ref (ad 198)) hk_19 dX12_layRounds_48 ?_
                      refine lv_iconst (v := 4) hx hb dX12_layRounds_51 (by decide) ?_
                      obtain ⟨fc_20, hgc_20, hFc_20⟩ := hW45.arr (i := 198) (by decide) (sh_198 ad K)
                      refine q_iald X hP (by decide) hgc_20 (by unfold vp_in; decide) dX12_layRounds_52 ?_
                      refine lv_topi (fun z_21 ez_21 => ?_)
                      have hqz_21 : wq (4) z_21.toInt := ez_21 ▸ hFc_20 _
                      have hz_21 : 0 ≤ z_21.toInt ∧ z_21.toInt ≤ 5 := by unfold wq at hqz_21; omega
                      clear hqz_21
                      have hgaz_21 : gA G45 198 ((4 : Int32).toNatClampNeg) = z_21.toInt := by rw [ez_21]; exact gA_of hgc_20 _
                      rw [(by decide : (4 : Int32).toNatClampNeg = 4)] at hgaz_21
                      have hnEz_21 := gA_tr (hfr45 198 (by omega)) 4
                      refine lv_icmp_ge (tgt := 88) hx hb dX12_layRounds_53 (by decide) (fun hc_22 => ?_) (fun hc_22 => ?_)
                      · have hhc_22 := n_le (rfl : z_21.toInt = z_21.toInt) (rfl : v45_6.toInt = v45_6.toInt) hc_22
                        have hnE0 : 0 ≤ gA G45 198 4 ∧ gA G45 198 4 ≤ 5 := by rw [gA_of hgc_20]; have h8 := hFc_20 4; unfold wq at h8; omega
                        have hnEt := gA_tr (hfr45 198 (by omega)) 4
                        obtain ⟨hd0, hd1, hdx⟩ := he45_0.done (nE := gA g 198 4) (by omega) (by omega) (by omega) (by omega) (by omega) (by omega) (by omega)
                        refine lv_aload_n hx hb dX12_layRounds_88 rfl (lv_at hl 4 rfl) ?_
                        have hk_23 := hOc_18.ref 19 rfl
                        refine q_get X iX12_layRounds_12 hP (by decide) hgc_18 rfl 19 (by decide) (List.mem_of_getElem? (i := 12) rfl) (v := .ref (ad 206)) hk_23 dX12_layRounds_89 ?_
                        refine lv_iload hx hb dX12_layRounds_92 (lv_at hl 2 rfl) ?_
                        refine lv_iconst (v := 5) hx hb dX12_layRounds_94 (by decide) ?_
                        refine lv_ishl hx hb dX12_layRounds_95 ?_
                        refine lv_topi (fun z_24 ez_24 => ?_)
                        refine lv_iload_n hx hb dX12_layRounds_96 rfl (lv_at hl 3 rfl) ?_
                        refine lv_ior hx hb dX12_layRounds_97 ?_
                        refine lv_topi (fun z_25 ez_25 => ?_)
                        have hix : z_25.toInt = 32 * v10_4.toInt + v2_3.toInt := by have h5 := rr_e (t := v10_4) (s := v2_3) (by omega) (by omega) (by omega) (by omega); rw [show ixE v10_4 v2_3 = z_25 by rw [ez_25, ez_24]; rfl] at h5; exact h5
                        refine lv_iload hx hb dX12_layRounds_98 (lv_at hl 1 rfl) ?_
                        obtain ⟨fc_26, hgc_26, hFc_26⟩ := hW45.arr (i := 206) (by decide) (sh_206 ad K)
                        have hc_100 := n_cl (rfl : z_25.toInt = z_25.toInt) (by omega)
                        have hu_28 : rq (z_25.toNatClampNeg) (v45_5 : Int32).toInt := by unfold rq; omega
                        refine s_iast X hP hj hA hS (by decide) hgc_26 (n_in (rfl : z_25.toInt = z_25.toInt) (by omega) (by omega)) dX12_layRounds_100 hW45 (sh_206 ad K) (hFc_26.put hu_28) (fun fc_27 gc_27 H locs ec_27 hFc_27 hgc_27 hfc_27 hWc_27 hP hS => ?_)
                        have hg_30 := (hfc_27 197 (by decide)).trans hgc_18
                        have hg_31 := (hfc_27 198 (by decide)).trans hgc_20
                        have hfr_29 : ∀ j, j ≠ 206 → gc_27 j = g j := fun j hj => (hfc_27 j (by omega)).trans (hfr45 j hj)
                        have hcl_33 := n_cl (rfl : z_25.toInt = z_25.toInt) (by omega)
                        have hneq_32 : ∀ j, j ≠ z_25.toNatClampNeg → gA gc_27 206 j = gA G45 206 j := fun j q => gB_ne hgc_26 hgc_27 ec_27 q
                        have hatq_32 := gB_at (g := gc_27) hgc_27 ec_27 rfl
                        have hAq_32 := he45_2.keep hneq_32 (by omega : (z_25.toNatClampNeg : Int) = 32 * v10_4.toInt + v2_3.toInt) (by omega) (by omega) (by omega)
                        have hBq_32 := he45_3.next (e := v10_4.toInt + 1) hdx hneq_32 hatq_32 (by omega) (by omega) (by omega) rfl
                        clear hdx
                        obtain ⟨x_34, ex_34⟩ : ∃ y : Int32, y = v10_4 + 1 := ⟨_, rfl⟩
                        have hx_34 : x_34.toInt = v10_4.toInt + 1 := n_add rfl (by decide : (1 : Int32).toInt = 1) ex_34 (by omega) (by omega)
                        refine lv_iinc (v := x_34) (lv' := [(4, .int x_34), (6, .int v45_6), (5, .int v45_5), (3, .int v2_3), (0, .ref (ad 197)), (1, .int fr), (2, .int st)]) hx hb dX12_layRounds_101 hl (k := 2) rfl (by rw [ex_34]; rfl) (by decide) rfl (fun ls hl => ?_)
                        refine lv_goto (tgt := 10) hx hb dX12_layRounds_104 (by decide) ?_
                        exact ih10 x_34 gc_27 _ _ ls (by omega) (by omega) hAq_32 (by rw [hx_34]; exact hBq_32) (by omega) hWc_27 hfr_29 hP hS (lv_sub hl [0, 3, 4, 5, 6] rfl)
                      · have hhc_22 := n_nle (rfl : z_21.toInt = z_21.toInt) (rfl : v45_6.toInt = v45_6.toInt) hc_22
                        refine lv_iload_n hx hb dX12_layRounds_56 rfl (lv_at hl 3 rfl) ?_
                        refine lv_iload hx hb dX12_layRounds_57 (lv_at hl 0 rfl) ?_
                        refine s_callSi (As := [.int v2_3, .int v45_6]) (rest := []) X Z (s_X12_bit l D cs ad kS K hKO hj G45 hW45 v2_3 v45_6) (cwS 2 X.2.2.2.2.1 gg_X12_layRounds_X12_bit rfl rfl rfl (by decide +kernel) ⟨Nat.le_of_ble_eq_true rfl, Nat.le_of_ble_eq_true rfl⟩) hP hA hS.2.1 hS rfl hl.1 rfl (Nat.le_of_ble_eq_true rfl) dX12_layRounds_59 ⟨Nat.le_of_ble_eq_true rfl, Nat.le_of_ble_eq_true rfl⟩ (fun r_37 g_36 H locs hw_35 hP hS => ?_)
                        obtain ⟨hw_35g, hw_35⟩ := hw_35
                        rw [hw_35g] at hP
                        have hber_37 : r_37 = bitI v2_3 v45_6 := hw_35.2.2
                        refine lv_iconst (v := 1) hx hb dX12_layRounds_62 (by decide) ?_
                        have HJ82 : ∀ (v82_5 : Int32) (G82 : Nat → va_E) (H : Heap) (locs : List Loc) (ls : Array Slot), (0 ≤ v82_5.toInt ∧ v82_5.toInt ≤ 1000000000) → rbP G82 v2_3 v10_4 (v82_5.toInt) (v45_6.toInt + 1) → rdA G82 (gA g 198 4) st (v2_3.toInt) → rdB G82 (gA g 198 4) st v2_3 (v10_4.toInt) → WF (shp ad K) ad cs G82 → (∀ j, j ≠ 206 → G82 j = g j) → G82 197 = .inr (12, fsc_18) → G82 198 = .inl (cs 1, 118, .inl fc_20) → va_P D vwCl (wL ad G82 218) H → va_S (wA ad 218) s.heap H locs → lv_has ls 7 [(6, .int v45_6), (5, .int v82_5), (4, .int v10_4), (3, .int v2_3), (0, .ref (ad 197)), (1, .int fr), (2, .int st)] → W p l e ({ frames := 2, cells := 0, slots := 0, locals := 36 } : Room) s m ([.ref (ad 197), .int fr, .int st] : List Value).toArray below meth c H locs 0 0 (MQ below (qI D ad 218 (fun r g2 => WF (shp ad K) ad cs g2 ∧ (∀ j, j ≠ 206 → g2 j = g j) ∧ (rdA g2 (gA g 198 4) st (st.toInt + 1)))) ([.ref (ad 197), .int fr, .int st] : List Value).toArray s 0 0 (wA ad 218)) (F0 m 82 ls []) := by
                          intro v82_5 G82 H locs ls hv82_0 he82_0 he82_1 he82_2 hW82 hfr82 hg82_0 hg82_1 hP hS hl
                          obtain ⟨x_38, ex_38⟩ : ∃ y : Int32, y = v45_6 + 1 := ⟨_, rfl⟩
                          have hx_38 : x_38.toInt = v45_6.toInt + 1 := n_add rfl (by decide : (1 : Int32).toInt = 1) ex_38 (by omega) (by omega)
                          refine lv_iinc (v := x_38) (lv' := [(6, .int x_38), (5, .int v82_5), (4, .int v10_4), (3, .int v2_3), (0, .ref (ad 197)), (1, .int fr), (2, .int st)]) hx hb dX12_layRounds_82 hl (k := 0) rfl (by rw [ex_38]; rfl) (by decide) rfl (fun ls hl => ?_)
                          refine lv_goto (tgt := 45) hx hb dX12_layRounds_85 (by decide) ?_
                          exact ih45 x_38 v82_5 G82 _ _ ls (by omega) (by omega) (by omega) (by rw [hx_38]; exact he82_0) (by omega) he82_1 he82_2 hW82 hfr82 hP hS (lv_sub hl [0, 1, 2, 3, 4, 5, 6] rfl)
                        refine lv_icmp_ne (tgt := 82) hx hb dX12_layRounds_63 (by decide) (fun hc_39 => ?_) (fun hc_39 => ?_)
                        · have hhc_39 := n_ne (rfl : r_37.toInt = r_37.toInt) (by decide : (1 : Int32).toInt = 1) hc_39
                          exact HJ82 v45_5 G45 _ _ ls (by omega) (he45_0.skip rfl (fun q => by have h5 := congrArg Int32.toInt ((hber_37).trans q); have h6 : (1 : Int32).toInt = 1 := (by decide); omega) rfl) he45_2 he45_3 hW45 hfr45 hgc_18 hgc_20 hP hS (lv_sub hl [0, 1, 2, 3, 4, 5, 6] rfl)
                        · have hhc_39 := n_eq (rfl : r_37.toInt = r_37.toInt) (by decide : (1 : Int32).toInt = 1) hc_39
                          refine lv_iload hx hb dX12_layRounds_66 (lv_at hl 1 rfl) ?_
                          refine lv_aload_n hx hb dX12_layRounds_68 rfl (lv_at hl 4 rfl) ?_
                          refine lv_iload hx hb dX12_layRounds_69 (lv_at hl 2 rfl) ?_
                          refine lv_iload_n hx hb dX12_layRounds_71 rfl (lv_at hl 3 rfl) ?_
                          refine lv_iload hx hb dX12_layRounds_72 (lv_at hl 0 rfl) ?_
                          refine s_calli (q := (RX12, TX12, 40)) (As := [.int v10_4, .int v2_3, .int v45_6]) (rest := [.int v45_5]) X Z (s_X12_roundBy l D cs ad kS K hKO hj G45 hW45 v10_4 v2_3 v45_6 (by omega) (by omega) (by omega)) (cwV 3 X.2.2.2.2.1 gg_X12_layRounds_X12_roundBy rfl rfl rfl (by decide +kernel) ⟨Nat.le_of_ble_eq_true rfl, Nat.le_of_ble_eq_true rfl⟩) (by decide) hgc_18 rfl hP hA hS.2.1 hS rfl hl.1 rfl (Nat.le_of_ble_eq_true rfl) dX12_layRounds_74 ⟨Nat.le_of_ble_eq_true rfl, Nat.le_of_ble_eq_true rfl⟩ (fun r_42 g_41 H locs hw_40 hP hS => ?_)
                          obtain ⟨hw_40g, hw_40⟩ := hw_40
                          rw [hw_40g] at hP
                          refine va_mmin hx hb (X.2.2.2.1.trans hl.1.symm) X.2.2.2.2.2.1 (X.2.2.2.2.1 _ (List.mem_of_getElem? (i := 8) rfl)) (X.2.2.2.2.1 _ (List.mem_of_getElem? (i := 9) rfl)) (X.2.2.2.2.1 _ (List.mem_of_getElem? (i := 10) rfl)) (X.2.2.2.2.1 _ (List.mem_of_getElem? (i := 11) rfl)) (Nat.le_of_ble_eq_true rfl) (Nat.le_of_ble_eq_true rfl) (Nat.le_of_ble_eq_true rfl) (Nat.le_of_ble_eq_true rfl) dX12_layRounds_77 ?_
                          refine lv_topi (fun z_43 ez_43 => ?_)
                          have hz_43 := n_min (rfl : v45_5.toInt = v45_5.toInt) (rfl : r_42.toInt = r_42.toInt) ez_43
                          refine lv_istore (lv' := [(5, .int z_43), (6, .int v45_6), (4, .int v10_4), (3, .int v2_3), (0, .ref (ad 197)), (1, .int fr), (2, .int st)]) hx hb dX12_layRounds_80 hl (by decide) rfl (fun ls hl => ?_)
                          exact HJ82 z_43 G45 _ _ ls (by omega) (he45_0.take rfl (by omega) (by omega) (by omega) (by omega) ((hber_37).symm.trans (Int32.toInt_inj.mp (by rw [show (1 : Int32).toInt = 1 by decide]; omega))) hw_40.1 hw_40.2.1 hw_40.2.2 hz_43 rfl) he45_2 he45_3 hW45 hfr45 hgc_18 hgc_20 hP hS (lv_sub hl [1, 0, 2, 3, 4, 5, 6] rfl)
                  have hiv45_6 : (0 : Int32).toInt = 0 := by decide
                  have hiv45_5 : (1000000000 : Int32).toInt = 1000000000 := by decide
                  exact HL45 _ 0 1000000000 G10 _ _ ls (Nat.lt_succ_self _) (by omega) (by omega) (rbP.z1 (by omega) (by omega) (by omega)) (by omega) he10_0 he10_1 hW10 hfr10 hP hS (lv_sub hl [0, 1, 2, 3, 4, 5, 6] rfl)
                · have hhc_17 := n_eq (rfl : v2_3.toInt = v2_3.toInt) (by decide : (0 : Int32).toInt = 0) hc_17
                  refine lv_iconst (v := 0) hx hb dX12_layRounds_33 (by decide) ?_
                  refine lv_goto (tgt := 40) hx hb dX12_layRounds_34 (by decide) ?_
                  refine lv_istore (lv' := [(5, .int 0), (4, .int v10_4), (3, .int v2_3), (0, .ref (ad 197)), (1, .int fr), (2, .int st)]) hx hb dX12_layRounds_40 hl (by decide) rfl (fun ls hl => ?_)
                  refine lv_iconst (v := 0) hx hb dX12_layRounds_42 (by decide) ?_
                  refine lv_istore (lv' := [(6, .int 0), (5, .int 0), (4, .int v10_4), (3, .int v2_3), (0, .ref (ad 197)), (1, .int fr), (2, .int st)]) hx hb dX12_layRounds_43 hl (by decide) rfl (fun ls hl => ?_)
                  have HL45 : ∀ (n45 : Nat) (v45_6 : Int32) (v45_5 : Int32) (G45 : Nat → va_E) (H : Heap) (locs : List Loc) (ls : Array Slot), (5 - v45_6.toInt).toNat < n45 → (0 ≤ v45_6.toInt ∧ v45_6.toInt ≤ 5) → (0 ≤ v45_5.toInt ∧ v45_5.toInt ≤ 1000000000) → rbP G45 v2_3 v10_4 (v45_5.toInt) (v45_6.toInt) → v45_6.toInt ≤ gA g 198 4 → rdA G45 (gA g 198 4) st (v2_3.toInt) → rdB G45 (gA g 198 4) st v2_3 (v10_4.toInt) → WF (shp ad K) ad cs G45 → (∀ j, j ≠ 206 → G45 j = g j) → va_P D vwCl (wL ad G45 218) H → va_S (wA ad 218) s.heap H locs → lv_has ls 7 [(6, .int v45_6), (5, .int v45_5), (4, .int v10_4), (3, .int v2_3), (0, .ref (ad 197)), (1, .int fr), (2, .int st)] → W p l e ({ frames := 2, cells := 0, slots := 0, locals := 36 } : Room) s m ([.ref (ad 197), .int fr, .int st] : List Value).toArray below meth c H locs 0 0 (MQ below (qI D ad 218 (fun r g2 => WF (shp ad K) ad cs g2 ∧ (∀ j, j ≠ 206 → g2 j = g j) ∧ (rdA g2 (gA g 198 4) st (st.toInt + 1)))) ([.ref (ad 197), .int fr, .int st] : List Value).toArray s 0 0 (wA ad 218)) (F0 m 45 ls []) := by
                    intro n45
                    induction n45 with
                    | zero =>
                      intro v45_6 v45_5 G45 H locs ls hm45 hv45_0 hv45_1 he45_0 he45_1 he45_2 he45_3 hW45 hfr45 hP hS hl
                      exact absurd hm45 (Nat.not_lt_zero _)
                    | succ n45 ih45 =>
                      intro v45_6 v45_5 G45 H locs ls hm45 hv45_0 hv45_1 he45_0 he45_1 he45_2 he45_3 hW45 hfr45 hP hS hl
                      refine lv_iload hx hb dX12_layRounds_45 (lv_at hl 0 rfl) ?_
                      refine lv_aload_n hx hb dX12_layRounds_47 rfl (lv_at hl 4 rfl) ?_
                      obtain ⟨fsc_44, hgc_44, hOc_44⟩ := hW45.obj (i := 197) (by decide) (sh_197 ad K)
                      have hk_45 := hOc_44.ref 1 rfl
                      refine q_get X iX12_layRounds_12 hP (by decide) hgc_44 rfl 1 (by decide) (List.mem_of_getElem? (i := 1) rfl) (v := .ref (ad 198)) hk_45 dX12_layRounds_48 ?_
                      refine lv_iconst (v := 4) hx hb dX12_layRounds_51 (by decide) ?_
                      obtain ⟨fc_46, hgc_46, hFc_46⟩ := hW45.arr (i := 198) (by decide) (sh_198 ad K)
                      refine q_iald X hP (by decide) hgc_46 (by unfold vp_in; decide) dX12_layRounds_52 ?_
                      refine lv_topi (fun z_47 ez_47 => ?_)
                      have hqz_47 : wq (4) z_47.toInt := ez_47 ▸ hFc_46 _
                      have hz_47 : 0 ≤ z_47.toInt ∧ z_47.toInt ≤ 5 := by unfold wq at hqz_47; omega
                      clear hqz_47
                      have hgaz_47 : gA G45 198 ((4 : Int32).toNatClampNeg) = z_47.toInt := by rw [ez_47]; exact gA_of hgc_46 _
                      rw [(by decide : (4 : Int32).toNatClampNeg = 4)] at hgaz_47
                      have hnEz_47 := gA_tr (hfr45 198 (by omega)) 4
                      refine lv_icmp_ge (tgt := 88) hx hb dX12_layRounds_53 (by decide) (fun hc_48 => ?_) (fun hc_48 => ?_)
                      · have hhc_48 := n_le (rfl : z_47.toInt = z_47.toInt) (rfl : v45_6.toInt = v45_6.toInt) hc_48
                        have hnE0 : 0 ≤ gA G45 198 4 ∧ gA G45 198 4 ≤ 5 := by rw [gA_of hgc_46]; have h8 := hFc_46 4; unfold wq at h8; omega
                        have hnEt := gA_tr (hfr45 198 (by omega)) 4
                        obtain ⟨hd0, hd1, hdx⟩ := he45_0.done (nE := gA g 198 4) (by omega) (by omega) (by omega) (by omega) (by omega) (by omega) (by omega)
                        refine lv_aload_n hx hb dX12_layRounds_88 rfl (lv_at hl 4 rfl) ?_
                        have hk_49 := hOc_44.ref 19 rfl
                        refine q_get X iX12_layRounds_12 hP (by decide) hgc_44 rfl 19 (by decide) (List.mem_of_getElem? (i := 12) rfl) (v := .ref (ad 206)) hk_49 dX12_layRounds_89 ?_
                        refine lv_iload hx hb dX12_layRounds_92 (lv_at hl 2 rfl) ?_
                        refine lv_iconst (v := 5) hx hb dX12_layRounds_94 (by decide) ?_
                        refine lv_ishl hx hb dX12_layRounds_95 ?_
                        refine lv_topi (fun z_50 ez_50 => ?_)
                        refine lv_iload_n hx hb dX12_layRounds_96 rfl (lv_at hl 3 rfl) ?_
                        refine lv_ior hx hb dX12_layRounds_97 ?_
                        refine lv_topi (fun z_51 ez_51 => ?_)
                        have hix : z_51.toInt = 32 * v10_4.toInt + v2_3.toInt := by have h5 := rr_e (t := v10_4) (s := v2_3) (by omega) (by omega) (by omega) (by omega); rw [show ixE v10_4 v2_3 = z_51 by rw [ez_51, ez_50]; rfl] at h5; exact h5
                        refine lv_iload hx hb dX12_layRounds_98 (lv_at hl 1 rfl) ?_
                        obtain ⟨fc_52, hgc_52, hFc_52⟩ := hW45.arr (i := 206) (by decide) (sh_206 ad K)
                        have hc_100 := n_cl (rfl : z_51.toInt = z_51.toInt) (by omega)
                        have hu_54 : rq (z_51.toNatClampNeg) (v45_5 : Int32).toInt := by unfold rq; omega
                        refine s_iast X hP hj hA hS (by decide) hgc_52 (n_in (rfl : z_51.toInt = z_51.toInt) (by omega) (by omega)) dX12_layRounds_100 hW45 (sh_206 ad K) (hFc_52.put hu_54) (fun fc_53 gc_53 H locs ec_53 hFc_53 hgc_53 hfc_53 hWc_53 hP hS => ?_)
                        have hg_56 := (hfc_53 197 (by decide)).trans hgc_44
                        have hg_57 := (hfc_53 198 (by decide)).trans hgc_46
                        have hfr_55 : ∀ j, j ≠ 206 → gc_53 j = g j := fun j hj => (hfc_53 j (by omega)).trans (hfr45 j hj)
                        have hcl_59 := n_cl (rfl : z_51.toInt = z_51.toInt) (by omega)
                        have hneq_58 : ∀ j, j ≠ z_51.toNatClampNeg → gA gc_53 206 j = gA G45 206 j := fun j q => gB_ne hgc_52 hgc_53 ec_53 q
                        have hatq_58 := gB_at (g := gc_53) hgc_53 ec_53 rfl
                        have hAq_58 := he45_2.keep hneq_58 (by omega : (z_51.toNatClampNeg : Int) = 32 * v10_4.toInt + v2_3.toInt) (by omega) (by omega) (by omega)
                        have hBq_58 := he45_3.next (e := v10_4.toInt + 1) hdx hneq_58 hatq_58 (by omega) (by omega) (by omega) rfl
                        clear hdx
                        obtain ⟨x_60, ex_60⟩ : ∃ y : Int32, y = v10_4 + 1 := ⟨_, rfl⟩
                        have hx_60 : x_60.toInt = v10_4.toInt + 1 := n_add rfl (by decide : (1 : Int32).toInt = 1) ex_60 (by omega) (by omega)
                        refine lv_iinc (v := x_60) (lv' := [(4, .int x_60), (6, .int v45_6), (5, .int v45_5), (3, .int v2_3), (0, .ref (ad 197)), (1, .int fr), (2, .int st)]) hx hb dX12_layRounds_101 hl (k := 2) rfl (by rw [ex_60]; rfl) (by decide) rfl (fun ls hl => ?_)
                        refine lv_goto (tgt := 10) hx hb dX12_layRounds_104 (by decide) ?_
                        exact ih10 x_60 gc_53 _ _ ls (by omega) (by omega) hAq_58 (by rw [hx_60]; exact hBq_58) (by omega) hWc_53 hfr_55 hP hS (lv_sub hl [0, 3, 4, 5, 6] rfl)
                      · have hhc_48 := n_nle (rfl : z_47.toInt = z_47.toInt) (rfl : v45_6.toInt = v45_6.toInt) hc_48
                        refine lv_iload_n hx hb dX12_layRounds_56 rfl (lv_at hl 3 rfl) ?_
                        refine lv_iload hx hb dX12_layRounds_57 (lv_at hl 0 rfl) ?_
                        refine s_callSi (As := [.int v2_3, .int v45_6]) (rest := []) X Z (s_X12_bit l D cs ad kS K hKO hj G45 hW45 v2_3 v45_6) (cwS 2 X.2.2.2.2.1 gg_X12_layRounds_X12_bit rfl rfl rfl (by decide +kernel) ⟨Nat.le_of_ble_eq_true rfl, Nat.le_of_ble_eq_true rfl⟩) hP hA hS.2.1 hS rfl hl.1 rfl (Nat.le_of_ble_eq_true rfl) dX12_layRounds_59 ⟨Nat.le_of_ble_eq_true rfl, Nat.le_of_ble_eq_true rfl⟩ (fun r_63 g_62 H locs hw_61 hP hS => ?_)
                        obtain ⟨hw_61g, hw_61⟩ := hw_61
                        rw [hw_61g] at hP
                        have hber_63 : r_63 = bitI v2_3 v45_6 := hw_61.2.2
                        refine lv_iconst (v := 1) hx hb dX12_layRounds_62 (by decide) ?_
                        have HJ82 : ∀ (v82_5 : Int32) (G82 : Nat → va_E) (H : Heap) (locs : List Loc) (ls : Array Slot), (0 ≤ v82_5.toInt ∧ v82_5.toInt ≤ 1000000000) → rbP G82 v2_3 v10_4 (v82_5.toInt) (v45_6.toInt + 1) → rdA G82 (gA g 198 4) st (v2_3.toInt) → rdB G82 (gA g 198 4) st v2_3 (v10_4.toInt) → WF (shp ad K) ad cs G82 → (∀ j, j ≠ 206 → G82 j = g j) → G82 197 = .inr (12, fsc_44) → G82 198 = .inl (cs 1, 118, .inl fc_46) → va_P D vwCl (wL ad G82 218) H → va_S (wA ad 218) s.heap H locs → lv_has ls 7 [(6, .int v45_6), (5, .int v82_5), (4, .int v10_4), (3, .int v2_3), (0, .ref (ad 197)), (1, .int fr), (2, .int st)] → W p l e ({ frames := 2, cells := 0, slots := 0, locals := 36 } : Room) s m ([.ref (ad 197), .int fr, .int st] : List Value).toArray below meth c H locs 0 0 (MQ below (qI D ad 218 (fun r g2 => WF (shp ad K) ad cs g2 ∧ (∀ j, j ≠ 206 → g2 j = g j) ∧ (rdA g2 (gA g 198 4) st (st.toInt + 1)))) ([.ref (ad 197), .int fr, .int st] : List Value).toArray s 0 0 (wA ad 218)) (F0 m 82 ls []) := by
                          intro v82_5 G82 H locs ls hv82_0 he82_0 he82_1 he82_2 hW82 hfr82 hg82_0 hg82_1 hP hS hl
                          obtain ⟨x_64, ex_64⟩ : ∃ y : Int32, y = v45_6 + 1 := ⟨_, rfl⟩
                          have hx_64 : x_64.toInt = v45_6.toInt + 1 := n_add rfl (by decide : (1 : Int32).toInt = 1) ex_64 (by omega) (by omega)
                          refine lv_iinc (v := x_64) (lv' := [(6, .int x_64), (5, .int v82_5), (4, .int v10_4), (3, .int v2_3), (0, .ref (ad 197)), (1, .int fr), (2, .int st)]) hx hb dX12_layRounds_82 hl (k := 0) rfl (by rw [ex_64]; rfl) (by decide) rfl (fun ls hl => ?_)
                          refine lv_goto (tgt := 45) hx hb dX12_layRounds_85 (by decide) ?_
                          exact ih45 x_64 v82_5 G82 _ _ ls (by omega) (by omega) (by omega) (by rw [hx_64]; exact he82_0) (by omega) he82_1 he82_2 hW82 hfr82 hP hS (lv_sub hl [0, 1, 2, 3, 4, 5, 6] rfl)
                        refine lv_icmp_ne (tgt := 82) hx hb dX12_layRounds_63 (by decide) (fun hc_65 => ?_) (fun hc_65 => ?_)
                        · have hhc_65 := n_ne (rfl : r_63.toInt = r_63.toInt) (by decide : (1 : Int32).toInt = 1) hc_65
                          exact HJ82 v45_5 G45 _ _ ls (by omega) (he45_0.skip rfl (fun q => by have h5 := congrArg Int32.toInt ((hber_63).trans q); have h6 : (1 : Int32).toInt = 1 := (by decide); omega) rfl) he45_2 he45_3 hW45 hfr45 hgc_44 hgc_46 hP hS (lv_sub hl [0, 1, 2, 3, 4, 5, 6] rfl)
                        · have hhc_65 := n_eq (rfl : r_63.toInt = r_63.toInt) (by decide : (1 : Int32).toInt = 1) hc_65
                          refine lv_iload hx hb dX12_layRounds_66 (lv_at hl 1 rfl) ?_
                          refine lv_aload_n hx hb dX12_layRounds_68 rfl (lv_at hl 4 rfl) ?_
                          refine lv_iload hx hb dX12_layRounds_69 (lv_at hl 2 rfl) ?_
                          refine lv_iload_n hx hb dX12_layRounds_71 rfl (lv_at hl 3 rfl) ?_
                          refine lv_iload hx hb dX12_layRounds_72 (lv_at hl 0 rfl) ?_
                          refine s_calli (q := (RX12, TX12, 40)) (As := [.int v10_4, .int v2_3, .int v45_6]) (rest := [.int v45_5]) X Z (s_X12_roundBy l D cs ad kS K hKO hj G45 hW45 v10_4 v2_3 v45_6 (by omega) (by omega) (by omega)) (cwV 3 X.2.2.2.2.1 gg_X12_layRounds_X12_roundBy rfl rfl rfl (by decide +kernel) ⟨Nat.le_of_ble_eq_true rfl, Nat.le_of_ble_eq_true rfl⟩) (by decide) hgc_44 rfl hP hA hS.2.1 hS rfl hl.1 rfl (Nat.le_of_ble_eq_true rfl) dX12_layRounds_74 ⟨Nat.le_of_ble_eq_true rfl, Nat.le_of_ble_eq_true rfl⟩ (fun r_68 g_67 H locs hw_66 hP hS => ?_)
                          obtain ⟨hw_66g, hw_66⟩ := hw_66
                          rw [hw_66g] at hP
                          refine va_mmin hx hb (X.2.2.2.1.trans hl.1.symm) X.2.2.2.2.2.1 (X.2.2.2.2.1 _ (List.mem_of_getElem? (i := 8) rfl)) (X.2.2.2.2.1 _ (List.mem_of_getElem? (i := 9) rfl)) (X.2.2.2.2.1 _ (List.mem_of_getElem? (i := 10) rfl)) (X.2.2.2.2.1 _ (List.mem_of_getElem? (i := 11) rfl)) (Nat.le_of_ble_eq_true rfl) (Nat.le_of_ble_eq_true rfl) (Nat.le_of_ble_eq_true rfl) (Nat.le_of_ble_eq_true rfl) dX12_layRounds_77 ?_
                          refine lv_topi (fun z_69 ez_69 => ?_)
                          have hz_69 := n_min (rfl : v45_5.toInt = v45_5.toInt) (rfl : r_68.toInt = r_68.toInt) ez_69
                          refine lv_istore (lv' := [(5, .int z_69), (6, .int v45_6), (4, .int v10_4), (3, .int v2_3), (0, .ref (ad 197)), (1, .int fr), (2, .int st)]) hx hb dX12_layRounds_80 hl (by decide) rfl (fun ls hl => ?_)
                          exact HJ82 z_69 G45 _ _ ls (by omega) (he45_0.take rfl (by omega) (by omega) (by omega) (by omega) ((hber_63).symm.trans (Int32.toInt_inj.mp (by rw [show (1 : Int32).toInt = 1 by decide]; omega))) hw_66.1 hw_66.2.1 hw_66.2.2 hz_69 rfl) he45_2 he45_3 hW45 hfr45 hgc_44 hgc_46 hP hS (lv_sub hl [1, 0, 2, 3, 4, 5, 6] rfl)
                  have hiv45_6 : (0 : Int32).toInt = 0 := by decide
                  have hiv45_5 : (0 : Int32).toInt = 0 := by decide
                  exact HL45 _ 0 0 G10 _ _ ls (Nat.lt_succ_self _) (by omega) (by omega) (rbP.z0 (by omega) (by omega)) (by omega) he10_0 he10_1 hW10 hfr10 hP hS (lv_sub hl [0, 1, 2, 3, 4, 5, 6] rfl)
        have hiv10_4 : (0 : Int32).toInt = 0 := by decide
        exact HL10 _ 0 G2 _ _ ls (Nat.lt_succ_self _) (by omega) he2_0 (fun ev a b_ c_ d => by exfalso; omega) (by omega) hW2 hfr2 hP hS (lv_sub hl [0, 1, 2, 3, 4] rfl)
  have hiv2_3 : (0 : Int32).toInt = 0 := by decide
  exact HL2 _ 0 g _ _ ls (Nat.lt_succ_self _) (by omega) (fun p ev a b_ => by exfalso; omega) hW hfr hP hS (lv_sub hl [0, 1, 2, 3] rfl)

theorem dX12_round_0 : decode cX12_round 0 = .ok (.aload_n 0, 1) := by decide +kernel
theorem dX12_round_1 : decode cX12_round 1 = .ok (.iload_n 1, 1) := by decide +kernel
theorem dX12_round_2 : decode cX12_round 2 = .ok (.iload_n 2, 1) := by decide +kernel
theorem dX12_round_3 : decode cX12_round 3 = .ok (.invokevirtual 301, 3) := by decide +kernel
theorem dX12_round_6 : decode cX12_round 6 = .ok (.ifCond .eq 12, 3) := by decide +kernel
theorem dX12_round_9 : decode cX12_round 9 = .ok (.aload_n 0, 1) := by decide +kernel
theorem dX12_round_10 : decode cX12_round 10 = .ok (.iload_n 1, 1) := by decide +kernel
theorem dX12_round_11 : decode cX12_round 11 = .ok (.iload_n 2, 1) := by decide +kernel
theorem dX12_round_12 : decode cX12_round 12 = .ok (.invokevirtual 304, 3) := by decide +kernel
theorem dX12_round_15 : decode cX12_round 15 = .ok (.goto 5, 3) := by decide +kernel
theorem dX12_round_18 : decode cX12_round 18 = .ok (.bipush (-2), 2) := by decide +kernel
theorem dX12_round_20 : decode cX12_round 20 = .ok (.ireturn, 1) := by decide +kernel
noncomputable def vX12_round : List Cond := .code yX12_round cX12_round 3 (some .int) :: (([.methodLink RX12 301 yX12_isRound, .instanceMethod yX12_isRound, .selects RX12 yX12_isRound yX12_isRound, .initialized RX12, .methodLink RX12 304 yX12_layRounds, .instanceMethod yX12_layRounds, .selects RX12 yX12_layRounds yX12_layRounds] : List Cond) ++ (vX12_isRound ++ vX12_layRounds))
theorem gs_X12_round : Gd vX12_round := Gd.cons (by decide +kernel) (Gd.app (Gd.r (by decide +kernel)) (Gd.app gs_X12_isRound gs_X12_layRounds))
theorem gg_X12_round_X12_isRound : GoodIn vX12_round (wsV RX12 301 RX12 yX12_isRound vX12_isRound) := goodIn_app (goodIn_r _ [1, 2, 3, 4] (by decide +kernel) (by decide +kernel)) (fun w h => ⟨List.mem_cons_of_mem _ (List.mem_append_right _ (List.mem_append_left _ h)), gs_X12_isRound w h⟩)
theorem gg_X12_round_X12_layRounds : GoodIn vX12_round (wsV RX12 304 RX12 yX12_layRounds vX12_layRounds) := goodIn_app (goodIn_r _ [5, 6, 7, 4] (by decide +kernel) (by decide +kernel)) (fun w h => ⟨List.mem_cons_of_mem _ (List.mem_append_right _ (List.mem_append_right _ (h))), gs_X12_layRounds w h⟩)
set_option maxHeartbeats 4000000 in
set_option maxRecDepth 100000 in
theorem s_X12_round (l : Launch) (D : va_G) (cs : Nat → ClassId) (ad : Nat → Nat) (kS : kSt) (K : sK) (hKO : KO K) (hj : wJ ad 218) (g : Nat → va_E) (hW : WF (shp ad K) ad cs g) (fr : Int32) (st : Int32) : sI l yX12_round vX12_round { frames := 3, cells := 0, slots := 0, locals := 68 } D cs ad kS [.ref (ad 197), .int fr, .int st] g (fun r g2 => WF (shp ad K) ad cs g2 ∧ (∀ j, j ≠ 206 → g2 j = g j)) := by
  refine Met.startS (cc := cX12_round) (maxL := 3) (ret := (some .int)) RX12 rfl (by decide) rfl (Nat.le_of_ble_eq_true rfl) ?_
  intro p e s m below meth c ls X Z hP hl
  have hx := X.1
  have hb := X.2.1
  have hS : va_S (wA ad 218) s.heap s.heap [] := va_S.rf
  have hA : ∀ i, i < 218 → wA ad 218 (ad i) := fun i h => ⟨i, h, rfl⟩
  have hfr : ∀ j, j ≠ 206 → g j = g j := fun _ _ => rfl
  have hl : lv_has ls 3 [(0, .ref (ad 197)), (1, .int fr), (2, .int st)] := hl
  refine lv_aload_n hx hb dX12_round_0 rfl (lv_at hl 0 rfl) ?_
  refine lv_iload_n hx hb dX12_round_1 rfl (lv_at hl 1 rfl) ?_
  refine lv_iload_n hx hb dX12_round_2 rfl (lv_at hl 2 rfl) ?_
  obtain ⟨fsc_4, hgc_4, hOc_4⟩ := hW.obj (i := 197) (by decide) (sh_197 ad K)
  refine s_calli (q := (RX12, TX12, 40)) (As := [.int fr, .int st]) (rest := []) X Z (s_X12_isRound l D cs ad kS K hKO hj g hW fr st) (cwV 2 X.2.2.2.2.1 gg_X12_round_X12_isRound rfl rfl rfl (by decide +kernel) ⟨Nat.le_of_ble_eq_true rfl, Nat.le_of_ble_eq_true rfl⟩) (by decide) hgc_4 rfl hP hA hS.2.1 hS rfl hl.1 rfl (Nat.le_of_ble_eq_true rfl) dX12_round_3 ⟨Nat.le_of_ble_eq_true rfl, Nat.le_of_ble_eq_true rfl⟩ (fun r_3 g_2 H locs hw_1 hP hS => ?_)
  obtain ⟨hw_1g, hw_1⟩ := hw_1
  rw [hw_1g] at hP
  refine lv_if_eq (tgt := 18) hx hb dX12_round_6 (by decide) (fun hc_5 => ?_) (fun hc_5 => ?_)
  · have hhc_5 := n_eq (rfl : r_3.toInt = r_3.toInt) (by decide : (0 : Int32).toInt = 0) hc_5
    refine lv_bipush (v := (-2)) hx hb dX12_round_18 (by decide) ?_
    exact q_iret X hP hS ⟨hW, hfr⟩ dX12_round_20
  · have hhc_5 := n_ne (rfl : r_3.toInt = r_3.toInt) (by decide : (0 : Int32).toInt = 0) hc_5
    refine lv_aload_n hx hb dX12_round_9 rfl (lv_at hl 0 rfl) ?_
    refine lv_iload_n hx hb dX12_round_10 rfl (lv_at hl 1 rfl) ?_
    refine lv_iload_n hx hb dX12_round_11 rfl (lv_at hl 2 rfl) ?_
    refine s_calli (q := (RX12, TX12, 40)) (As := [.int fr, .int st]) (rest := []) X Z (s_X12_layRounds l D cs ad kS K hKO hj g hW fr st (by omega) (by omega) (by omega)) (cwV 2 X.2.2.2.2.1 gg_X12_round_X12_layRounds rfl rfl rfl (by decide +kernel) ⟨Nat.le_of_ble_eq_true rfl, Nat.le_of_ble_eq_true rfl⟩) (by decide) hgc_4 rfl hP hA hS.2.1 hS rfl hl.1 rfl (Nat.le_of_ble_eq_true rfl) dX12_round_12 ⟨Nat.le_of_ble_eq_true rfl, Nat.le_of_ble_eq_true rfl⟩ (fun r_8 g_7 H locs hw_6 hP hS => ?_)
    obtain ⟨hw_6W, hw_6f, hw_6⟩ := hw_6
    have hfr_9 : ∀ j, j ≠ 206 → g_7 j = g j := fun j hj => (hw_6f j (by omega)).trans (hfr j hj)
    have hg_10 := (hw_6f 197 (by omega)).trans hgc_4
    refine lv_goto (tgt := 20) hx hb dX12_round_15 (by decide) ?_
    exact q_iret X hP hS ⟨hw_6W, hfr_9⟩ dX12_round_20

theorem dX12_rounds_0 : decode cX12_rounds 0 = .ok (.aload_n 0, 1) := by decide +kernel
theorem dX12_rounds_1 : decode cX12_rounds 1 = .ok (.iload_n 1, 1) := by decide +kernel
theorem dX12_rounds_2 : decode cX12_rounds 2 = .ok (.iload_n 2, 1) := by decide +kernel
theorem dX12_rounds_3 : decode cX12_rounds 3 = .ok (.invokevirtual 301, 3) := by decide +kernel
theorem dX12_rounds_6 : decode cX12_rounds 6 = .ok (.ifCond .ne 6, 3) := by decide +kernel
theorem dX12_rounds_9 : decode cX12_rounds 9 = .ok (.bipush (-2), 2) := by decide +kernel
theorem dX12_rounds_11 : decode cX12_rounds 11 = .ok (.ireturn, 1) := by decide +kernel
theorem dX12_rounds_12 : decode cX12_rounds 12 = .ok (.iload_n 3, 1) := by decide +kernel
theorem dX12_rounds_13 : decode cX12_rounds 13 = .ok (.i2l, 1) := by decide +kernel
theorem dX12_rounds_14 : decode cX12_rounds 14 = .ok (.lconst 0, 1) := by decide +kernel
theorem dX12_rounds_15 : decode cX12_rounds 15 = .ok (.iload_n 2, 1) := by decide +kernel
theorem dX12_rounds_16 : decode cX12_rounds 16 = .ok (.invokestatic 264, 3) := by decide +kernel
theorem dX12_rounds_19 : decode cX12_rounds 19 = .ok (.iconst 1, 1) := by decide +kernel
theorem dX12_rounds_20 : decode cX12_rounds 20 = .ok (.isub, 1) := by decide +kernel
theorem dX12_rounds_21 : decode cX12_rounds 21 = .ok (.i2l, 1) := by decide +kernel
theorem dX12_rounds_22 : decode cX12_rounds 22 = .ok (.invokestatic 82, 3) := by decide +kernel
theorem dX12_rounds_25 : decode cX12_rounds 25 = .ok (.ifCond .ne 5, 3) := by decide +kernel
theorem dX12_rounds_28 : decode cX12_rounds 28 = .ok (.iconst (-1), 1) := by decide +kernel
theorem dX12_rounds_29 : decode cX12_rounds 29 = .ok (.ireturn, 1) := by decide +kernel
theorem dX12_rounds_30 : decode cX12_rounds 30 = .ok (.aload_n 0, 1) := by decide +kernel
theorem dX12_rounds_31 : decode cX12_rounds 31 = .ok (.iload_n 1, 1) := by decide +kernel
theorem dX12_rounds_32 : decode cX12_rounds 32 = .ok (.iload_n 2, 1) := by decide +kernel
theorem dX12_rounds_33 : decode cX12_rounds 33 = .ok (.invokevirtual 304, 3) := by decide +kernel
theorem dX12_rounds_36 : decode cX12_rounds 36 = .ok (.pop, 1) := by decide +kernel
theorem dX12_rounds_37 : decode cX12_rounds 37 = .ok (.iload_n 1, 1) := by decide +kernel
theorem dX12_rounds_38 : decode cX12_rounds 38 = .ok (.istore 4, 2) := by decide +kernel
theorem dX12_rounds_40 : decode cX12_rounds 40 = .ok (.iload_n 2, 1) := by decide +kernel
theorem dX12_rounds_41 : decode cX12_rounds 41 = .ok (.istore 5, 2) := by decide +kernel
theorem dX12_rounds_43 : decode cX12_rounds 43 = .ok (.iconst 0, 1) := by decide +kernel
theorem dX12_rounds_44 : decode cX12_rounds 44 = .ok (.istore 6, 2) := by decide +kernel
theorem dX12_rounds_46 : decode cX12_rounds 46 = .ok (.iload 6, 2) := by decide +kernel
theorem dX12_rounds_48 : decode cX12_rounds 48 = .ok (.iload_n 3, 1) := by decide +kernel
theorem dX12_rounds_49 : decode cX12_rounds 49 = .ok (.if_icmp .gt 68, 3) := by decide +kernel
theorem dX12_rounds_52 : decode cX12_rounds 52 = .ok (.iconst 0, 1) := by decide +kernel
theorem dX12_rounds_53 : decode cX12_rounds 53 = .ok (.istore 7, 2) := by decide +kernel
theorem dX12_rounds_55 : decode cX12_rounds 55 = .ok (.iload 5, 2) := by decide +kernel
theorem dX12_rounds_57 : decode cX12_rounds 57 = .ok (.iload 7, 2) := by decide +kernel
theorem dX12_rounds_59 : decode cX12_rounds 59 = .ok (.invokestatic 234, 3) := by decide +kernel
theorem dX12_rounds_62 : decode cX12_rounds 62 = .ok (.ifCond .eq 28, 3) := by decide +kernel
theorem dX12_rounds_65 : decode cX12_rounds 65 = .ok (.aload_n 0, 1) := by decide +kernel
theorem dX12_rounds_66 : decode cX12_rounds 66 = .ok (.iload 4, 2) := by decide +kernel
theorem dX12_rounds_68 : decode cX12_rounds 68 = .ok (.iload 5, 2) := by decide +kernel
theorem dX12_rounds_70 : decode cX12_rounds 70 = .ok (.iload 7, 2) := by decide +kernel
theorem dX12_rounds_72 : decode cX12_rounds 72 = .ok (.invokevirtual 297, 3) := by decide +kernel
theorem dX12_rounds_75 : decode cX12_rounds 75 = .ok (.aload_n 0, 1) := by decide +kernel
theorem dX12_rounds_76 : decode cX12_rounds 76 = .ok (.getfield 40, 3) := by decide +kernel
theorem dX12_rounds_79 : decode cX12_rounds 79 = .ok (.iload 4, 2) := by decide +kernel
theorem dX12_rounds_81 : decode cX12_rounds 81 = .ok (.iconst 5, 1) := by decide +kernel
theorem dX12_rounds_82 : decode cX12_rounds 82 = .ok (.ishl, 1) := by decide +kernel
theorem dX12_rounds_83 : decode cX12_rounds 83 = .ok (.iload 5, 2) := by decide +kernel
theorem dX12_rounds_85 : decode cX12_rounds 85 = .ok (.ior, 1) := by decide +kernel
theorem dX12_rounds_86 : decode cX12_rounds 86 = .ok (.iaload, 1) := by decide +kernel
theorem dX12_rounds_87 : decode cX12_rounds 87 = .ok (.if_icmp .eq 9, 3) := by decide +kernel
theorem dX12_rounds_96 : decode cX12_rounds 96 = .ok (.iload 5, 2) := by decide +kernel
theorem dX12_rounds_98 : decode cX12_rounds 98 = .ok (.iconst 1, 1) := by decide +kernel
theorem dX12_rounds_99 : decode cX12_rounds 99 = .ok (.iload 7, 2) := by decide +kernel
theorem dX12_rounds_101 : decode cX12_rounds 101 = .ok (.ishl, 1) := by decide +kernel
theorem dX12_rounds_102 : decode cX12_rounds 102 = .ok (.iconst (-1), 1) := by decide +kernel
theorem dX12_rounds_103 : decode cX12_rounds 103 = .ok (.ixor, 1) := by decide +kernel
theorem dX12_rounds_104 : decode cX12_rounds 104 = .ok (.iand, 1) := by decide +kernel
theorem dX12_rounds_105 : decode cX12_rounds 105 = .ok (.istore 5, 2) := by decide +kernel
theorem dX12_rounds_107 : decode cX12_rounds 107 = .ok (.iload 7, 2) := by decide +kernel
theorem dX12_rounds_109 : decode cX12_rounds 109 = .ok (.istore 4, 2) := by decide +kernel
theorem dX12_rounds_111 : decode cX12_rounds 111 = .ok (.iinc 6 1, 3) := by decide +kernel
theorem dX12_rounds_114 : decode cX12_rounds 114 = .ok (.goto (-68), 3) := by decide +kernel
theorem dX12_rounds_90 : decode cX12_rounds 90 = .ok (.iinc 7 1, 3) := by decide +kernel
theorem dX12_rounds_93 : decode cX12_rounds 93 = .ok (.goto (-38), 3) := by decide +kernel
theorem dX12_rounds_117 : decode cX12_rounds 117 = .ok (.iload 4, 2) := by decide +kernel
theorem dX12_rounds_119 : decode cX12_rounds 119 = .ok (.ireturn, 1) := by decide +kernel
noncomputable def vX12_rounds : List Cond := .code yX12_rounds cX12_rounds 8 (some .int) :: (([.methodLink RX12 301 yX12_isRound, .instanceMethod yX12_isRound, .selects RX12 yX12_isRound yX12_isRound, .initialized RX12, .methodLink RX12 264 yX12_bits, .static yX12_bits, .methodLink RX12 82 yX12_in, .static yX12_in, .methodLink RX12 304 yX12_layRounds, .instanceMethod yX12_layRounds, .selects RX12 yX12_layRounds yX12_layRounds, .methodLink RX12 234 yX12_bit, .static yX12_bit, .methodLink RX12 297 yX12_roundBy, .instanceMethod yX12_roundBy, .selects RX12 yX12_roundBy yX12_roundBy, .fieldLink RX12 40 "IcicleClockModel" "rounds" "[I"] : List Cond) ++ (wsX120 ++ (vX12_isRound ++ (vX12_bits ++ (vX12_in ++ (vX12_layRounds ++ (vX12_bit ++ vX12_roundBy)))))))
theorem iX12_rounds_12 : ∀ w ∈ wsX120, w ∈ vX12_rounds := fun _ h => List.mem_cons_of_mem _ (List.mem_append_right _ (List.mem_append_left _ h))
theorem gs_X12_rounds : Gd vX12_rounds := Gd.cons (by decide +kernel) (Gd.app (Gd.r (by decide +kernel)) (Gd.app gwX_12 (Gd.app gs_X12_isRound (Gd.app gs_X12_bits (Gd.app gs_X12_in (Gd.app gs_X12_layRounds (Gd.app gs_X12_bit gs_X12_roundBy)))))))
theorem gg_X12_rounds_X12_isRound : GoodIn vX12_rounds (wsV RX12 301 RX12 yX12_isRound vX12_isRound) := goodIn_app (goodIn_r _ [1, 2, 3, 4] (by decide +kernel) (by decide +kernel)) (fun w h => ⟨List.mem_cons_of_mem _ (List.mem_append_right _ (List.mem_append_right _ (List.mem_append_left _ h))), gs_X12_isRound w h⟩)
theorem gg_X12_rounds_X12_bits : GoodIn vX12_rounds (wsS RX12 264 yX12_bits vX12_bits) := goodIn_app (goodIn_r _ [5, 6, 4] (by decide +kernel) (by decide +kernel)) (fun w h => ⟨List.mem_cons_of_mem _ (List.mem_append_right _ (List.mem_append_right _ (List.mem_append_right _ (List.mem_append_left _ h)))), gs_X12_bits w h⟩)
theorem gg_X12_rounds_X12_in : GoodIn vX12_rounds (wsS RX12 82 yX12_in vX12_in) := goodIn_app (goodIn_r _ [7, 8, 4] (by decide +kernel) (by decide +kernel)) (fun w h => ⟨List.mem_cons_of_mem _ (List.mem_append_right _ (List.mem_append_right _ (List.mem_append_right _ (List.mem_append_right _ (List.mem_append_left _ h))))), gs_X12_in w h⟩)
theorem gg_X12_rounds_X12_layRounds : GoodIn vX12_rounds (wsV RX12 304 RX12 yX12_layRounds vX12_layRounds) := goodIn_app (goodIn_r _ [9, 10, 11, 4] (by decide +kernel) (by decide +kernel)) (fun w h => ⟨List.mem_cons_of_mem _ (List.mem_append_right _ (List.mem_append_right _ (List.mem_append_right _ (List.mem_append_right _ (List.mem_append_right _ (List.mem_append_left _ h)))))), gs_X12_layRounds w h⟩)
theorem gg_X12_rounds_X12_bit : GoodIn vX12_rounds (wsS RX12 234 yX12_bit vX12_bit) := goodIn_app (goodIn_r _ [12, 13, 4] (by decide +kernel) (by decide +kernel)) (fun w h => ⟨List.mem_cons_of_mem _ (List.mem_append_right _ (List.mem_append_right _ (List.mem_append_right _ (List.mem_append_right _ (List.mem_append_right _ (List.mem_append_right _ (List.mem_append_left _ h))))))), gs_X12_bit w h⟩)
theorem gg_X12_rounds_X12_roundBy : GoodIn vX12_rounds (wsV RX12 297 RX12 yX12_roundBy vX12_roundBy) := goodIn_app (goodIn_r _ [14, 15, 16, 4] (by decide +kernel) (by decide +kernel)) (fun w h => ⟨List.mem_cons_of_mem _ (List.mem_append_right _ (List.mem_append_right _ (List.mem_append_right _ (List.mem_append_right _ (List.mem_append_right _ (List.mem_append_right _ (List.mem_append_right _ (h)))))))), gs_X12_roundBy w h⟩)
set_option maxHeartbeats 4000000 in
set_option maxRecDepth 100000 in
theorem s_X12_rounds (l : Launch) (D : va_G) (cs : Nat → ClassId) (ad : Nat → Nat) (kS : kSt) (K : sK) (hKO : KO K) (hj : wJ ad 218) (g : Nat → va_E) (hW : WF (shp ad K) ad cs g) (fr : Int32) (st : Int32) (ix : Int32) : sI l yX12_rounds vX12_rounds { frames := 3, cells := 0, slots := 0, locals := 68 } D cs ad kS [.ref (ad 197), .int fr, .int st, .int ix] g (fun r g2 => WF (shp ad K) ad cs g2 ∧ (∀ j, j ≠ 206 → g2 j = g j)) := by
  refine Met.startS (cc := cX12_rounds) (maxL := 8) (ret := (some .int)) RX12 rfl (by decide) rfl (Nat.le_of_ble_eq_true rfl) ?_
  intro p e s m below meth c ls X Z hP hl
  have hx := X.1
  have hb := X.2.1
  have hS : va_S (wA ad 218) s.heap s.heap [] := va_S.rf
  have hA : ∀ i, i < 218 → wA ad 218 (ad i) := fun i h => ⟨i, h, rfl⟩
  have hfr : ∀ j, j ≠ 206 → g j = g j := fun _ _ => rfl
  obtain ⟨f198, hg198, hF198⟩ := hW.arr (i := 198) (by decide) (sh_198 ad K)
  have hnEg : 0 ≤ gA g 198 4 ∧ gA g 198 4 ≤ 5 := by rw [gA_of hg198]; have h8 := hF198 4; unfold wq at h8; omega
  have hl : lv_has ls 8 [(0, .ref (ad 197)), (1, .int fr), (2, .int st), (3, .int ix)] := hl
  refine lv_aload_n hx hb dX12_rounds_0 rfl (lv_at hl 0 rfl) ?_
  refine lv_iload_n hx hb dX12_rounds_1 rfl (lv_at hl 1 rfl) ?_
  refine lv_iload_n hx hb dX12_rounds_2 rfl (lv_at hl 2 rfl) ?_
  obtain ⟨fsc_4, hgc_4, hOc_4⟩ := hW.obj (i := 197) (by decide) (sh_197 ad K)
  refine s_calli (q := (RX12, TX12, 40)) (As := [.int fr, .int st]) (rest := []) X Z (s_X12_isRound l D cs ad kS K hKO hj g hW fr st) (cwV 2 X.2.2.2.2.1 gg_X12_rounds_X12_isRound rfl rfl rfl (by decide +kernel) ⟨Nat.le_of_ble_eq_true rfl, Nat.le_of_ble_eq_true rfl⟩) (by decide) hgc_4 rfl hP hA hS.2.1 hS rfl hl.1 rfl (Nat.le_of_ble_eq_true rfl) dX12_rounds_3 ⟨Nat.le_of_ble_eq_true rfl, Nat.le_of_ble_eq_true rfl⟩ (fun r_3 g_2 H locs hw_1 hP hS => ?_)
  obtain ⟨hw_1g, hw_1⟩ := hw_1
  rw [hw_1g] at hP
  refine lv_if_ne (tgt := 12) hx hb dX12_rounds_6 (by decide) (fun hc_5 => ?_) (fun hc_5 => ?_)
  · have hhc_5 := n_ne (rfl : r_3.toInt = r_3.toInt) (by decide : (0 : Int32).toInt = 0) hc_5
    refine lv_iload_n hx hb dX12_rounds_12 rfl (lv_at hl 3 rfl) ?_
    refine lv_i2l hx hb dX12_rounds_13 rfl ?_
    refine lv_topl (fun z_6 ez_6 => ?_)
    have hz_6 : z_6.toInt = ix.toInt := ez_6 ▸ j_of rfl
    have := n_hi ix
    have := n_lo ix
    refine lv_lconst (v := 0) hx hb dX12_rounds_14 (by decide) ?_
    refine lv_iload_n hx hb dX12_rounds_15 rfl (lv_at hl 2 rfl) ?_
    refine s_callSi (As := [.int st]) (rest := [.long 0, .long z_6]) X Z (s_X12_bitsF l D cs ad kS K hKO hj g hW st) (cwS 1 X.2.2.2.2.1 gg_X12_rounds_X12_bits rfl rfl rfl (by decide +kernel) ⟨Nat.le_of_ble_eq_true rfl, Nat.le_of_ble_eq_true rfl⟩) hP hA hS.2.1 hS rfl hl.1 rfl (Nat.le_of_ble_eq_true rfl) dX12_rounds_16 ⟨Nat.le_of_ble_eq_true rfl, Nat.le_of_ble_eq_true rfl⟩ (fun r_9 g_8 H locs hw_7 hP hS => ?_)
    obtain ⟨hw_7g, hw_7⟩ := hw_7
    rw [hw_7g] at hP
    have hpc0 := hw_7.1
    refine lv_iconst (v := 1) hx hb dX12_rounds_19 (by decide) ?_
    refine lv_isub hx hb dX12_rounds_20 ?_
    refine lv_topi (fun z_10 ez_10 => ?_)
    have hz_10 : z_10.toInt = r_9.toInt - 1 := n_sub (rfl : r_9.toInt = r_9.toInt) (by decide : (1 : Int32).toInt = 1) ez_10 (by omega) (by omega)
    refine lv_i2l hx hb dX12_rounds_21 rfl ?_
    refine lv_topl (fun z_11 ez_11 => ?_)
    have hz_11 : z_11.toInt = z_10.toInt := ez_11 ▸ j_of rfl
    refine s_callSi (As := [.long z_6, .long 0, .long z_11]) (rest := []) X Z (s_X12_in l D cs ad kS K hKO hj g hW z_6 0 z_11) (cwS 3 X.2.2.2.2.1 gg_X12_rounds_X12_in rfl rfl rfl (by decide +kernel) ⟨Nat.le_of_ble_eq_true rfl, Nat.le_of_ble_eq_true rfl⟩) hP hA hS.2.1 hS rfl hl.1 rfl (Nat.le_of_ble_eq_true rfl) dX12_rounds_22 ⟨Nat.le_of_ble_eq_true rfl, Nat.le_of_ble_eq_true rfl⟩ (fun r_14 g_13 H locs hw_12 hP hS => ?_)
    obtain ⟨hw_12g, hw_12⟩ := hw_12
    rw [hw_12g] at hP
    have hqk_15 : (0 : Int64).toInt = 0 := by decide
    refine lv_if_ne (tgt := 30) hx hb dX12_rounds_25 (by decide) (fun hc_16 => ?_) (fun hc_16 => ?_)
    · have hhc_16 := n_ne (rfl : r_14.toInt = r_14.toInt) (by decide : (0 : Int32).toInt = 0) hc_16
      have hpc1 := (rr_pc (s := st) (by omega) (by omega)).1
      refine lv_aload_n hx hb dX12_rounds_30 rfl (lv_at hl 0 rfl) ?_
      refine lv_iload_n hx hb dX12_rounds_31 rfl (lv_at hl 1 rfl) ?_
      refine lv_iload_n hx hb dX12_rounds_32 rfl (lv_at hl 2 rfl) ?_
      refine s_calli (q := (RX12, TX12, 40)) (As := [.int fr, .int st]) (rest := []) X Z (s_X12_layRounds l D cs ad kS K hKO hj g hW fr st (by omega) (by omega) (by omega)) (cwV 2 X.2.2.2.2.1 gg_X12_rounds_X12_layRounds rfl rfl rfl (by decide +kernel) ⟨Nat.le_of_ble_eq_true rfl, Nat.le_of_ble_eq_true rfl⟩) (by decide) hgc_4 rfl hP hA hS.2.1 hS rfl hl.1 rfl (Nat.le_of_ble_eq_true rfl) dX12_rounds_33 ⟨Nat.le_of_ble_eq_true rfl, Nat.le_of_ble_eq_true rfl⟩ (fun r_19 g_18 H locs hw_17 hP hS => ?_)
      obtain ⟨hw_17W, hw_17f, hw_17⟩ := hw_17
      have hfr_20 : ∀ j, j ≠ 206 → g_18 j = g j := fun j hj => (hw_17f j (by omega)).trans (hfr j hj)
      have hg_21 := (hw_17f 197 (by omega)).trans hgc_4
      have hrn4 := gA_tr (hw_17f 198 (by omega)) 4
      refine lv_pop hx hb dX12_rounds_36 rfl ?_
      refine lv_iload_n hx hb dX12_rounds_37 rfl (lv_at hl 1 rfl) ?_
      refine lv_istore (lv' := [(4, .int fr), (0, .ref (ad 197)), (1, .int fr), (2, .int st), (3, .int ix)]) hx hb dX12_rounds_38 hl (by decide) rfl (fun ls hl => ?_)
      refine lv_iload_n hx hb dX12_rounds_40 rfl (lv_at hl 3 rfl) ?_
      refine lv_istore (lv' := [(5, .int st), (4, .int fr), (0, .ref (ad 197)), (1, .int fr), (2, .int st), (3, .int ix)]) hx hb dX12_rounds_41 hl (by decide) rfl (fun ls hl => ?_)
      refine lv_iconst (v := 0) hx hb dX12_rounds_43 (by decide) ?_
      refine lv_istore (lv' := [(6, .int 0), (5, .int st), (4, .int fr), (0, .ref (ad 197)), (1, .int fr), (2, .int st), (3, .int ix)]) hx hb dX12_rounds_44 hl (by decide) rfl (fun ls hl => ?_)
      have HL46 : ∀ (n46 : Nat) (v46_6 : Int32) (v46_5 : Int32) (v46_4 : Int32) (G46 : Nat → va_E) (H : Heap) (locs : List Loc) (ls : Array Slot), (14 - v46_6.toInt).toNat < n46 → (0 ≤ v46_6.toInt ∧ v46_6.toInt ≤ 14) → (0 ≤ v46_5.toInt ∧ v46_5.toInt ≤ 31) → (0 ≤ v46_4.toInt ∧ v46_4.toInt ≤ 4) → G46 = g_18 → (0 ≤ v46_4.toInt ∧ v46_4.toInt < gA g 198 4) → v46_5.toInt ≤ st.toInt → v46_5 &&& (st ^^^ (-1)) = 0 → pcI v46_5 = pcI st - v46_6.toInt → WF (shp ad K) ad cs G46 → (∀ j, j ≠ 206 → G46 j = g j) → va_P D vwCl (wL ad G46 218) H → va_S (wA ad 218) s.heap H locs → lv_has ls 8 [(6, .int v46_6), (5, .int v46_5), (4, .int v46_4), (0, .ref (ad 197)), (3, .int ix)] → W p l e ({ frames := 3, cells := 0, slots := 0, locals := 68 } : Room) s m ([.ref (ad 197), .int fr, .int st, .int ix] : List Value).toArray below meth c H locs 0 0 (MQ below (qI D ad 218 (fun r g2 => WF (shp ad K) ad cs g2 ∧ (∀ j, j ≠ 206 → g2 j = g j))) ([.ref (ad 197), .int fr, .int st, .int ix] : List Value).toArray s 0 0 (wA ad 218)) (F0 m 46 ls []) := by
        intro n46
        induction n46 with
        | zero =>
          intro v46_6 v46_5 v46_4 G46 H locs ls hm46 hv46_0 hv46_1 hv46_2 he46_0 he46_1 he46_2 he46_3 he46_4 hW46 hfr46 hP hS hl
          exact absurd hm46 (Nat.not_lt_zero _)
        | succ n46 ih46 =>
          intro v46_6 v46_5 v46_4 G46 H locs ls hm46 hv46_0 hv46_1 hv46_2 he46_0 he46_1 he46_2 he46_3 he46_4 hW46 hfr46 hP hS hl
          refine lv_iload hx hb dX12_rounds_46 (lv_at hl 0 rfl) ?_
          refine lv_iload_n hx hb dX12_rounds_48 rfl (lv_at hl 4 rfl) ?_
          refine lv_icmp_gt (tgt := 117) hx hb dX12_rounds_49 (by decide) (fun hc_22 => ?_) (fun hc_22 => ?_)
          · have hhc_22 := n_lt (rfl : ix.toInt = ix.toInt) (rfl : v46_6.toInt = v46_6.toInt) hc_22
            refine lv_iload hx hb dX12_rounds_117 (lv_at hl 2 rfl) ?_
            exact q_iret X hP hS ⟨hW46, hfr46⟩ dX12_rounds_119
          · have hhc_22 := n_nlt (rfl : ix.toInt = ix.toInt) (rfl : v46_6.toInt = v46_6.toInt) hc_22
            have hpp := rr_pc (s := v46_5) (by omega) (by omega)
            have hle0 : 0 < v46_5.toInt := hpp.2 (by omega)
            obtain ⟨tw, ht0, ht1, ht2, ht3, ht4⟩ := hw_17 v46_5 v46_4 (by omega) (by omega) (by omega) he46_3 (by omega) (by omega)
            refine lv_iconst (v := 0) hx hb dX12_rounds_52 (by decide) ?_
            refine lv_istore (lv' := [(7, .int 0), (6, .int v46_6), (5, .int v46_5), (4, .int v46_4), (0, .ref (ad 197)), (3, .int ix)]) hx hb dX12_rounds_53 hl (by decide) rfl (fun ls hl => ?_)
            have HL55 : ∀ (n55 : Nat) (v55_7 : Int32) (G55 : Nat → va_E) (H : Heap) (locs : List Loc) (ls : Array Slot), (4 - v55_7.toInt).toNat < n55 → (0 ≤ v55_7.toInt ∧ v55_7.toInt ≤ 4) → v55_7.toInt ≤ tw.toInt → G55 = g_18 → WF (shp ad K) ad cs G55 → (∀ j, j ≠ 206 → G55 j = g j) → va_P D vwCl (wL ad G55 218) H → va_S (wA ad 218) s.heap H locs → lv_has ls 8 [(7, .int v55_7), (6, .int v46_6), (5, .int v46_5), (4, .int v46_4), (0, .ref (ad 197)), (3, .int ix)] → W p l e ({ frames := 3, cells := 0, slots := 0, locals := 68 } : Room) s m ([.ref (ad 197), .int fr, .int st, .int ix] : List Value).toArray below meth c H locs 0 0 (MQ below (qI D ad 218 (fun r g2 => WF (shp ad K) ad cs g2 ∧ (∀ j, j ≠ 206 → g2 j = g j))) ([.ref (ad 197), .int fr, .int st, .int ix] : List Value).toArray s 0 0 (wA ad 218)) (F0 m 55 ls []) := by
              intro n55
              induction n55 with
              | zero =>
                intro v55_7 G55 H locs ls hm55 hv55_0 he55_0 he55_1 hW55 hfr55 hP hS hl
                exact absurd hm55 (Nat.not_lt_zero _)
              | succ n55 ih55 =>
                intro v55_7 G55 H locs ls hm55 hv55_0 he55_0 he55_1 hW55 hfr55 hP hS hl
                refine lv_iload hx hb dX12_rounds_55 (lv_at hl 2 rfl) ?_
                refine lv_iload hx hb dX12_rounds_57 (lv_at hl 0 rfl) ?_
                refine s_callSi (As := [.int v46_5, .int v55_7]) (rest := []) X Z (s_X12_bit l D cs ad kS K hKO hj G55 hW55 v46_5 v55_7) (cwS 2 X.2.2.2.2.1 gg_X12_rounds_X12_bit rfl rfl rfl (by decide +kernel) ⟨Nat.le_of_ble_eq_true rfl, Nat.le_of_ble_eq_true rfl⟩) hP hA hS.2.1 hS rfl hl.1 rfl (Nat.le_of_ble_eq_true rfl) dX12_rounds_59 ⟨Nat.le_of_ble_eq_true rfl, Nat.le_of_ble_eq_true rfl⟩ (fun r_25 g_24 H locs hw_23 hP hS => ?_)
                obtain ⟨hw_23g, hw_23⟩ := hw_23
                rw [hw_23g] at hP
                have hber_25 : r_25 = bitI v46_5 v55_7 := hw_23.2.2
                have HJ90 : ∀ (G90 : Nat → va_E) (H : Heap) (locs : List Loc) (ls : Array Slot), v55_7.toInt ≠ tw.toInt → G90 = g_18 → WF (shp ad K) ad cs G90 → (∀ j, j ≠ 206 → G90 j = g j) → va_P D vwCl (wL ad G90 218) H → va_S (wA ad 218) s.heap H locs → lv_has ls 8 [(7, .int v55_7), (6, .int v46_6), (5, .int v46_5), (4, .int v46_4), (0, .ref (ad 197)), (3, .int ix)] → W p l e ({ frames := 3, cells := 0, slots := 0, locals := 68 } : Room) s m ([.ref (ad 197), .int fr, .int st, .int ix] : List Value).toArray below meth c H locs 0 0 (MQ below (qI D ad 218 (fun r g2 => WF (shp ad K) ad cs g2 ∧ (∀ j, j ≠ 206 → g2 j = g j))) ([.ref (ad 197), .int fr, .int st, .int ix] : List Value).toArray s 0 0 (wA ad 218)) (F0 m 90 ls []) := by
                  intro G90 H locs ls he90_0 he90_1 hW90 hfr90 hP hS hl
                  obtain ⟨x_26, ex_26⟩ : ∃ y : Int32, y = v55_7 + 1 := ⟨_, rfl⟩
                  have hx_26 : x_26.toInt = v55_7.toInt + 1 := n_add rfl (by decide : (1 : Int32).toInt = 1) ex_26 (by omega) (by omega)
                  refine lv_iinc (v := x_26) (lv' := [(7, .int x_26), (6, .int v46_6), (5, .int v46_5), (4, .int v46_4), (0, .ref (ad 197)), (3, .int ix)]) hx hb dX12_rounds_90 hl (k := 0) rfl (by rw [ex_26]; rfl) (by decide) rfl (fun ls hl => ?_)
                  refine lv_goto (tgt := 55) hx hb dX12_rounds_93 (by decide) ?_
                  exact ih55 x_26 G90 _ _ ls (by omega) (by omega) (by omega) he90_1 hW90 hfr90 hP hS (lv_sub hl [0, 1, 2, 3, 4, 5] rfl)
                refine lv_if_eq (tgt := 90) hx hb dX12_rounds_62 (by decide) (fun hc_27 => ?_) (fun hc_27 => ?_)
                · have hhc_27 := n_eq (rfl : r_25.toInt = r_25.toInt) (by decide : (0 : Int32).toInt = 0) hc_27
                  exact HJ90 G55 _ _ ls (by intro q; have h5 := Int32.toInt_inj.mp q; rw [h5, ht3] at hber_25; have h6 : r_25.toInt = 1 := (by rw [hber_25]; decide); omega) he55_1 hW55 hfr55 hP hS (lv_sub hl [0, 1, 2, 3, 4, 5] rfl)
                · have hhc_27 := n_ne (rfl : r_25.toInt = r_25.toInt) (by decide : (0 : Int32).toInt = 0) hc_27
                  refine lv_aload_n hx hb dX12_rounds_65 rfl (lv_at hl 4 rfl) ?_
                  refine lv_iload hx hb dX12_rounds_66 (lv_at hl 3 rfl) ?_
                  refine lv_iload hx hb dX12_rounds_68 (lv_at hl 2 rfl) ?_
                  refine lv_iload hx hb dX12_rounds_70 (lv_at hl 0 rfl) ?_
                  obtain ⟨fsc_31, hgc_31, hOc_31⟩ := hW55.obj (i := 197) (by decide) (sh_197 ad K)
                  refine s_calli (q := (RX12, TX12, 40)) (As := [.int v46_4, .int v46_5, .int v55_7]) (rest := []) X Z (s_X12_roundBy l D cs ad kS K hKO hj G55 hW55 v46_4 v46_5 v55_7 (by omega) (by omega) (by omega)) (cwV 3 X.2.2.2.2.1 gg_X12_rounds_X12_roundBy rfl rfl rfl (by decide +kernel) ⟨Nat.le_of_ble_eq_true rfl, Nat.le_of_ble_eq_true rfl⟩) (by decide) hgc_31 rfl hP hA hS.2.1 hS rfl hl.1 rfl (Nat.le_of_ble_eq_true rfl) dX12_rounds_72 ⟨Nat.le_of_ble_eq_true rfl, Nat.le_of_ble_eq_true rfl⟩ (fun r_30 g_29 H locs hw_28 hP hS => ?_)
                  obtain ⟨hw_28g, hw_28⟩ := hw_28
                  rw [hw_28g] at hP
                  refine lv_aload_n hx hb dX12_rounds_75 rfl (lv_at hl 4 rfl) ?_
                  have hk_32 := hOc_31.ref 19 rfl
                  refine q_get X iX12_rounds_12 hP (by decide) hgc_31 rfl 19 (by decide) (List.mem_of_getElem? (i := 17) rfl) (v := .ref (ad 206)) hk_32 dX12_rounds_76 ?_
                  refine lv_iload hx hb dX12_rounds_79 (lv_at hl 3 rfl) ?_
                  refine lv_iconst (v := 5) hx hb dX12_rounds_81 (by decide) ?_
                  refine lv_ishl hx hb dX12_rounds_82 ?_
                  refine lv_topi (fun z_33 ez_33 => ?_)
                  refine lv_iload hx hb dX12_rounds_83 (lv_at hl 2 rfl) ?_
                  refine lv_ior hx hb dX12_rounds_85 ?_
                  refine lv_topi (fun z_34 ez_34 => ?_)
                  have hix : z_34.toInt = 32 * v46_4.toInt + v46_5.toInt := by have h5 := rr_e (t := v46_4) (s := v46_5) (by omega) (by omega) (by omega) (by omega); rw [show ixE v46_4 v46_5 = z_34 by rw [ez_34, ez_33]; rfl] at h5; exact h5
                  obtain ⟨fc_35, hgc_35, hFc_35⟩ := hW55.arr (i := 206) (by decide) (sh_206 ad K)
                  refine q_iald X hP (by decide) hgc_35 (n_in (rfl : z_34.toInt = z_34.toInt) (by omega) (by omega)) dX12_rounds_86 ?_
                  refine lv_topi (fun z_36 ez_36 => ?_)
                  have hqz_36 : rq (z_34.toNatClampNeg) z_36.toInt := ez_36 ▸ hFc_35 _
                  have hcz_36 := n_cl (rfl : z_34.toInt = z_34.toInt) (by omega)
                  unfold rq at hqz_36
                  have hgaz_36 : gA G55 206 (z_34.toNatClampNeg) = z_36.toInt := by rw [ez_36]; exact gA_of hgc_35 _
                  have hcl_37 := n_cl (rfl : z_34.toInt = z_34.toInt) (by omega)
                  refine lv_icmp_eq (tgt := 96) hx hb dX12_rounds_87 (by decide) (fun hc_38 => ?_) (fun hc_38 => ?_)
                  · have hhc_38 := n_eq (rfl : r_30.toInt = r_30.toInt) (rfl : z_36.toInt = z_36.toInt) hc_38
                    refine lv_iload hx hb dX12_rounds_96 (lv_at hl 2 rfl) ?_
                    refine lv_iconst (v := 1) hx hb dX12_rounds_98 (by decide) ?_
                    refine lv_iload hx hb dX12_rounds_99 (lv_at hl 0 rfl) ?_
                    refine lv_ishl hx hb dX12_rounds_101 ?_
                    refine lv_topi (fun z_39 ez_39 => ?_)
                    refine lv_iconst (v := (-1)) hx hb dX12_rounds_102 (by decide) ?_
                    refine lv_ixor hx hb dX12_rounds_103 ?_
                    refine lv_topi (fun z_40 ez_40 => ?_)
                    refine lv_iand hx hb dX12_rounds_104 ?_
                    refine lv_topi (fun z_41 ez_41 => ?_)
                    have hcl : z_41 = clI v46_5 v55_7 := by rw [ez_41, ez_40, ez_39]; rfl
                    have hb1 : bitI v46_5 v55_7 = 1 := by have h5 := bit01 v46_5 v55_7; rw [← hber_25] at h5 ⊢; exact Int32.toInt_inj.mp (by rw [show (1 : Int32).toInt = 1 by decide]; omega)
                    have hrb := rr_bit (t := v55_7) (s := v46_5) (by omega) (by omega) (by omega) (by omega) hb1
                    rw [← hcl] at hrb
                    refine lv_istore (lv' := [(5, .int z_41), (7, .int v55_7), (6, .int v46_6), (4, .int v46_4), (0, .ref (ad 197)), (3, .int ix)]) hx hb dX12_rounds_105 hl (by decide) rfl (fun ls hl => ?_)
                    refine lv_iload hx hb dX12_rounds_107 (lv_at hl 1 rfl) ?_
                    refine lv_istore (lv' := [(4, .int v55_7), (5, .int z_41), (7, .int v55_7), (6, .int v46_6), (0, .ref (ad 197)), (3, .int ix)]) hx hb dX12_rounds_109 hl (by decide) rfl (fun ls hl => ?_)
                    obtain ⟨x_42, ex_42⟩ : ∃ y : Int32, y = v46_6 + 1 := ⟨_, rfl⟩
                    have hx_42 : x_42.toInt = v46_6.toInt + 1 := n_add rfl (by decide : (1 : Int32).toInt = 1) ex_42 (by omega) (by omega)
                    refine lv_iinc (v := x_42) (lv' := [(6, .int x_42), (4, .int v55_7), (5, .int z_41), (7, .int v55_7), (0, .ref (ad 197)), (3, .int ix)]) hx hb dX12_rounds_111 hl (k := 3) rfl (by rw [ex_42]; rfl) (by decide) rfl (fun ls hl => ?_)
                    refine lv_goto (tgt := 46) hx hb dX12_rounds_114 (by decide) ?_
                    exact ih46 x_42 z_41 v55_7 G55 _ _ ls (by omega) (by omega) (by omega) (by omega) he55_1 (by omega) (by omega) (by rw [hcl]; exact sub_cl he46_3) (by omega) hW55 hfr55 hP hS (lv_sub hl [0, 2, 1, 4, 5] rfl)
                  · have hhc_38 := n_ne (rfl : r_30.toInt = r_30.toInt) (rfl : z_36.toInt = z_36.toInt) hc_38
                    exact HJ90 G55 _ _ ls (by first | (intro q; have h5 := Int32.toInt_inj.mp q; rw [h5, ht3] at hber_25; have h6 : r_25.toInt = 1 := (by rw [hber_25]; decide); omega) | (intro q; have h5 := Int32.toInt_inj.mp q; have h7 := hw_28.1; rw [h5, he55_1, ← ht4] at h7; have h8 := hgaz_36; rw [he55_1, show z_34.toNatClampNeg = (32 * v46_4.toInt + v46_5.toInt).toNat by omega] at h8; omega)) he55_1 hW55 hfr55 hP hS (lv_sub hl [0, 1, 2, 3, 4, 5] rfl)
            have hiv55_7 : (0 : Int32).toInt = 0 := by decide
            exact HL55 _ 0 G46 _ _ ls (Nat.lt_succ_self _) (by omega) (by omega) he46_0 hW46 hfr46 hP hS (lv_sub hl [0, 1, 2, 3, 4, 5] rfl)
      have hiv46_6 : (0 : Int32).toInt = 0 := by decide
      exact HL46 _ 0 st fr g_18 _ _ ls (Nat.lt_succ_self _) (by omega) (by omega) (by omega) rfl (by omega) (by omega) (sub_self st) (by omega) hw_17W hfr_20 hP hS (lv_sub hl [0, 1, 2, 3, 6] rfl)
    · have hhc_16 := n_eq (rfl : r_14.toInt = r_14.toInt) (by decide : (0 : Int32).toInt = 0) hc_16
      refine lv_iconst (v := (-1)) hx hb dX12_rounds_28 (by decide) ?_
      exact q_iret X hP hS ⟨hW, hfr⟩ dX12_rounds_29
  · have hhc_5 := n_eq (rfl : r_3.toInt = r_3.toInt) (by decide : (0 : Int32).toInt = 0) hc_5
    refine lv_bipush (v := (-2)) hx hb dX12_rounds_9 (by decide) ?_
    exact q_iret X hP hS ⟨hW, hfr⟩ dX12_rounds_11
