theorem dJ7_fill_53178_0 : decode cJ7_fill_53178 0 = .ok (.iconst 0, 1) := by decide +kernel
theorem dJ7_fill_53178_1 : decode cJ7_fill_53178 1 = .ok (.istore_n 2, 1) := by decide +kernel
theorem dJ7_fill_53178_2 : decode cJ7_fill_53178 2 = .ok (.aload_n 0, 1) := by decide +kernel
theorem dJ7_fill_53178_3 : decode cJ7_fill_53178 3 = .ok (.arraylength, 1) := by decide +kernel
theorem dJ7_fill_53178_4 : decode cJ7_fill_53178 4 = .ok (.istore_n 3, 1) := by decide +kernel
theorem dJ7_fill_53178_5 : decode cJ7_fill_53178 5 = .ok (.iload_n 2, 1) := by decide +kernel
theorem dJ7_fill_53178_6 : decode cJ7_fill_53178 6 = .ok (.iload_n 3, 1) := by decide +kernel
theorem dJ7_fill_53178_7 : decode cJ7_fill_53178 7 = .ok (.if_icmp .ge 13, 3) := by decide +kernel
theorem dJ7_fill_53178_10 : decode cJ7_fill_53178 10 = .ok (.aload_n 0, 1) := by decide +kernel
theorem dJ7_fill_53178_11 : decode cJ7_fill_53178 11 = .ok (.iload_n 2, 1) := by decide +kernel
theorem dJ7_fill_53178_12 : decode cJ7_fill_53178 12 = .ok (.iload_n 1, 1) := by decide +kernel
theorem dJ7_fill_53178_13 : decode cJ7_fill_53178 13 = .ok (.iastore, 1) := by decide +kernel
theorem dJ7_fill_53178_14 : decode cJ7_fill_53178 14 = .ok (.iinc 2 1, 3) := by decide +kernel
theorem dJ7_fill_53178_17 : decode cJ7_fill_53178 17 = .ok (.goto (-12), 3) := by decide +kernel
theorem dJ7_fill_53178_20 : decode cJ7_fill_53178 20 = .ok (.return_, 1) := by decide +kernel
noncomputable def vJ7_fill_53178 : List Cond := .code yJ7_fill_53178 cJ7_fill_53178 4 none :: ([] : List Cond)
theorem gs_J7_fill_53178 : Gd vJ7_fill_53178 := Gd.cons (by decide +kernel) (Gd.r (by decide +kernel))
set_option maxHeartbeats 4000000 in
set_option maxRecDepth 100000 in
theorem s_fill_119 (l : Launch) (D : va_G) (cs : Nat → ClassId) (ad : Nat → Nat) (kS : kSt) (K : sK) (hKO : KO K) (hj : wJ ad 218) (g : Nat → va_E) (hW : WF (shp ad K) ad cs g) (vv : Int32) : sV l yJ7_fill_53178 vJ7_fill_53178 { frames := 0, cells := 0, slots := 0, locals := 0 } D cs ad kS [.ref (ad 119), .int vv] g (fun g2 => WF (shp ad K) ad cs g2 ∧ (∀ j, j ≠ 119 → g2 j = g j)) := by
  refine Met.startS (cc := cJ7_fill_53178) (maxL := 4) (ret := none) RJ7 rfl (by decide) rfl (Nat.le_of_ble_eq_true rfl) ?_
  intro p e s m below meth c ls X Z hP hl
  have hx := X.1
  have hb := X.2.1
  have hS : va_S (wA ad 218) s.heap s.heap [] := va_S.rf
  have hA : ∀ i, i < 218 → wA ad 218 (ad i) := fun i h => ⟨i, h, rfl⟩
  have hfr : ∀ j, j ≠ 119 → g j = g j := fun _ _ => rfl
  have hl : lv_has ls 4 [(0, .ref (ad 119)), (1, .int vv)] := hl
  refine lv_iconst (v := 0) hx hb dJ7_fill_53178_0 (by decide) ?_
  refine lv_istore_n (lv' := [(2, .int 0), (0, .ref (ad 119)), (1, .int vv)]) hx hb dJ7_fill_53178_1 rfl hl (by decide) rfl (fun ls hl => ?_)
  refine lv_aload_n hx hb dJ7_fill_53178_2 rfl (lv_at hl 1 rfl) ?_
  obtain ⟨fc_1, hgc_1, hFc_1⟩ := hW.arr (i := 119) (by decide) (sh_119 ad K)
  refine q_alen X hP (by decide) 1 hgc_1 rfl (v := 8) (show Int32.ofNat 8 = 8 by decide) dJ7_fill_53178_3 ?_
  refine lv_istore_n (lv' := [(3, .int 8), (2, .int 0), (0, .ref (ad 119)), (1, .int vv)]) hx hb dJ7_fill_53178_4 rfl hl (by decide) rfl (fun ls hl => ?_)
  have HL5 : ∀ (n5 : Nat) (v5_2 : Int32) (G5 : Nat → va_E) (H : Heap) (locs : List Loc) (ls : Array Slot), (8 - v5_2.toInt).toNat < n5 → (0 ≤ v5_2.toInt ∧ v5_2.toInt ≤ 8) → WF (shp ad K) ad cs G5 → (∀ j, j ≠ 119 → G5 j = g j) → va_P D vwCl (wL ad G5 218) H → va_S (wA ad 218) s.heap H locs → lv_has ls 4 [(3, .int 8), (2, .int v5_2), (0, .ref (ad 119)), (1, .int vv)] → W p l e ({ frames := 0, cells := 0, slots := 0, locals := 0 } : Room) s m ([.ref (ad 119), .int vv] : List Value).toArray below meth c H locs 0 0 (MQ below (qV D ad 218 (fun g2 => WF (shp ad K) ad cs g2 ∧ (∀ j, j ≠ 119 → g2 j = g j))) ([.ref (ad 119), .int vv] : List Value).toArray s 0 0 (wA ad 218)) (F0 m 5 ls []) := by
    intro n5
    induction n5 with
    | zero =>
      intro v5_2 G5 H locs ls hm5 hv5_0 hW5 hfr5 hP hS hl
      exact absurd hm5 (Nat.not_lt_zero _)
    | succ n5 ih5 =>
      intro v5_2 G5 H locs ls hm5 hv5_0 hW5 hfr5 hP hS hl
      refine lv_iload_n hx hb dJ7_fill_53178_5 rfl (lv_at hl 1 rfl) ?_
      refine lv_iload_n hx hb dJ7_fill_53178_6 rfl (lv_at hl 0 rfl) ?_
      refine lv_icmp_ge (tgt := 20) hx hb dJ7_fill_53178_7 (by decide) (fun hc_2 => ?_) (fun hc_2 => ?_)
      · have hhc_2 := n_le (by decide : (8 : Int32).toInt = 8) (rfl : v5_2.toInt = v5_2.toInt) hc_2
        exact q_vret X hP hS ⟨hW5, hfr5⟩ dJ7_fill_53178_20
      · have hhc_2 := n_nle (by decide : (8 : Int32).toInt = 8) (rfl : v5_2.toInt = v5_2.toInt) hc_2
        refine lv_aload_n hx hb dJ7_fill_53178_10 rfl (lv_at hl 2 rfl) ?_
        refine lv_iload_n hx hb dJ7_fill_53178_11 rfl (lv_at hl 1 rfl) ?_
        refine lv_iload_n hx hb dJ7_fill_53178_12 rfl (lv_at hl 3 rfl) ?_
        obtain ⟨fc_3, hgc_3, hFc_3⟩ := hW5.arr (i := 119) (by decide) (sh_119 ad K)
        refine s_iast X hP hj hA hS (by decide) hgc_3 (n_in (rfl : v5_2.toInt = v5_2.toInt) (by omega) (by omega)) dJ7_fill_53178_13 hW5 (sh_119 ad K) (hFc_3.put trivial) (fun fc_4 gc_4 H locs ec_4 hFc_4 hgc_4 hfc_4 hWc_4 hP hS => ?_)
        have hfr_5 : ∀ j, j ≠ 119 → gc_4 j = g j := fun j hj => (hfc_4 j (by omega)).trans (hfr5 j hj)
        obtain ⟨x_6, ex_6⟩ : ∃ y : Int32, y = v5_2 + 1 := ⟨_, rfl⟩
        have hx_6 : x_6.toInt = v5_2.toInt + 1 := n_add rfl (by decide : (1 : Int32).toInt = 1) ex_6 (by omega) (by omega)
        refine lv_iinc (v := x_6) (lv' := [(2, .int x_6), (3, .int 8), (0, .ref (ad 119)), (1, .int vv)]) hx hb dJ7_fill_53178_14 hl (k := 1) rfl (by rw [ex_6]; rfl) (by decide) rfl (fun ls hl => ?_)
        refine lv_goto (tgt := 5) hx hb dJ7_fill_53178_17 (by decide) ?_
        exact ih5 x_6 gc_4 _ _ ls (by omega) (by omega) hWc_4 hfr_5 hP hS (lv_sub hl [1, 0, 2, 3] rfl)
  have hiv5_2 : (0 : Int32).toInt = 0 := by decide
  exact HL5 _ 0 g _ _ ls (Nat.lt_succ_self _) (by omega) hW hfr hP hS (lv_sub hl [0, 1, 2, 3] rfl)

set_option maxHeartbeats 4000000 in
set_option maxRecDepth 100000 in
theorem s_fill_122 (l : Launch) (D : va_G) (cs : Nat → ClassId) (ad : Nat → Nat) (kS : kSt) (K : sK) (hKO : KO K) (hj : wJ ad 218) (g : Nat → va_E) (hW : WF (shp ad K) ad cs g) (ee : Nat) (vv : Int32) (hp0 : ee < 8) : sV l yJ7_fill_53178 vJ7_fill_53178 { frames := 0, cells := 0, slots := 0, locals := 0 } D cs ad kS [.ref (ad (122 + ee)), .int vv] g (fun g2 => WF (shp ad K) ad cs g2 ∧ (∀ j, (j < 122 ∨ 130 ≤ j) → g2 j = g j)) := by
  refine Met.startS (cc := cJ7_fill_53178) (maxL := 4) (ret := none) RJ7 rfl (by decide) rfl (Nat.le_of_ble_eq_true rfl) ?_
  intro p e s m below meth c ls X Z hP hl
  have hx := X.1
  have hb := X.2.1
  have hS : va_S (wA ad 218) s.heap s.heap [] := va_S.rf
  have hA : ∀ i, i < 218 → wA ad 218 (ad i) := fun i h => ⟨i, h, rfl⟩
  have hfr : ∀ j, (j < 122 ∨ 130 ≤ j) → g j = g j := fun _ _ => rfl
  have h_ee := hp0
  have hl : lv_has ls 4 [(0, .ref (ad (122 + ee))), (1, .int vv)] := hl
  refine lv_iconst (v := 0) hx hb dJ7_fill_53178_0 (by decide) ?_
  refine lv_istore_n (lv' := [(2, .int 0), (0, .ref (ad (122 + ee))), (1, .int vv)]) hx hb dJ7_fill_53178_1 rfl hl (by decide) rfl (fun ls hl => ?_)
  refine lv_aload_n hx hb dJ7_fill_53178_2 rfl (lv_at hl 1 rfl) ?_
  obtain ⟨fc_1, hgc_1, hFc_1⟩ := hW.arr (i := (122 + ee)) (by omega) (shR_122 ad K h_ee)
  refine q_alen X hP (by omega) 1 hgc_1 rfl (v := 15) (show Int32.ofNat 15 = 15 by decide) dJ7_fill_53178_3 ?_
  refine lv_istore_n (lv' := [(3, .int 15), (2, .int 0), (0, .ref (ad (122 + ee))), (1, .int vv)]) hx hb dJ7_fill_53178_4 rfl hl (by decide) rfl (fun ls hl => ?_)
  have HL5 : ∀ (n5 : Nat) (v5_2 : Int32) (G5 : Nat → va_E) (H : Heap) (locs : List Loc) (ls : Array Slot), (15 - v5_2.toInt).toNat < n5 → (0 ≤ v5_2.toInt ∧ v5_2.toInt ≤ 15) → WF (shp ad K) ad cs G5 → (∀ j, (j < 122 ∨ 130 ≤ j) → G5 j = g j) → va_P D vwCl (wL ad G5 218) H → va_S (wA ad 218) s.heap H locs → lv_has ls 4 [(3, .int 15), (2, .int v5_2), (0, .ref (ad (122 + ee))), (1, .int vv)] → W p l e ({ frames := 0, cells := 0, slots := 0, locals := 0 } : Room) s m ([.ref (ad (122 + ee)), .int vv] : List Value).toArray below meth c H locs 0 0 (MQ below (qV D ad 218 (fun g2 => WF (shp ad K) ad cs g2 ∧ (∀ j, (j < 122 ∨ 130 ≤ j) → g2 j = g j))) ([.ref (ad (122 + ee)), .int vv] : List Value).toArray s 0 0 (wA ad 218)) (F0 m 5 ls []) := by
    intro n5
    induction n5 with
    | zero =>
      intro v5_2 G5 H locs ls hm5 hv5_0 hW5 hfr5 hP hS hl
      exact absurd hm5 (Nat.not_lt_zero _)
    | succ n5 ih5 =>
      intro v5_2 G5 H locs ls hm5 hv5_0 hW5 hfr5 hP hS hl
      refine lv_iload_n hx hb dJ7_fill_53178_5 rfl (lv_at hl 1 rfl) ?_
      refine lv_iload_n hx hb dJ7_fill_53178_6 rfl (lv_at hl 0 rfl) ?_
      refine lv_icmp_ge (tgt := 20) hx hb dJ7_fill_53178_7 (by decide) (fun hc_2 => ?_) (fun hc_2 => ?_)
      · have hhc_2 := n_le (by decide : (15 : Int32).toInt = 15) (rfl : v5_2.toInt = v5_2.toInt) hc_2
        exact q_vret X hP hS ⟨hW5, hfr5⟩ dJ7_fill_53178_20
      · have hhc_2 := n_nle (by decide : (15 : Int32).toInt = 15) (rfl : v5_2.toInt = v5_2.toInt) hc_2
        refine lv_aload_n hx hb dJ7_fill_53178_10 rfl (lv_at hl 2 rfl) ?_
        refine lv_iload_n hx hb dJ7_fill_53178_11 rfl (lv_at hl 1 rfl) ?_
        refine lv_iload_n hx hb dJ7_fill_53178_12 rfl (lv_at hl 3 rfl) ?_
        obtain ⟨fc_3, hgc_3, hFc_3⟩ := hW5.arr (i := (122 + ee)) (by omega) (shR_122 ad K h_ee)
        refine s_iast X hP hj hA hS (by omega) hgc_3 (n_in (rfl : v5_2.toInt = v5_2.toInt) (by omega) (by omega)) dJ7_fill_53178_13 hW5 (shR_122 ad K h_ee) (hFc_3.put trivial) (fun fc_4 gc_4 H locs ec_4 hFc_4 hgc_4 hfc_4 hWc_4 hP hS => ?_)
        have hfr_5 : ∀ j, (j < 122 ∨ 130 ≤ j) → gc_4 j = g j := fun j hj => (hfc_4 j (by omega)).trans (hfr5 j hj)
        obtain ⟨x_6, ex_6⟩ : ∃ y : Int32, y = v5_2 + 1 := ⟨_, rfl⟩
        have hx_6 : x_6.toInt = v5_2.toInt + 1 := n_add rfl (by decide : (1 : Int32).toInt = 1) ex_6 (by omega) (by omega)
        refine lv_iinc (v := x_6) (lv' := [(2, .int x_6), (3, .int 15), (0, .ref (ad (122 + ee))), (1, .int vv)]) hx hb dJ7_fill_53178_14 hl (k := 1) rfl (by rw [ex_6]; rfl) (by decide) rfl (fun ls hl => ?_)
        refine lv_goto (tgt := 5) hx hb dJ7_fill_53178_17 (by decide) ?_
        exact ih5 x_6 gc_4 _ _ ls (by omega) (by omega) hWc_4 hfr_5 hP hS (lv_sub hl [1, 0, 2, 3] rfl)
  have hiv5_2 : (0 : Int32).toInt = 0 := by decide
  exact HL5 _ 0 g _ _ ls (Nat.lt_succ_self _) (by omega) hW hfr hP hS (lv_sub hl [0, 1, 2, 3] rfl)

set_option maxHeartbeats 4000000 in
set_option maxRecDepth 100000 in
theorem s_fill_134 (l : Launch) (D : va_G) (cs : Nat → ClassId) (ad : Nat → Nat) (kS : kSt) (K : sK) (hKO : KO K) (hj : wJ ad 218) (g : Nat → va_E) (hW : WF (shp ad K) ad cs g) (ee : Nat) (vv : Int32) (hp0 : ee < 6) : sV l yJ7_fill_53178 vJ7_fill_53178 { frames := 0, cells := 0, slots := 0, locals := 0 } D cs ad kS [.ref (ad (134 + ee)), .int vv] g (fun g2 => WF (shp ad K) ad cs g2 ∧ (∀ j, (j < 134 ∨ 140 ≤ j) → g2 j = g j)) := by
  refine Met.startS (cc := cJ7_fill_53178) (maxL := 4) (ret := none) RJ7 rfl (by decide) rfl (Nat.le_of_ble_eq_true rfl) ?_
  intro p e s m below meth c ls X Z hP hl
  have hx := X.1
  have hb := X.2.1
  have hS : va_S (wA ad 218) s.heap s.heap [] := va_S.rf
  have hA : ∀ i, i < 218 → wA ad 218 (ad i) := fun i h => ⟨i, h, rfl⟩
  have hfr : ∀ j, (j < 134 ∨ 140 ≤ j) → g j = g j := fun _ _ => rfl
  have h_ee := hp0
  have hl : lv_has ls 4 [(0, .ref (ad (134 + ee))), (1, .int vv)] := hl
  refine lv_iconst (v := 0) hx hb dJ7_fill_53178_0 (by decide) ?_
  refine lv_istore_n (lv' := [(2, .int 0), (0, .ref (ad (134 + ee))), (1, .int vv)]) hx hb dJ7_fill_53178_1 rfl hl (by decide) rfl (fun ls hl => ?_)
  refine lv_aload_n hx hb dJ7_fill_53178_2 rfl (lv_at hl 1 rfl) ?_
  obtain ⟨fc_1, hgc_1, hFc_1⟩ := hW.arr (i := (134 + ee)) (by omega) (shR_134 ad K h_ee)
  refine q_alen X hP (by omega) 1 hgc_1 rfl (v := 16) (show Int32.ofNat 16 = 16 by decide) dJ7_fill_53178_3 ?_
  refine lv_istore_n (lv' := [(3, .int 16), (2, .int 0), (0, .ref (ad (134 + ee))), (1, .int vv)]) hx hb dJ7_fill_53178_4 rfl hl (by decide) rfl (fun ls hl => ?_)
  have HL5 : ∀ (n5 : Nat) (v5_2 : Int32) (G5 : Nat → va_E) (H : Heap) (locs : List Loc) (ls : Array Slot), (16 - v5_2.toInt).toNat < n5 → (0 ≤ v5_2.toInt ∧ v5_2.toInt ≤ 16) → WF (shp ad K) ad cs G5 → (∀ j, (j < 134 ∨ 140 ≤ j) → G5 j = g j) → va_P D vwCl (wL ad G5 218) H → va_S (wA ad 218) s.heap H locs → lv_has ls 4 [(3, .int 16), (2, .int v5_2), (0, .ref (ad (134 + ee))), (1, .int vv)] → W p l e ({ frames := 0, cells := 0, slots := 0, locals := 0 } : Room) s m ([.ref (ad (134 + ee)), .int vv] : List Value).toArray below meth c H locs 0 0 (MQ below (qV D ad 218 (fun g2 => WF (shp ad K) ad cs g2 ∧ (∀ j, (j < 134 ∨ 140 ≤ j) → g2 j = g j))) ([.ref (ad (134 + ee)), .int vv] : List Value).toArray s 0 0 (wA ad 218)) (F0 m 5 ls []) := by
    intro n5
    induction n5 with
    | zero =>
      intro v5_2 G5 H locs ls hm5 hv5_0 hW5 hfr5 hP hS hl
      exact absurd hm5 (Nat.not_lt_zero _)
    | succ n5 ih5 =>
      intro v5_2 G5 H locs ls hm5 hv5_0 hW5 hfr5 hP hS hl
      refine lv_iload_n hx hb dJ7_fill_53178_5 rfl (lv_at hl 1 rfl) ?_
      refine lv_iload_n hx hb dJ7_fill_53178_6 rfl (lv_at hl 0 rfl) ?_
      refine lv_icmp_ge (tgt := 20) hx hb dJ7_fill_53178_7 (by decide) (fun hc_2 => ?_) (fun hc_2 => ?_)
      · have hhc_2 := n_le (by decide : (16 : Int32).toInt = 16) (rfl : v5_2.toInt = v5_2.toInt) hc_2
        exact q_vret X hP hS ⟨hW5, hfr5⟩ dJ7_fill_53178_20
      · have hhc_2 := n_nle (by decide : (16 : Int32).toInt = 16) (rfl : v5_2.toInt = v5_2.toInt) hc_2
        refine lv_aload_n hx hb dJ7_fill_53178_10 rfl (lv_at hl 2 rfl) ?_
        refine lv_iload_n hx hb dJ7_fill_53178_11 rfl (lv_at hl 1 rfl) ?_
        refine lv_iload_n hx hb dJ7_fill_53178_12 rfl (lv_at hl 3 rfl) ?_
        obtain ⟨fc_3, hgc_3, hFc_3⟩ := hW5.arr (i := (134 + ee)) (by omega) (shR_134 ad K h_ee)
        refine s_iast X hP hj hA hS (by omega) hgc_3 (n_in (rfl : v5_2.toInt = v5_2.toInt) (by omega) (by omega)) dJ7_fill_53178_13 hW5 (shR_134 ad K h_ee) (hFc_3.put trivial) (fun fc_4 gc_4 H locs ec_4 hFc_4 hgc_4 hfc_4 hWc_4 hP hS => ?_)
        have hfr_5 : ∀ j, (j < 134 ∨ 140 ≤ j) → gc_4 j = g j := fun j hj => (hfc_4 j (by omega)).trans (hfr5 j hj)
        obtain ⟨x_6, ex_6⟩ : ∃ y : Int32, y = v5_2 + 1 := ⟨_, rfl⟩
        have hx_6 : x_6.toInt = v5_2.toInt + 1 := n_add rfl (by decide : (1 : Int32).toInt = 1) ex_6 (by omega) (by omega)
        refine lv_iinc (v := x_6) (lv' := [(2, .int x_6), (3, .int 16), (0, .ref (ad (134 + ee))), (1, .int vv)]) hx hb dJ7_fill_53178_14 hl (k := 1) rfl (by rw [ex_6]; rfl) (by decide) rfl (fun ls hl => ?_)
        refine lv_goto (tgt := 5) hx hb dJ7_fill_53178_17 (by decide) ?_
        exact ih5 x_6 gc_4 _ _ ls (by omega) (by omega) hWc_4 hfr_5 hP hS (lv_sub hl [1, 0, 2, 3] rfl)
  have hiv5_2 : (0 : Int32).toInt = 0 := by decide
  exact HL5 _ 0 g _ _ ls (Nat.lt_succ_self _) (by omega) hW hfr hP hS (lv_sub hl [0, 1, 2, 3] rfl)

theorem dJ7_fill_d0a16_0 : decode cJ7_fill_d0a16 0 = .ok (.iconst 0, 1) := by decide +kernel
theorem dJ7_fill_d0a16_1 : decode cJ7_fill_d0a16 1 = .ok (.istore_n 3, 1) := by decide +kernel
theorem dJ7_fill_d0a16_2 : decode cJ7_fill_d0a16 2 = .ok (.aload_n 0, 1) := by decide +kernel
theorem dJ7_fill_d0a16_3 : decode cJ7_fill_d0a16 3 = .ok (.arraylength, 1) := by decide +kernel
theorem dJ7_fill_d0a16_4 : decode cJ7_fill_d0a16 4 = .ok (.istore 4, 2) := by decide +kernel
theorem dJ7_fill_d0a16_6 : decode cJ7_fill_d0a16 6 = .ok (.iload_n 3, 1) := by decide +kernel
theorem dJ7_fill_d0a16_7 : decode cJ7_fill_d0a16 7 = .ok (.iload 4, 2) := by decide +kernel
theorem dJ7_fill_d0a16_9 : decode cJ7_fill_d0a16 9 = .ok (.if_icmp .ge 13, 3) := by decide +kernel
theorem dJ7_fill_d0a16_12 : decode cJ7_fill_d0a16 12 = .ok (.aload_n 0, 1) := by decide +kernel
theorem dJ7_fill_d0a16_13 : decode cJ7_fill_d0a16 13 = .ok (.iload_n 3, 1) := by decide +kernel
theorem dJ7_fill_d0a16_14 : decode cJ7_fill_d0a16 14 = .ok (.lload_n 1, 1) := by decide +kernel
theorem dJ7_fill_d0a16_15 : decode cJ7_fill_d0a16 15 = .ok (.lastore, 1) := by decide +kernel
theorem dJ7_fill_d0a16_16 : decode cJ7_fill_d0a16 16 = .ok (.iinc 3 1, 3) := by decide +kernel
theorem dJ7_fill_d0a16_19 : decode cJ7_fill_d0a16 19 = .ok (.goto (-13), 3) := by decide +kernel
theorem dJ7_fill_d0a16_22 : decode cJ7_fill_d0a16 22 = .ok (.return_, 1) := by decide +kernel
noncomputable def vJ7_fill_d0a16 : List Cond := .code yJ7_fill_d0a16 cJ7_fill_d0a16 5 none :: ([] : List Cond)
theorem gs_J7_fill_d0a16 : Gd vJ7_fill_d0a16 := Gd.cons (by decide +kernel) (Gd.r (by decide +kernel))
set_option maxHeartbeats 4000000 in
set_option maxRecDepth 100000 in
theorem s_fill_141 (l : Launch) (D : va_G) (cs : Nat → ClassId) (ad : Nat → Nat) (kS : kSt) (K : sK) (hKO : KO K) (hj : wJ ad 218) (g : Nat → va_E) (hW : WF (shp ad K) ad cs g) (vv : Int64) : sV l yJ7_fill_d0a16 vJ7_fill_d0a16 { frames := 0, cells := 0, slots := 0, locals := 0 } D cs ad kS [.ref (ad 141), .long vv] g (fun g2 => WF (shp ad K) ad cs g2 ∧ (∀ j, j ≠ 141 → g2 j = g j)) := by
  refine Met.startS (cc := cJ7_fill_d0a16) (maxL := 5) (ret := none) RJ7 rfl (by decide) rfl (Nat.le_of_ble_eq_true rfl) ?_
  intro p e s m below meth c ls X Z hP hl
  have hx := X.1
  have hb := X.2.1
  have hS : va_S (wA ad 218) s.heap s.heap [] := va_S.rf
  have hA : ∀ i, i < 218 → wA ad 218 (ad i) := fun i h => ⟨i, h, rfl⟩
  have hfr : ∀ j, j ≠ 141 → g j = g j := fun _ _ => rfl
  have hl : lv_has ls 5 [(0, .ref (ad 141)), (1, .long vv)] := hl
  refine lv_iconst (v := 0) hx hb dJ7_fill_d0a16_0 (by decide) ?_
  refine lv_istore_n (lv' := [(3, .int 0), (0, .ref (ad 141)), (1, .long vv)]) hx hb dJ7_fill_d0a16_1 rfl hl (by decide) rfl (fun ls hl => ?_)
  refine lv_aload_n hx hb dJ7_fill_d0a16_2 rfl (lv_at hl 1 rfl) ?_
  obtain ⟨fc_1, hgc_1, hFc_1⟩ := hW.arj (i := 141) (by decide) (sh_141 ad K)
  refine q_alen X hP (by decide) 2 hgc_1 rfl (v := 15) (show Int32.ofNat 15 = 15 by decide) dJ7_fill_d0a16_3 ?_
  refine lv_istore (lv' := [(4, .int 15), (3, .int 0), (0, .ref (ad 141)), (1, .long vv)]) hx hb dJ7_fill_d0a16_4 hl (by decide) rfl (fun ls hl => ?_)
  have HL6 : ∀ (n6 : Nat) (v6_3 : Int32) (G6 : Nat → va_E) (H : Heap) (locs : List Loc) (ls : Array Slot), (15 - v6_3.toInt).toNat < n6 → (0 ≤ v6_3.toInt ∧ v6_3.toInt ≤ 15) → WF (shp ad K) ad cs G6 → (∀ j, j ≠ 141 → G6 j = g j) → va_P D vwCl (wL ad G6 218) H → va_S (wA ad 218) s.heap H locs → lv_has ls 5 [(4, .int 15), (3, .int v6_3), (0, .ref (ad 141)), (1, .long vv)] → W p l e ({ frames := 0, cells := 0, slots := 0, locals := 0 } : Room) s m ([.ref (ad 141), .long vv] : List Value).toArray below meth c H locs 0 0 (MQ below (qV D ad 218 (fun g2 => WF (shp ad K) ad cs g2 ∧ (∀ j, j ≠ 141 → g2 j = g j))) ([.ref (ad 141), .long vv] : List Value).toArray s 0 0 (wA ad 218)) (F0 m 6 ls []) := by
    intro n6
    induction n6 with
    | zero =>
      intro v6_3 G6 H locs ls hm6 hv6_0 hW6 hfr6 hP hS hl
      exact absurd hm6 (Nat.not_lt_zero _)
    | succ n6 ih6 =>
      intro v6_3 G6 H locs ls hm6 hv6_0 hW6 hfr6 hP hS hl
      refine lv_iload_n hx hb dJ7_fill_d0a16_6 rfl (lv_at hl 1 rfl) ?_
      refine lv_iload hx hb dJ7_fill_d0a16_7 (lv_at hl 0 rfl) ?_
      refine lv_icmp_ge (tgt := 22) hx hb dJ7_fill_d0a16_9 (by decide) (fun hc_2 => ?_) (fun hc_2 => ?_)
      · have hhc_2 := n_le (by decide : (15 : Int32).toInt = 15) (rfl : v6_3.toInt = v6_3.toInt) hc_2
        exact q_vret X hP hS ⟨hW6, hfr6⟩ dJ7_fill_d0a16_22
      · have hhc_2 := n_nle (by decide : (15 : Int32).toInt = 15) (rfl : v6_3.toInt = v6_3.toInt) hc_2
        refine lv_aload_n hx hb dJ7_fill_d0a16_12 rfl (lv_at hl 2 rfl) ?_
        refine lv_iload_n hx hb dJ7_fill_d0a16_13 rfl (lv_at hl 1 rfl) ?_
        refine lv_lload_n hx hb dJ7_fill_d0a16_14 rfl (lv_at hl 3 rfl) ?_
        obtain ⟨fc_3, hgc_3, hFc_3⟩ := hW6.arj (i := 141) (by decide) (sh_141 ad K)
        refine s_last X hP hj hA hS (by decide) hgc_3 (n_in (rfl : v6_3.toInt = v6_3.toInt) (by omega) (by omega)) dJ7_fill_d0a16_15 hW6 (sh_141 ad K) (hFc_3.put trivial) (fun fc_4 gc_4 H locs ec_4 hFc_4 hgc_4 hfc_4 hWc_4 hP hS => ?_)
        have hfr_5 : ∀ j, j ≠ 141 → gc_4 j = g j := fun j hj => (hfc_4 j (by omega)).trans (hfr6 j hj)
        obtain ⟨x_6, ex_6⟩ : ∃ y : Int32, y = v6_3 + 1 := ⟨_, rfl⟩
        have hx_6 : x_6.toInt = v6_3.toInt + 1 := n_add rfl (by decide : (1 : Int32).toInt = 1) ex_6 (by omega) (by omega)
        refine lv_iinc (v := x_6) (lv' := [(3, .int x_6), (4, .int 15), (0, .ref (ad 141)), (1, .long vv)]) hx hb dJ7_fill_d0a16_16 hl (k := 1) rfl (by rw [ex_6]; rfl) (by decide) rfl (fun ls hl => ?_)
        refine lv_goto (tgt := 6) hx hb dJ7_fill_d0a16_19 (by decide) ?_
        exact ih6 x_6 gc_4 _ _ ls (by omega) (by omega) hWc_4 hfr_5 hP hS (lv_sub hl [1, 0, 2, 3] rfl)
  have hiv6_3 : (0 : Int32).toInt = 0 := by decide
  exact HL6 _ 0 g _ _ ls (Nat.lt_succ_self _) (by omega) hW hfr hP hS (lv_sub hl [0, 1, 2, 3] rfl)

set_option maxHeartbeats 4000000 in
set_option maxRecDepth 100000 in
theorem s_fill_J (l : Launch) (D : va_G) (cs : Nat → ClassId) (ad : Nat → Nat) (kS : kSt) (K : sK) (hKO : KO K) (hj : wJ ad 218) (g : Nat → va_E) (hW : WF (shp ad K) ad cs g) (jj : Nat) (vv : Int64) (hp0 : jj < 4) : sV l yJ7_fill_d0a16 vJ7_fill_d0a16 { frames := 0, cells := 0, slots := 0, locals := 0 } D cs ad kS [.ref (ad (107 + 2 * jj)), .long vv] g (fun g2 => WF (shp ad K) ad cs g2 ∧ (∀ j, j ≠ 107 + 2 * jj → g2 j = g j)) := by
  refine Met.startS (cc := cJ7_fill_d0a16) (maxL := 5) (ret := none) RJ7 rfl (by decide) rfl (Nat.le_of_ble_eq_true rfl) ?_
  intro p e s m below meth c ls X Z hP hl
  have hx := X.1
  have hb := X.2.1
  have hS : va_S (wA ad 218) s.heap s.heap [] := va_S.rf
  have hA : ∀ i, i < 218 → wA ad 218 (ad i) := fun i h => ⟨i, h, rfl⟩
  have hfr : ∀ j, j ≠ 107 + 2 * jj → g j = g j := fun _ _ => rfl
  have hj_jj := hp0
  have hl : lv_has ls 5 [(0, .ref (ad (107 + 2 * jj))), (1, .long vv)] := hl
  refine lv_iconst (v := 0) hx hb dJ7_fill_d0a16_0 (by decide) ?_
  refine lv_istore_n (lv' := [(3, .int 0), (0, .ref (ad (107 + 2 * jj))), (1, .long vv)]) hx hb dJ7_fill_d0a16_1 rfl hl (by decide) rfl (fun ls hl => ?_)
  refine lv_aload_n hx hb dJ7_fill_d0a16_2 rfl (lv_at hl 1 rfl) ?_
  obtain ⟨fc_1, hgc_1, hFc_1⟩ := hW.arj (i := (107 + 2 * jj)) (by omega) (shJ_1 ad K hj_jj)
  refine q_alen X hP (by omega) 2 hgc_1 rfl (v := 60) (show Int32.ofNat 60 = 60 by decide) dJ7_fill_d0a16_3 ?_
  refine lv_istore (lv' := [(4, .int 60), (3, .int 0), (0, .ref (ad (107 + 2 * jj))), (1, .long vv)]) hx hb dJ7_fill_d0a16_4 hl (by decide) rfl (fun ls hl => ?_)
  have HL6 : ∀ (n6 : Nat) (v6_3 : Int32) (G6 : Nat → va_E) (H : Heap) (locs : List Loc) (ls : Array Slot), (60 - v6_3.toInt).toNat < n6 → (0 ≤ v6_3.toInt ∧ v6_3.toInt ≤ 60) → WF (shp ad K) ad cs G6 → (∀ j, j ≠ 107 + 2 * jj → G6 j = g j) → va_P D vwCl (wL ad G6 218) H → va_S (wA ad 218) s.heap H locs → lv_has ls 5 [(4, .int 60), (3, .int v6_3), (0, .ref (ad (107 + 2 * jj))), (1, .long vv)] → W p l e ({ frames := 0, cells := 0, slots := 0, locals := 0 } : Room) s m ([.ref (ad (107 + 2 * jj)), .long vv] : List Value).toArray below meth c H locs 0 0 (MQ below (qV D ad 218 (fun g2 => WF (shp ad K) ad cs g2 ∧ (∀ j, j ≠ 107 + 2 * jj → g2 j = g j))) ([.ref (ad (107 + 2 * jj)), .long vv] : List Value).toArray s 0 0 (wA ad 218)) (F0 m 6 ls []) := by
    intro n6
    induction n6 with
    | zero =>
      intro v6_3 G6 H locs ls hm6 hv6_0 hW6 hfr6 hP hS hl
      exact absurd hm6 (Nat.not_lt_zero _)
    | succ n6 ih6 =>
      intro v6_3 G6 H locs ls hm6 hv6_0 hW6 hfr6 hP hS hl
      refine lv_iload_n hx hb dJ7_fill_d0a16_6 rfl (lv_at hl 1 rfl) ?_
      refine lv_iload hx hb dJ7_fill_d0a16_7 (lv_at hl 0 rfl) ?_
      refine lv_icmp_ge (tgt := 22) hx hb dJ7_fill_d0a16_9 (by decide) (fun hc_2 => ?_) (fun hc_2 => ?_)
      · have hhc_2 := n_le (by decide : (60 : Int32).toInt = 60) (rfl : v6_3.toInt = v6_3.toInt) hc_2
        exact q_vret X hP hS ⟨hW6, hfr6⟩ dJ7_fill_d0a16_22
      · have hhc_2 := n_nle (by decide : (60 : Int32).toInt = 60) (rfl : v6_3.toInt = v6_3.toInt) hc_2
        refine lv_aload_n hx hb dJ7_fill_d0a16_12 rfl (lv_at hl 2 rfl) ?_
        refine lv_iload_n hx hb dJ7_fill_d0a16_13 rfl (lv_at hl 1 rfl) ?_
        refine lv_lload_n hx hb dJ7_fill_d0a16_14 rfl (lv_at hl 3 rfl) ?_
        obtain ⟨fc_3, hgc_3, hFc_3⟩ := hW6.arj (i := (107 + 2 * jj)) (by omega) (shJ_1 ad K hj_jj)
        refine s_last X hP hj hA hS (by omega) hgc_3 (n_in (rfl : v6_3.toInt = v6_3.toInt) (by omega) (by omega)) dJ7_fill_d0a16_15 hW6 (shJ_1 ad K hj_jj) (hFc_3.put trivial) (fun fc_4 gc_4 H locs ec_4 hFc_4 hgc_4 hfc_4 hWc_4 hP hS => ?_)
        have hfr_5 : ∀ j, j ≠ 107 + 2 * jj → gc_4 j = g j := fun j hj => (hfc_4 j (by omega)).trans (hfr6 j hj)
        obtain ⟨x_6, ex_6⟩ : ∃ y : Int32, y = v6_3 + 1 := ⟨_, rfl⟩
        have hx_6 : x_6.toInt = v6_3.toInt + 1 := n_add rfl (by decide : (1 : Int32).toInt = 1) ex_6 (by omega) (by omega)
        refine lv_iinc (v := x_6) (lv' := [(3, .int x_6), (4, .int 60), (0, .ref (ad (107 + 2 * jj))), (1, .long vv)]) hx hb dJ7_fill_d0a16_16 hl (k := 1) rfl (by rw [ex_6]; rfl) (by decide) rfl (fun ls hl => ?_)
        refine lv_goto (tgt := 6) hx hb dJ7_fill_d0a16_19 (by decide) ?_
        exact ih6 x_6 gc_4 _ _ ls (by omega) (by omega) hWc_4 hfr_5 hP hS (lv_sub hl [1, 0, 2, 3] rfl)
  have hiv6_3 : (0 : Int32).toInt = 0 := by decide
  exact HL6 _ 0 g _ _ ls (Nat.lt_succ_self _) (by omega) hW hfr hP hS (lv_sub hl [0, 1, 2, 3] rfl)

theorem dX0_tally_0 : decode cX0_tally 0 = .ok (.iload_n 1, 1) := by decide +kernel
theorem dX0_tally_1 : decode cX0_tally 1 = .ok (.iconst (-1), 1) := by decide +kernel
theorem dX0_tally_2 : decode cX0_tally 2 = .ok (.if_icmp .ne 16, 3) := by decide +kernel
theorem dX0_tally_5 : decode cX0_tally 5 = .ok (.aload_n 0, 1) := by decide +kernel
theorem dX0_tally_6 : decode cX0_tally 6 = .ok (.getfield 23, 3) := by decide +kernel
theorem dX0_tally_9 : decode cX0_tally 9 = .ok (.iload_n 2, 1) := by decide +kernel
theorem dX0_tally_10 : decode cX0_tally 10 = .ok (.dup2, 1) := by decide +kernel
theorem dX0_tally_11 : decode cX0_tally 11 = .ok (.iaload, 1) := by decide +kernel
theorem dX0_tally_12 : decode cX0_tally 12 = .ok (.iload_n 3, 1) := by decide +kernel
theorem dX0_tally_13 : decode cX0_tally 13 = .ok (.iadd, 1) := by decide +kernel
theorem dX0_tally_14 : decode cX0_tally 14 = .ok (.iastore, 1) := by decide +kernel
theorem dX0_tally_15 : decode cX0_tally 15 = .ok (.goto 15, 3) := by decide +kernel
theorem dX0_tally_18 : decode cX0_tally 18 = .ok (.aload_n 0, 1) := by decide +kernel
theorem dX0_tally_19 : decode cX0_tally 19 = .ok (.getfield 20, 3) := by decide +kernel
theorem dX0_tally_22 : decode cX0_tally 22 = .ok (.iload_n 1, 1) := by decide +kernel
theorem dX0_tally_23 : decode cX0_tally 23 = .ok (.aaload, 1) := by decide +kernel
theorem dX0_tally_24 : decode cX0_tally 24 = .ok (.iload_n 2, 1) := by decide +kernel
theorem dX0_tally_25 : decode cX0_tally 25 = .ok (.dup2, 1) := by decide +kernel
theorem dX0_tally_26 : decode cX0_tally 26 = .ok (.iaload, 1) := by decide +kernel
theorem dX0_tally_27 : decode cX0_tally 27 = .ok (.iload_n 3, 1) := by decide +kernel
theorem dX0_tally_28 : decode cX0_tally 28 = .ok (.iadd, 1) := by decide +kernel
theorem dX0_tally_29 : decode cX0_tally 29 = .ok (.iastore, 1) := by decide +kernel
theorem dX0_tally_30 : decode cX0_tally 30 = .ok (.return_, 1) := by decide +kernel
noncomputable def vX0_tally : List Cond := .code yX0_tally cX0_tally 4 none :: (([.fieldLink RX0 23 "IcicleClock$Acts" "rung" "[I", .fieldLink RX0 20 "IcicleClock$Acts" "slammed" "[[I"] : List Cond) ++ wsX00)
theorem iX0_tally_0 : ∀ w ∈ wsX00, w ∈ vX0_tally := fun _ h => List.mem_cons_of_mem _ (List.mem_append_right _ (h))
theorem gs_X0_tally : Gd vX0_tally := Gd.cons (by decide +kernel) (Gd.app (Gd.r (by decide +kernel)) gwX_0)
set_option maxHeartbeats 4000000 in
set_option maxRecDepth 100000 in
theorem s_X0_tally (l : Launch) (D : va_G) (cs : Nat → ClassId) (ad : Nat → Nat) (kS : kSt) (K : sK) (hKO : KO K) (hj : wJ ad 218) (g : Nat → va_E) (hW : WF (shp ad K) ad cs g) (b : Nat) (ev : Int32) (dy : Int32) (mo : Int32) (hp0 : b = 3 ∨ b = 23 ∨ b = 44 ∨ b = 64 ∨ b = 84) (hp1 : (-1) ≤ ev.toInt ∧ ev.toInt ≤ 4) (hp2 : 0 ≤ dy.toInt ∧ dy.toInt ≤ 13) : sV l yX0_tally vX0_tally { frames := 0, cells := 0, slots := 0, locals := 0 } D cs ad kS [.ref (ad (b + 10)), .int ev, .int dy, .int mo] g (fun g2 => WF (shp ad K) ad cs g2 ∧ (∀ j, (j < b + 14 ∨ b + 20 ≤ j) → g2 j = g j)) := by
  refine Met.startS (cc := cX0_tally) (maxL := 4) (ret := none) RX0 rfl (by decide) rfl (Nat.le_of_ble_eq_true rfl) ?_
  intro p e s m below meth c ls X Z hP hl
  have hx := X.1
  have hb := X.2.1
  have hS : va_S (wA ad 218) s.heap s.heap [] := va_S.rf
  have hA : ∀ i, i < 218 → wA ad 218 (ad i) := fun i h => ⟨i, h, rfl⟩
  have hfr : ∀ j, (j < b + 14 ∨ b + 20 ≤ j) → g j = g j := fun _ _ => rfl
  have hb_b := hp0
  have hl : lv_has ls 4 [(0, .ref (ad (b + 10))), (1, .int ev), (2, .int dy), (3, .int mo)] := hl
  refine lv_iload_n hx hb dX0_tally_0 rfl (lv_at hl 1 rfl) ?_
  refine lv_iconst (v := (-1)) hx hb dX0_tally_1 (by decide) ?_
  have HJ30 : ∀ (G30 : Nat → va_E) (H : Heap) (locs : List Loc) (ls : Array Slot), WF (shp ad K) ad cs G30 → (∀ j, (j < b + 14 ∨ b + 20 ≤ j) → G30 j = g j) → va_P D vwCl (wL ad G30 218) H → va_S (wA ad 218) s.heap H locs → lv_has ls 4 [] → W p l e ({ frames := 0, cells := 0, slots := 0, locals := 0 } : Room) s m ([.ref (ad (b + 10)), .int ev, .int dy, .int mo] : List Value).toArray below meth c H locs 0 0 (MQ below (qV D ad 218 (fun g2 => WF (shp ad K) ad cs g2 ∧ (∀ j, (j < b + 14 ∨ b + 20 ≤ j) → g2 j = g j))) ([.ref (ad (b + 10)), .int ev, .int dy, .int mo] : List Value).toArray s 0 0 (wA ad 218)) (F0 m 30 ls []) := by
    intro G30 H locs ls hW30 hfr30 hP hS hl
    exact q_vret X hP hS ⟨hW30, hfr30⟩ dX0_tally_30
  refine lv_icmp_ne (tgt := 18) hx hb dX0_tally_2 (by decide) (fun hc_1 => ?_) (fun hc_1 => ?_)
  · have hhc_1 := n_ne (rfl : ev.toInt = ev.toInt) (by decide : (-1 : Int32).toInt = -1) hc_1
    refine lv_aload_n hx hb dX0_tally_18 rfl (lv_at hl 0 rfl) ?_
    obtain ⟨fsc_2, hgc_2, hOc_2⟩ := hW.obj (i := (b + 10)) (by omega) (shS_10 ad K hb_b)
    have hk_3 := hOc_2.ref 3 rfl
    refine q_get X iX0_tally_0 hP (by omega) hgc_2 rfl 3 (by decide) (List.mem_of_getElem? (i := 2) rfl) (v := .ref (ad (b + 13))) hk_3 dX0_tally_19 ?_
    refine lv_iload_n hx hb dX0_tally_22 rfl (lv_at hl 1 rfl) ?_
    obtain ⟨fc_4, hgc_4, hFc_4⟩ := hW.aref (i := (b + 13)) (by omega) (shS_13 ad K hb_b)
    obtain ⟨e_5, h_e_5, e_e_5⟩ : ∃ q : Nat, q < 5 ∧ ev.toNatClampNeg = q := ⟨_, by have := n_cl (rfl : ev.toInt = ev.toInt) (by omega); omega, rfl⟩
    refine s_aald X hP 6 rfl rfl (by omega) hgc_4 (n_in (rfl : ev.toInt = ev.toInt) (by omega) (by omega)) (v := ad (b + 14 + e_5)) (by rw [e_e_5, hFc_4 _ h_e_5, Nat.one_mul]) dX0_tally_23 ?_
    refine lv_iload_n hx hb dX0_tally_24 rfl (lv_at hl 2 rfl) ?_
    refine lv_dup2_11 hx hb dX0_tally_25 rfl rfl ?_
    obtain ⟨fc_6, hgc_6, hFc_6⟩ := hW.arr (i := (b + 14 + e_5)) (by omega) (shSR ad K hb_b h_e_5)
    refine q_iald X hP (by omega) hgc_6 (n_in (rfl : dy.toInt = dy.toInt) (by omega) (by omega)) dX0_tally_26 ?_
    refine lv_topi (fun z_7 ez_7 => ?_)
    refine lv_iload_n hx hb dX0_tally_27 rfl (lv_at hl 3 rfl) ?_
    refine lv_iadd hx hb dX0_tally_28 ?_
    refine lv_topi (fun z_8 ez_8 => ?_)
    refine s_iast X hP hj hA hS (by omega) hgc_6 (n_in (rfl : dy.toInt = dy.toInt) (by omega) (by omega)) dX0_tally_29 hW (shSR ad K hb_b h_e_5) (hFc_6.put trivial) (fun fc_9 gc_9 H locs ec_9 hFc_9 hgc_9 hfc_9 hWc_9 hP hS => ?_)
    have hg_11 := (hfc_9 (b + 10) (by omega)).trans hgc_2
    have hg_12 := (hfc_9 (b + 13) (by omega)).trans hgc_4
    have hfr_10 : ∀ j, (j < b + 14 ∨ b + 20 ≤ j) → gc_9 j = g j := fun j hj => (hfc_9 j (by omega)).trans (hfr j hj)
    exact HJ30 gc_9 _ _ ls hWc_9 hfr_10 hP hS (lv_sub hl [] rfl)
  · have hhc_1 := n_eq (rfl : ev.toInt = ev.toInt) (by decide : (-1 : Int32).toInt = -1) hc_1
    refine lv_aload_n hx hb dX0_tally_5 rfl (lv_at hl 0 rfl) ?_
    obtain ⟨fsc_13, hgc_13, hOc_13⟩ := hW.obj (i := (b + 10)) (by omega) (shS_10 ad K hb_b)
    have hk_14 := hOc_13.ref 4 rfl
    refine q_get X iX0_tally_0 hP (by omega) hgc_13 rfl 4 (by decide) (List.mem_of_getElem? (i := 1) rfl) (v := .ref (ad (b + 19))) hk_14 dX0_tally_6 ?_
    refine lv_iload_n hx hb dX0_tally_9 rfl (lv_at hl 2 rfl) ?_
    refine lv_dup2_11 hx hb dX0_tally_10 rfl rfl ?_
    obtain ⟨fc_15, hgc_15, hFc_15⟩ := hW.arr (i := (b + 19)) (by omega) (shS_19 ad K hb_b)
    refine q_iald X hP (by omega) hgc_15 (n_in (rfl : dy.toInt = dy.toInt) (by omega) (by omega)) dX0_tally_11 ?_
    refine lv_topi (fun z_16 ez_16 => ?_)
    refine lv_iload_n hx hb dX0_tally_12 rfl (lv_at hl 3 rfl) ?_
    refine lv_iadd hx hb dX0_tally_13 ?_
    refine lv_topi (fun z_17 ez_17 => ?_)
    refine s_iast X hP hj hA hS (by omega) hgc_15 (n_in (rfl : dy.toInt = dy.toInt) (by omega) (by omega)) dX0_tally_14 hW (shS_19 ad K hb_b) (hFc_15.put trivial) (fun fc_18 gc_18 H locs ec_18 hFc_18 hgc_18 hfc_18 hWc_18 hP hS => ?_)
    have hg_20 := (hfc_18 (b + 10) (by omega)).trans hgc_13
    have hfr_19 : ∀ j, (j < b + 14 ∨ b + 20 ≤ j) → gc_18 j = g j := fun j hj => (hfc_18 j (by omega)).trans (hfr j hj)
    refine lv_goto (tgt := 30) hx hb dX0_tally_15 (by decide) ?_
    exact HJ30 gc_18 _ _ ls hWc_18 hfr_19 hP hS (lv_sub hl [] rfl)

theorem dX0_add_0 : decode cX0_add 0 = .ok (.aload_n 0, 1) := by decide +kernel
theorem dX0_add_1 : decode cX0_add 1 = .ok (.getfield 26, 3) := by decide +kernel
theorem dX0_add_4 : decode cX0_add 4 = .ok (.bipush 40, 2) := by decide +kernel
theorem dX0_add_6 : decode cX0_add 6 = .ok (.if_icmp .lt 5, 3) := by decide +kernel
theorem dX0_add_9 : decode cX0_add 9 = .ok (.iconst 0, 1) := by decide +kernel
theorem dX0_add_10 : decode cX0_add 10 = .ok (.ireturn, 1) := by decide +kernel
theorem dX0_add_11 : decode cX0_add 11 = .ok (.aload_n 0, 1) := by decide +kernel
theorem dX0_add_12 : decode cX0_add 12 = .ok (.getfield 9, 3) := by decide +kernel
theorem dX0_add_15 : decode cX0_add 15 = .ok (.aload_n 0, 1) := by decide +kernel
theorem dX0_add_16 : decode cX0_add 16 = .ok (.getfield 26, 3) := by decide +kernel
theorem dX0_add_19 : decode cX0_add 19 = .ok (.iload_n 1, 1) := by decide +kernel
theorem dX0_add_20 : decode cX0_add 20 = .ok (.iastore, 1) := by decide +kernel
theorem dX0_add_21 : decode cX0_add 21 = .ok (.aload_n 0, 1) := by decide +kernel
theorem dX0_add_22 : decode cX0_add 22 = .ok (.getfield 15, 3) := by decide +kernel
theorem dX0_add_25 : decode cX0_add 25 = .ok (.aload_n 0, 1) := by decide +kernel
theorem dX0_add_26 : decode cX0_add 26 = .ok (.getfield 26, 3) := by decide +kernel
theorem dX0_add_29 : decode cX0_add 29 = .ok (.iload_n 2, 1) := by decide +kernel
theorem dX0_add_30 : decode cX0_add 30 = .ok (.iastore, 1) := by decide +kernel
theorem dX0_add_31 : decode cX0_add 31 = .ok (.aload_n 0, 1) := by decide +kernel
theorem dX0_add_32 : decode cX0_add 32 = .ok (.iload_n 1, 1) := by decide +kernel
theorem dX0_add_33 : decode cX0_add 33 = .ok (.iload_n 2, 1) := by decide +kernel
theorem dX0_add_34 : decode cX0_add 34 = .ok (.iconst 1, 1) := by decide +kernel
theorem dX0_add_35 : decode cX0_add 35 = .ok (.invokevirtual 30, 3) := by decide +kernel
theorem dX0_add_38 : decode cX0_add 38 = .ok (.aload_n 0, 1) := by decide +kernel
theorem dX0_add_39 : decode cX0_add 39 = .ok (.dup, 1) := by decide +kernel
theorem dX0_add_40 : decode cX0_add 40 = .ok (.getfield 26, 3) := by decide +kernel
theorem dX0_add_43 : decode cX0_add 43 = .ok (.iconst 1, 1) := by decide +kernel
theorem dX0_add_44 : decode cX0_add 44 = .ok (.iadd, 1) := by decide +kernel
theorem dX0_add_45 : decode cX0_add 45 = .ok (.putfield 26, 3) := by decide +kernel
theorem dX0_add_48 : decode cX0_add 48 = .ok (.iconst 1, 1) := by decide +kernel
theorem dX0_add_49 : decode cX0_add 49 = .ok (.ireturn, 1) := by decide +kernel
noncomputable def vX0_add : List Cond := .code yX0_add cX0_add 3 (some .boolean) :: (([.fieldLink RX0 26 "IcicleClock$Acts" "done" "I", .fieldLink RX0 9 "IcicleClock$Acts" "eaves" "[I", .fieldLink RX0 15 "IcicleClock$Acts" "days" "[I", .methodLink RX0 30 yX0_tally, .instanceMethod yX0_tally, .selects RX0 yX0_tally yX0_tally, .initialized RX0] : List Cond) ++ (wsX00 ++ vX0_tally))
theorem iX0_add_0 : ∀ w ∈ wsX00, w ∈ vX0_add := fun _ h => List.mem_cons_of_mem _ (List.mem_append_right _ (List.mem_append_left _ h))
theorem gs_X0_add : Gd vX0_add := Gd.cons (by decide +kernel) (Gd.app (Gd.r (by decide +kernel)) (Gd.app gwX_0 gs_X0_tally))
theorem gg_X0_add_X0_tally : GoodIn vX0_add (wsV RX0 30 RX0 yX0_tally vX0_tally) := goodIn_app (goodIn_r _ [4, 5, 6, 7] (by decide +kernel) (by decide +kernel)) (fun w h => ⟨List.mem_cons_of_mem _ (List.mem_append_right _ (List.mem_append_right _ (h))), gs_X0_tally w h⟩)
set_option maxHeartbeats 4000000 in
set_option maxRecDepth 100000 in
theorem s_X0_add (l : Launch) (D : va_G) (cs : Nat → ClassId) (ad : Nat → Nat) (kS : kSt) (K : sK) (hKO : KO K) (hj : wJ ad 218) (g : Nat → va_E) (hW : WF (shp ad K) ad cs g) (b : Nat) (ev : Int32) (dy : Int32) (hp0 : b = 3 ∨ b = 23 ∨ b = 44 ∨ b = 64 ∨ b = 84) (hp1 : (-1) ≤ ev.toInt ∧ ev.toInt ≤ 4) (hp2 : 0 ≤ dy.toInt ∧ dy.toInt ≤ 13) : sI l yX0_add vX0_add { frames := 1, cells := 0, slots := 0, locals := 23 } D cs ad kS [.ref (ad (b + 10)), .int ev, .int dy] g (fun r g2 => WF (shp ad K) ad cs g2 ∧ (∀ j, j ≠ b + 10 ∧ j ≠ b + 11 ∧ j ≠ b + 12 ∧ (j < b + 14 ∨ b + 20 ≤ j) → g2 j = g j) ∧ (0 ≤ r.toInt ∧ r.toInt ≤ 1)) := by
  refine Met.startS (cc := cX0_add) (maxL := 3) (ret := (some .boolean)) RX0 rfl (by decide) rfl (Nat.le_of_ble_eq_true rfl) ?_
  intro p e s m below meth c ls X Z hP hl
  have hx := X.1
  have hb := X.2.1
  have hS : va_S (wA ad 218) s.heap s.heap [] := va_S.rf
  have hA : ∀ i, i < 218 → wA ad 218 (ad i) := fun i h => ⟨i, h, rfl⟩
  have hfr : ∀ j, j ≠ b + 10 ∧ j ≠ b + 11 ∧ j ≠ b + 12 ∧ (j < b + 14 ∨ b + 20 ≤ j) → g j = g j := fun _ _ => rfl
  have hb_b := hp0
  have hl : lv_has ls 3 [(0, .ref (ad (b + 10))), (1, .int ev), (2, .int dy)] := hl
  refine lv_aload_n hx hb dX0_add_0 rfl (lv_at hl 0 rfl) ?_
  obtain ⟨fsc_1, hgc_1, hOc_1⟩ := hW.obj (i := (b + 10)) (by omega) (shS_10 ad K hb_b)
  obtain ⟨x_3, hk_2, hlx_3, hhx_3⟩ := hOc_1.int 0 rfl
  refine q_get X iX0_add_0 hP (by omega) hgc_1 rfl 0 (by decide) (List.mem_of_getElem? (i := 1) rfl) (v := .int x_3) hk_2 dX0_add_1 ?_
  refine lv_bipush (v := 40) hx hb dX0_add_4 (by decide) ?_
  refine lv_icmp_lt (tgt := 11) hx hb dX0_add_6 (by decide) (fun hc_4 => ?_) (fun hc_4 => ?_)
  · have hhc_4 := n_lt (rfl : x_3.toInt = x_3.toInt) (by decide : (40 : Int32).toInt = 40) hc_4
    refine lv_aload_n hx hb dX0_add_11 rfl (lv_at hl 0 rfl) ?_
    have hk_5 := hOc_1.ref 1 rfl
    refine q_get X iX0_add_0 hP (by omega) hgc_1 rfl 1 (by decide) (List.mem_of_getElem? (i := 2) rfl) (v := .ref (ad (b + 11))) hk_5 dX0_add_12 ?_
    refine lv_aload_n hx hb dX0_add_15 rfl (lv_at hl 0 rfl) ?_
    refine q_get X iX0_add_0 hP (by omega) hgc_1 rfl 0 (by decide) (List.mem_of_getElem? (i := 1) rfl) (v := .int x_3) hk_2 dX0_add_16 ?_
    refine lv_iload_n hx hb dX0_add_19 rfl (lv_at hl 1 rfl) ?_
    obtain ⟨fc_6, hgc_6, hFc_6⟩ := hW.arr (i := (b + 11)) (by omega) (shS_11 ad K hb_b)
    refine s_iast X hP hj hA hS (by omega) hgc_6 (n_in (rfl : x_3.toInt = x_3.toInt) (by omega) (by omega)) dX0_add_20 hW (shS_11 ad K hb_b) (hFc_6.put ⟨by omega, by omega⟩) (fun fc_7 gc_7 H locs ec_7 hFc_7 hgc_7 hfc_7 hWc_7 hP hS => ?_)
    have hg_9 := (hfc_7 (b + 10) (by omega)).trans hgc_1
    have hfr_8 : ∀ j, j ≠ b + 10 ∧ j ≠ b + 11 ∧ j ≠ b + 12 ∧ (j < b + 14 ∨ b + 20 ≤ j) → gc_7 j = g j := fun j hj => (hfc_7 j (by omega)).trans (hfr j hj)
    refine lv_aload_n hx hb dX0_add_21 rfl (lv_at hl 0 rfl) ?_
    have hk_10 := hOc_1.ref 2 rfl
    refine q_get X iX0_add_0 hP (by omega) hg_9 rfl 2 (by decide) (List.mem_of_getElem? (i := 3) rfl) (v := .ref (ad (b + 12))) hk_10 dX0_add_22 ?_
    refine lv_aload_n hx hb dX0_add_25 rfl (lv_at hl 0 rfl) ?_
    refine q_get X iX0_add_0 hP (by omega) hg_9 rfl 0 (by decide) (List.mem_of_getElem? (i := 1) rfl) (v := .int x_3) hk_2 dX0_add_26 ?_
    refine lv_iload_n hx hb dX0_add_29 rfl (lv_at hl 2 rfl) ?_
    obtain ⟨fc_11, hgc_11, hFc_11⟩ := hWc_7.arr (i := (b + 12)) (by omega) (shS_12 ad K hb_b)
    refine s_iast X hP hj hA hS (by omega) hgc_11 (n_in (rfl : x_3.toInt = x_3.toInt) (by omega) (by omega)) dX0_add_30 hWc_7 (shS_12 ad K hb_b) (hFc_11.put ⟨by omega, by omega⟩) (fun fc_12 gc_12 H locs ec_12 hFc_12 hgc_12 hfc_12 hWc_12 hP hS => ?_)
    have hg_14 := (hfc_12 (b + 10) (by omega)).trans hg_9
    have hg_15 := (hfc_12 (b + 11) (by omega)).trans hgc_7
    have hfr_13 : ∀ j, j ≠ b + 10 ∧ j ≠ b + 11 ∧ j ≠ b + 12 ∧ (j < b + 14 ∨ b + 20 ≤ j) → gc_12 j = g j := fun j hj => (hfc_12 j (by omega)).trans (hfr_8 j hj)
    refine lv_aload_n hx hb dX0_add_31 rfl (lv_at hl 0 rfl) ?_
    refine lv_iload_n hx hb dX0_add_32 rfl (lv_at hl 1 rfl) ?_
    refine lv_iload_n hx hb dX0_add_33 rfl (lv_at hl 2 rfl) ?_
    refine lv_iconst (v := 1) hx hb dX0_add_34 (by decide) ?_
    refine s_callv (q := (RX0, TX0, 5)) (As := [.int ev, .int dy, .int 1]) (rest := []) X Z (s_X0_tally l D cs ad kS K hKO hj gc_12 hWc_12 b ev dy 1 (by omega) (by omega) (by omega)) (cwV 3 X.2.2.2.2.1 gg_X0_add_X0_tally rfl rfl rfl (by decide +kernel) ⟨Nat.le_of_ble_eq_true rfl, Nat.le_of_ble_eq_true rfl⟩) (by omega) hg_14 rfl hP hA hS.2.1 hS rfl hl.1 rfl (Nat.le_of_ble_eq_true rfl) dX0_add_35 ⟨Nat.le_of_ble_eq_true rfl, Nat.le_of_ble_eq_true rfl⟩ (fun g_17 H locs hw_16 hP hS => ?_)
    obtain ⟨hw_16W, hw_16f⟩ := hw_16
    have hfr_19 : ∀ j, j ≠ b + 10 ∧ j ≠ b + 11 ∧ j ≠ b + 12 ∧ (j < b + 14 ∨ b + 20 ≤ j) → g_17 j = g j := fun j hj => (hw_16f j (by omega)).trans (hfr_13 j hj)
    have hg_20 := (hw_16f (b + 10) (by omega)).trans hg_14
    have hg_21 := (hw_16f (b + 11) (by omega)).trans hg_15
    have hg_22 := (hw_16f (b + 12) (by omega)).trans hgc_12
    refine lv_aload_n hx hb dX0_add_38 rfl (lv_at hl 0 rfl) ?_
    refine lv_dup hx hb dX0_add_39 rfl ?_
    refine q_get X iX0_add_0 hP (by omega) hg_20 rfl 0 (by decide) (List.mem_of_getElem? (i := 1) rfl) (v := .int x_3) hk_2 dX0_add_40 ?_
    refine lv_iconst (v := 1) hx hb dX0_add_43 (by decide) ?_
    refine lv_iadd hx hb dX0_add_44 ?_
    refine lv_topi (fun z_23 ez_23 => ?_)
    have hz_23 : z_23.toInt = x_3.toInt + 1 := n_add (rfl : x_3.toInt = x_3.toInt) (by decide : (1 : Int32).toInt = 1) ez_23 (by omega) (by omega)
    refine s_put X iX0_add_0 tyX0 tyX0_ok nmX0 hP hj hA hS (by omega) hg_20 rfl 0 (by decide) (List.mem_of_getElem? (i := 1) rfl) rfl (ty := .int) (v := .int z_23) (by decide +kernel) rfl rfl dX0_add_45 hw_16W (shS_10 ad K hb_b) hOc_1 rfl ⟨z_23, rfl, by omega, by omega⟩ (fun fsc_24 gc_24 H locs hOc_24 hkc_24 hnc_24 hgc_24 hfc_24 hWc_24 hP hS => ?_)
    have hk_25 := (hnc_24 1 (by decide)).trans hk_5
    have hk_26 := (hnc_24 2 (by decide)).trans hk_10
    have hg_28 := (hfc_24 (b + 11) (by omega)).trans hg_21
    have hg_29 := (hfc_24 (b + 12) (by omega)).trans hg_22
    have hfr_27 : ∀ j, j ≠ b + 10 ∧ j ≠ b + 11 ∧ j ≠ b + 12 ∧ (j < b + 14 ∨ b + 20 ≤ j) → gc_24 j = g j := fun j hj => (hfc_24 j (by omega)).trans (hfr_19 j hj)
    refine lv_iconst (v := 1) hx hb dX0_add_48 (by decide) ?_
    have hr0 : (1 : Int32).toInt = 1 := by decide
    exact q_zret X hP hS rfl ⟨hWc_24, hfr_27, (by omega)⟩ dX0_add_49
  · have hhc_4 := n_nlt (rfl : x_3.toInt = x_3.toInt) (by decide : (40 : Int32).toInt = 40) hc_4
    refine lv_iconst (v := 0) hx hb dX0_add_9 (by decide) ?_
    have hr0 : (0 : Int32).toInt = 0 := by decide
    exact q_zret X hP hS rfl ⟨hW, hfr, (by omega)⟩ dX0_add_10

theorem dX0_takeBack_0 : decode cX0_takeBack 0 = .ok (.aload_n 0, 1) := by decide +kernel
theorem dX0_takeBack_1 : decode cX0_takeBack 1 = .ok (.getfield 26, 3) := by decide +kernel
theorem dX0_takeBack_4 : decode cX0_takeBack 4 = .ok (.ifCond .gt 5, 3) := by decide +kernel
theorem dX0_takeBack_7 : decode cX0_takeBack 7 = .ok (.iconst 0, 1) := by decide +kernel
theorem dX0_takeBack_8 : decode cX0_takeBack 8 = .ok (.ireturn, 1) := by decide +kernel
theorem dX0_takeBack_9 : decode cX0_takeBack 9 = .ok (.aload_n 0, 1) := by decide +kernel
theorem dX0_takeBack_10 : decode cX0_takeBack 10 = .ok (.dup, 1) := by decide +kernel
theorem dX0_takeBack_11 : decode cX0_takeBack 11 = .ok (.getfield 26, 3) := by decide +kernel
theorem dX0_takeBack_14 : decode cX0_takeBack 14 = .ok (.iconst 1, 1) := by decide +kernel
theorem dX0_takeBack_15 : decode cX0_takeBack 15 = .ok (.isub, 1) := by decide +kernel
theorem dX0_takeBack_16 : decode cX0_takeBack 16 = .ok (.putfield 26, 3) := by decide +kernel
theorem dX0_takeBack_19 : decode cX0_takeBack 19 = .ok (.aload_n 0, 1) := by decide +kernel
theorem dX0_takeBack_20 : decode cX0_takeBack 20 = .ok (.aload_n 0, 1) := by decide +kernel
theorem dX0_takeBack_21 : decode cX0_takeBack 21 = .ok (.getfield 9, 3) := by decide +kernel
theorem dX0_takeBack_24 : decode cX0_takeBack 24 = .ok (.aload_n 0, 1) := by decide +kernel
theorem dX0_takeBack_25 : decode cX0_takeBack 25 = .ok (.getfield 26, 3) := by decide +kernel
theorem dX0_takeBack_28 : decode cX0_takeBack 28 = .ok (.iaload, 1) := by decide +kernel
theorem dX0_takeBack_29 : decode cX0_takeBack 29 = .ok (.aload_n 0, 1) := by decide +kernel
theorem dX0_takeBack_30 : decode cX0_takeBack 30 = .ok (.getfield 15, 3) := by decide +kernel
theorem dX0_takeBack_33 : decode cX0_takeBack 33 = .ok (.aload_n 0, 1) := by decide +kernel
theorem dX0_takeBack_34 : decode cX0_takeBack 34 = .ok (.getfield 26, 3) := by decide +kernel
theorem dX0_takeBack_37 : decode cX0_takeBack 37 = .ok (.iaload, 1) := by decide +kernel
theorem dX0_takeBack_38 : decode cX0_takeBack 38 = .ok (.iconst (-1), 1) := by decide +kernel
theorem dX0_takeBack_39 : decode cX0_takeBack 39 = .ok (.invokevirtual 30, 3) := by decide +kernel
theorem dX0_takeBack_42 : decode cX0_takeBack 42 = .ok (.iconst 1, 1) := by decide +kernel
theorem dX0_takeBack_43 : decode cX0_takeBack 43 = .ok (.ireturn, 1) := by decide +kernel
noncomputable def vX0_takeBack : List Cond := .code yX0_takeBack cX0_takeBack 1 (some .boolean) :: (([.fieldLink RX0 26 "IcicleClock$Acts" "done" "I", .fieldLink RX0 9 "IcicleClock$Acts" "eaves" "[I", .fieldLink RX0 15 "IcicleClock$Acts" "days" "[I", .methodLink RX0 30 yX0_tally, .instanceMethod yX0_tally, .selects RX0 yX0_tally yX0_tally, .initialized RX0] : List Cond) ++ (wsX00 ++ vX0_tally))
theorem iX0_takeBack_0 : ∀ w ∈ wsX00, w ∈ vX0_takeBack := fun _ h => List.mem_cons_of_mem _ (List.mem_append_right _ (List.mem_append_left _ h))
theorem gs_X0_takeBack : Gd vX0_takeBack := Gd.cons (by decide +kernel) (Gd.app (Gd.r (by decide +kernel)) (Gd.app gwX_0 gs_X0_tally))
theorem gg_X0_takeBack_X0_tally : GoodIn vX0_takeBack (wsV RX0 30 RX0 yX0_tally vX0_tally) := goodIn_app (goodIn_r _ [4, 5, 6, 7] (by decide +kernel) (by decide +kernel)) (fun w h => ⟨List.mem_cons_of_mem _ (List.mem_append_right _ (List.mem_append_right _ (h))), gs_X0_tally w h⟩)
set_option maxHeartbeats 4000000 in
set_option maxRecDepth 100000 in
theorem s_X0_takeBack (l : Launch) (D : va_G) (cs : Nat → ClassId) (ad : Nat → Nat) (kS : kSt) (K : sK) (hKO : KO K) (hj : wJ ad 218) (g : Nat → va_E) (hW : WF (shp ad K) ad cs g) (b : Nat) (hp0 : b = 3 ∨ b = 23 ∨ b = 44 ∨ b = 64 ∨ b = 84) : sI l yX0_takeBack vX0_takeBack { frames := 1, cells := 0, slots := 0, locals := 23 } D cs ad kS [.ref (ad (b + 10))] g (fun r g2 => WF (shp ad K) ad cs g2 ∧ (∀ j, j ≠ b + 10 ∧ (j < b + 14 ∨ b + 20 ≤ j) → g2 j = g j) ∧ (0 ≤ r.toInt ∧ r.toInt ≤ 1)) := by
  refine Met.startS (cc := cX0_takeBack) (maxL := 1) (ret := (some .boolean)) RX0 rfl (by decide) rfl (Nat.le_of_ble_eq_true rfl) ?_
  intro p e s m below meth c ls X Z hP hl
  have hx := X.1
  have hb := X.2.1
  have hS : va_S (wA ad 218) s.heap s.heap [] := va_S.rf
  have hA : ∀ i, i < 218 → wA ad 218 (ad i) := fun i h => ⟨i, h, rfl⟩
  have hfr : ∀ j, j ≠ b + 10 ∧ (j < b + 14 ∨ b + 20 ≤ j) → g j = g j := fun _ _ => rfl
  have hb_b := hp0
  have hl : lv_has ls 1 [(0, .ref (ad (b + 10)))] := hl
  refine lv_aload_n hx hb dX0_takeBack_0 rfl (lv_at hl 0 rfl) ?_
  obtain ⟨fsc_1, hgc_1, hOc_1⟩ := hW.obj (i := (b + 10)) (by omega) (shS_10 ad K hb_b)
  obtain ⟨x_3, hk_2, hlx_3, hhx_3⟩ := hOc_1.int 0 rfl
  refine q_get X iX0_takeBack_0 hP (by omega) hgc_1 rfl 0 (by decide) (List.mem_of_getElem? (i := 1) rfl) (v := .int x_3) hk_2 dX0_takeBack_1 ?_
  refine lv_if_gt (tgt := 9) hx hb dX0_takeBack_4 (by decide) (fun hc_4 => ?_) (fun hc_4 => ?_)
  · have hhc_4 := n_lt (by decide : (0 : Int32).toInt = 0) (rfl : x_3.toInt = x_3.toInt) hc_4
    refine lv_aload_n hx hb dX0_takeBack_9 rfl (lv_at hl 0 rfl) ?_
    refine lv_dup hx hb dX0_takeBack_10 rfl ?_
    refine q_get X iX0_takeBack_0 hP (by omega) hgc_1 rfl 0 (by decide) (List.mem_of_getElem? (i := 1) rfl) (v := .int x_3) hk_2 dX0_takeBack_11 ?_
    refine lv_iconst (v := 1) hx hb dX0_takeBack_14 (by decide) ?_
    refine lv_isub hx hb dX0_takeBack_15 ?_
    refine lv_topi (fun z_5 ez_5 => ?_)
    have hz_5 : z_5.toInt = x_3.toInt - 1 := n_sub (rfl : x_3.toInt = x_3.toInt) (by decide : (1 : Int32).toInt = 1) ez_5 (by omega) (by omega)
    refine s_put X iX0_takeBack_0 tyX0 tyX0_ok nmX0 hP hj hA hS (by omega) hgc_1 rfl 0 (by decide) (List.mem_of_getElem? (i := 1) rfl) rfl (ty := .int) (v := .int z_5) (by decide +kernel) rfl rfl dX0_takeBack_16 hW (shS_10 ad K hb_b) hOc_1 rfl ⟨z_5, rfl, by omega, by omega⟩ (fun fsc_6 gc_6 H locs hOc_6 hkc_6 hnc_6 hgc_6 hfc_6 hWc_6 hP hS => ?_)
    have hfr_7 : ∀ j, j ≠ b + 10 ∧ (j < b + 14 ∨ b + 20 ≤ j) → gc_6 j = g j := fun j hj => (hfc_6 j (by omega)).trans (hfr j hj)
    refine lv_aload_n hx hb dX0_takeBack_19 rfl (lv_at hl 0 rfl) ?_
    refine lv_aload_n hx hb dX0_takeBack_20 rfl (lv_at hl 0 rfl) ?_
    have hk_8 := hOc_6.ref 1 rfl
    refine q_get X iX0_takeBack_0 hP (by omega) hgc_6 rfl 1 (by decide) (List.mem_of_getElem? (i := 2) rfl) (v := .ref (ad (b + 11))) hk_8 dX0_takeBack_21 ?_
    refine lv_aload_n hx hb dX0_takeBack_24 rfl (lv_at hl 0 rfl) ?_
    refine q_get X iX0_takeBack_0 hP (by omega) hgc_6 rfl 0 (by decide) (List.mem_of_getElem? (i := 1) rfl) (v := .int z_5) hkc_6 dX0_takeBack_25 ?_
    obtain ⟨fc_9, hgc_9, hFc_9⟩ := hWc_6.arr (i := (b + 11)) (by omega) (shS_11 ad K hb_b)
    refine q_iald X hP (by omega) hgc_9 (n_in (rfl : z_5.toInt = z_5.toInt) (by omega) (by omega)) dX0_takeBack_28 ?_
    refine lv_topi (fun z_10 ez_10 => ?_)
    have hz_10 : (-1) ≤ z_10.toInt ∧ z_10.toInt ≤ 4 := ez_10 ▸ hFc_9 _
    refine lv_aload_n hx hb dX0_takeBack_29 rfl (lv_at hl 0 rfl) ?_
    have hk_11 := hOc_6.ref 2 rfl
    refine q_get X iX0_takeBack_0 hP (by omega) hgc_6 rfl 2 (by decide) (List.mem_of_getElem? (i := 3) rfl) (v := .ref (ad (b + 12))) hk_11 dX0_takeBack_30 ?_
    refine lv_aload_n hx hb dX0_takeBack_33 rfl (lv_at hl 0 rfl) ?_
    refine q_get X iX0_takeBack_0 hP (by omega) hgc_6 rfl 0 (by decide) (List.mem_of_getElem? (i := 1) rfl) (v := .int z_5) hkc_6 dX0_takeBack_34 ?_
    obtain ⟨fc_12, hgc_12, hFc_12⟩ := hWc_6.arr (i := (b + 12)) (by omega) (shS_12 ad K hb_b)
    refine q_iald X hP (by omega) hgc_12 (n_in (rfl : z_5.toInt = z_5.toInt) (by omega) (by omega)) dX0_takeBack_37 ?_
    refine lv_topi (fun z_13 ez_13 => ?_)
    have hz_13 : 0 ≤ z_13.toInt ∧ z_13.toInt ≤ 13 := ez_13 ▸ hFc_12 _
    refine lv_iconst (v := (-1)) hx hb dX0_takeBack_38 (by decide) ?_
    refine s_callv (q := (RX0, TX0, 5)) (As := [.int z_10, .int z_13, .int (-1)]) (rest := []) X Z (s_X0_tally l D cs ad kS K hKO hj gc_6 hWc_6 b z_10 z_13 (-1) (by omega) (by omega) (by omega)) (cwV 3 X.2.2.2.2.1 gg_X0_takeBack_X0_tally rfl rfl rfl (by decide +kernel) ⟨Nat.le_of_ble_eq_true rfl, Nat.le_of_ble_eq_true rfl⟩) (by omega) hgc_6 rfl hP hA hS.2.1 hS rfl hl.1 rfl (Nat.le_of_ble_eq_true rfl) dX0_takeBack_39 ⟨Nat.le_of_ble_eq_true rfl, Nat.le_of_ble_eq_true rfl⟩ (fun g_15 H locs hw_14 hP hS => ?_)
    obtain ⟨hw_14W, hw_14f⟩ := hw_14
    have hfr_17 : ∀ j, j ≠ b + 10 ∧ (j < b + 14 ∨ b + 20 ≤ j) → g_15 j = g j := fun j hj => (hw_14f j (by omega)).trans (hfr_7 j hj)
    have hg_18 := (hw_14f (b + 10) (by omega)).trans hgc_6
    have hg_19 := (hw_14f (b + 11) (by omega)).trans hgc_9
    have hg_20 := (hw_14f (b + 12) (by omega)).trans hgc_12
    refine lv_iconst (v := 1) hx hb dX0_takeBack_42 (by decide) ?_
    have hr0 : (1 : Int32).toInt = 1 := by decide
    exact q_zret X hP hS rfl ⟨hw_14W, hfr_17, (by omega)⟩ dX0_takeBack_43
  · have hhc_4 := n_nlt (by decide : (0 : Int32).toInt = 0) (rfl : x_3.toInt = x_3.toInt) hc_4
    refine lv_iconst (v := 0) hx hb dX0_takeBack_7 (by decide) ?_
    have hr0 : (0 : Int32).toInt = 0 := by decide
    exact q_zret X hP hS rfl ⟨hW, hfr, (by omega)⟩ dX0_takeBack_8

theorem dX0_clear_0 : decode cX0_clear 0 = .ok (.aload_n 0, 1) := by decide +kernel
theorem dX0_clear_1 : decode cX0_clear 1 = .ok (.getfield 26, 3) := by decide +kernel
theorem dX0_clear_4 : decode cX0_clear 4 = .ok (.istore_n 1, 1) := by decide +kernel
theorem dX0_clear_5 : decode cX0_clear 5 = .ok (.iload_n 1, 1) := by decide +kernel
theorem dX0_clear_6 : decode cX0_clear 6 = .ok (.ifCond .le 14, 3) := by decide +kernel
theorem dX0_clear_9 : decode cX0_clear 9 = .ok (.aload_n 0, 1) := by decide +kernel
theorem dX0_clear_10 : decode cX0_clear 10 = .ok (.invokevirtual 34, 3) := by decide +kernel
theorem dX0_clear_13 : decode cX0_clear 13 = .ok (.pop, 1) := by decide +kernel
theorem dX0_clear_14 : decode cX0_clear 14 = .ok (.iinc 1 (-1), 3) := by decide +kernel
theorem dX0_clear_17 : decode cX0_clear 17 = .ok (.goto (-12), 3) := by decide +kernel
theorem dX0_clear_20 : decode cX0_clear 20 = .ok (.return_, 1) := by decide +kernel
noncomputable def vX0_clear : List Cond := .code yX0_clear cX0_clear 2 none :: (([.fieldLink RX0 26 "IcicleClock$Acts" "done" "I", .methodLink RX0 34 yX0_takeBack, .instanceMethod yX0_takeBack, .selects RX0 yX0_takeBack yX0_takeBack, .initialized RX0] : List Cond) ++ (wsX00 ++ vX0_takeBack))
theorem iX0_clear_0 : ∀ w ∈ wsX00, w ∈ vX0_clear := fun _ h => List.mem_cons_of_mem _ (List.mem_append_right _ (List.mem_append_left _ h))
theorem gs_X0_clear : Gd vX0_clear := Gd.cons (by decide +kernel) (Gd.app (Gd.r (by decide +kernel)) (Gd.app gwX_0 gs_X0_takeBack))
theorem gg_X0_clear_X0_takeBack : GoodIn vX0_clear (wsV RX0 34 RX0 yX0_takeBack vX0_takeBack) := goodIn_app (goodIn_r _ [2, 3, 4, 5] (by decide +kernel) (by decide +kernel)) (fun w h => ⟨List.mem_cons_of_mem _ (List.mem_append_right _ (List.mem_append_right _ (h))), gs_X0_takeBack w h⟩)
set_option maxHeartbeats 4000000 in
set_option maxRecDepth 100000 in
theorem s_X0_clear (l : Launch) (D : va_G) (cs : Nat → ClassId) (ad : Nat → Nat) (kS : kSt) (K : sK) (hKO : KO K) (hj : wJ ad 218) (g : Nat → va_E) (hW : WF (shp ad K) ad cs g) (b : Nat) (hp0 : b = 3 ∨ b = 23 ∨ b = 44 ∨ b = 64 ∨ b = 84) : sV l yX0_clear vX0_clear { frames := 2, cells := 0, slots := 0, locals := 43 } D cs ad kS [.ref (ad (b + 10))] g (fun g2 => WF (shp ad K) ad cs g2 ∧ (∀ j, j ≠ b + 10 ∧ (j < b + 14 ∨ b + 20 ≤ j) → g2 j = g j)) := by
  refine Met.startS (cc := cX0_clear) (maxL := 2) (ret := none) RX0 rfl (by decide) rfl (Nat.le_of_ble_eq_true rfl) ?_
  intro p e s m below meth c ls X Z hP hl
  have hx := X.1
  have hb := X.2.1
  have hS : va_S (wA ad 218) s.heap s.heap [] := va_S.rf
  have hA : ∀ i, i < 218 → wA ad 218 (ad i) := fun i h => ⟨i, h, rfl⟩
  have hfr : ∀ j, j ≠ b + 10 ∧ (j < b + 14 ∨ b + 20 ≤ j) → g j = g j := fun _ _ => rfl
  have hb_b := hp0
  have hl : lv_has ls 2 [(0, .ref (ad (b + 10)))] := hl
  refine lv_aload_n hx hb dX0_clear_0 rfl (lv_at hl 0 rfl) ?_
  obtain ⟨fsc_1, hgc_1, hOc_1⟩ := hW.obj (i := (b + 10)) (by omega) (shS_10 ad K hb_b)
  obtain ⟨x_3, hk_2, hlx_3, hhx_3⟩ := hOc_1.int 0 rfl
  refine q_get X iX0_clear_0 hP (by omega) hgc_1 rfl 0 (by decide) (List.mem_of_getElem? (i := 1) rfl) (v := .int x_3) hk_2 dX0_clear_1 ?_
  refine lv_istore_n (lv' := [(1, .int x_3), (0, .ref (ad (b + 10)))]) hx hb dX0_clear_4 rfl hl (by decide) rfl (fun ls hl => ?_)
  have HL5 : ∀ (n5 : Nat) (v5_1 : Int32) (G5 : Nat → va_E) (H : Heap) (locs : List Loc) (ls : Array Slot), (v5_1.toInt - 0).toNat < n5 → (0 ≤ v5_1.toInt ∧ v5_1.toInt ≤ 40) → WF (shp ad K) ad cs G5 → (∀ j, j ≠ b + 10 ∧ (j < b + 14 ∨ b + 20 ≤ j) → G5 j = g j) → va_P D vwCl (wL ad G5 218) H → va_S (wA ad 218) s.heap H locs → lv_has ls 2 [(1, .int v5_1), (0, .ref (ad (b + 10)))] → W p l e ({ frames := 2, cells := 0, slots := 0, locals := 43 } : Room) s m ([.ref (ad (b + 10))] : List Value).toArray below meth c H locs 0 0 (MQ below (qV D ad 218 (fun g2 => WF (shp ad K) ad cs g2 ∧ (∀ j, j ≠ b + 10 ∧ (j < b + 14 ∨ b + 20 ≤ j) → g2 j = g j))) ([.ref (ad (b + 10))] : List Value).toArray s 0 0 (wA ad 218)) (F0 m 5 ls []) := by
    intro n5
    induction n5 with
    | zero =>
      intro v5_1 G5 H locs ls hm5 hv5_0 hW5 hfr5 hP hS hl
      exact absurd hm5 (Nat.not_lt_zero _)
    | succ n5 ih5 =>
      intro v5_1 G5 H locs ls hm5 hv5_0 hW5 hfr5 hP hS hl
      refine lv_iload_n hx hb dX0_clear_5 rfl (lv_at hl 0 rfl) ?_
      refine lv_if_le (tgt := 20) hx hb dX0_clear_6 (by decide) (fun hc_4 => ?_) (fun hc_4 => ?_)
      · have hhc_4 := n_le (rfl : v5_1.toInt = v5_1.toInt) (by decide : (0 : Int32).toInt = 0) hc_4
        exact q_vret X hP hS ⟨hW5, hfr5⟩ dX0_clear_20
      · have hhc_4 := n_nle (rfl : v5_1.toInt = v5_1.toInt) (by decide : (0 : Int32).toInt = 0) hc_4
        refine lv_aload_n hx hb dX0_clear_9 rfl (lv_at hl 1 rfl) ?_
        obtain ⟨fsc_8, hgc_8, hOc_8⟩ := hW5.obj (i := (b + 10)) (by omega) (shS_10 ad K hb_b)
        refine s_calli (q := (RX0, TX0, 5)) (As := []) (rest := []) X Z (s_X0_takeBack l D cs ad kS K hKO hj G5 hW5 b (by omega)) (cwV 0 X.2.2.2.2.1 gg_X0_clear_X0_takeBack rfl rfl rfl (by decide +kernel) ⟨Nat.le_of_ble_eq_true rfl, Nat.le_of_ble_eq_true rfl⟩) (by omega) hgc_8 rfl hP hA hS.2.1 hS rfl hl.1 rfl (Nat.le_of_ble_eq_true rfl) dX0_clear_10 ⟨Nat.le_of_ble_eq_true rfl, Nat.le_of_ble_eq_true rfl⟩ (fun r_7 g_6 H locs hw_5 hP hS => ?_)
        obtain ⟨hw_5W, hw_5f, hw_5⟩ := hw_5
        have hfr_9 : ∀ j, j ≠ b + 10 ∧ (j < b + 14 ∨ b + 20 ≤ j) → g_6 j = g j := fun j hj => (hw_5f j (by omega)).trans (hfr5 j hj)
        refine lv_pop hx hb dX0_clear_13 rfl ?_
        obtain ⟨x_10, ex_10⟩ : ∃ y : Int32, y = v5_1 + (-1) := ⟨_, rfl⟩
        have hx_10 : x_10.toInt = v5_1.toInt + (-1) := n_add rfl (by decide : (-1 : Int32).toInt = -1) ex_10 (by omega) (by omega)
        refine lv_iinc (v := x_10) (lv' := [(1, .int x_10), (0, .ref (ad (b + 10)))]) hx hb dX0_clear_14 hl (k := 0) rfl (by rw [ex_10]; rfl) (by decide) rfl (fun ls hl => ?_)
        refine lv_goto (tgt := 5) hx hb dX0_clear_17 (by decide) ?_
        exact ih5 x_10 g_6 _ _ ls (by omega) (by omega) hw_5W hfr_9 hP hS (lv_sub hl [0, 1] rfl)
  exact HL5 _ x_3 g _ _ ls (Nat.lt_succ_self _) (by omega) hW hfr hP hS (lv_sub hl [0, 1] rfl)

theorem dX0_copyFrom_0 : decode cX0_copyFrom 0 = .ok (.aload_n 0, 1) := by decide +kernel
theorem dX0_copyFrom_1 : decode cX0_copyFrom 1 = .ok (.invokevirtual 38, 3) := by decide +kernel
theorem dX0_copyFrom_4 : decode cX0_copyFrom 4 = .ok (.iconst 0, 1) := by decide +kernel
theorem dX0_copyFrom_5 : decode cX0_copyFrom 5 = .ok (.istore_n 2, 1) := by decide +kernel
theorem dX0_copyFrom_6 : decode cX0_copyFrom 6 = .ok (.iload_n 2, 1) := by decide +kernel
theorem dX0_copyFrom_7 : decode cX0_copyFrom 7 = .ok (.aload_n 1, 1) := by decide +kernel
theorem dX0_copyFrom_8 : decode cX0_copyFrom 8 = .ok (.getfield 26, 3) := by decide +kernel
theorem dX0_copyFrom_11 : decode cX0_copyFrom 11 = .ok (.if_icmp .ge 26, 3) := by decide +kernel
theorem dX0_copyFrom_14 : decode cX0_copyFrom 14 = .ok (.aload_n 0, 1) := by decide +kernel
theorem dX0_copyFrom_15 : decode cX0_copyFrom 15 = .ok (.aload_n 1, 1) := by decide +kernel
theorem dX0_copyFrom_16 : decode cX0_copyFrom 16 = .ok (.getfield 9, 3) := by decide +kernel
theorem dX0_copyFrom_19 : decode cX0_copyFrom 19 = .ok (.iload_n 2, 1) := by decide +kernel
theorem dX0_copyFrom_20 : decode cX0_copyFrom 20 = .ok (.iaload, 1) := by decide +kernel
theorem dX0_copyFrom_21 : decode cX0_copyFrom 21 = .ok (.aload_n 1, 1) := by decide +kernel
theorem dX0_copyFrom_22 : decode cX0_copyFrom 22 = .ok (.getfield 15, 3) := by decide +kernel
theorem dX0_copyFrom_25 : decode cX0_copyFrom 25 = .ok (.iload_n 2, 1) := by decide +kernel
theorem dX0_copyFrom_26 : decode cX0_copyFrom 26 = .ok (.iaload, 1) := by decide +kernel
theorem dX0_copyFrom_27 : decode cX0_copyFrom 27 = .ok (.invokevirtual 41, 3) := by decide +kernel
theorem dX0_copyFrom_30 : decode cX0_copyFrom 30 = .ok (.pop, 1) := by decide +kernel
theorem dX0_copyFrom_31 : decode cX0_copyFrom 31 = .ok (.iinc 2 1, 3) := by decide +kernel
theorem dX0_copyFrom_34 : decode cX0_copyFrom 34 = .ok (.goto (-28), 3) := by decide +kernel
theorem dX0_copyFrom_37 : decode cX0_copyFrom 37 = .ok (.return_, 1) := by decide +kernel
noncomputable def vX0_copyFrom : List Cond := .code yX0_copyFrom cX0_copyFrom 3 none :: (([.methodLink RX0 38 yX0_clear, .instanceMethod yX0_clear, .selects RX0 yX0_clear yX0_clear, .initialized RX0, .fieldLink RX0 26 "IcicleClock$Acts" "done" "I", .fieldLink RX0 9 "IcicleClock$Acts" "eaves" "[I", .fieldLink RX0 15 "IcicleClock$Acts" "days" "[I", .methodLink RX0 41 yX0_add, .instanceMethod yX0_add, .selects RX0 yX0_add yX0_add] : List Cond) ++ (wsX00 ++ (vX0_clear ++ vX0_add)))
theorem iX0_copyFrom_0 : ∀ w ∈ wsX00, w ∈ vX0_copyFrom := fun _ h => List.mem_cons_of_mem _ (List.mem_append_right _ (List.mem_append_left _ h))
theorem gs_X0_copyFrom : Gd vX0_copyFrom := Gd.cons (by decide +kernel) (Gd.app (Gd.r (by decide +kernel)) (Gd.app gwX_0 (Gd.app gs_X0_clear gs_X0_add)))
theorem gg_X0_copyFrom_X0_clear : GoodIn vX0_copyFrom (wsV RX0 38 RX0 yX0_clear vX0_clear) := goodIn_app (goodIn_r _ [1, 2, 3, 4] (by decide +kernel) (by decide +kernel)) (fun w h => ⟨List.mem_cons_of_mem _ (List.mem_append_right _ (List.mem_append_right _ (List.mem_append_left _ h))), gs_X0_clear w h⟩)
theorem gg_X0_copyFrom_X0_add : GoodIn vX0_copyFrom (wsV RX0 41 RX0 yX0_add vX0_add) := goodIn_app (goodIn_r _ [8, 9, 10, 4] (by decide +kernel) (by decide +kernel)) (fun w h => ⟨List.mem_cons_of_mem _ (List.mem_append_right _ (List.mem_append_right _ (List.mem_append_right _ (h)))), gs_X0_add w h⟩)
set_option maxHeartbeats 4000000 in
set_option maxRecDepth 100000 in
theorem s_X0_copyFrom (l : Launch) (D : va_G) (cs : Nat → ClassId) (ad : Nat → Nat) (kS : kSt) (K : sK) (hKO : KO K) (hj : wJ ad 218) (g : Nat → va_E) (hW : WF (shp ad K) ad cs g) (b : Nat) (d : Nat) (hp0 : b = 3 ∨ b = 23 ∨ b = 44 ∨ b = 64 ∨ b = 84) (hp1 : d = 3 ∨ d = 23 ∨ d = 44 ∨ d = 64 ∨ d = 84) (hp2 : b ≠ d) : sV l yX0_copyFrom vX0_copyFrom { frames := 3, cells := 0, slots := 0, locals := 64 } D cs ad kS [.ref (ad (b + 10)), .ref (ad (d + 10))] g (fun g2 => WF (shp ad K) ad cs g2 ∧ (∀ j, j ≠ b + 10 ∧ j ≠ b + 11 ∧ j ≠ b + 12 ∧ (j < b + 14 ∨ b + 20 ≤ j) → g2 j = g j)) := by
  refine Met.startS (cc := cX0_copyFrom) (maxL := 3) (ret := none) RX0 rfl (by decide) rfl (Nat.le_of_ble_eq_true rfl) ?_
  intro p e s m below meth c ls X Z hP hl
  have hx := X.1
  have hb := X.2.1
  have hS : va_S (wA ad 218) s.heap s.heap [] := va_S.rf
  have hA : ∀ i, i < 218 → wA ad 218 (ad i) := fun i h => ⟨i, h, rfl⟩
  have hfr : ∀ j, j ≠ b + 10 ∧ j ≠ b + 11 ∧ j ≠ b + 12 ∧ (j < b + 14 ∨ b + 20 ≤ j) → g j = g j := fun _ _ => rfl
  have hb_b := hp0
  have hb_d := hp1
  have hl : lv_has ls 3 [(0, .ref (ad (b + 10))), (1, .ref (ad (d + 10)))] := hl
  refine lv_aload_n hx hb dX0_copyFrom_0 rfl (lv_at hl 0 rfl) ?_
  obtain ⟨fsc_4, hgc_4, hOc_4⟩ := hW.obj (i := (b + 10)) (by omega) (shS_10 ad K hb_b)
  refine s_callv (q := (RX0, TX0, 5)) (As := []) (rest := []) X Z (s_X0_clear l D cs ad kS K hKO hj g hW b (by omega)) (cwV 0 X.2.2.2.2.1 gg_X0_copyFrom_X0_clear rfl rfl rfl (by decide +kernel) ⟨Nat.le_of_ble_eq_true rfl, Nat.le_of_ble_eq_true rfl⟩) (by omega) hgc_4 rfl hP hA hS.2.1 hS rfl hl.1 rfl (Nat.le_of_ble_eq_true rfl) dX0_copyFrom_1 ⟨Nat.le_of_ble_eq_true rfl, Nat.le_of_ble_eq_true rfl⟩ (fun g_2 H locs hw_1 hP hS => ?_)
  obtain ⟨hw_1W, hw_1f⟩ := hw_1
  have hfr_5 : ∀ j, j ≠ b + 10 ∧ j ≠ b + 11 ∧ j ≠ b + 12 ∧ (j < b + 14 ∨ b + 20 ≤ j) → g_2 j = g j := fun j hj => (hw_1f j (by omega)).trans (hfr j hj)
  refine lv_iconst (v := 0) hx hb dX0_copyFrom_4 (by decide) ?_
  refine lv_istore_n (lv' := [(2, .int 0), (0, .ref (ad (b + 10))), (1, .ref (ad (d + 10)))]) hx hb dX0_copyFrom_5 rfl hl (by decide) rfl (fun ls hl => ?_)
  have HL6 : ∀ (n6 : Nat) (v6_2 : Int32) (G6 : Nat → va_E) (H : Heap) (locs : List Loc) (ls : Array Slot), (40 - v6_2.toInt).toNat < n6 → (0 ≤ v6_2.toInt ∧ v6_2.toInt ≤ 40) → WF (shp ad K) ad cs G6 → (∀ j, j ≠ b + 10 ∧ j ≠ b + 11 ∧ j ≠ b + 12 ∧ (j < b + 14 ∨ b + 20 ≤ j) → G6 j = g j) → va_P D vwCl (wL ad G6 218) H → va_S (wA ad 218) s.heap H locs → lv_has ls 3 [(2, .int v6_2), (0, .ref (ad (b + 10))), (1, .ref (ad (d + 10)))] → W p l e ({ frames := 3, cells := 0, slots := 0, locals := 64 } : Room) s m ([.ref (ad (b + 10)), .ref (ad (d + 10))] : List Value).toArray below meth c H locs 0 0 (MQ below (qV D ad 218 (fun g2 => WF (shp ad K) ad cs g2 ∧ (∀ j, j ≠ b + 10 ∧ j ≠ b + 11 ∧ j ≠ b + 12 ∧ (j < b + 14 ∨ b + 20 ≤ j) → g2 j = g j))) ([.ref (ad (b + 10)), .ref (ad (d + 10))] : List Value).toArray s 0 0 (wA ad 218)) (F0 m 6 ls []) := by
    intro n6
    induction n6 with
    | zero =>
      intro v6_2 G6 H locs ls hm6 hv6_0 hW6 hfr6 hP hS hl
      exact absurd hm6 (Nat.not_lt_zero _)
    | succ n6 ih6 =>
      intro v6_2 G6 H locs ls hm6 hv6_0 hW6 hfr6 hP hS hl
      refine lv_iload_n hx hb dX0_copyFrom_6 rfl (lv_at hl 0 rfl) ?_
      refine lv_aload_n hx hb dX0_copyFrom_7 rfl (lv_at hl 2 rfl) ?_
      obtain ⟨fsc_6, hgc_6, hOc_6⟩ := hW6.obj (i := (d + 10)) (by omega) (shS_10 ad K hb_d)
      obtain ⟨x_8, hk_7, hlx_8, hhx_8⟩ := hOc_6.int 0 rfl
      refine q_get X iX0_copyFrom_0 hP (by omega) hgc_6 rfl 0 (by decide) (List.mem_of_getElem? (i := 5) rfl) (v := .int x_8) hk_7 dX0_copyFrom_8 ?_
      refine lv_icmp_ge (tgt := 37) hx hb dX0_copyFrom_11 (by decide) (fun hc_9 => ?_) (fun hc_9 => ?_)
      · have hhc_9 := n_le (rfl : x_8.toInt = x_8.toInt) (rfl : v6_2.toInt = v6_2.toInt) hc_9
        exact q_vret X hP hS ⟨hW6, hfr6⟩ dX0_copyFrom_37
      · have hhc_9 := n_nle (rfl : x_8.toInt = x_8.toInt) (rfl : v6_2.toInt = v6_2.toInt) hc_9
        refine lv_aload_n hx hb dX0_copyFrom_14 rfl (lv_at hl 1 rfl) ?_
        refine lv_aload_n hx hb dX0_copyFrom_15 rfl (lv_at hl 2 rfl) ?_
        have hk_10 := hOc_6.ref 1 rfl
        refine q_get X iX0_copyFrom_0 hP (by omega) hgc_6 rfl 1 (by decide) (List.mem_of_getElem? (i := 6) rfl) (v := .ref (ad (d + 11))) hk_10 dX0_copyFrom_16 ?_
        refine lv_iload_n hx hb dX0_copyFrom_19 rfl (lv_at hl 0 rfl) ?_
        obtain ⟨fc_11, hgc_11, hFc_11⟩ := hW6.arr (i := (d + 11)) (by omega) (shS_11 ad K hb_d)
        refine q_iald X hP (by omega) hgc_11 (n_in (rfl : v6_2.toInt = v6_2.toInt) (by omega) (by omega)) dX0_copyFrom_20 ?_
        refine lv_topi (fun z_12 ez_12 => ?_)
        have hz_12 : (-1) ≤ z_12.toInt ∧ z_12.toInt ≤ 4 := ez_12 ▸ hFc_11 _
        refine lv_aload_n hx hb dX0_copyFrom_21 rfl (lv_at hl 2 rfl) ?_
        have hk_13 := hOc_6.ref 2 rfl
        refine q_get X iX0_copyFrom_0 hP (by omega) hgc_6 rfl 2 (by decide) (List.mem_of_getElem? (i := 7) rfl) (v := .ref (ad (d + 12))) hk_13 dX0_copyFrom_22 ?_
        refine lv_iload_n hx hb dX0_copyFrom_25 rfl (lv_at hl 0 rfl) ?_
        obtain ⟨fc_14, hgc_14, hFc_14⟩ := hW6.arr (i := (d + 12)) (by omega) (shS_12 ad K hb_d)
        refine q_iald X hP (by omega) hgc_14 (n_in (rfl : v6_2.toInt = v6_2.toInt) (by omega) (by omega)) dX0_copyFrom_26 ?_
        refine lv_topi (fun z_15 ez_15 => ?_)
        have hz_15 : 0 ≤ z_15.toInt ∧ z_15.toInt ≤ 13 := ez_15 ▸ hFc_14 _
        obtain ⟨fsc_19, hgc_19, hOc_19⟩ := hW6.obj (i := (b + 10)) (by omega) (shS_10 ad K hb_b)
        refine s_calli (q := (RX0, TX0, 5)) (As := [.int z_12, .int z_15]) (rest := []) X Z (s_X0_add l D cs ad kS K hKO hj G6 hW6 b z_12 z_15 (by omega) (by omega) (by omega)) (cwV 2 X.2.2.2.2.1 gg_X0_copyFrom_X0_add rfl rfl rfl (by decide +kernel) ⟨Nat.le_of_ble_eq_true rfl, Nat.le_of_ble_eq_true rfl⟩) (by omega) hgc_19 rfl hP hA hS.2.1 hS rfl hl.1 rfl (Nat.le_of_ble_eq_true rfl) dX0_copyFrom_27 ⟨Nat.le_of_ble_eq_true rfl, Nat.le_of_ble_eq_true rfl⟩ (fun r_18 g_17 H locs hw_16 hP hS => ?_)
        obtain ⟨hw_16W, hw_16f, hw_16⟩ := hw_16
        have hfr_20 : ∀ j, j ≠ b + 10 ∧ j ≠ b + 11 ∧ j ≠ b + 12 ∧ (j < b + 14 ∨ b + 20 ≤ j) → g_17 j = g j := fun j hj => (hw_16f j (by omega)).trans (hfr6 j hj)
        have hg_21 := (hw_16f (d + 10) (by omega)).trans hgc_6
        have hg_22 := (hw_16f (d + 11) (by omega)).trans hgc_11
        have hg_23 := (hw_16f (d + 12) (by omega)).trans hgc_14
        refine lv_pop hx hb dX0_copyFrom_30 rfl ?_
        obtain ⟨x_24, ex_24⟩ : ∃ y : Int32, y = v6_2 + 1 := ⟨_, rfl⟩
        have hx_24 : x_24.toInt = v6_2.toInt + 1 := n_add rfl (by decide : (1 : Int32).toInt = 1) ex_24 (by omega) (by omega)
        refine lv_iinc (v := x_24) (lv' := [(2, .int x_24), (0, .ref (ad (b + 10))), (1, .ref (ad (d + 10)))]) hx hb dX0_copyFrom_31 hl (k := 0) rfl (by rw [ex_24]; rfl) (by decide) rfl (fun ls hl => ?_)
        refine lv_goto (tgt := 6) hx hb dX0_copyFrom_34 (by decide) ?_
        exact ih6 x_24 g_17 _ _ ls (by omega) (by omega) hw_16W hfr_20 hP hS (lv_sub hl [0, 1, 2] rfl)
  have hiv6_2 : (0 : Int32).toInt = 0 := by decide
  exact HL6 _ 0 g_2 _ _ ls (Nat.lt_succ_self _) (by omega) hw_1W hfr_5 hP hS (lv_sub hl [0, 1, 2] rfl)

theorem dX6_clear_0 : decode cX6_clear 0 = .ok (.aload_n 0, 1) := by decide +kernel
theorem dX6_clear_1 : decode cX6_clear 1 = .ok (.iconst 0, 1) := by decide +kernel
theorem dX6_clear_2 : decode cX6_clear 2 = .ok (.putfield 47, 3) := by decide +kernel
theorem dX6_clear_5 : decode cX6_clear 5 = .ok (.aload_n 0, 1) := by decide +kernel
theorem dX6_clear_6 : decode cX6_clear 6 = .ok (.iconst 0, 1) := by decide +kernel
theorem dX6_clear_7 : decode cX6_clear 7 = .ok (.putfield 51, 3) := by decide +kernel
theorem dX6_clear_10 : decode cX6_clear 10 = .ok (.aload_n 0, 1) := by decide +kernel
theorem dX6_clear_11 : decode cX6_clear 11 = .ok (.iconst 0, 1) := by decide +kernel
theorem dX6_clear_12 : decode cX6_clear 12 = .ok (.putfield 54, 3) := by decide +kernel
theorem dX6_clear_15 : decode cX6_clear 15 = .ok (.aload_n 0, 1) := by decide +kernel
theorem dX6_clear_16 : decode cX6_clear 16 = .ok (.iconst 0, 1) := by decide +kernel
theorem dX6_clear_17 : decode cX6_clear 17 = .ok (.putfield 57, 3) := by decide +kernel
theorem dX6_clear_20 : decode cX6_clear 20 = .ok (.aload_n 0, 1) := by decide +kernel
theorem dX6_clear_21 : decode cX6_clear 21 = .ok (.iconst 0, 1) := by decide +kernel
theorem dX6_clear_22 : decode cX6_clear 22 = .ok (.putfield 60, 3) := by decide +kernel
theorem dX6_clear_25 : decode cX6_clear 25 = .ok (.aload_n 0, 1) := by decide +kernel
theorem dX6_clear_26 : decode cX6_clear 26 = .ok (.iconst 0, 1) := by decide +kernel
theorem dX6_clear_27 : decode cX6_clear 27 = .ok (.putfield 63, 3) := by decide +kernel
theorem dX6_clear_30 : decode cX6_clear 30 = .ok (.aload_n 0, 1) := by decide +kernel
theorem dX6_clear_31 : decode cX6_clear 31 = .ok (.iconst 0, 1) := by decide +kernel
theorem dX6_clear_32 : decode cX6_clear 32 = .ok (.putfield 66, 3) := by decide +kernel
theorem dX6_clear_35 : decode cX6_clear 35 = .ok (.aload_n 0, 1) := by decide +kernel
theorem dX6_clear_36 : decode cX6_clear 36 = .ok (.iconst 0, 1) := by decide +kernel
theorem dX6_clear_37 : decode cX6_clear 37 = .ok (.putfield 69, 3) := by decide +kernel
theorem dX6_clear_40 : decode cX6_clear 40 = .ok (.aload_n 0, 1) := by decide +kernel
theorem dX6_clear_41 : decode cX6_clear 41 = .ok (.getfield 43, 3) := by decide +kernel
theorem dX6_clear_44 : decode cX6_clear 44 = .ok (.invokevirtual 72, 3) := by decide +kernel
theorem dX6_clear_47 : decode cX6_clear 47 = .ok (.return_, 1) := by decide +kernel
noncomputable def vX6_clear : List Cond := .code yX6_clear cX6_clear 1 none :: (([.fieldLink RX6 47 "IcicleClock$Street" "slamTakes" "I", .fieldLink RX6 51 "IcicleClock$Street" "bellTakes" "I", .fieldLink RX6 54 "IcicleClock$Street" "odds" "I", .fieldLink RX6 57 "IcicleClock$Street" "days" "I", .fieldLink RX6 60 "IcicleClock$Street" "eaves" "I", .fieldLink RX6 63 "IcicleClock$Street" "icicles" "I", .fieldLink RX6 66 "IcicleClock$Street" "works" "I", .fieldLink RX6 69 "IcicleClock$Street" "lines" "I", .fieldLink RX6 43 "IcicleClock$Street" "acts" "LIcicleClock$Acts;", .methodLink RX6 72 yX0_clear, .instanceMethod yX0_clear, .selects RX0 yX0_clear yX0_clear, .initialized RX0] : List Cond) ++ (wsX60 ++ vX0_clear))
theorem iX6_clear_6 : ∀ w ∈ wsX60, w ∈ vX6_clear := fun _ h => List.mem_cons_of_mem _ (List.mem_append_right _ (List.mem_append_left _ h))
theorem gs_X6_clear : Gd vX6_clear := Gd.cons (by decide +kernel) (Gd.app (Gd.r (by decide +kernel)) (Gd.app gwX_6 gs_X0_clear))
theorem gg_X6_clear_X0_clear : GoodIn vX6_clear (wsV RX6 72 RX0 yX0_clear vX0_clear) := goodIn_app (goodIn_r _ [10, 11, 12, 13] (by decide +kernel) (by decide +kernel)) (fun w h => ⟨List.mem_cons_of_mem _ (List.mem_append_right _ (List.mem_append_right _ (h))), gs_X0_clear w h⟩)
set_option maxHeartbeats 4000000 in
set_option maxRecDepth 100000 in
theorem s_X6_clear (l : Launch) (D : va_G) (cs : Nat → ClassId) (ad : Nat → Nat) (kS : kSt) (K : sK) (hKO : KO K) (hj : wJ ad 218) (g : Nat → va_E) (hW : WF (shp ad K) ad cs g) (b : Nat) (hp0 : b = 3 ∨ b = 23 ∨ b = 44 ∨ b = 64 ∨ b = 84) : sV l yX6_clear vX6_clear { frames := 3, cells := 0, slots := 0, locals := 64 } D cs ad kS [.ref (ad b)] g (fun g2 => WF (shp ad K) ad cs g2 ∧ (∀ j, j ≠ b + 0 ∧ j ≠ b + 10 ∧ (j < b + 14 ∨ b + 20 ≤ j) → g2 j = g j)) := by
  refine Met.startS (cc := cX6_clear) (maxL := 1) (ret := none) RX6 rfl (by decide) rfl (Nat.le_of_ble_eq_true rfl) ?_
  intro p e s m below meth c ls X Z hP hl
  have hx := X.1
  have hb := X.2.1
  have hS : va_S (wA ad 218) s.heap s.heap [] := va_S.rf
  have hA : ∀ i, i < 218 → wA ad 218 (ad i) := fun i h => ⟨i, h, rfl⟩
  have hfr : ∀ j, j ≠ b + 0 ∧ j ≠ b + 10 ∧ (j < b + 14 ∨ b + 20 ≤ j) → g j = g j := fun _ _ => rfl
  have hb_b := hp0
  have hl : lv_has ls 1 [(0, .ref (ad b))] := hl
  refine lv_aload_n hx hb dX6_clear_0 rfl (lv_at hl 0 rfl) ?_
  refine lv_iconst (v := 0) hx hb dX6_clear_1 (by decide) ?_
  obtain ⟨fsc_1, hgc_1, hOc_1⟩ := hW.obj (i := b) (by omega) (shS_0 ad K hb_b)
  refine s_put X iX6_clear_6 tyX6 tyX6_ok nmX6 hP hj hA hS (by omega) hgc_1 rfl 0 (by decide) (List.mem_of_getElem? (i := 1) rfl) rfl (ty := .int) (v := .int 0) (by decide +kernel) rfl rfl dX6_clear_2 hW (shS_0 ad K hb_b) hOc_1 rfl ⟨0, rfl, n_lo _, n_hi _⟩ (fun fsc_2 gc_2 H locs hOc_2 hkc_2 hnc_2 hgc_2 hfc_2 hWc_2 hP hS => ?_)
  have hfr_3 : ∀ j, j ≠ b + 0 ∧ j ≠ b + 10 ∧ (j < b + 14 ∨ b + 20 ≤ j) → gc_2 j = g j := fun j hj => (hfc_2 j (by omega)).trans (hfr j hj)
  refine lv_aload_n hx hb dX6_clear_5 rfl (lv_at hl 0 rfl) ?_
  refine lv_iconst (v := 0) hx hb dX6_clear_6 (by decide) ?_
  refine s_put X iX6_clear_6 tyX6 tyX6_ok nmX6 hP hj hA hS (by omega) hgc_2 rfl 1 (by decide) (List.mem_of_getElem? (i := 2) rfl) rfl (ty := .int) (v := .int 0) (by decide +kernel) rfl rfl dX6_clear_7 hWc_2 (shS_0 ad K hb_b) hOc_2 rfl ⟨0, rfl, n_lo _, n_hi _⟩ (fun fsc_4 gc_4 H locs hOc_4 hkc_4 hnc_4 hgc_4 hfc_4 hWc_4 hP hS => ?_)
  have hk_5 := (hnc_4 0 (by decide)).trans hkc_2
  have hfr_6 : ∀ j, j ≠ b + 0 ∧ j ≠ b + 10 ∧ (j < b + 14 ∨ b + 20 ≤ j) → gc_4 j = g j := fun j hj => (hfc_4 j (by omega)).trans (hfr_3 j hj)
  refine lv_aload_n hx hb dX6_clear_10 rfl (lv_at hl 0 rfl) ?_
  refine lv_iconst (v := 0) hx hb dX6_clear_11 (by decide) ?_
  refine s_put X iX6_clear_6 tyX6 tyX6_ok nmX6 hP hj hA hS (by omega) hgc_4 rfl 2 (by decide) (List.mem_of_getElem? (i := 3) rfl) rfl (ty := .int) (v := .int 0) (by decide +kernel) rfl rfl dX6_clear_12 hWc_4 (shS_0 ad K hb_b) hOc_4 rfl ⟨0, rfl, n_lo _, n_hi _⟩ (fun fsc_7 gc_7 H locs hOc_7 hkc_7 hnc_7 hgc_7 hfc_7 hWc_7 hP hS => ?_)
  have hk_8 := (hnc_7 1 (by decide)).trans hkc_4
  have hk_9 := (hnc_7 0 (by decide)).trans hk_5
  have hfr_10 : ∀ j, j ≠ b + 0 ∧ j ≠ b + 10 ∧ (j < b + 14 ∨ b + 20 ≤ j) → gc_7 j = g j := fun j hj => (hfc_7 j (by omega)).trans (hfr_6 j hj)
  refine lv_aload_n hx hb dX6_clear_15 rfl (lv_at hl 0 rfl) ?_
  refine lv_iconst (v := 0) hx hb dX6_clear_16 (by decide) ?_
  refine s_put X iX6_clear_6 tyX6 tyX6_ok nmX6 hP hj hA hS (by omega) hgc_7 rfl 3 (by decide) (List.mem_of_getElem? (i := 4) rfl) rfl (ty := .int) (v := .int 0) (by decide +kernel) rfl rfl dX6_clear_17 hWc_7 (shS_0 ad K hb_b) hOc_7 rfl ⟨0, rfl, by decide, by decide⟩ (fun fsc_11 gc_11 H locs hOc_11 hkc_11 hnc_11 hgc_11 hfc_11 hWc_11 hP hS => ?_)
  have hk_12 := (hnc_11 2 (by decide)).trans hkc_7
  have hk_13 := (hnc_11 1 (by decide)).trans hk_8
  have hk_14 := (hnc_11 0 (by decide)).trans hk_9
  have hfr_15 : ∀ j, j ≠ b + 0 ∧ j ≠ b + 10 ∧ (j < b + 14 ∨ b + 20 ≤ j) → gc_11 j = g j := fun j hj => (hfc_11 j (by omega)).trans (hfr_10 j hj)
  refine lv_aload_n hx hb dX6_clear_20 rfl (lv_at hl 0 rfl) ?_
  refine lv_iconst (v := 0) hx hb dX6_clear_21 (by decide) ?_
  refine s_put X iX6_clear_6 tyX6 tyX6_ok nmX6 hP hj hA hS (by omega) hgc_11 rfl 4 (by decide) (List.mem_of_getElem? (i := 5) rfl) rfl (ty := .int) (v := .int 0) (by decide +kernel) rfl rfl dX6_clear_22 hWc_11 (shS_0 ad K hb_b) hOc_11 rfl ⟨0, rfl, by decide, by decide⟩ (fun fsc_16 gc_16 H locs hOc_16 hkc_16 hnc_16 hgc_16 hfc_16 hWc_16 hP hS => ?_)
  have hk_17 := (hnc_16 3 (by decide)).trans hkc_11
  have hk_18 := (hnc_16 2 (by decide)).trans hk_12
  have hk_19 := (hnc_16 1 (by decide)).trans hk_13
  have hk_20 := (hnc_16 0 (by decide)).trans hk_14
  have hfr_21 : ∀ j, j ≠ b + 0 ∧ j ≠ b + 10 ∧ (j < b + 14 ∨ b + 20 ≤ j) → gc_16 j = g j := fun j hj => (hfc_16 j (by omega)).trans (hfr_15 j hj)
  refine lv_aload_n hx hb dX6_clear_25 rfl (lv_at hl 0 rfl) ?_
  refine lv_iconst (v := 0) hx hb dX6_clear_26 (by decide) ?_
  refine s_put X iX6_clear_6 tyX6 tyX6_ok nmX6 hP hj hA hS (by omega) hgc_16 rfl 5 (by decide) (List.mem_of_getElem? (i := 6) rfl) rfl (ty := .int) (v := .int 0) (by decide +kernel) rfl rfl dX6_clear_27 hWc_16 (shS_0 ad K hb_b) hOc_16 rfl ⟨0, rfl, by decide, by decide⟩ (fun fsc_22 gc_22 H locs hOc_22 hkc_22 hnc_22 hgc_22 hfc_22 hWc_22 hP hS => ?_)
  have hk_23 := (hnc_22 4 (by decide)).trans hkc_16
  have hk_24 := (hnc_22 3 (by decide)).trans hk_17
  have hk_25 := (hnc_22 2 (by decide)).trans hk_18
  have hk_26 := (hnc_22 1 (by decide)).trans hk_19
  have hk_27 := (hnc_22 0 (by decide)).trans hk_20
  have hfr_28 : ∀ j, j ≠ b + 0 ∧ j ≠ b + 10 ∧ (j < b + 14 ∨ b + 20 ≤ j) → gc_22 j = g j := fun j hj => (hfc_22 j (by omega)).trans (hfr_21 j hj)
  refine lv_aload_n hx hb dX6_clear_30 rfl (lv_at hl 0 rfl) ?_
  refine lv_iconst (v := 0) hx hb dX6_clear_31 (by decide) ?_
  refine s_put X iX6_clear_6 tyX6 tyX6_ok nmX6 hP hj hA hS (by omega) hgc_22 rfl 6 (by decide) (List.mem_of_getElem? (i := 7) rfl) rfl (ty := .int) (v := .int 0) (by decide +kernel) rfl rfl dX6_clear_32 hWc_22 (shS_0 ad K hb_b) hOc_22 rfl ⟨0, rfl, by decide, by decide⟩ (fun fsc_29 gc_29 H locs hOc_29 hkc_29 hnc_29 hgc_29 hfc_29 hWc_29 hP hS => ?_)
  have hk_30 := (hnc_29 5 (by decide)).trans hkc_22
  have hk_31 := (hnc_29 4 (by decide)).trans hk_23
  have hk_32 := (hnc_29 3 (by decide)).trans hk_24
  have hk_33 := (hnc_29 2 (by decide)).trans hk_25
  have hk_34 := (hnc_29 1 (by decide)).trans hk_26
  have hk_35 := (hnc_29 0 (by decide)).trans hk_27
  have hfr_36 : ∀ j, j ≠ b + 0 ∧ j ≠ b + 10 ∧ (j < b + 14 ∨ b + 20 ≤ j) → gc_29 j = g j := fun j hj => (hfc_29 j (by omega)).trans (hfr_28 j hj)
  refine lv_aload_n hx hb dX6_clear_35 rfl (lv_at hl 0 rfl) ?_
  refine lv_iconst (v := 0) hx hb dX6_clear_36 (by decide) ?_
  refine s_put X iX6_clear_6 tyX6 tyX6_ok nmX6 hP hj hA hS (by omega) hgc_29 rfl 7 (by decide) (List.mem_of_getElem? (i := 8) rfl) rfl (ty := .int) (v := .int 0) (by decide +kernel) rfl rfl dX6_clear_37 hWc_29 (shS_0 ad K hb_b) hOc_29 rfl ⟨0, rfl, n_lo _, n_hi _⟩ (fun fsc_37 gc_37 H locs hOc_37 hkc_37 hnc_37 hgc_37 hfc_37 hWc_37 hP hS => ?_)
  have hk_38 := (hnc_37 6 (by decide)).trans hkc_29
  have hk_39 := (hnc_37 5 (by decide)).trans hk_30
  have hk_40 := (hnc_37 4 (by decide)).trans hk_31
  have hk_41 := (hnc_37 3 (by decide)).trans hk_32
  have hk_42 := (hnc_37 2 (by decide)).trans hk_33
  have hk_43 := (hnc_37 1 (by decide)).trans hk_34
  have hk_44 := (hnc_37 0 (by decide)).trans hk_35
  have hfr_45 : ∀ j, j ≠ b + 0 ∧ j ≠ b + 10 ∧ (j < b + 14 ∨ b + 20 ≤ j) → gc_37 j = g j := fun j hj => (hfc_37 j (by omega)).trans (hfr_36 j hj)
  refine lv_aload_n hx hb dX6_clear_40 rfl (lv_at hl 0 rfl) ?_
  have hk_46 := hOc_37.ref 17 rfl
  refine q_get X iX6_clear_6 hP (by omega) hgc_37 rfl 17 (by decide) (List.mem_of_getElem? (i := 9) rfl) (v := .ref (ad (b + 10))) hk_46 dX6_clear_41 ?_
  obtain ⟨fsc_50, hgc_50, hOc_50⟩ := hWc_37.obj (i := (b + 10)) (by omega) (shS_10 ad K hb_b)
  refine s_callv (q := (RX0, TX0, 5)) (As := []) (rest := []) X Z (s_X0_clear l D cs ad kS K hKO hj gc_37 hWc_37 b (by omega)) (cwV 0 X.2.2.2.2.1 gg_X6_clear_X0_clear rfl rfl rfl (by decide +kernel) ⟨Nat.le_of_ble_eq_true rfl, Nat.le_of_ble_eq_true rfl⟩) (by omega) hgc_50 rfl hP hA hS.2.1 hS rfl hl.1 rfl (Nat.le_of_ble_eq_true rfl) dX6_clear_44 ⟨Nat.le_of_ble_eq_true rfl, Nat.le_of_ble_eq_true rfl⟩ (fun g_48 H locs hw_47 hP hS => ?_)
  obtain ⟨hw_47W, hw_47f⟩ := hw_47
  have hfr_51 : ∀ j, j ≠ b + 0 ∧ j ≠ b + 10 ∧ (j < b + 14 ∨ b + 20 ≤ j) → g_48 j = g j := fun j hj => (hw_47f j (by omega)).trans (hfr_45 j hj)
  have hg_52 := (hw_47f b (by omega)).trans hgc_37
  exact q_vret X hP hS ⟨hw_47W, hfr_51⟩ dX6_clear_47
