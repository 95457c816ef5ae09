theorem dJ7_fill_d0a16_0 : decode cJ7_fill_d0a16 0 = .ok (.iconst 0, 1) := by decide +kernel
theorem dJ7_fill_d0a16_1 : decode cJ7_fill_d0a16 1 = .ok (.istore_n 3, 1) := by decide +kernel
theorem dJ7_fill_d0a16_2 : decode cJ7_fill_d0a16 2 = .ok (.aload_n 0, 1) := by decide +kernel
theorem dJ7_fill_d0a16_3 : decode cJ7_fill_d0a16 3 = .ok (.arraylength, 1) := by decide +kernel
theorem dJ7_fill_d0a16_4 : decode cJ7_fill_d0a16 4 = .ok (.istore 4, 2) := by decide +kernel
theorem dJ7_fill_d0a16_6 : decode cJ7_fill_d0a16 6 = .ok (.iload_n 3, 1) := by decide +kernel
theorem dJ7_fill_d0a16_7 : decode cJ7_fill_d0a16 7 = .ok (.iload 4, 2) := by decide +kernel
theorem dJ7_fill_d0a16_9 : decode cJ7_fill_d0a16 9 = .ok (.if_icmp .ge 13, 3) := by decide +kernel
theorem dJ7_fill_d0a16_22 : decode cJ7_fill_d0a16 22 = .ok (.return_, 1) := by decide +kernel
theorem dJ7_fill_d0a16_12 : decode cJ7_fill_d0a16 12 = .ok (.aload_n 0, 1) := by decide +kernel
theorem dJ7_fill_d0a16_13 : decode cJ7_fill_d0a16 13 = .ok (.iload_n 3, 1) := by decide +kernel
theorem dJ7_fill_d0a16_14 : decode cJ7_fill_d0a16 14 = .ok (.lload_n 1, 1) := by decide +kernel
theorem dJ7_fill_d0a16_15 : decode cJ7_fill_d0a16 15 = .ok (.lastore, 1) := by decide +kernel
theorem dJ7_fill_d0a16_16 : decode cJ7_fill_d0a16 16 = .ok (.iinc 3 1, 3) := by decide +kernel
theorem dJ7_fill_d0a16_19 : decode cJ7_fill_d0a16 19 = .ok (.goto (-13), 3) := by decide +kernel
def vJ7_fill_d0a16 : List Cond := .code yJ7_fill_d0a16 cJ7_fill_d0a16 5 none :: ([])
set_option maxHeartbeats 4000000 in
set_option maxRecDepth 100000 in
theorem k_fill0 (l : Launch) (D : va_G) (cs : Nat → ClassId) (ad : Nat → Nat) (hj : wJ ad nW) (g : Nat → va_E) (vv : Int64) (h107 : g 107 = .inl (cs 2, 60, .inr (.inl (fun _ => 0)))) : cV l yJ7_fill_d0a16 vJ7_fill_d0a16 { frames := 0, cells := 0, slots := 0, locals := 0 } D cs ad nW [.ref (ad 107), .long vv] g (fun g2 => ∀ j, j ≠ 107 → g2 j = g j) := by
  refine Met.start (cc := cJ7_fill_d0a16) (maxL := 5) (ret := none) RJ7 rfl (by decide) rfl (Nat.le_of_ble_eq_true rfl) ?_
  intro p e s m below meth c ls X hP hl
  have hx := X.1
  have hb := X.2.1
  have hS : va_S (wA ad nW) s.heap s.heap [] := va_S.rf
  have hA : ∀ i, i < nW → wA ad nW (ad i) := fun i h => ⟨i, h, rfl⟩
  have hfr : ∀ j, j ≠ 107 → g j = g j := fun _ _ => rfl
  have hl : lv_has ls 5 [(0, .ref (ad 107)), (1, .long vv)] := hl
  refine lv_iconst (v := 0) hx hb dJ7_fill_d0a16_0 (by decide) ?_
  refine lv_istore_n (lv' := [(3, .int 0), (0, .ref (ad 107)), (1, .long vv)]) hx hb dJ7_fill_d0a16_1 rfl hl (by decide) rfl (fun ls hl => ?_)
  refine lv_aload_n hx hb dJ7_fill_d0a16_2 rfl (lv_at hl 1 rfl) ?_
  refine q_alen X hP (by decide) 2 h107 rfl (v := 60) (by decide) dJ7_fill_d0a16_3 ?_
  refine lv_istore (lv' := [(4, .int 60), (3, .int 0), (0, .ref (ad 107)), (1, .long vv)]) hx hb dJ7_fill_d0a16_4 hl (by decide) rfl (fun ls hl => ?_)
  have HL6 : ∀ (d6 k6 : Nat) (f6_107 : Nat → Int64) (G6 : Nat → va_E) (H : Heap) (locs : List Loc) (ls : Array Slot), k6 + d6 = 60 → (∀ j, j ≠ 107 → G6 j = g j) → G6 107 = .inl (cs 2, 60, .inr (.inl f6_107)) → va_P D vwCl (wL ad G6 nW) H → va_S (wA ad nW) s.heap H locs → lv_has ls 5 [(4, .int 60), (3, .int (nI k6)), (0, .ref (ad 107)), (1, .long vv)] → W p l e ({ frames := 0, cells := 0, slots := 0, locals := 0 } : Room) s m ([.ref (ad 107), .long vv] : List Value).toArray below meth c H locs 0 0 (MQ below (qV D ad nW (fun g2 => ∀ j, j ≠ 107 → g2 j = g j)) ([.ref (ad 107), .long vv] : List Value).toArray s 0 0 (wA ad nW)) (F0 m 6 ls []) := by
    intro d6
    induction d6 with
    | zero =>
      intro k6 f6_107 G6 H locs ls hk6 hfr6 h6_107 hP hS hl
      obtain rfl : k6 = 60 := by omega
      refine lv_iload_n hx hb dJ7_fill_d0a16_6 rfl (lv_at hl 1 rfl) ?_
      refine lv_iload hx hb dJ7_fill_d0a16_7 (lv_at hl 0 rfl) ?_
      refine lv_icmp_ge (tgt := 22) hx hb dJ7_fill_d0a16_9 (by decide) (fun _ => ?_) (fun h => absurd h (by decide))
      exact q_vret X hP hS hfr6 dJ7_fill_d0a16_22
    | succ d6 ih6 =>
      intro k6 f6_107 G6 H locs ls hk6 hfr6 h6_107 hP hS hl
      refine lv_iload_n hx hb dJ7_fill_d0a16_6 rfl (lv_at hl 1 rfl) ?_
      refine lv_iload hx hb dJ7_fill_d0a16_7 (lv_at hl 0 rfl) ?_
      refine lv_icmp_ge (tgt := 22) hx hb dJ7_fill_d0a16_9 (by decide) (fun hc_9 => absurd hc_9 (nI_ge (a := k6) (b := 60) (by omega) (by decide))) (fun hc_9 => ?_)
      refine lv_aload_n hx hb dJ7_fill_d0a16_12 rfl (lv_at hl 2 rfl) ?_
      refine lv_iload_n hx hb dJ7_fill_d0a16_13 rfl (lv_at hl 1 rfl) ?_
      refine lv_lload_n hx hb dJ7_fill_d0a16_14 rfl (lv_at hl 3 rfl) ?_
      refine q_last X hP hj hA hS (by decide) h6_107 (vp_in_nI (by omega) (by decide)) dJ7_fill_d0a16_15 (fun H locs hP hS => ?_)
      generalize eg_1 : va_up G6 107 _ = g_1 at hP
      have hfr_3 : ∀ j, j ≠ 107 → g_1 j = g j := fun j hj => by rw [← eg_1]; exact (va_up_ne _ _ (by omega)).trans (hfr6 j hj)
      obtain ⟨f_2, h_4⟩ : ∃ f, g_1 107 = .inl (cs 2, 60, .inr (.inl f)) := ⟨_, by rw [← eg_1]; exact va_up_self _ _ _⟩
      refine lv_iinc (v := (nI (k6 + 1))) (lv' := [(3, .int (nI (k6 + 1))), (4, .int 60), (0, .ref (ad 107)), (1, .long vv)]) hx hb dJ7_fill_d0a16_16 hl (k := 1) rfl (nI_add k6 1) (by decide) rfl (fun ls hl => ?_)
      refine lv_goto (tgt := 6) hx hb dJ7_fill_d0a16_19 (by decide) ?_
      exact ih6 (k6 + 1) _ g_1 _ _ ls (by omega) hfr_3 h_4 hP hS (lv_sub hl [1, 0, 2, 3] rfl)
  exact HL6 60 0 _ g _ _ ls (by omega) hfr h107 hP hS (lv_sub hl [0, 1, 2, 3] rfl)

set_option maxHeartbeats 4000000 in
set_option maxRecDepth 100000 in
theorem k_fill1 (l : Launch) (D : va_G) (cs : Nat → ClassId) (ad : Nat → Nat) (hj : wJ ad nW) (g : Nat → va_E) (vv : Int64) (h109 : g 109 = .inl (cs 2, 60, .inr (.inl (fun _ => 0)))) : cV l yJ7_fill_d0a16 vJ7_fill_d0a16 { frames := 0, cells := 0, slots := 0, locals := 0 } D cs ad nW [.ref (ad 109), .long vv] g (fun g2 => ∀ j, j ≠ 109 → g2 j = g j) := by
  refine Met.start (cc := cJ7_fill_d0a16) (maxL := 5) (ret := none) RJ7 rfl (by decide) rfl (Nat.le_of_ble_eq_true rfl) ?_
  intro p e s m below meth c ls X hP hl
  have hx := X.1
  have hb := X.2.1
  have hS : va_S (wA ad nW) s.heap s.heap [] := va_S.rf
  have hA : ∀ i, i < nW → wA ad nW (ad i) := fun i h => ⟨i, h, rfl⟩
  have hfr : ∀ j, j ≠ 109 → g j = g j := fun _ _ => rfl
  have hl : lv_has ls 5 [(0, .ref (ad 109)), (1, .long vv)] := hl
  refine lv_iconst (v := 0) hx hb dJ7_fill_d0a16_0 (by decide) ?_
  refine lv_istore_n (lv' := [(3, .int 0), (0, .ref (ad 109)), (1, .long vv)]) hx hb dJ7_fill_d0a16_1 rfl hl (by decide) rfl (fun ls hl => ?_)
  refine lv_aload_n hx hb dJ7_fill_d0a16_2 rfl (lv_at hl 1 rfl) ?_
  refine q_alen X hP (by decide) 2 h109 rfl (v := 60) (by decide) dJ7_fill_d0a16_3 ?_
  refine lv_istore (lv' := [(4, .int 60), (3, .int 0), (0, .ref (ad 109)), (1, .long vv)]) hx hb dJ7_fill_d0a16_4 hl (by decide) rfl (fun ls hl => ?_)
  have HL6 : ∀ (d6 k6 : Nat) (f6_109 : Nat → Int64) (G6 : Nat → va_E) (H : Heap) (locs : List Loc) (ls : Array Slot), k6 + d6 = 60 → (∀ j, j ≠ 109 → G6 j = g j) → G6 109 = .inl (cs 2, 60, .inr (.inl f6_109)) → va_P D vwCl (wL ad G6 nW) H → va_S (wA ad nW) s.heap H locs → lv_has ls 5 [(4, .int 60), (3, .int (nI k6)), (0, .ref (ad 109)), (1, .long vv)] → W p l e ({ frames := 0, cells := 0, slots := 0, locals := 0 } : Room) s m ([.ref (ad 109), .long vv] : List Value).toArray below meth c H locs 0 0 (MQ below (qV D ad nW (fun g2 => ∀ j, j ≠ 109 → g2 j = g j)) ([.ref (ad 109), .long vv] : List Value).toArray s 0 0 (wA ad nW)) (F0 m 6 ls []) := by
    intro d6
    induction d6 with
    | zero =>
      intro k6 f6_109 G6 H locs ls hk6 hfr6 h6_109 hP hS hl
      obtain rfl : k6 = 60 := by omega
      refine lv_iload_n hx hb dJ7_fill_d0a16_6 rfl (lv_at hl 1 rfl) ?_
      refine lv_iload hx hb dJ7_fill_d0a16_7 (lv_at hl 0 rfl) ?_
      refine lv_icmp_ge (tgt := 22) hx hb dJ7_fill_d0a16_9 (by decide) (fun _ => ?_) (fun h => absurd h (by decide))
      exact q_vret X hP hS hfr6 dJ7_fill_d0a16_22
    | succ d6 ih6 =>
      intro k6 f6_109 G6 H locs ls hk6 hfr6 h6_109 hP hS hl
      refine lv_iload_n hx hb dJ7_fill_d0a16_6 rfl (lv_at hl 1 rfl) ?_
      refine lv_iload hx hb dJ7_fill_d0a16_7 (lv_at hl 0 rfl) ?_
      refine lv_icmp_ge (tgt := 22) hx hb dJ7_fill_d0a16_9 (by decide) (fun hc_9 => absurd hc_9 (nI_ge (a := k6) (b := 60) (by omega) (by decide))) (fun hc_9 => ?_)
      refine lv_aload_n hx hb dJ7_fill_d0a16_12 rfl (lv_at hl 2 rfl) ?_
      refine lv_iload_n hx hb dJ7_fill_d0a16_13 rfl (lv_at hl 1 rfl) ?_
      refine lv_lload_n hx hb dJ7_fill_d0a16_14 rfl (lv_at hl 3 rfl) ?_
      refine q_last X hP hj hA hS (by decide) h6_109 (vp_in_nI (by omega) (by decide)) dJ7_fill_d0a16_15 (fun H locs hP hS => ?_)
      generalize eg_1 : va_up G6 109 _ = g_1 at hP
      have hfr_3 : ∀ j, j ≠ 109 → g_1 j = g j := fun j hj => by rw [← eg_1]; exact (va_up_ne _ _ (by omega)).trans (hfr6 j hj)
      obtain ⟨f_2, h_4⟩ : ∃ f, g_1 109 = .inl (cs 2, 60, .inr (.inl f)) := ⟨_, by rw [← eg_1]; exact va_up_self _ _ _⟩
      refine lv_iinc (v := (nI (k6 + 1))) (lv' := [(3, .int (nI (k6 + 1))), (4, .int 60), (0, .ref (ad 109)), (1, .long vv)]) hx hb dJ7_fill_d0a16_16 hl (k := 1) rfl (nI_add k6 1) (by decide) rfl (fun ls hl => ?_)
      refine lv_goto (tgt := 6) hx hb dJ7_fill_d0a16_19 (by decide) ?_
      exact ih6 (k6 + 1) _ g_1 _ _ ls (by omega) hfr_3 h_4 hP hS (lv_sub hl [1, 0, 2, 3] rfl)
  exact HL6 60 0 _ g _ _ ls (by omega) hfr h109 hP hS (lv_sub hl [0, 1, 2, 3] rfl)

set_option maxHeartbeats 4000000 in
set_option maxRecDepth 100000 in
theorem k_fill2 (l : Launch) (D : va_G) (cs : Nat → ClassId) (ad : Nat → Nat) (hj : wJ ad nW) (g : Nat → va_E) (vv : Int64) (h111 : g 111 = .inl (cs 2, 60, .inr (.inl (fun _ => 0)))) : cV l yJ7_fill_d0a16 vJ7_fill_d0a16 { frames := 0, cells := 0, slots := 0, locals := 0 } D cs ad nW [.ref (ad 111), .long vv] g (fun g2 => ∀ j, j ≠ 111 → g2 j = g j) := by
  refine Met.start (cc := cJ7_fill_d0a16) (maxL := 5) (ret := none) RJ7 rfl (by decide) rfl (Nat.le_of_ble_eq_true rfl) ?_
  intro p e s m below meth c ls X hP hl
  have hx := X.1
  have hb := X.2.1
  have hS : va_S (wA ad nW) s.heap s.heap [] := va_S.rf
  have hA : ∀ i, i < nW → wA ad nW (ad i) := fun i h => ⟨i, h, rfl⟩
  have hfr : ∀ j, j ≠ 111 → g j = g j := fun _ _ => rfl
  have hl : lv_has ls 5 [(0, .ref (ad 111)), (1, .long vv)] := hl
  refine lv_iconst (v := 0) hx hb dJ7_fill_d0a16_0 (by decide) ?_
  refine lv_istore_n (lv' := [(3, .int 0), (0, .ref (ad 111)), (1, .long vv)]) hx hb dJ7_fill_d0a16_1 rfl hl (by decide) rfl (fun ls hl => ?_)
  refine lv_aload_n hx hb dJ7_fill_d0a16_2 rfl (lv_at hl 1 rfl) ?_
  refine q_alen X hP (by decide) 2 h111 rfl (v := 60) (by decide) dJ7_fill_d0a16_3 ?_
  refine lv_istore (lv' := [(4, .int 60), (3, .int 0), (0, .ref (ad 111)), (1, .long vv)]) hx hb dJ7_fill_d0a16_4 hl (by decide) rfl (fun ls hl => ?_)
  have HL6 : ∀ (d6 k6 : Nat) (f6_111 : Nat → Int64) (G6 : Nat → va_E) (H : Heap) (locs : List Loc) (ls : Array Slot), k6 + d6 = 60 → (∀ j, j ≠ 111 → G6 j = g j) → G6 111 = .inl (cs 2, 60, .inr (.inl f6_111)) → va_P D vwCl (wL ad G6 nW) H → va_S (wA ad nW) s.heap H locs → lv_has ls 5 [(4, .int 60), (3, .int (nI k6)), (0, .ref (ad 111)), (1, .long vv)] → W p l e ({ frames := 0, cells := 0, slots := 0, locals := 0 } : Room) s m ([.ref (ad 111), .long vv] : List Value).toArray below meth c H locs 0 0 (MQ below (qV D ad nW (fun g2 => ∀ j, j ≠ 111 → g2 j = g j)) ([.ref (ad 111), .long vv] : List Value).toArray s 0 0 (wA ad nW)) (F0 m 6 ls []) := by
    intro d6
    induction d6 with
    | zero =>
      intro k6 f6_111 G6 H locs ls hk6 hfr6 h6_111 hP hS hl
      obtain rfl : k6 = 60 := by omega
      refine lv_iload_n hx hb dJ7_fill_d0a16_6 rfl (lv_at hl 1 rfl) ?_
      refine lv_iload hx hb dJ7_fill_d0a16_7 (lv_at hl 0 rfl) ?_
      refine lv_icmp_ge (tgt := 22) hx hb dJ7_fill_d0a16_9 (by decide) (fun _ => ?_) (fun h => absurd h (by decide))
      exact q_vret X hP hS hfr6 dJ7_fill_d0a16_22
    | succ d6 ih6 =>
      intro k6 f6_111 G6 H locs ls hk6 hfr6 h6_111 hP hS hl
      refine lv_iload_n hx hb dJ7_fill_d0a16_6 rfl (lv_at hl 1 rfl) ?_
      refine lv_iload hx hb dJ7_fill_d0a16_7 (lv_at hl 0 rfl) ?_
      refine lv_icmp_ge (tgt := 22) hx hb dJ7_fill_d0a16_9 (by decide) (fun hc_9 => absurd hc_9 (nI_ge (a := k6) (b := 60) (by omega) (by decide))) (fun hc_9 => ?_)
      refine lv_aload_n hx hb dJ7_fill_d0a16_12 rfl (lv_at hl 2 rfl) ?_
      refine lv_iload_n hx hb dJ7_fill_d0a16_13 rfl (lv_at hl 1 rfl) ?_
      refine lv_lload_n hx hb dJ7_fill_d0a16_14 rfl (lv_at hl 3 rfl) ?_
      refine q_last X hP hj hA hS (by decide) h6_111 (vp_in_nI (by omega) (by decide)) dJ7_fill_d0a16_15 (fun H locs hP hS => ?_)
      generalize eg_1 : va_up G6 111 _ = g_1 at hP
      have hfr_3 : ∀ j, j ≠ 111 → g_1 j = g j := fun j hj => by rw [← eg_1]; exact (va_up_ne _ _ (by omega)).trans (hfr6 j hj)
      obtain ⟨f_2, h_4⟩ : ∃ f, g_1 111 = .inl (cs 2, 60, .inr (.inl f)) := ⟨_, by rw [← eg_1]; exact va_up_self _ _ _⟩
      refine lv_iinc (v := (nI (k6 + 1))) (lv' := [(3, .int (nI (k6 + 1))), (4, .int 60), (0, .ref (ad 111)), (1, .long vv)]) hx hb dJ7_fill_d0a16_16 hl (k := 1) rfl (nI_add k6 1) (by decide) rfl (fun ls hl => ?_)
      refine lv_goto (tgt := 6) hx hb dJ7_fill_d0a16_19 (by decide) ?_
      exact ih6 (k6 + 1) _ g_1 _ _ ls (by omega) hfr_3 h_4 hP hS (lv_sub hl [1, 0, 2, 3] rfl)
  exact HL6 60 0 _ g _ _ ls (by omega) hfr h111 hP hS (lv_sub hl [0, 1, 2, 3] rfl)

set_option maxHeartbeats 4000000 in
set_option maxRecDepth 100000 in
theorem k_fill3 (l : Launch) (D : va_G) (cs : Nat → ClassId) (ad : Nat → Nat) (hj : wJ ad nW) (g : Nat → va_E) (vv : Int64) (h113 : g 113 = .inl (cs 2, 60, .inr (.inl (fun _ => 0)))) : cV l yJ7_fill_d0a16 vJ7_fill_d0a16 { frames := 0, cells := 0, slots := 0, locals := 0 } D cs ad nW [.ref (ad 113), .long vv] g (fun g2 => ∀ j, j ≠ 113 → g2 j = g j) := by
  refine Met.start (cc := cJ7_fill_d0a16) (maxL := 5) (ret := none) RJ7 rfl (by decide) rfl (Nat.le_of_ble_eq_true rfl) ?_
  intro p e s m below meth c ls X hP hl
  have hx := X.1
  have hb := X.2.1
  have hS : va_S (wA ad nW) s.heap s.heap [] := va_S.rf
  have hA : ∀ i, i < nW → wA ad nW (ad i) := fun i h => ⟨i, h, rfl⟩
  have hfr : ∀ j, j ≠ 113 → g j = g j := fun _ _ => rfl
  have hl : lv_has ls 5 [(0, .ref (ad 113)), (1, .long vv)] := hl
  refine lv_iconst (v := 0) hx hb dJ7_fill_d0a16_0 (by decide) ?_
  refine lv_istore_n (lv' := [(3, .int 0), (0, .ref (ad 113)), (1, .long vv)]) hx hb dJ7_fill_d0a16_1 rfl hl (by decide) rfl (fun ls hl => ?_)
  refine lv_aload_n hx hb dJ7_fill_d0a16_2 rfl (lv_at hl 1 rfl) ?_
  refine q_alen X hP (by decide) 2 h113 rfl (v := 60) (by decide) dJ7_fill_d0a16_3 ?_
  refine lv_istore (lv' := [(4, .int 60), (3, .int 0), (0, .ref (ad 113)), (1, .long vv)]) hx hb dJ7_fill_d0a16_4 hl (by decide) rfl (fun ls hl => ?_)
  have HL6 : ∀ (d6 k6 : Nat) (f6_113 : Nat → Int64) (G6 : Nat → va_E) (H : Heap) (locs : List Loc) (ls : Array Slot), k6 + d6 = 60 → (∀ j, j ≠ 113 → G6 j = g j) → G6 113 = .inl (cs 2, 60, .inr (.inl f6_113)) → va_P D vwCl (wL ad G6 nW) H → va_S (wA ad nW) s.heap H locs → lv_has ls 5 [(4, .int 60), (3, .int (nI k6)), (0, .ref (ad 113)), (1, .long vv)] → W p l e ({ frames := 0, cells := 0, slots := 0, locals := 0 } : Room) s m ([.ref (ad 113), .long vv] : List Value).toArray below meth c H locs 0 0 (MQ below (qV D ad nW (fun g2 => ∀ j, j ≠ 113 → g2 j = g j)) ([.ref (ad 113), .long vv] : List Value).toArray s 0 0 (wA ad nW)) (F0 m 6 ls []) := by
    intro d6
    induction d6 with
    | zero =>
      intro k6 f6_113 G6 H locs ls hk6 hfr6 h6_113 hP hS hl
      obtain rfl : k6 = 60 := by omega
      refine lv_iload_n hx hb dJ7_fill_d0a16_6 rfl (lv_at hl 1 rfl) ?_
      refine lv_iload hx hb dJ7_fill_d0a16_7 (lv_at hl 0 rfl) ?_
      refine lv_icmp_ge (tgt := 22) hx hb dJ7_fill_d0a16_9 (by decide) (fun _ => ?_) (fun h => absurd h (by decide))
      exact q_vret X hP hS hfr6 dJ7_fill_d0a16_22
    | succ d6 ih6 =>
      intro k6 f6_113 G6 H locs ls hk6 hfr6 h6_113 hP hS hl
      refine lv_iload_n hx hb dJ7_fill_d0a16_6 rfl (lv_at hl 1 rfl) ?_
      refine lv_iload hx hb dJ7_fill_d0a16_7 (lv_at hl 0 rfl) ?_
      refine lv_icmp_ge (tgt := 22) hx hb dJ7_fill_d0a16_9 (by decide) (fun hc_9 => absurd hc_9 (nI_ge (a := k6) (b := 60) (by omega) (by decide))) (fun hc_9 => ?_)
      refine lv_aload_n hx hb dJ7_fill_d0a16_12 rfl (lv_at hl 2 rfl) ?_
      refine lv_iload_n hx hb dJ7_fill_d0a16_13 rfl (lv_at hl 1 rfl) ?_
      refine lv_lload_n hx hb dJ7_fill_d0a16_14 rfl (lv_at hl 3 rfl) ?_
      refine q_last X hP hj hA hS (by decide) h6_113 (vp_in_nI (by omega) (by decide)) dJ7_fill_d0a16_15 (fun H locs hP hS => ?_)
      generalize eg_1 : va_up G6 113 _ = g_1 at hP
      have hfr_3 : ∀ j, j ≠ 113 → g_1 j = g j := fun j hj => by rw [← eg_1]; exact (va_up_ne _ _ (by omega)).trans (hfr6 j hj)
      obtain ⟨f_2, h_4⟩ : ∃ f, g_1 113 = .inl (cs 2, 60, .inr (.inl f)) := ⟨_, by rw [← eg_1]; exact va_up_self _ _ _⟩
      refine lv_iinc (v := (nI (k6 + 1))) (lv' := [(3, .int (nI (k6 + 1))), (4, .int 60), (0, .ref (ad 113)), (1, .long vv)]) hx hb dJ7_fill_d0a16_16 hl (k := 1) rfl (nI_add k6 1) (by decide) rfl (fun ls hl => ?_)
      refine lv_goto (tgt := 6) hx hb dJ7_fill_d0a16_19 (by decide) ?_
      exact ih6 (k6 + 1) _ g_1 _ _ ls (by omega) hfr_3 h_4 hP hS (lv_sub hl [1, 0, 2, 3] rfl)
  exact HL6 60 0 _ g _ _ ls (by omega) hfr h113 hP hS (lv_sub hl [0, 1, 2, 3] rfl)

theorem dX5_lay_0 : decode cX5_lay 0 = .ok (.aload_n 0, 1) := by decide +kernel
theorem dX5_lay_1 : decode cX5_lay 1 = .ok (.getfield 9, 3) := by decide +kernel
theorem dX5_lay_4 : decode cX5_lay 4 = .ok (.lconst 0, 1) := by decide +kernel
theorem dX5_lay_5 : decode cX5_lay 5 = .ok (.invokestatic 15, 3) := by decide +kernel
theorem dX5_lay_8 : decode cX5_lay 8 = .ok (.aload_n 0, 1) := by decide +kernel
theorem dX5_lay_9 : decode cX5_lay 9 = .ok (.iconst 1, 1) := by decide +kernel
theorem dX5_lay_10 : decode cX5_lay 10 = .ok (.putfield 21, 3) := by decide +kernel
theorem dX5_lay_13 : decode cX5_lay 13 = .ok (.aload_n 0, 1) := by decide +kernel
theorem dX5_lay_14 : decode cX5_lay 14 = .ok (.iload_n 1, 1) := by decide +kernel
theorem dX5_lay_15 : decode cX5_lay 15 = .ok (.putfield 25, 3) := by decide +kernel
theorem dX5_lay_18 : decode cX5_lay 18 = .ok (.aload_n 0, 1) := by decide +kernel
theorem dX5_lay_19 : decode cX5_lay 19 = .ok (.iload_n 2, 1) := by decide +kernel
theorem dX5_lay_20 : decode cX5_lay 20 = .ok (.putfield 29, 3) := by decide +kernel
theorem dX5_lay_23 : decode cX5_lay 23 = .ok (.return_, 1) := by decide +kernel
def vX5_lay : List Cond := .code yX5_lay cX5_lay 3 none :: ([.fieldLink RX5 9 "IcicleClock$Slot" "numbers" "[J", .methodLink RX5 15 yJ7_fill_d0a16, .static yJ7_fill_d0a16, .initialized RJ7, .code yJ7_fill_d0a16 cJ7_fill_d0a16 5 none, .fieldLink RX5 21 "IcicleClock$Slot" "laid" "Z", .fieldLink RX5 25 "IcicleClock$Slot" "width" "I", .fieldLink RX5 29 "IcicleClock$Slot" "held" "I"] ++ wsX50)
theorem iX5_lay_5 : ∀ w ∈ wsX50, w ∈ vX5_lay := fun _ h => List.mem_cons_of_mem _ (List.mem_append_right _ h)
set_option maxRecDepth 20000 in
theorem gg_X5_lay_J7_fill_d0a16 : GoodIn vX5_lay (va_wsS RX5 15 yJ7_fill_d0a16 vJ7_fill_d0a16) := goodIn_r _ [2, 3, 4, 5] (by decide +kernel) (by decide +kernel)
set_option maxHeartbeats 4000000 in
set_option maxRecDepth 100000 in
theorem k_lay0 (l : Launch) (D : va_G) (cs : Nat → ClassId) (ad : Nat → Nat) (hj : wJ ad nW) (g : Nat → va_E) (vw : Int32) (vn : Int32) (h106 : g 106 = .inr (5, [.ref (ad 107), .int 0, .int 0, .int 0])) (h107 : g 107 = .inl (cs 2, 60, .inr (.inl (fun _ => 0)))) : cV l yX5_lay vX5_lay { frames := 1, cells := 0, slots := 0, locals := 24 } D cs ad nW [.ref (ad 106), .int vw, .int vn] g (fun g2 => ∀ j, (j ≠ 106 ∧ j ≠ 106 + 1) → g2 j = g j) := by
  refine Met.start (cc := cX5_lay) (maxL := 3) (ret := none) RX5 rfl (by decide) rfl (Nat.le_of_ble_eq_true rfl) ?_
  intro p e s m below meth c ls X hP hl
  have hx := X.1
  have hb := X.2.1
  have hS : va_S (wA ad nW) s.heap s.heap [] := va_S.rf
  have hA : ∀ i, i < nW → wA ad nW (ad i) := fun i h => ⟨i, h, rfl⟩
  have hfr : ∀ j, (j ≠ 106 ∧ j ≠ 106 + 1) → g j = g j := fun _ _ => rfl
  have hl : lv_has ls 3 [(0, .ref (ad 106)), (1, .int vw), (2, .int vn)] := hl
  refine lv_aload_n hx hb dX5_lay_0 rfl (lv_at hl 0 rfl) ?_
  refine q_get X iX5_lay_5 hP (by decide) h106 rfl 0 (by decide) (List.mem_of_getElem? (i := 1) rfl) (v := .ref (ad 107)) rfl dX5_lay_1 ?_
  refine lv_lconst (v := 0) hx hb dX5_lay_4 (by decide) ?_
  refine q_callSv (As := [.ref (ad 107), .long 0]) (rest := []) X (k_fill0 l D cs ad hj g 0 h107) (va_cwS 2 X.2.2.2.2.1 gg_X5_lay_J7_fill_d0a16 rfl rfl rfl (by decide +kernel) ⟨Nat.le_of_ble_eq_true rfl, Nat.le_of_ble_eq_true rfl⟩) hP hA hS rfl hl.1 rfl (Nat.le_of_ble_eq_true rfl) dX5_lay_5 ⟨Nat.le_of_ble_eq_true rfl, Nat.le_of_ble_eq_true rfl⟩ (fun g_2 H locs hw_1 hP hS => ?_)
  have hf_4 := hw_1
  have hfr_5 : ∀ j, (j ≠ 106 ∧ j ≠ 106 + 1) → g_2 j = g j := fun j hj => (hf_4 j (by omega)).trans (hfr j hj)
  have h_6 : g_2 106 = .inr (5, [.ref (ad 107), .int 0, .int 0, .int 0]) := (hf_4 106 (by decide)).trans h106
  refine lv_aload_n hx hb dX5_lay_8 rfl (lv_at hl 0 rfl) ?_
  refine lv_iconst (v := 1) hx hb dX5_lay_9 (by decide) ?_
  refine q_put X iX5_lay_5 tyX5 tyX5_ok nmX5 hP hj hA hS (by decide) h_6 rfl 1 (by decide) (List.mem_of_getElem? (i := 6) rfl) rfl (ty := .boolean) (v := .int 1) (by decide +kernel) rfl rfl (Nat.le_of_ble_eq_true rfl) dX5_lay_10 (fun H locs hP hS => ?_)
  generalize eg_7 : va_up g_2 106 _ = g_7 at hP
  have hfr_8 : ∀ j, (j ≠ 106 ∧ j ≠ 106 + 1) → g_7 j = g j := fun j hj => by rw [← eg_7]; exact (va_up_ne _ _ (by omega)).trans (hfr_5 j hj)
  have h_9 : g_7 106 = .inr (5, [.ref (ad 107), .int 1, .int 0, .int 0]) := by rw [← eg_7]; exact va_up_self _ _ _
  refine lv_aload_n hx hb dX5_lay_13 rfl (lv_at hl 0 rfl) ?_
  refine lv_iload_n hx hb dX5_lay_14 rfl (lv_at hl 1 rfl) ?_
  refine q_put X iX5_lay_5 tyX5 tyX5_ok nmX5 hP hj hA hS (by decide) h_9 rfl 2 (by decide) (List.mem_of_getElem? (i := 7) rfl) rfl (ty := .int) (v := .int vw) (by decide +kernel) rfl rfl (Nat.le_of_ble_eq_true rfl) dX5_lay_15 (fun H locs hP hS => ?_)
  generalize eg_10 : va_up g_7 106 _ = g_10 at hP
  have hfr_11 : ∀ j, (j ≠ 106 ∧ j ≠ 106 + 1) → g_10 j = g j := fun j hj => by rw [← eg_10]; exact (va_up_ne _ _ (by omega)).trans (hfr_8 j hj)
  have h_12 : g_10 106 = .inr (5, [.ref (ad 107), .int 1, .int vw, .int 0]) := by rw [← eg_10]; exact va_up_self _ _ _
  refine lv_aload_n hx hb dX5_lay_18 rfl (lv_at hl 0 rfl) ?_
  refine lv_iload_n hx hb dX5_lay_19 rfl (lv_at hl 2 rfl) ?_
  refine q_put X iX5_lay_5 tyX5 tyX5_ok nmX5 hP hj hA hS (by decide) h_12 rfl 3 (by decide) (List.mem_of_getElem? (i := 8) rfl) rfl (ty := .int) (v := .int vn) (by decide +kernel) rfl rfl (Nat.le_of_ble_eq_true rfl) dX5_lay_20 (fun H locs hP hS => ?_)
  generalize eg_13 : va_up g_10 106 _ = g_13 at hP
  have hfr_14 : ∀ j, (j ≠ 106 ∧ j ≠ 106 + 1) → g_13 j = g j := fun j hj => by rw [← eg_13]; exact (va_up_ne _ _ (by omega)).trans (hfr_11 j hj)
  have h_15 : g_13 106 = .inr (5, [.ref (ad 107), .int 1, .int vw, .int vn]) := by rw [← eg_13]; exact va_up_self _ _ _
  exact q_vret X hP hS hfr_14 dX5_lay_23

set_option maxHeartbeats 4000000 in
set_option maxRecDepth 100000 in
theorem k_lay1 (l : Launch) (D : va_G) (cs : Nat → ClassId) (ad : Nat → Nat) (hj : wJ ad nW) (g : Nat → va_E) (vw : Int32) (vn : Int32) (h108 : g 108 = .inr (5, [.ref (ad 109), .int 0, .int 0, .int 0])) (h109 : g 109 = .inl (cs 2, 60, .inr (.inl (fun _ => 0)))) : cV l yX5_lay vX5_lay { frames := 1, cells := 0, slots := 0, locals := 24 } D cs ad nW [.ref (ad 108), .int vw, .int vn] g (fun g2 => ∀ j, (j ≠ 108 ∧ j ≠ 108 + 1) → g2 j = g j) := by
  refine Met.start (cc := cX5_lay) (maxL := 3) (ret := none) RX5 rfl (by decide) rfl (Nat.le_of_ble_eq_true rfl) ?_
  intro p e s m below meth c ls X hP hl
  have hx := X.1
  have hb := X.2.1
  have hS : va_S (wA ad nW) s.heap s.heap [] := va_S.rf
  have hA : ∀ i, i < nW → wA ad nW (ad i) := fun i h => ⟨i, h, rfl⟩
  have hfr : ∀ j, (j ≠ 108 ∧ j ≠ 108 + 1) → g j = g j := fun _ _ => rfl
  have hl : lv_has ls 3 [(0, .ref (ad 108)), (1, .int vw), (2, .int vn)] := hl
  refine lv_aload_n hx hb dX5_lay_0 rfl (lv_at hl 0 rfl) ?_
  refine q_get X iX5_lay_5 hP (by decide) h108 rfl 0 (by decide) (List.mem_of_getElem? (i := 1) rfl) (v := .ref (ad 109)) rfl dX5_lay_1 ?_
  refine lv_lconst (v := 0) hx hb dX5_lay_4 (by decide) ?_
  refine q_callSv (As := [.ref (ad 109), .long 0]) (rest := []) X (k_fill1 l D cs ad hj g 0 h109) (va_cwS 2 X.2.2.2.2.1 gg_X5_lay_J7_fill_d0a16 rfl rfl rfl (by decide +kernel) ⟨Nat.le_of_ble_eq_true rfl, Nat.le_of_ble_eq_true rfl⟩) hP hA hS rfl hl.1 rfl (Nat.le_of_ble_eq_true rfl) dX5_lay_5 ⟨Nat.le_of_ble_eq_true rfl, Nat.le_of_ble_eq_true rfl⟩ (fun g_2 H locs hw_1 hP hS => ?_)
  have hf_4 := hw_1
  have hfr_5 : ∀ j, (j ≠ 108 ∧ j ≠ 108 + 1) → g_2 j = g j := fun j hj => (hf_4 j (by omega)).trans (hfr j hj)
  have h_6 : g_2 108 = .inr (5, [.ref (ad 109), .int 0, .int 0, .int 0]) := (hf_4 108 (by decide)).trans h108
  refine lv_aload_n hx hb dX5_lay_8 rfl (lv_at hl 0 rfl) ?_
  refine lv_iconst (v := 1) hx hb dX5_lay_9 (by decide) ?_
  refine q_put X iX5_lay_5 tyX5 tyX5_ok nmX5 hP hj hA hS (by decide) h_6 rfl 1 (by decide) (List.mem_of_getElem? (i := 6) rfl) rfl (ty := .boolean) (v := .int 1) (by decide +kernel) rfl rfl (Nat.le_of_ble_eq_true rfl) dX5_lay_10 (fun H locs hP hS => ?_)
  generalize eg_7 : va_up g_2 108 _ = g_7 at hP
  have hfr_8 : ∀ j, (j ≠ 108 ∧ j ≠ 108 + 1) → g_7 j = g j := fun j hj => by rw [← eg_7]; exact (va_up_ne _ _ (by omega)).trans (hfr_5 j hj)
  have h_9 : g_7 108 = .inr (5, [.ref (ad 109), .int 1, .int 0, .int 0]) := by rw [← eg_7]; exact va_up_self _ _ _
  refine lv_aload_n hx hb dX5_lay_13 rfl (lv_at hl 0 rfl) ?_
  refine lv_iload_n hx hb dX5_lay_14 rfl (lv_at hl 1 rfl) ?_
  refine q_put X iX5_lay_5 tyX5 tyX5_ok nmX5 hP hj hA hS (by decide) h_9 rfl 2 (by decide) (List.mem_of_getElem? (i := 7) rfl) rfl (ty := .int) (v := .int vw) (by decide +kernel) rfl rfl (Nat.le_of_ble_eq_true rfl) dX5_lay_15 (fun H locs hP hS => ?_)
  generalize eg_10 : va_up g_7 108 _ = g_10 at hP
  have hfr_11 : ∀ j, (j ≠ 108 ∧ j ≠ 108 + 1) → g_10 j = g j := fun j hj => by rw [← eg_10]; exact (va_up_ne _ _ (by omega)).trans (hfr_8 j hj)
  have h_12 : g_10 108 = .inr (5, [.ref (ad 109), .int 1, .int vw, .int 0]) := by rw [← eg_10]; exact va_up_self _ _ _
  refine lv_aload_n hx hb dX5_lay_18 rfl (lv_at hl 0 rfl) ?_
  refine lv_iload_n hx hb dX5_lay_19 rfl (lv_at hl 2 rfl) ?_
  refine q_put X iX5_lay_5 tyX5 tyX5_ok nmX5 hP hj hA hS (by decide) h_12 rfl 3 (by decide) (List.mem_of_getElem? (i := 8) rfl) rfl (ty := .int) (v := .int vn) (by decide +kernel) rfl rfl (Nat.le_of_ble_eq_true rfl) dX5_lay_20 (fun H locs hP hS => ?_)
  generalize eg_13 : va_up g_10 108 _ = g_13 at hP
  have hfr_14 : ∀ j, (j ≠ 108 ∧ j ≠ 108 + 1) → g_13 j = g j := fun j hj => by rw [← eg_13]; exact (va_up_ne _ _ (by omega)).trans (hfr_11 j hj)
  have h_15 : g_13 108 = .inr (5, [.ref (ad 109), .int 1, .int vw, .int vn]) := by rw [← eg_13]; exact va_up_self _ _ _
  exact q_vret X hP hS hfr_14 dX5_lay_23

set_option maxHeartbeats 4000000 in
set_option maxRecDepth 100000 in
theorem k_lay2 (l : Launch) (D : va_G) (cs : Nat → ClassId) (ad : Nat → Nat) (hj : wJ ad nW) (g : Nat → va_E) (vw : Int32) (vn : Int32) (h110 : g 110 = .inr (5, [.ref (ad 111), .int 0, .int 0, .int 0])) (h111 : g 111 = .inl (cs 2, 60, .inr (.inl (fun _ => 0)))) : cV l yX5_lay vX5_lay { frames := 1, cells := 0, slots := 0, locals := 24 } D cs ad nW [.ref (ad 110), .int vw, .int vn] g (fun g2 => ∀ j, (j ≠ 110 ∧ j ≠ 110 + 1) → g2 j = g j) := by
  refine Met.start (cc := cX5_lay) (maxL := 3) (ret := none) RX5 rfl (by decide) rfl (Nat.le_of_ble_eq_true rfl) ?_
  intro p e s m below meth c ls X hP hl
  have hx := X.1
  have hb := X.2.1
  have hS : va_S (wA ad nW) s.heap s.heap [] := va_S.rf
  have hA : ∀ i, i < nW → wA ad nW (ad i) := fun i h => ⟨i, h, rfl⟩
  have hfr : ∀ j, (j ≠ 110 ∧ j ≠ 110 + 1) → g j = g j := fun _ _ => rfl
  have hl : lv_has ls 3 [(0, .ref (ad 110)), (1, .int vw), (2, .int vn)] := hl
  refine lv_aload_n hx hb dX5_lay_0 rfl (lv_at hl 0 rfl) ?_
  refine q_get X iX5_lay_5 hP (by decide) h110 rfl 0 (by decide) (List.mem_of_getElem? (i := 1) rfl) (v := .ref (ad 111)) rfl dX5_lay_1 ?_
  refine lv_lconst (v := 0) hx hb dX5_lay_4 (by decide) ?_
  refine q_callSv (As := [.ref (ad 111), .long 0]) (rest := []) X (k_fill2 l D cs ad hj g 0 h111) (va_cwS 2 X.2.2.2.2.1 gg_X5_lay_J7_fill_d0a16 rfl rfl rfl (by decide +kernel) ⟨Nat.le_of_ble_eq_true rfl, Nat.le_of_ble_eq_true rfl⟩) hP hA hS rfl hl.1 rfl (Nat.le_of_ble_eq_true rfl) dX5_lay_5 ⟨Nat.le_of_ble_eq_true rfl, Nat.le_of_ble_eq_true rfl⟩ (fun g_2 H locs hw_1 hP hS => ?_)
  have hf_4 := hw_1
  have hfr_5 : ∀ j, (j ≠ 110 ∧ j ≠ 110 + 1) → g_2 j = g j := fun j hj => (hf_4 j (by omega)).trans (hfr j hj)
  have h_6 : g_2 110 = .inr (5, [.ref (ad 111), .int 0, .int 0, .int 0]) := (hf_4 110 (by decide)).trans h110
  refine lv_aload_n hx hb dX5_lay_8 rfl (lv_at hl 0 rfl) ?_
  refine lv_iconst (v := 1) hx hb dX5_lay_9 (by decide) ?_
  refine q_put X iX5_lay_5 tyX5 tyX5_ok nmX5 hP hj hA hS (by decide) h_6 rfl 1 (by decide) (List.mem_of_getElem? (i := 6) rfl) rfl (ty := .boolean) (v := .int 1) (by decide +kernel) rfl rfl (Nat.le_of_ble_eq_true rfl) dX5_lay_10 (fun H locs hP hS => ?_)
  generalize eg_7 : va_up g_2 110 _ = g_7 at hP
  have hfr_8 : ∀ j, (j ≠ 110 ∧ j ≠ 110 + 1) → g_7 j = g j := fun j hj => by rw [← eg_7]; exact (va_up_ne _ _ (by omega)).trans (hfr_5 j hj)
  have h_9 : g_7 110 = .inr (5, [.ref (ad 111), .int 1, .int 0, .int 0]) := by rw [← eg_7]; exact va_up_self _ _ _
  refine lv_aload_n hx hb dX5_lay_13 rfl (lv_at hl 0 rfl) ?_
  refine lv_iload_n hx hb dX5_lay_14 rfl (lv_at hl 1 rfl) ?_
  refine q_put X iX5_lay_5 tyX5 tyX5_ok nmX5 hP hj hA hS (by decide) h_9 rfl 2 (by decide) (List.mem_of_getElem? (i := 7) rfl) rfl (ty := .int) (v := .int vw) (by decide +kernel) rfl rfl (Nat.le_of_ble_eq_true rfl) dX5_lay_15 (fun H locs hP hS => ?_)
  generalize eg_10 : va_up g_7 110 _ = g_10 at hP
  have hfr_11 : ∀ j, (j ≠ 110 ∧ j ≠ 110 + 1) → g_10 j = g j := fun j hj => by rw [← eg_10]; exact (va_up_ne _ _ (by omega)).trans (hfr_8 j hj)
  have h_12 : g_10 110 = .inr (5, [.ref (ad 111), .int 1, .int vw, .int 0]) := by rw [← eg_10]; exact va_up_self _ _ _
  refine lv_aload_n hx hb dX5_lay_18 rfl (lv_at hl 0 rfl) ?_
  refine lv_iload_n hx hb dX5_lay_19 rfl (lv_at hl 2 rfl) ?_
  refine q_put X iX5_lay_5 tyX5 tyX5_ok nmX5 hP hj hA hS (by decide) h_12 rfl 3 (by decide) (List.mem_of_getElem? (i := 8) rfl) rfl (ty := .int) (v := .int vn) (by decide +kernel) rfl rfl (Nat.le_of_ble_eq_true rfl) dX5_lay_20 (fun H locs hP hS => ?_)
  generalize eg_13 : va_up g_10 110 _ = g_13 at hP
  have hfr_14 : ∀ j, (j ≠ 110 ∧ j ≠ 110 + 1) → g_13 j = g j := fun j hj => by rw [← eg_13]; exact (va_up_ne _ _ (by omega)).trans (hfr_11 j hj)
  have h_15 : g_13 110 = .inr (5, [.ref (ad 111), .int 1, .int vw, .int vn]) := by rw [← eg_13]; exact va_up_self _ _ _
  exact q_vret X hP hS hfr_14 dX5_lay_23

set_option maxHeartbeats 4000000 in
set_option maxRecDepth 100000 in
theorem k_lay3 (l : Launch) (D : va_G) (cs : Nat → ClassId) (ad : Nat → Nat) (hj : wJ ad nW) (g : Nat → va_E) (vw : Int32) (vn : Int32) (h112 : g 112 = .inr (5, [.ref (ad 113), .int 0, .int 0, .int 0])) (h113 : g 113 = .inl (cs 2, 60, .inr (.inl (fun _ => 0)))) : cV l yX5_lay vX5_lay { frames := 1, cells := 0, slots := 0, locals := 24 } D cs ad nW [.ref (ad 112), .int vw, .int vn] g (fun g2 => ∀ j, (j ≠ 112 ∧ j ≠ 112 + 1) → g2 j = g j) := by
  refine Met.start (cc := cX5_lay) (maxL := 3) (ret := none) RX5 rfl (by decide) rfl (Nat.le_of_ble_eq_true rfl) ?_
  intro p e s m below meth c ls X hP hl
  have hx := X.1
  have hb := X.2.1
  have hS : va_S (wA ad nW) s.heap s.heap [] := va_S.rf
  have hA : ∀ i, i < nW → wA ad nW (ad i) := fun i h => ⟨i, h, rfl⟩
  have hfr : ∀ j, (j ≠ 112 ∧ j ≠ 112 + 1) → g j = g j := fun _ _ => rfl
  have hl : lv_has ls 3 [(0, .ref (ad 112)), (1, .int vw), (2, .int vn)] := hl
  refine lv_aload_n hx hb dX5_lay_0 rfl (lv_at hl 0 rfl) ?_
  refine q_get X iX5_lay_5 hP (by decide) h112 rfl 0 (by decide) (List.mem_of_getElem? (i := 1) rfl) (v := .ref (ad 113)) rfl dX5_lay_1 ?_
  refine lv_lconst (v := 0) hx hb dX5_lay_4 (by decide) ?_
  refine q_callSv (As := [.ref (ad 113), .long 0]) (rest := []) X (k_fill3 l D cs ad hj g 0 h113) (va_cwS 2 X.2.2.2.2.1 gg_X5_lay_J7_fill_d0a16 rfl rfl rfl (by decide +kernel) ⟨Nat.le_of_ble_eq_true rfl, Nat.le_of_ble_eq_true rfl⟩) hP hA hS rfl hl.1 rfl (Nat.le_of_ble_eq_true rfl) dX5_lay_5 ⟨Nat.le_of_ble_eq_true rfl, Nat.le_of_ble_eq_true rfl⟩ (fun g_2 H locs hw_1 hP hS => ?_)
  have hf_4 := hw_1
  have hfr_5 : ∀ j, (j ≠ 112 ∧ j ≠ 112 + 1) → g_2 j = g j := fun j hj => (hf_4 j (by omega)).trans (hfr j hj)
  have h_6 : g_2 112 = .inr (5, [.ref (ad 113), .int 0, .int 0, .int 0]) := (hf_4 112 (by decide)).trans h112
  refine lv_aload_n hx hb dX5_lay_8 rfl (lv_at hl 0 rfl) ?_
  refine lv_iconst (v := 1) hx hb dX5_lay_9 (by decide) ?_
  refine q_put X iX5_lay_5 tyX5 tyX5_ok nmX5 hP hj hA hS (by decide) h_6 rfl 1 (by decide) (List.mem_of_getElem? (i := 6) rfl) rfl (ty := .boolean) (v := .int 1) (by decide +kernel) rfl rfl (Nat.le_of_ble_eq_true rfl) dX5_lay_10 (fun H locs hP hS => ?_)
  generalize eg_7 : va_up g_2 112 _ = g_7 at hP
  have hfr_8 : ∀ j, (j ≠ 112 ∧ j ≠ 112 + 1) → g_7 j = g j := fun j hj => by rw [← eg_7]; exact (va_up_ne _ _ (by omega)).trans (hfr_5 j hj)
  have h_9 : g_7 112 = .inr (5, [.ref (ad 113), .int 1, .int 0, .int 0]) := by rw [← eg_7]; exact va_up_self _ _ _
  refine lv_aload_n hx hb dX5_lay_13 rfl (lv_at hl 0 rfl) ?_
  refine lv_iload_n hx hb dX5_lay_14 rfl (lv_at hl 1 rfl) ?_
  refine q_put X iX5_lay_5 tyX5 tyX5_ok nmX5 hP hj hA hS (by decide) h_9 rfl 2 (by decide) (List.mem_of_getElem? (i := 7) rfl) rfl (ty := .int) (v := .int vw) (by decide +kernel) rfl rfl (Nat.le_of_ble_eq_true rfl) dX5_lay_15 (fun H locs hP hS => ?_)
  generalize eg_10 : va_up g_7 112 _ = g_10 at hP
  have hfr_11 : ∀ j, (j ≠ 112 ∧ j ≠ 112 + 1) → g_10 j = g j := fun j hj => by rw [← eg_10]; exact (va_up_ne _ _ (by omega)).trans (hfr_8 j hj)
  have h_12 : g_10 112 = .inr (5, [.ref (ad 113), .int 1, .int vw, .int 0]) := by rw [← eg_10]; exact va_up_self _ _ _
  refine lv_aload_n hx hb dX5_lay_18 rfl (lv_at hl 0 rfl) ?_
  refine lv_iload_n hx hb dX5_lay_19 rfl (lv_at hl 2 rfl) ?_
  refine q_put X iX5_lay_5 tyX5 tyX5_ok nmX5 hP hj hA hS (by decide) h_12 rfl 3 (by decide) (List.mem_of_getElem? (i := 8) rfl) rfl (ty := .int) (v := .int vn) (by decide +kernel) rfl rfl (Nat.le_of_ble_eq_true rfl) dX5_lay_20 (fun H locs hP hS => ?_)
  generalize eg_13 : va_up g_10 112 _ = g_13 at hP
  have hfr_14 : ∀ j, (j ≠ 112 ∧ j ≠ 112 + 1) → g_13 j = g j := fun j hj => by rw [← eg_13]; exact (va_up_ne _ _ (by omega)).trans (hfr_11 j hj)
  have h_15 : g_13 112 = .inr (5, [.ref (ad 113), .int 1, .int vw, .int vn]) := by rw [← eg_13]; exact va_up_self _ _ _
  exact q_vret X hP hS hfr_14 dX5_lay_23

theorem dX11_row_0 : decode cX11_row 0 = .ok (.iload_n 1, 1) := by decide +kernel
theorem dX11_row_1 : decode cX11_row 1 = .ok (.invokestatic 377, 3) := by decide +kernel
theorem dX11_row_4 : decode cX11_row 4 = .ok (.ifCond .eq 18, 3) := by decide +kernel
theorem dX11_row_22 : decode cX11_row 22 = .ok (.bipush (-2), 2) := by decide +kernel
theorem dX11_row_24 : decode cX11_row 24 = .ok (.ireturn, 1) := by decide +kernel
theorem dX11_row_7 : decode cX11_row 7 = .ok (.iload_n 2, 1) := by decide +kernel
theorem dX11_row_8 : decode cX11_row 8 = .ok (.ifCond .lt 14, 3) := by decide +kernel
theorem dX11_row_11 : decode cX11_row 11 = .ok (.iload_n 2, 1) := by decide +kernel
theorem dX11_row_12 : decode cX11_row 12 = .ok (.iconst 4, 1) := by decide +kernel
theorem dX11_row_13 : decode cX11_row 13 = .ok (.if_icmp .ge 9, 3) := by decide +kernel
theorem dX11_row_16 : decode cX11_row 16 = .ok (.iload_n 3, 1) := by decide +kernel
theorem dX11_row_17 : decode cX11_row 17 = .ok (.bipush 60, 2) := by decide +kernel
theorem dX11_row_19 : decode cX11_row 19 = .ok (.if_icmp .le 6, 3) := by decide +kernel
theorem dX11_row_25 : decode cX11_row 25 = .ok (.iload_n 3, 1) := by decide +kernel
theorem dX11_row_26 : decode cX11_row 26 = .ok (.ifCond .ge 6, 3) := by decide +kernel
theorem dX11_row_32 : decode cX11_row 32 = .ok (.aload_n 0, 1) := by decide +kernel
theorem dX11_row_33 : decode cX11_row 33 = .ok (.getfield 36, 3) := by decide +kernel
theorem dX11_row_36 : decode cX11_row 36 = .ok (.iload_n 1, 1) := by decide +kernel
theorem dX11_row_37 : decode cX11_row 37 = .ok (.aaload, 1) := by decide +kernel
theorem dX11_row_38 : decode cX11_row 38 = .ok (.iload_n 2, 1) := by decide +kernel
theorem dX11_row_39 : decode cX11_row 39 = .ok (.iload_n 3, 1) := by decide +kernel
theorem dX11_row_40 : decode cX11_row 40 = .ok (.invokevirtual 380, 3) := by decide +kernel
theorem dX11_row_43 : decode cX11_row 43 = .ok (.iconst 0, 1) := by decide +kernel
theorem dX11_row_44 : decode cX11_row 44 = .ok (.ireturn, 1) := by decide +kernel
theorem dX11_row_29 : decode cX11_row 29 = .ok (.bipush (-3), 2) := by decide +kernel
theorem dX11_row_31 : decode cX11_row 31 = .ok (.ireturn, 1) := by decide +kernel
def vX11_row : List Cond := .code yX11_row cX11_row 4 (some .int) :: ([.methodLink RX11 377 yX11_isSlot, .static yX11_isSlot, .initialized RX11, .code yX11_isSlot cX11_isSlot 1 (some .boolean), .fieldLink RX11 36 "IcicleClock" "slots" "[LIcicleClock$Slot;", .methodLink RX11 380 yX5_lay, .instanceMethod yX5_lay, .selects RX5 yX5_lay yX5_lay, .initialized RX5, .code yX5_lay cX5_lay 3 none, .fieldLink RX5 9 "IcicleClock$Slot" "numbers" "[J", .methodLink RX5 15 yJ7_fill_d0a16, .static yJ7_fill_d0a16, .initialized RJ7, .code yJ7_fill_d0a16 cJ7_fill_d0a16 5 none, .fieldLink RX5 21 "IcicleClock$Slot" "laid" "Z", .fieldLink RX5 25 "IcicleClock$Slot" "width" "I", .fieldLink RX5 29 "IcicleClock$Slot" "held" "I"] ++ wsX110 ++ wsX50)
theorem iX11_row_11 : ∀ w ∈ wsX110, w ∈ vX11_row := fun _ h => List.mem_cons_of_mem _ (List.mem_append_left _ (List.mem_append_right _ h))
theorem iX11_row_5 : ∀ w ∈ wsX50, w ∈ vX11_row := fun _ h => List.mem_cons_of_mem _ (List.mem_append_right _ h)
set_option maxRecDepth 20000 in
theorem gg_X11_row_X11_isSlot : GoodIn vX11_row (wsS RX11 377 yX11_isSlot vX11_isSlot) := goodIn_r _ [1, 2, 3, 4] (by decide +kernel) (by decide +kernel)
set_option maxRecDepth 20000 in
theorem gg_X11_row_X5_lay : GoodIn vX11_row (wsV RX11 380 RX5 yX5_lay vX5_lay) := goodIn_r _ [6, 7, 8, 9, 10, 11, 12, 13, 14, 15, 16, 17, 18, 33, 34, 35, 36] (by decide +kernel) (by decide +kernel)
set_option maxHeartbeats 4000000 in
set_option maxRecDepth 100000 in
theorem k_row (l : Launch) (D : va_G) (cs : Nat → ClassId) (ad : Nat → Nat) (hj : wJ ad nW) (g : Nat → va_E) (vs : Int32) (vw : Int32) (vn : Int32) (h0 : g 0 = .inr (11, [.ref (ad 1), .ref (ad 3), .ref (ad 23), .ref (ad 43), .ref (ad 104), .ref (ad 105), .ref (ad 114), .ref (ad 116), .ref (ad 118), .ref (ad 120), .ref (ad 130), .ref (ad 140), .ref (ad 144), .ref (ad 190)])) (h105 : g 105 = .inl (cs 4, 4, .inr (.inr (.inr (.inr (va_up (va_up (va_up (va_up (fun _ => none) 0 (some (ad 106))) 1 (some (ad 108))) 2 (some (ad 110))) 3 (some (ad 112)))))))) (h106 : g 106 = .inr (5, [.ref (ad 107), .int 0, .int 0, .int 0])) (h108 : g 108 = .inr (5, [.ref (ad 109), .int 0, .int 0, .int 0])) (h110 : g 110 = .inr (5, [.ref (ad 111), .int 0, .int 0, .int 0])) (h112 : g 112 = .inr (5, [.ref (ad 113), .int 0, .int 0, .int 0])) (h107 : g 107 = .inl (cs 2, 60, .inr (.inl (fun _ => 0)))) (h109 : g 109 = .inl (cs 2, 60, .inr (.inl (fun _ => 0)))) (h111 : g 111 = .inl (cs 2, 60, .inr (.inl (fun _ => 0)))) (h113 : g 113 = .inl (cs 2, 60, .inr (.inl (fun _ => 0)))) : cI l yX11_row vX11_row { frames := 2, cells := 0, slots := 0, locals := 46 } D cs ad nW [.ref (ad 0), .int vs, .int vw, .int vn] g (fun r g2 => r = aRow vs vw vn ∧ ∀ j, 197 ≤ j → g2 j = g j) := by
  refine Met.start (cc := cX11_row) (maxL := 4) (ret := (some .int)) RX11 rfl (by decide) rfl (Nat.le_of_ble_eq_true rfl) ?_
  intro p e s m below meth c ls X hP hl
  have hx := X.1
  have hb := X.2.1
  have hS : va_S (wA ad nW) s.heap s.heap [] := va_S.rf
  have hA : ∀ i, i < nW → wA ad nW (ad i) := fun i h => ⟨i, h, rfl⟩
  have hfr : ∀ j, 197 ≤ j → g j = g j := fun _ _ => rfl
  have hl : lv_has ls 4 [(0, .ref (ad 0)), (1, .int vs), (2, .int vw), (3, .int vn)] := hl
  refine lv_iload_n hx hb dX11_row_0 rfl (lv_at hl 1 rfl) ?_
  refine q_callSi (As := [.int vs]) (rest := []) X (k_isSlot l D cs ad hj g vs ) (cwS 1 X.2.2.2.2.1 gg_X11_row_X11_isSlot rfl rfl rfl (by decide +kernel) ⟨Nat.le_of_ble_eq_true rfl, Nat.le_of_ble_eq_true rfl⟩) hP hA hS rfl hl.1 rfl (Nat.le_of_ble_eq_true rfl) dX11_row_1 ⟨Nat.le_of_ble_eq_true rfl, Nat.le_of_ble_eq_true rfl⟩ (fun r_3 g_2 H locs hw_1 hP hS => ?_)
  obtain ⟨hw_1b, hw_1⟩ := hw_1
  rw [hw_1b] at hP
  refine lv_if_eq (tgt := 22) hx hb dX11_row_4 (by decide) (fun hc_4 => ?_) (fun hc_4 => ?_)
  · refine lv_bipush (v := (-2)) hx hb dX11_row_22 (by decide) ?_
    exact q_iret X hP hS ⟨(by first | exact aRow_s (hw_1.elim (fun q => absurd (q.1.symm.trans hc_4) (by decide)) (fun q => q.2)) | exact aRow_w (hw_1.elim (fun q => q.2) (fun q => absurd q.1 hc_4)) (fun q => q.1 hc_8) | exact aRow_w (hw_1.elim (fun q => q.2) (fun q => absurd q.1 hc_4)) (fun q => Int32.not_le.mpr q.2 hc_13) | exact aRow_n (hw_1.elim (fun q => q.2) (fun q => absurd q.1 hc_4)) ⟨hc_8, Int32.not_le.mp hc_13⟩ hc_19), hfr⟩ dX11_row_24
  · refine lv_iload_n hx hb dX11_row_7 rfl (lv_at hl 2 rfl) ?_
    refine lv_if_lt (tgt := 22) hx hb dX11_row_8 (by decide) (fun hc_8 => ?_) (fun hc_8 => ?_)
    · refine lv_bipush (v := (-2)) hx hb dX11_row_22 (by decide) ?_
      exact q_iret X hP hS ⟨(by first | exact aRow_s (hw_1.elim (fun q => absurd (q.1.symm.trans hc_4) (by decide)) (fun q => q.2)) | exact aRow_w (hw_1.elim (fun q => q.2) (fun q => absurd q.1 hc_4)) (fun q => q.1 hc_8) | exact aRow_w (hw_1.elim (fun q => q.2) (fun q => absurd q.1 hc_4)) (fun q => Int32.not_le.mpr q.2 hc_13) | exact aRow_n (hw_1.elim (fun q => q.2) (fun q => absurd q.1 hc_4)) ⟨hc_8, Int32.not_le.mp hc_13⟩ hc_19), hfr⟩ dX11_row_24
    · refine lv_iload_n hx hb dX11_row_11 rfl (lv_at hl 2 rfl) ?_
      refine lv_iconst (v := 4) hx hb dX11_row_12 (by decide) ?_
      refine lv_icmp_ge (tgt := 22) hx hb dX11_row_13 (by decide) (fun hc_13 => ?_) (fun hc_13 => ?_)
      · refine lv_bipush (v := (-2)) hx hb dX11_row_22 (by decide) ?_
        exact q_iret X hP hS ⟨(by first | exact aRow_s (hw_1.elim (fun q => absurd (q.1.symm.trans hc_4) (by decide)) (fun q => q.2)) | exact aRow_w (hw_1.elim (fun q => q.2) (fun q => absurd q.1 hc_4)) (fun q => q.1 hc_8) | exact aRow_w (hw_1.elim (fun q => q.2) (fun q => absurd q.1 hc_4)) (fun q => Int32.not_le.mpr q.2 hc_13) | exact aRow_n (hw_1.elim (fun q => q.2) (fun q => absurd q.1 hc_4)) ⟨hc_8, Int32.not_le.mp hc_13⟩ hc_19), hfr⟩ dX11_row_24
      · refine lv_iload_n hx hb dX11_row_16 rfl (lv_at hl 3 rfl) ?_
        refine lv_bipush (v := 60) hx hb dX11_row_17 (by decide) ?_
        refine lv_icmp_le (tgt := 25) hx hb dX11_row_19 (by decide) (fun hc_19 => ?_) (fun hc_19 => ?_)
        · refine lv_iload_n hx hb dX11_row_25 rfl (lv_at hl 3 rfl) ?_
          refine lv_if_ge (tgt := 32) hx hb dX11_row_26 (by decide) (fun hc_26 => ?_) (fun hc_26 => ?_)
          · rcases inS_4 (hw_1.elim (fun q => q.2) (fun q => absurd q.1 hc_4)) with rfl | rfl | rfl | rfl
            · refine lv_aload_n hx hb dX11_row_32 rfl (lv_at hl 0 rfl) ?_
              refine q_get X iX11_row_11 hP (by decide) h0 rfl 5 (by decide) (List.mem_of_getElem? (i := 5) rfl) (v := .ref (ad 105)) rfl dX11_row_33 ?_
              refine lv_iload_n hx hb dX11_row_36 rfl (lv_at hl 1 rfl) ?_
              refine q_aald X hP 4 rfl (by decide) h105 (by unfold vp_in; decide) (v := ad 106) rfl dX11_row_37 ?_
              refine lv_iload_n hx hb dX11_row_38 rfl (lv_at hl 2 rfl) ?_
              refine lv_iload_n hx hb dX11_row_39 rfl (lv_at hl 3 rfl) ?_
              refine q_callv (q := (RX5, TX5, 4)) (As := [.int vw, .int vn]) (rest := []) X (k_lay0 l D cs ad hj g vw vn h106 h107) (cwV 2 X.2.2.2.2.1 gg_X11_row_X5_lay rfl rfl rfl (by decide +kernel) ⟨Nat.le_of_ble_eq_true rfl, Nat.le_of_ble_eq_true rfl⟩) (by decide) h106 rfl hP hA hS rfl hl.1 rfl (Nat.le_of_ble_eq_true rfl) dX11_row_40 ⟨Nat.le_of_ble_eq_true rfl, Nat.le_of_ble_eq_true rfl⟩ (fun g_5 H locs hw_4 hP hS => ?_)
              have hf_7 := hw_4
              have hfr_8 : ∀ j, 197 ≤ j → g_5 j = g j := fun j hj => (hf_7 j (by omega)).trans (hfr j hj)
              have h_9 : g_5 0 = .inr (11, [.ref (ad 1), .ref (ad 3), .ref (ad 23), .ref (ad 43), .ref (ad 104), .ref (ad 105), .ref (ad 114), .ref (ad 116), .ref (ad 118), .ref (ad 120), .ref (ad 130), .ref (ad 140), .ref (ad 144), .ref (ad 190)]) := (hf_7 0 (by decide)).trans h0
              have h_10 : g_5 105 = .inl (cs 4, 4, .inr (.inr (.inr (.inr (va_up (va_up (va_up (va_up (fun _ => none) 0 (some (ad 106))) 1 (some (ad 108))) 2 (some (ad 110))) 3 (some (ad 112))))))) := (hf_7 105 (by decide)).trans h105
              have h_11 : g_5 108 = .inr (5, [.ref (ad 109), .int 0, .int 0, .int 0]) := (hf_7 108 (by decide)).trans h108
              have h_12 : g_5 110 = .inr (5, [.ref (ad 111), .int 0, .int 0, .int 0]) := (hf_7 110 (by decide)).trans h110
              have h_13 : g_5 112 = .inr (5, [.ref (ad 113), .int 0, .int 0, .int 0]) := (hf_7 112 (by decide)).trans h112
              have h_14 : g_5 109 = .inl (cs 2, 60, .inr (.inl (fun _ => 0))) := (hf_7 109 (by decide)).trans h109
              have h_15 : g_5 111 = .inl (cs 2, 60, .inr (.inl (fun _ => 0))) := (hf_7 111 (by decide)).trans h111
              have h_16 : g_5 113 = .inl (cs 2, 60, .inr (.inl (fun _ => 0))) := (hf_7 113 (by decide)).trans h113
              refine lv_iconst (v := 0) hx hb dX11_row_43 (by decide) ?_
              exact q_iret X hP hS ⟨(aRow_ok ⟨by decide, by decide⟩ ⟨hc_8, Int32.not_le.mp hc_13⟩ hc_19 hc_26), hfr_8⟩ dX11_row_44
            · refine lv_aload_n hx hb dX11_row_32 rfl (lv_at hl 0 rfl) ?_
              refine q_get X iX11_row_11 hP (by decide) h0 rfl 5 (by decide) (List.mem_of_getElem? (i := 5) rfl) (v := .ref (ad 105)) rfl dX11_row_33 ?_
              refine lv_iload_n hx hb dX11_row_36 rfl (lv_at hl 1 rfl) ?_
              refine q_aald X hP 4 rfl (by decide) h105 (by unfold vp_in; decide) (v := ad 108) rfl dX11_row_37 ?_
              refine lv_iload_n hx hb dX11_row_38 rfl (lv_at hl 2 rfl) ?_
              refine lv_iload_n hx hb dX11_row_39 rfl (lv_at hl 3 rfl) ?_
              refine q_callv (q := (RX5, TX5, 4)) (As := [.int vw, .int vn]) (rest := []) X (k_lay1 l D cs ad hj g vw vn h108 h109) (cwV 2 X.2.2.2.2.1 gg_X11_row_X5_lay rfl rfl rfl (by decide +kernel) ⟨Nat.le_of_ble_eq_true rfl, Nat.le_of_ble_eq_true rfl⟩) (by decide) h108 rfl hP hA hS rfl hl.1 rfl (Nat.le_of_ble_eq_true rfl) dX11_row_40 ⟨Nat.le_of_ble_eq_true rfl, Nat.le_of_ble_eq_true rfl⟩ (fun g_18 H locs hw_17 hP hS => ?_)
              have hf_20 := hw_17
              have hfr_21 : ∀ j, 197 ≤ j → g_18 j = g j := fun j hj => (hf_20 j (by omega)).trans (hfr j hj)
              have h_22 : g_18 0 = .inr (11, [.ref (ad 1), .ref (ad 3), .ref (ad 23), .ref (ad 43), .ref (ad 104), .ref (ad 105), .ref (ad 114), .ref (ad 116), .ref (ad 118), .ref (ad 120), .ref (ad 130), .ref (ad 140), .ref (ad 144), .ref (ad 190)]) := (hf_20 0 (by decide)).trans h0
              have h_23 : g_18 105 = .inl (cs 4, 4, .inr (.inr (.inr (.inr (va_up (va_up (va_up (va_up (fun _ => none) 0 (some (ad 106))) 1 (some (ad 108))) 2 (some (ad 110))) 3 (some (ad 112))))))) := (hf_20 105 (by decide)).trans h105
              have h_24 : g_18 106 = .inr (5, [.ref (ad 107), .int 0, .int 0, .int 0]) := (hf_20 106 (by decide)).trans h106
              have h_25 : g_18 110 = .inr (5, [.ref (ad 111), .int 0, .int 0, .int 0]) := (hf_20 110 (by decide)).trans h110
              have h_26 : g_18 112 = .inr (5, [.ref (ad 113), .int 0, .int 0, .int 0]) := (hf_20 112 (by decide)).trans h112
              have h_27 : g_18 107 = .inl (cs 2, 60, .inr (.inl (fun _ => 0))) := (hf_20 107 (by decide)).trans h107
              have h_28 : g_18 111 = .inl (cs 2, 60, .inr (.inl (fun _ => 0))) := (hf_20 111 (by decide)).trans h111
              have h_29 : g_18 113 = .inl (cs 2, 60, .inr (.inl (fun _ => 0))) := (hf_20 113 (by decide)).trans h113
              refine lv_iconst (v := 0) hx hb dX11_row_43 (by decide) ?_
              exact q_iret X hP hS ⟨(aRow_ok ⟨by decide, by decide⟩ ⟨hc_8, Int32.not_le.mp hc_13⟩ hc_19 hc_26), hfr_21⟩ dX11_row_44
            · refine lv_aload_n hx hb dX11_row_32 rfl (lv_at hl 0 rfl) ?_
              refine q_get X iX11_row_11 hP (by decide) h0 rfl 5 (by decide) (List.mem_of_getElem? (i := 5) rfl) (v := .ref (ad 105)) rfl dX11_row_33 ?_
              refine lv_iload_n hx hb dX11_row_36 rfl (lv_at hl 1 rfl) ?_
              refine q_aald X hP 4 rfl (by decide) h105 (by unfold vp_in; decide) (v := ad 110) rfl dX11_row_37 ?_
              refine lv_iload_n hx hb dX11_row_38 rfl (lv_at hl 2 rfl) ?_
              refine lv_iload_n hx hb dX11_row_39 rfl (lv_at hl 3 rfl) ?_
              refine q_callv (q := (RX5, TX5, 4)) (As := [.int vw, .int vn]) (rest := []) X (k_lay2 l D cs ad hj g vw vn h110 h111) (cwV 2 X.2.2.2.2.1 gg_X11_row_X5_lay rfl rfl rfl (by decide +kernel) ⟨Nat.le_of_ble_eq_true rfl, Nat.le_of_ble_eq_true rfl⟩) (by decide) h110 rfl hP hA hS rfl hl.1 rfl (Nat.le_of_ble_eq_true rfl) dX11_row_40 ⟨Nat.le_of_ble_eq_true rfl, Nat.le_of_ble_eq_true rfl⟩ (fun g_31 H locs hw_30 hP hS => ?_)
              have hf_33 := hw_30
              have hfr_34 : ∀ j, 197 ≤ j → g_31 j = g j := fun j hj => (hf_33 j (by omega)).trans (hfr j hj)
              have h_35 : g_31 0 = .inr (11, [.ref (ad 1), .ref (ad 3), .ref (ad 23), .ref (ad 43), .ref (ad 104), .ref (ad 105), .ref (ad 114), .ref (ad 116), .ref (ad 118), .ref (ad 120), .ref (ad 130), .ref (ad 140), .ref (ad 144), .ref (ad 190)]) := (hf_33 0 (by decide)).trans h0
              have h_36 : g_31 105 = .inl (cs 4, 4, .inr (.inr (.inr (.inr (va_up (va_up (va_up (va_up (fun _ => none) 0 (some (ad 106))) 1 (some (ad 108))) 2 (some (ad 110))) 3 (some (ad 112))))))) := (hf_33 105 (by decide)).trans h105
              have h_37 : g_31 106 = .inr (5, [.ref (ad 107), .int 0, .int 0, .int 0]) := (hf_33 106 (by decide)).trans h106
              have h_38 : g_31 108 = .inr (5, [.ref (ad 109), .int 0, .int 0, .int 0]) := (hf_33 108 (by decide)).trans h108
              have h_39 : g_31 112 = .inr (5, [.ref (ad 113), .int 0, .int 0, .int 0]) := (hf_33 112 (by decide)).trans h112
              have h_40 : g_31 107 = .inl (cs 2, 60, .inr (.inl (fun _ => 0))) := (hf_33 107 (by decide)).trans h107
              have h_41 : g_31 109 = .inl (cs 2, 60, .inr (.inl (fun _ => 0))) := (hf_33 109 (by decide)).trans h109
              have h_42 : g_31 113 = .inl (cs 2, 60, .inr (.inl (fun _ => 0))) := (hf_33 113 (by decide)).trans h113
              refine lv_iconst (v := 0) hx hb dX11_row_43 (by decide) ?_
              exact q_iret X hP hS ⟨(aRow_ok ⟨by decide, by decide⟩ ⟨hc_8, Int32.not_le.mp hc_13⟩ hc_19 hc_26), hfr_34⟩ dX11_row_44
            · refine lv_aload_n hx hb dX11_row_32 rfl (lv_at hl 0 rfl) ?_
              refine q_get X iX11_row_11 hP (by decide) h0 rfl 5 (by decide) (List.mem_of_getElem? (i := 5) rfl) (v := .ref (ad 105)) rfl dX11_row_33 ?_
              refine lv_iload_n hx hb dX11_row_36 rfl (lv_at hl 1 rfl) ?_
              refine q_aald X hP 4 rfl (by decide) h105 (by unfold vp_in; decide) (v := ad 112) rfl dX11_row_37 ?_
              refine lv_iload_n hx hb dX11_row_38 rfl (lv_at hl 2 rfl) ?_
              refine lv_iload_n hx hb dX11_row_39 rfl (lv_at hl 3 rfl) ?_
              refine q_callv (q := (RX5, TX5, 4)) (As := [.int vw, .int vn]) (rest := []) X (k_lay3 l D cs ad hj g vw vn h112 h113) (cwV 2 X.2.2.2.2.1 gg_X11_row_X5_lay rfl rfl rfl (by decide +kernel) ⟨Nat.le_of_ble_eq_true rfl, Nat.le_of_ble_eq_true rfl⟩) (by decide) h112 rfl hP hA hS rfl hl.1 rfl (Nat.le_of_ble_eq_true rfl) dX11_row_40 ⟨Nat.le_of_ble_eq_true rfl, Nat.le_of_ble_eq_true rfl⟩ (fun g_44 H locs hw_43 hP hS => ?_)
              have hf_46 := hw_43
              have hfr_47 : ∀ j, 197 ≤ j → g_44 j = g j := fun j hj => (hf_46 j (by omega)).trans (hfr j hj)
              have h_48 : g_44 0 = .inr (11, [.ref (ad 1), .ref (ad 3), .ref (ad 23), .ref (ad 43), .ref (ad 104), .ref (ad 105), .ref (ad 114), .ref (ad 116), .ref (ad 118), .ref (ad 120), .ref (ad 130), .ref (ad 140), .ref (ad 144), .ref (ad 190)]) := (hf_46 0 (by decide)).trans h0
              have h_49 : g_44 105 = .inl (cs 4, 4, .inr (.inr (.inr (.inr (va_up (va_up (va_up (va_up (fun _ => none) 0 (some (ad 106))) 1 (some (ad 108))) 2 (some (ad 110))) 3 (some (ad 112))))))) := (hf_46 105 (by decide)).trans h105
              have h_50 : g_44 106 = .inr (5, [.ref (ad 107), .int 0, .int 0, .int 0]) := (hf_46 106 (by decide)).trans h106
              have h_51 : g_44 108 = .inr (5, [.ref (ad 109), .int 0, .int 0, .int 0]) := (hf_46 108 (by decide)).trans h108
              have h_52 : g_44 110 = .inr (5, [.ref (ad 111), .int 0, .int 0, .int 0]) := (hf_46 110 (by decide)).trans h110
              have h_53 : g_44 107 = .inl (cs 2, 60, .inr (.inl (fun _ => 0))) := (hf_46 107 (by decide)).trans h107
              have h_54 : g_44 109 = .inl (cs 2, 60, .inr (.inl (fun _ => 0))) := (hf_46 109 (by decide)).trans h109
              have h_55 : g_44 111 = .inl (cs 2, 60, .inr (.inl (fun _ => 0))) := (hf_46 111 (by decide)).trans h111
              refine lv_iconst (v := 0) hx hb dX11_row_43 (by decide) ?_
              exact q_iret X hP hS ⟨(aRow_ok ⟨by decide, by decide⟩ ⟨hc_8, Int32.not_le.mp hc_13⟩ hc_19 hc_26), hfr_47⟩ dX11_row_44
          · refine lv_bipush (v := (-3)) hx hb dX11_row_29 (by decide) ?_
            exact q_iret X hP hS ⟨(aRow_neg (hw_1.elim (fun q => q.2) (fun q => absurd q.1 hc_4)) ⟨hc_8, Int32.not_le.mp hc_13⟩ hc_19 hc_26), hfr⟩ dX11_row_31
        · refine lv_bipush (v := (-2)) hx hb dX11_row_22 (by decide) ?_
          exact q_iret X hP hS ⟨(by first | exact aRow_s (hw_1.elim (fun q => absurd (q.1.symm.trans hc_4) (by decide)) (fun q => q.2)) | exact aRow_w (hw_1.elim (fun q => q.2) (fun q => absurd q.1 hc_4)) (fun q => q.1 hc_8) | exact aRow_w (hw_1.elim (fun q => q.2) (fun q => absurd q.1 hc_4)) (fun q => Int32.not_le.mpr q.2 hc_13) | exact aRow_n (hw_1.elim (fun q => q.2) (fun q => absurd q.1 hc_4)) ⟨hc_8, Int32.not_le.mp hc_13⟩ hc_19), hfr⟩ dX11_row_24

theorem dX11_slotsLaid_0 : decode cX11_slotsLaid 0 = .ok (.iconst 0, 1) := by decide +kernel
theorem dX11_slotsLaid_1 : decode cX11_slotsLaid 1 = .ok (.istore_n 1, 1) := by decide +kernel
theorem dX11_slotsLaid_2 : decode cX11_slotsLaid 2 = .ok (.iconst 0, 1) := by decide +kernel
theorem dX11_slotsLaid_3 : decode cX11_slotsLaid 3 = .ok (.istore_n 2, 1) := by decide +kernel
theorem dX11_slotsLaid_4 : decode cX11_slotsLaid 4 = .ok (.iload_n 2, 1) := by decide +kernel
theorem dX11_slotsLaid_5 : decode cX11_slotsLaid 5 = .ok (.iconst 4, 1) := by decide +kernel
theorem dX11_slotsLaid_6 : decode cX11_slotsLaid 6 = .ok (.if_icmp .ge 24, 3) := by decide +kernel
theorem dX11_slotsLaid_9 : decode cX11_slotsLaid 9 = .ok (.aload_n 0, 1) := by decide +kernel
theorem dX11_slotsLaid_10 : decode cX11_slotsLaid 10 = .ok (.getfield 36, 3) := by decide +kernel
theorem dX11_slotsLaid_13 : decode cX11_slotsLaid 13 = .ok (.iload_n 2, 1) := by decide +kernel
theorem dX11_slotsLaid_14 : decode cX11_slotsLaid 14 = .ok (.aaload, 1) := by decide +kernel
theorem dX11_slotsLaid_15 : decode cX11_slotsLaid 15 = .ok (.getfield 384, 3) := by decide +kernel
theorem dX11_slotsLaid_18 : decode cX11_slotsLaid 18 = .ok (.ifCond .eq 6, 3) := by decide +kernel
theorem dX11_slotsLaid_24 : decode cX11_slotsLaid 24 = .ok (.iinc 2 1, 3) := by decide +kernel
theorem dX11_slotsLaid_27 : decode cX11_slotsLaid 27 = .ok (.goto (-23), 3) := by decide +kernel
theorem dX11_slotsLaid_30 : decode cX11_slotsLaid 30 = .ok (.iload_n 1, 1) := by decide +kernel
theorem dX11_slotsLaid_31 : decode cX11_slotsLaid 31 = .ok (.ireturn, 1) := by decide +kernel
def vX11_slotsLaid : List Cond := .code yX11_slotsLaid cX11_slotsLaid 3 (some .int) :: ([.fieldLink RX11 36 "IcicleClock" "slots" "[LIcicleClock$Slot;", .fieldLink RX11 384 "IcicleClock$Slot" "laid" "Z"] ++ wsX110 ++ wsX50)
theorem iX11_slotsLaid_11 : ∀ w ∈ wsX110, w ∈ vX11_slotsLaid := fun _ h => List.mem_cons_of_mem _ (List.mem_append_left _ (List.mem_append_right _ h))
theorem iX11_slotsLaid_5 : ∀ w ∈ wsX50, w ∈ vX11_slotsLaid := fun _ h => List.mem_cons_of_mem _ (List.mem_append_right _ h)
set_option maxHeartbeats 4000000 in
set_option maxRecDepth 100000 in
theorem k_slotsLaid (l : Launch) (D : va_G) (cs : Nat → ClassId) (ad : Nat → Nat) (hj : wJ ad nW) (g : Nat → va_E) (h0 : g 0 = .inr (11, [.ref (ad 1), .ref (ad 3), .ref (ad 23), .ref (ad 43), .ref (ad 104), .ref (ad 105), .ref (ad 114), .ref (ad 116), .ref (ad 118), .ref (ad 120), .ref (ad 130), .ref (ad 140), .ref (ad 144), .ref (ad 190)])) (h105 : g 105 = .inl (cs 4, 4, .inr (.inr (.inr (.inr (va_up (va_up (va_up (va_up (fun _ => none) 0 (some (ad 106))) 1 (some (ad 108))) 2 (some (ad 110))) 3 (some (ad 112)))))))) (h106 : g 106 = .inr (5, [.ref (ad 107), .int 0, .int 0, .int 0])) (h108 : g 108 = .inr (5, [.ref (ad 109), .int 0, .int 0, .int 0])) (h110 : g 110 = .inr (5, [.ref (ad 111), .int 0, .int 0, .int 0])) (h112 : g 112 = .inr (5, [.ref (ad 113), .int 0, .int 0, .int 0])) : cI l yX11_slotsLaid vX11_slotsLaid { frames := 0, cells := 0, slots := 0, locals := 0 } D cs ad nW [.ref (ad 0)] g (fun r g2 => r = 0 ∧ g2 = g) := by
  refine Met.start (cc := cX11_slotsLaid) (maxL := 3) (ret := (some .int)) RX11 rfl (by decide) rfl (Nat.le_of_ble_eq_true rfl) ?_
  intro p e s m below meth c ls X hP hl
  have hx := X.1
  have hb := X.2.1
  have hS : va_S (wA ad nW) s.heap s.heap [] := va_S.rf
  have hA : ∀ i, i < nW → wA ad nW (ad i) := fun i h => ⟨i, h, rfl⟩
  have hl : lv_has ls 3 [(0, .ref (ad 0))] := hl
  refine lv_iconst (v := 0) hx hb dX11_slotsLaid_0 (by decide) ?_
  refine lv_istore_n (lv' := [(1, .int 0), (0, .ref (ad 0))]) hx hb dX11_slotsLaid_1 rfl hl (by decide) rfl (fun ls hl => ?_)
  refine lv_iconst (v := 0) hx hb dX11_slotsLaid_2 (by decide) ?_
  refine lv_istore_n (lv' := [(2, .int 0), (1, .int 0), (0, .ref (ad 0))]) hx hb dX11_slotsLaid_3 rfl hl (by decide) rfl (fun ls hl => ?_)
  refine lv_iload_n hx hb dX11_slotsLaid_4 rfl (lv_at hl 0 rfl) ?_
  refine lv_iconst (v := 4) hx hb dX11_slotsLaid_5 (by decide) ?_
  refine lv_icmp_ge (tgt := 30) hx hb dX11_slotsLaid_6 (by decide) (fun h => absurd h (by decide)) (fun _ => ?_)
  refine lv_aload_n hx hb dX11_slotsLaid_9 rfl (lv_at hl 2 rfl) ?_
  refine q_get X iX11_slotsLaid_11 hP (by decide) h0 rfl 5 (by decide) (List.mem_of_getElem? (i := 1) rfl) (v := .ref (ad 105)) rfl dX11_slotsLaid_10 ?_
  refine lv_iload_n hx hb dX11_slotsLaid_13 rfl (lv_at hl 0 rfl) ?_
  refine q_aald X hP 4 rfl (by decide) h105 (by unfold vp_in; decide) (v := ad 106) rfl dX11_slotsLaid_14 ?_
  refine q_get X iX11_slotsLaid_5 hP (by decide) h106 rfl 1 (by decide) (List.mem_of_getElem? (i := 2) rfl) (v := .int 0) rfl dX11_slotsLaid_15 ?_
  refine lv_if_eq (tgt := 24) hx hb dX11_slotsLaid_18 (by decide) (fun _ => ?_) (fun h => absurd h (by decide))
  refine lv_iinc (v := 1) (lv' := [(2, .int 1), (1, .int 0), (0, .ref (ad 0))]) hx hb dX11_slotsLaid_24 hl (k := 0) rfl (by decide) (by decide) rfl (fun ls hl => ?_)
  refine lv_goto (tgt := 4) hx hb dX11_slotsLaid_27 (by decide) ?_
  refine lv_iload_n hx hb dX11_slotsLaid_4 rfl (lv_at hl 0 rfl) ?_
  refine lv_iconst (v := 4) hx hb dX11_slotsLaid_5 (by decide) ?_
  refine lv_icmp_ge (tgt := 30) hx hb dX11_slotsLaid_6 (by decide) (fun h => absurd h (by decide)) (fun _ => ?_)
  refine lv_aload_n hx hb dX11_slotsLaid_9 rfl (lv_at hl 2 rfl) ?_
  refine q_get X iX11_slotsLaid_11 hP (by decide) h0 rfl 5 (by decide) (List.mem_of_getElem? (i := 1) rfl) (v := .ref (ad 105)) rfl dX11_slotsLaid_10 ?_
  refine lv_iload_n hx hb dX11_slotsLaid_13 rfl (lv_at hl 0 rfl) ?_
  refine q_aald X hP 4 rfl (by decide) h105 (by unfold vp_in; decide) (v := ad 108) rfl dX11_slotsLaid_14 ?_
  refine q_get X iX11_slotsLaid_5 hP (by decide) h108 rfl 1 (by decide) (List.mem_of_getElem? (i := 2) rfl) (v := .int 0) rfl dX11_slotsLaid_15 ?_
  refine lv_if_eq (tgt := 24) hx hb dX11_slotsLaid_18 (by decide) (fun _ => ?_) (fun h => absurd h (by decide))
  refine lv_iinc (v := 2) (lv' := [(2, .int 2), (1, .int 0), (0, .ref (ad 0))]) hx hb dX11_slotsLaid_24 hl (k := 0) rfl (by decide) (by decide) rfl (fun ls hl => ?_)
  refine lv_goto (tgt := 4) hx hb dX11_slotsLaid_27 (by decide) ?_
  refine lv_iload_n hx hb dX11_slotsLaid_4 rfl (lv_at hl 0 rfl) ?_
  refine lv_iconst (v := 4) hx hb dX11_slotsLaid_5 (by decide) ?_
  refine lv_icmp_ge (tgt := 30) hx hb dX11_slotsLaid_6 (by decide) (fun h => absurd h (by decide)) (fun _ => ?_)
  refine lv_aload_n hx hb dX11_slotsLaid_9 rfl (lv_at hl 2 rfl) ?_
  refine q_get X iX11_slotsLaid_11 hP (by decide) h0 rfl 5 (by decide) (List.mem_of_getElem? (i := 1) rfl) (v := .ref (ad 105)) rfl dX11_slotsLaid_10 ?_
  refine lv_iload_n hx hb dX11_slotsLaid_13 rfl (lv_at hl 0 rfl) ?_
  refine q_aald X hP 4 rfl (by decide) h105 (by unfold vp_in; decide) (v := ad 110) rfl dX11_slotsLaid_14 ?_
  refine q_get X iX11_slotsLaid_5 hP (by decide) h110 rfl 1 (by decide) (List.mem_of_getElem? (i := 2) rfl) (v := .int 0) rfl dX11_slotsLaid_15 ?_
  refine lv_if_eq (tgt := 24) hx hb dX11_slotsLaid_18 (by decide) (fun _ => ?_) (fun h => absurd h (by decide))
  refine lv_iinc (v := 3) (lv' := [(2, .int 3), (1, .int 0), (0, .ref (ad 0))]) hx hb dX11_slotsLaid_24 hl (k := 0) rfl (by decide) (by decide) rfl (fun ls hl => ?_)
  refine lv_goto (tgt := 4) hx hb dX11_slotsLaid_27 (by decide) ?_
  refine lv_iload_n hx hb dX11_slotsLaid_4 rfl (lv_at hl 0 rfl) ?_
  refine lv_iconst (v := 4) hx hb dX11_slotsLaid_5 (by decide) ?_
  refine lv_icmp_ge (tgt := 30) hx hb dX11_slotsLaid_6 (by decide) (fun h => absurd h (by decide)) (fun _ => ?_)
  refine lv_aload_n hx hb dX11_slotsLaid_9 rfl (lv_at hl 2 rfl) ?_
  refine q_get X iX11_slotsLaid_11 hP (by decide) h0 rfl 5 (by decide) (List.mem_of_getElem? (i := 1) rfl) (v := .ref (ad 105)) rfl dX11_slotsLaid_10 ?_
  refine lv_iload_n hx hb dX11_slotsLaid_13 rfl (lv_at hl 0 rfl) ?_
  refine q_aald X hP 4 rfl (by decide) h105 (by unfold vp_in; decide) (v := ad 112) rfl dX11_slotsLaid_14 ?_
  refine q_get X iX11_slotsLaid_5 hP (by decide) h112 rfl 1 (by decide) (List.mem_of_getElem? (i := 2) rfl) (v := .int 0) rfl dX11_slotsLaid_15 ?_
  refine lv_if_eq (tgt := 24) hx hb dX11_slotsLaid_18 (by decide) (fun _ => ?_) (fun h => absurd h (by decide))
  refine lv_iinc (v := 4) (lv' := [(2, .int 4), (1, .int 0), (0, .ref (ad 0))]) hx hb dX11_slotsLaid_24 hl (k := 0) rfl (by decide) (by decide) rfl (fun ls hl => ?_)
  refine lv_goto (tgt := 4) hx hb dX11_slotsLaid_27 (by decide) ?_
  refine lv_iload_n hx hb dX11_slotsLaid_4 rfl (lv_at hl 0 rfl) ?_
  refine lv_iconst (v := 4) hx hb dX11_slotsLaid_5 (by decide) ?_
  refine lv_icmp_ge (tgt := 30) hx hb dX11_slotsLaid_6 (by decide) (fun _ => ?_) (fun h => absurd h (by decide))
  refine lv_iload_n hx hb dX11_slotsLaid_30 rfl (lv_at hl 1 rfl) ?_
  exact q_iret X hP hS ⟨rfl, rfl⟩ dX11_slotsLaid_31

theorem dX11_count_0 : decode cX11_count 0 = .ok (.iload_n 1, 1) := by decide +kernel
theorem dX11_count_1 : decode cX11_count 1 = .ok (.tableswitch 147 0 10 #[59, 67, 75, 83, 91, 99, 107, 115, 126, 134, 142], 59) := by decide +kernel
theorem dX11_count_148 : decode cX11_count 148 = .ok (.iconst (-1), 1) := by decide +kernel
theorem dX11_count_149 : decode cX11_count 149 = .ok (.ireturn, 1) := by decide +kernel
theorem dX11_count_60 : decode cX11_count 60 = .ok (.aload_n 0, 1) := by decide +kernel
theorem dX11_count_61 : decode cX11_count 61 = .ok (.getfield 19, 3) := by decide +kernel
theorem dX11_count_64 : decode cX11_count 64 = .ok (.getfield 248, 3) := by decide +kernel
theorem dX11_count_67 : decode cX11_count 67 = .ok (.ireturn, 1) := by decide +kernel
theorem dX11_count_68 : decode cX11_count 68 = .ok (.aload_n 0, 1) := by decide +kernel
theorem dX11_count_69 : decode cX11_count 69 = .ok (.getfield 19, 3) := by decide +kernel
theorem dX11_count_72 : decode cX11_count 72 = .ok (.getfield 368, 3) := by decide +kernel
theorem dX11_count_75 : decode cX11_count 75 = .ok (.ireturn, 1) := by decide +kernel
theorem dX11_count_76 : decode cX11_count 76 = .ok (.aload_n 0, 1) := by decide +kernel
theorem dX11_count_77 : decode cX11_count 77 = .ok (.getfield 19, 3) := by decide +kernel
theorem dX11_count_80 : decode cX11_count 80 = .ok (.getfield 371, 3) := by decide +kernel
theorem dX11_count_83 : decode cX11_count 83 = .ok (.ireturn, 1) := by decide +kernel
theorem dX11_count_84 : decode cX11_count 84 = .ok (.aload_n 0, 1) := by decide +kernel
theorem dX11_count_85 : decode cX11_count 85 = .ok (.getfield 19, 3) := by decide +kernel
theorem dX11_count_88 : decode cX11_count 88 = .ok (.getfield 177, 3) := by decide +kernel
theorem dX11_count_91 : decode cX11_count 91 = .ok (.ireturn, 1) := by decide +kernel
theorem dX11_count_92 : decode cX11_count 92 = .ok (.aload_n 0, 1) := by decide +kernel
theorem dX11_count_93 : decode cX11_count 93 = .ok (.getfield 19, 3) := by decide +kernel
theorem dX11_count_96 : decode cX11_count 96 = .ok (.getfield 208, 3) := by decide +kernel
theorem dX11_count_99 : decode cX11_count 99 = .ok (.ireturn, 1) := by decide +kernel
theorem dX11_count_100 : decode cX11_count 100 = .ok (.aload_n 0, 1) := by decide +kernel
theorem dX11_count_101 : decode cX11_count 101 = .ok (.getfield 19, 3) := by decide +kernel
theorem dX11_count_104 : decode cX11_count 104 = .ok (.getfield 160, 3) := by decide +kernel
theorem dX11_count_107 : decode cX11_count 107 = .ok (.ireturn, 1) := by decide +kernel
theorem dX11_count_108 : decode cX11_count 108 = .ok (.aload_n 0, 1) := by decide +kernel
theorem dX11_count_109 : decode cX11_count 109 = .ok (.getfield 19, 3) := by decide +kernel
theorem dX11_count_112 : decode cX11_count 112 = .ok (.getfield 226, 3) := by decide +kernel
theorem dX11_count_115 : decode cX11_count 115 = .ok (.ireturn, 1) := by decide +kernel
theorem dX11_count_116 : decode cX11_count 116 = .ok (.aload_n 0, 1) := by decide +kernel
theorem dX11_count_117 : decode cX11_count 117 = .ok (.getfield 19, 3) := by decide +kernel
theorem dX11_count_120 : decode cX11_count 120 = .ok (.getfield 340, 3) := by decide +kernel
theorem dX11_count_123 : decode cX11_count 123 = .ok (.getfield 352, 3) := by decide +kernel
theorem dX11_count_126 : decode cX11_count 126 = .ok (.ireturn, 1) := by decide +kernel
theorem dX11_count_127 : decode cX11_count 127 = .ok (.aload_n 0, 1) := by decide +kernel
theorem dX11_count_128 : decode cX11_count 128 = .ok (.getfield 19, 3) := by decide +kernel
theorem dX11_count_131 : decode cX11_count 131 = .ok (.getfield 112, 3) := by decide +kernel
theorem dX11_count_134 : decode cX11_count 134 = .ok (.ireturn, 1) := by decide +kernel
theorem dX11_count_135 : decode cX11_count 135 = .ok (.aload_n 0, 1) := by decide +kernel
theorem dX11_count_136 : decode cX11_count 136 = .ok (.getfield 12, 3) := by decide +kernel
theorem dX11_count_139 : decode cX11_count 139 = .ok (.getfield 93, 3) := by decide +kernel
theorem dX11_count_142 : decode cX11_count 142 = .ok (.ireturn, 1) := by decide +kernel
theorem dX11_count_143 : decode cX11_count 143 = .ok (.aload_n 0, 1) := by decide +kernel
theorem dX11_count_144 : decode cX11_count 144 = .ok (.invokevirtual 374, 3) := by decide +kernel
theorem dX11_count_147 : decode cX11_count 147 = .ok (.ireturn, 1) := by decide +kernel
def vX11_count : List Cond := .code yX11_count cX11_count 2 (some .int) :: ([.fieldLink RX11 19 "IcicleClock" "now" "LIcicleClock$Street;", .fieldLink RX11 248 "IcicleClock$Street" "slamTakes" "I", .fieldLink RX11 368 "IcicleClock$Street" "bellTakes" "I", .fieldLink RX11 371 "IcicleClock$Street" "odds" "I", .fieldLink RX11 177 "IcicleClock$Street" "days" "I", .fieldLink RX11 208 "IcicleClock$Street" "eaves" "I", .fieldLink RX11 160 "IcicleClock$Street" "icicles" "I", .fieldLink RX11 226 "IcicleClock$Street" "works" "I", .fieldLink RX11 340 "IcicleClock$Street" "acts" "LIcicleClock$Acts;", .fieldLink RX11 352 "IcicleClock$Acts" "done" "I", .fieldLink RX11 112 "IcicleClock$Street" "lines" "I", .fieldLink RX11 12 "IcicleClock" "tape" "LIcicleClock$Tape;", .fieldLink RX11 93 "IcicleClock$Tape" "filled" "I", .methodLink RX11 374 yX11_slotsLaid, .instanceMethod yX11_slotsLaid, .selects RX11 yX11_slotsLaid yX11_slotsLaid, .initialized RX11, .code yX11_slotsLaid cX11_slotsLaid 3 (some .int), .fieldLink RX11 36 "IcicleClock" "slots" "[LIcicleClock$Slot;", .fieldLink RX11 384 "IcicleClock$Slot" "laid" "Z"] ++ wsX110 ++ wsX60 ++ wsX00 ++ wsX70 ++ wsX50)
theorem iX11_count_11 : ∀ w ∈ wsX110, w ∈ vX11_count := fun _ h => List.mem_cons_of_mem _ (List.mem_append_left _ (List.mem_append_left _ (List.mem_append_left _ (List.mem_append_left _ (List.mem_append_right _ h)))))
theorem iX11_count_6 : ∀ w ∈ wsX60, w ∈ vX11_count := fun _ h => List.mem_cons_of_mem _ (List.mem_append_left _ (List.mem_append_left _ (List.mem_append_left _ (List.mem_append_right _ h))))
theorem iX11_count_0 : ∀ w ∈ wsX00, w ∈ vX11_count := fun _ h => List.mem_cons_of_mem _ (List.mem_append_left _ (List.mem_append_left _ (List.mem_append_right _ h)))
theorem iX11_count_7 : ∀ w ∈ wsX70, w ∈ vX11_count := fun _ h => List.mem_cons_of_mem _ (List.mem_append_left _ (List.mem_append_right _ h))
theorem iX11_count_5 : ∀ w ∈ wsX50, w ∈ vX11_count := fun _ h => List.mem_cons_of_mem _ (List.mem_append_right _ h)
set_option maxRecDepth 20000 in
theorem gg_X11_count_X11_slotsLaid : GoodIn vX11_count (wsV RX11 374 RX11 yX11_slotsLaid vX11_slotsLaid) := goodIn_r _ [14, 15, 16, 17, 18, 19, 20, 21, 22, 23, 24, 25, 26, 27, 28, 29, 30, 31, 32, 33, 34, 65, 66, 67, 68] (by decide +kernel) (by decide +kernel)
set_option maxHeartbeats 4000000 in
set_option maxRecDepth 100000 in
theorem k_count (l : Launch) (D : va_G) (cs : Nat → ClassId) (ad : Nat → Nat) (hj : wJ ad nW) (g : Nat → va_E) (vw : Int32) (h0 : g 0 = .inr (11, [.ref (ad 1), .ref (ad 3), .ref (ad 23), .ref (ad 43), .ref (ad 104), .ref (ad 105), .ref (ad 114), .ref (ad 116), .ref (ad 118), .ref (ad 120), .ref (ad 130), .ref (ad 140), .ref (ad 144), .ref (ad 190)])) (h105 : g 105 = .inl (cs 4, 4, .inr (.inr (.inr (.inr (va_up (va_up (va_up (va_up (fun _ => none) 0 (some (ad 106))) 1 (some (ad 108))) 2 (some (ad 110))) 3 (some (ad 112)))))))) (h106 : g 106 = .inr (5, [.ref (ad 107), .int 0, .int 0, .int 0])) (h108 : g 108 = .inr (5, [.ref (ad 109), .int 0, .int 0, .int 0])) (h110 : g 110 = .inr (5, [.ref (ad 111), .int 0, .int 0, .int 0])) (h112 : g 112 = .inr (5, [.ref (ad 113), .int 0, .int 0, .int 0])) (h1 : g 1 = .inr (7, [.ref (ad 2), .int 0, .int 0, .int (-1), .int 0, .int 0, .int 0])) (h3 : g 3 = .inr (6, [.int 0, .int 0, .int 0, .int 0, .int 0, .int 0, .int 0, .int 0, .ref (ad 4), .ref (ad 5), .ref (ad 6), .ref (ad 7), .ref (ad 8), .ref (ad 9), .ref (ad 10), .ref (ad 11), .ref (ad 12), .ref (ad 13)])) (h13 : g 13 = .inr (0, [.int 0, .ref (ad 14), .ref (ad 15), .ref (ad 16), .ref (ad 22)])) : cI l yX11_count vX11_count { frames := 1, cells := 0, slots := 0, locals := 22 } D cs ad nW [.ref (ad 0), .int vw] g (fun r g2 => r = aCnt vw ∧ ∀ j, 197 ≤ j → g2 j = g j) := by
  refine Met.start (cc := cX11_count) (maxL := 2) (ret := (some .int)) RX11 rfl (by decide) rfl (Nat.le_of_ble_eq_true rfl) ?_
  intro p e s m below meth c ls X hP hl
  have hx := X.1
  have hb := X.2.1
  have hS : va_S (wA ad nW) s.heap s.heap [] := va_S.rf
  have hA : ∀ i, i < nW → wA ad nW (ad i) := fun i h => ⟨i, h, rfl⟩
  have hfr : ∀ j, 197 ≤ j → g j = g j := fun _ _ => rfl
  have hl : lv_has ls 2 [(0, .ref (ad 0)), (1, .int vw)] := hl
  refine lv_iload_n hx hb dX11_count_0 rfl (lv_at hl 1 rfl) ?_
  by_cases hsw : vw.toInt < 0 ∨ 10 < vw.toInt
  · refine lv_tableOut (tgt := 148) hx hb dX11_count_1 hsw (by decide) ?_
    refine lv_iconst (v := (-1)) hx hb dX11_count_148 (by decide) ?_
    exact q_iret X hP hS ⟨(by first | exact (if_pos hsw).symm | (unfold aCnt; rfl)), hfr⟩ dX11_count_149
  obtain ⟨j, hj9, rfl⟩ := sw_of (N := 10) hsw (by decide)
  rcases (by omega : j = 0 ∨ j = 1 ∨ j = 2 ∨ j = 3 ∨ j = 4 ∨ j = 5 ∨ j = 6 ∨ j = 7 ∨ j = 8 ∨ j = 9 ∨ j = 10) with rfl | rfl | rfl | rfl | rfl | rfl | rfl | rfl | rfl | rfl | rfl
  · refine lv_tableIn (off := 59) (tgt := 60) hx hb dX11_count_1 (by decide) (by decide) rfl (by decide) ?_
    refine lv_aload_n hx hb dX11_count_60 rfl (lv_at hl 0 rfl) ?_
    refine q_get X iX11_count_11 hP (by decide) h0 rfl 1 (by decide) (List.mem_of_getElem? (i := 1) rfl) (v := .ref (ad 3)) rfl dX11_count_61 ?_
    refine q_get X iX11_count_6 hP (by decide) h3 rfl 0 (by decide) (List.mem_of_getElem? (i := 2) rfl) (v := .int 0) rfl dX11_count_64 ?_
    exact q_iret X hP hS ⟨(by first | exact (if_pos hsw).symm | (unfold aCnt; rfl)), hfr⟩ dX11_count_67
  · refine lv_tableIn (off := 67) (tgt := 68) hx hb dX11_count_1 (by decide) (by decide) rfl (by decide) ?_
    refine lv_aload_n hx hb dX11_count_68 rfl (lv_at hl 0 rfl) ?_
    refine q_get X iX11_count_11 hP (by decide) h0 rfl 1 (by decide) (List.mem_of_getElem? (i := 1) rfl) (v := .ref (ad 3)) rfl dX11_count_69 ?_
    refine q_get X iX11_count_6 hP (by decide) h3 rfl 1 (by decide) (List.mem_of_getElem? (i := 3) rfl) (v := .int 0) rfl dX11_count_72 ?_
    exact q_iret X hP hS ⟨(by first | exact (if_pos hsw).symm | (unfold aCnt; rfl)), hfr⟩ dX11_count_75
  · refine lv_tableIn (off := 75) (tgt := 76) hx hb dX11_count_1 (by decide) (by decide) rfl (by decide) ?_
    refine lv_aload_n hx hb dX11_count_76 rfl (lv_at hl 0 rfl) ?_
    refine q_get X iX11_count_11 hP (by decide) h0 rfl 1 (by decide) (List.mem_of_getElem? (i := 1) rfl) (v := .ref (ad 3)) rfl dX11_count_77 ?_
    refine q_get X iX11_count_6 hP (by decide) h3 rfl 2 (by decide) (List.mem_of_getElem? (i := 4) rfl) (v := .int 0) rfl dX11_count_80 ?_
    exact q_iret X hP hS ⟨(by first | exact (if_pos hsw).symm | (unfold aCnt; rfl)), hfr⟩ dX11_count_83
  · refine lv_tableIn (off := 83) (tgt := 84) hx hb dX11_count_1 (by decide) (by decide) rfl (by decide) ?_
    refine lv_aload_n hx hb dX11_count_84 rfl (lv_at hl 0 rfl) ?_
    refine q_get X iX11_count_11 hP (by decide) h0 rfl 1 (by decide) (List.mem_of_getElem? (i := 1) rfl) (v := .ref (ad 3)) rfl dX11_count_85 ?_
    refine q_get X iX11_count_6 hP (by decide) h3 rfl 3 (by decide) (List.mem_of_getElem? (i := 5) rfl) (v := .int 0) rfl dX11_count_88 ?_
    exact q_iret X hP hS ⟨(by first | exact (if_pos hsw).symm | (unfold aCnt; rfl)), hfr⟩ dX11_count_91
  · refine lv_tableIn (off := 91) (tgt := 92) hx hb dX11_count_1 (by decide) (by decide) rfl (by decide) ?_
    refine lv_aload_n hx hb dX11_count_92 rfl (lv_at hl 0 rfl) ?_
    refine q_get X iX11_count_11 hP (by decide) h0 rfl 1 (by decide) (List.mem_of_getElem? (i := 1) rfl) (v := .ref (ad 3)) rfl dX11_count_93 ?_
    refine q_get X iX11_count_6 hP (by decide) h3 rfl 4 (by decide) (List.mem_of_getElem? (i := 6) rfl) (v := .int 0) rfl dX11_count_96 ?_
    exact q_iret X hP hS ⟨(by first | exact (if_pos hsw).symm | (unfold aCnt; rfl)), hfr⟩ dX11_count_99
  · refine lv_tableIn (off := 99) (tgt := 100) hx hb dX11_count_1 (by decide) (by decide) rfl (by decide) ?_
    refine lv_aload_n hx hb dX11_count_100 rfl (lv_at hl 0 rfl) ?_
    refine q_get X iX11_count_11 hP (by decide) h0 rfl 1 (by decide) (List.mem_of_getElem? (i := 1) rfl) (v := .ref (ad 3)) rfl dX11_count_101 ?_
    refine q_get X iX11_count_6 hP (by decide) h3 rfl 5 (by decide) (List.mem_of_getElem? (i := 7) rfl) (v := .int 0) rfl dX11_count_104 ?_
    exact q_iret X hP hS ⟨(by first | exact (if_pos hsw).symm | (unfold aCnt; rfl)), hfr⟩ dX11_count_107
  · refine lv_tableIn (off := 107) (tgt := 108) hx hb dX11_count_1 (by decide) (by decide) rfl (by decide) ?_
    refine lv_aload_n hx hb dX11_count_108 rfl (lv_at hl 0 rfl) ?_
    refine q_get X iX11_count_11 hP (by decide) h0 rfl 1 (by decide) (List.mem_of_getElem? (i := 1) rfl) (v := .ref (ad 3)) rfl dX11_count_109 ?_
    refine q_get X iX11_count_6 hP (by decide) h3 rfl 6 (by decide) (List.mem_of_getElem? (i := 8) rfl) (v := .int 0) rfl dX11_count_112 ?_
    exact q_iret X hP hS ⟨(by first | exact (if_pos hsw).symm | (unfold aCnt; rfl)), hfr⟩ dX11_count_115
  · refine lv_tableIn (off := 115) (tgt := 116) hx hb dX11_count_1 (by decide) (by decide) rfl (by decide) ?_
    refine lv_aload_n hx hb dX11_count_116 rfl (lv_at hl 0 rfl) ?_
    refine q_get X iX11_count_11 hP (by decide) h0 rfl 1 (by decide) (List.mem_of_getElem? (i := 1) rfl) (v := .ref (ad 3)) rfl dX11_count_117 ?_
    refine q_get X iX11_count_6 hP (by decide) h3 rfl 17 (by decide) (List.mem_of_getElem? (i := 9) rfl) (v := .ref (ad 13)) rfl dX11_count_120 ?_
    refine q_get X iX11_count_0 hP (by decide) h13 rfl 0 (by decide) (List.mem_of_getElem? (i := 10) rfl) (v := .int 0) rfl dX11_count_123 ?_
    exact q_iret X hP hS ⟨(by first | exact (if_pos hsw).symm | (unfold aCnt; rfl)), hfr⟩ dX11_count_126
  · refine lv_tableIn (off := 126) (tgt := 127) hx hb dX11_count_1 (by decide) (by decide) rfl (by decide) ?_
    refine lv_aload_n hx hb dX11_count_127 rfl (lv_at hl 0 rfl) ?_
    refine q_get X iX11_count_11 hP (by decide) h0 rfl 1 (by decide) (List.mem_of_getElem? (i := 1) rfl) (v := .ref (ad 3)) rfl dX11_count_128 ?_
    refine q_get X iX11_count_6 hP (by decide) h3 rfl 7 (by decide) (List.mem_of_getElem? (i := 11) rfl) (v := .int 0) rfl dX11_count_131 ?_
    exact q_iret X hP hS ⟨(by first | exact (if_pos hsw).symm | (unfold aCnt; rfl)), hfr⟩ dX11_count_134
  · refine lv_tableIn (off := 134) (tgt := 135) hx hb dX11_count_1 (by decide) (by decide) rfl (by decide) ?_
    refine lv_aload_n hx hb dX11_count_135 rfl (lv_at hl 0 rfl) ?_
    refine q_get X iX11_count_11 hP (by decide) h0 rfl 0 (by decide) (List.mem_of_getElem? (i := 12) rfl) (v := .ref (ad 1)) rfl dX11_count_136 ?_
    refine q_get X iX11_count_7 hP (by decide) h1 rfl 1 (by decide) (List.mem_of_getElem? (i := 13) rfl) (v := .int 0) rfl dX11_count_139 ?_
    exact q_iret X hP hS ⟨(by first | exact (if_pos hsw).symm | (unfold aCnt; rfl)), hfr⟩ dX11_count_142
  · refine lv_tableIn (off := 142) (tgt := 143) hx hb dX11_count_1 (by decide) (by decide) rfl (by decide) ?_
    refine lv_aload_n hx hb dX11_count_143 rfl (lv_at hl 0 rfl) ?_
    refine q_calli (q := (RX11, TX11, 14)) (As := []) (rest := []) X (k_slotsLaid l D cs ad hj g  h0 h105 h106 h108 h110 h112) (cwV 0 X.2.2.2.2.1 gg_X11_count_X11_slotsLaid rfl rfl rfl (by decide +kernel) ⟨Nat.le_of_ble_eq_true rfl, Nat.le_of_ble_eq_true rfl⟩) (by decide) h0 rfl hP hA hS rfl hl.1 rfl (Nat.le_of_ble_eq_true rfl) dX11_count_144 ⟨Nat.le_of_ble_eq_true rfl, Nat.le_of_ble_eq_true rfl⟩ (fun r_3 g_2 H locs hw_1 hP hS => ?_)
    obtain ⟨hw_1a, hw_1b⟩ := hw_1
    subst hw_1a
    rw [hw_1b] at hP
    exact q_iret X hP hS ⟨(by first | exact (if_pos hsw).symm | (unfold aCnt; rfl)), hfr⟩ dX11_count_147
