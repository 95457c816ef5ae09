theorem dX7_init_0 : decode cX7_init 0 = .ok (.aload_n 0, 1) := by decide +kernel
theorem dX7_init_1 : decode cX7_init 1 = .ok (.invokespecial 3, 3) := by decide +kernel
theorem dX7_init_4 : decode cX7_init 4 = .ok (.aload_n 0, 1) := by decide +kernel
theorem dX7_init_5 : decode cX7_init 5 = .ok (.sipush 1000, 3) := by decide +kernel
theorem dX7_init_8 : decode cX7_init 8 = .ok (.newarray .byte, 2) := by decide +kernel
theorem dX7_init_10 : decode cX7_init 10 = .ok (.putfield 9, 3) := by decide +kernel
theorem dX7_init_13 : decode cX7_init 13 = .ok (.aload_n 0, 1) := by decide +kernel
theorem dX7_init_14 : decode cX7_init 14 = .ok (.iconst (-1), 1) := by decide +kernel
theorem dX7_init_15 : decode cX7_init 15 = .ok (.putfield 15, 3) := by decide +kernel
theorem dX7_init_18 : decode cX7_init 18 = .ok (.return_, 1) := by decide +kernel
noncomputable def vX7_init : List Cond := .code yX7_init cX7_init 1 none :: (([.methodLink RX7 3 objectInit, .instanceMethod objectInit, .code objectInit ⟨#[0xb1]⟩ 1 none, .arrayClass .byte, .fieldLink RX7 9 "IcicleClock$Tape" "bytes" "[B", .fieldLink RX7 15 "IcicleClock$Tape" "faultPlace" "I"] : List Cond) ++ wsX70)
theorem iX7_init_7 : ∀ w ∈ wsX70, w ∈ vX7_init := fun _ h => List.mem_cons_of_mem _ (List.mem_append_right _ h)
set_option maxHeartbeats 8000000 in
set_option maxRecDepth 100000 in
theorem f_n_Tape (cs : Nat → ClassId) (h0 : Nat) (ad_0 : Nat → Nat) (g_0 : Nat → va_E) (q_1 : Nat) (ad_2 : Nat → Nat) (g_3 : Nat → va_E) (ead_2 : ad_2 = ct ad_0 0 (fun _ => q_1)) (eg_3 : g_3 = ct g_0 0 (fun _ => .inl (cs 0, 1000, .inl (fun _ => 0)))) : (ct (fun _ => .inr (7, [.ref q_1, .int 0, .int 0, .int (-1), .int 0, .int 0, .int 0])) 1 g_3) 0 = .inr (7, [.ref (ct (fun _ => h0) 1 ad_2 1), .int 0, .int 0, .int (-1), .int 0, .int 0, .int 0]) ∧ (ct (fun _ => .inr (7, [.ref q_1, .int 0, .int 0, .int (-1), .int 0, .int 0, .int 0])) 1 g_3) 1 = .inl (cs 0, 1000, .inl (fun _ => 0)) := by
  subst eg_3
  subst ead_2
  exact ⟨rfl, rfl⟩
set_option maxHeartbeats 8000000 in
set_option maxRecDepth 100000 in
theorem n_Tape (l : Launch) (D : va_G) (cs : Nat → ClassId) (h0 sz : Nat) : cN l yX7_init vX7_init { frames := 1, cells := 1, slots := 1000, locals := 12 } D cs h0 sz (.inr (7, [.null, .int 0, .int 0, .int 0, .int 0, .int 0, .int 0])) 2 (fun a g => g 0 = .inr (7, [.ref (a 1), .int 0, .int 0, .int (-1), .int 0, .int 0, .int 0]) ∧ g 1 = .inl (cs 0, 1000, .inl (fun _ => 0))) 1 1000 := by
  refine cN.start (cc := cX7_init) (maxL := 1) RX7 rfl (by decide) rfl rfl (by decide) ?_
  intro p e s m below meth c ls A X hnm0 hax hA hP hD hl hfin
  have hx := X.1
  have hb := X.2.1
  have hS : va_S A s.heap s.heap [] := va_S.rf
  obtain ⟨ad_0, g_0⟩ : (Nat → Nat) × (Nat → va_E) := (fun _ => 0, fun _ => .inr (0, []))
  have hP : va_P D vwCl ((h0, .inr (7, [.null, .int 0, .int 0, .int 0, .int 0, .int 0, .int 0])) :: wL ad_0 g_0 0) s.heap := hP
  have hD : va_D A ((h0, .inr (7, [.null, .int 0, .int 0, .int 0, .int 0, .int 0, .int 0])) :: wL ad_0 g_0 0) := hD
  refine lv_aload_n hx hb dX7_init_0 rfl (lv_at hl 0 rfl) ?_
  refine r_obj X hl.1 (List.mem_of_getElem? (i := 1) rfl) (List.mem_of_getElem? (i := 2) rfl) (List.mem_of_getElem? (i := 3) rfl) dX7_init_1 (Nat.le_of_ble_eq_true rfl) (Nat.le_of_ble_eq_true rfl) ?_
  refine lv_aload_n hx hb dX7_init_4 rfl (lv_at hl 0 rfl) ?_
  refine lv_sipush (v := 1000) hx hb dX7_init_5 (by decide) ?_
  refine r_newa (atype := .byte) X 0 rfl rfl (fun _ h => h) (List.mem_of_getElem? (i := 4) rfl) hP hD hS hA (a0 := (1000, .inl (fun _ => 0))) (fun _ => rfl) (by decide) (by decide) (Nat.le_of_ble_eq_true rfl) (Nat.le_of_ble_eq_true rfl) (Nat.le_of_ble_eq_true rfl) dX7_init_8 (fun q_1 ad_2 g_3 H ead_2 eg_3 hP hD hS => ?_)
  have hP : va_P D vwCl ((h0, .inr (7, [.null, .int 0, .int 0, .int 0, .int 0, .int 0, .int 0])) :: wL ad_2 g_3 1) H := hP
  have hD : va_D A ((h0, .inr (7, [.null, .int 0, .int 0, .int 0, .int 0, .int 0, .int 0])) :: wL ad_2 g_3 1) := hD
  refine r_putF X hnm0 iX7_init_7 tyX7 tyX7_ok nmX7 hP hD hS rfl 0 (by decide) (List.mem_of_getElem? (i := 5) rfl) rfl rfl (ty := .array .byte) (v := .ref q_1) (by decide +kernel) rfl rfl (Nat.le_of_ble_eq_true rfl) dX7_init_10 (fun H locs hP hD hS => ?_)
  have hP : va_P D vwCl ((h0, .inr (7, [.ref q_1, .int 0, .int 0, .int 0, .int 0, .int 0, .int 0])) :: wL ad_2 g_3 1) H := hP
  have hD : va_D A ((h0, .inr (7, [.ref q_1, .int 0, .int 0, .int 0, .int 0, .int 0, .int 0])) :: wL ad_2 g_3 1) := hD
  refine lv_aload_n hx hb dX7_init_13 rfl (lv_at hl 0 rfl) ?_
  refine lv_iconst (v := (-1)) hx hb dX7_init_14 (by decide) ?_
  refine r_put X iX7_init_7 tyX7 tyX7_ok nmX7 hP hD hS rfl 3 (by decide) (List.mem_of_getElem? (i := 6) rfl) rfl (ty := .int) (v := .int (-1)) (by decide +kernel) rfl rfl (Nat.le_of_ble_eq_true rfl) dX7_init_15 (fun H locs hP hD hS => ?_)
  have hP : va_P D vwCl ((h0, .inr (7, [.ref q_1, .int 0, .int 0, .int (-1), .int 0, .int 0, .int 0])) :: wL ad_2 g_3 1) H := hP
  have hD : va_D A ((h0, .inr (7, [.ref q_1, .int 0, .int 0, .int (-1), .int 0, .int 0, .int 0])) :: wL ad_2 g_3 1) := hD
  have eW : (h0, .inr (7, [.ref q_1, .int 0, .int 0, .int (-1), .int 0, .int 0, .int 0])) :: wL ad_2 g_3 1 = wL (ct (fun _ => h0) 1 ad_2) (ct (fun _ => .inr (7, [.ref q_1, .int 0, .int 0, .int (-1), .int 0, .int 0, .int 0])) 1 g_3) 2 := by rw [wL_cons, show 1 + 1 = 2 from rfl]
  rw [eW] at hP hD
  refine W.widen (k := 1) (n := 1000) (Nat.le_of_ble_eq_true rfl) (Nat.le_of_ble_eq_true rfl) ?_
  refine hfin H locs 18 ls _ _ hP hD hS rfl ?_ dX7_init_18
  exact f_n_Tape cs h0 _ _ _ _ _ ead_2 eg_3

theorem dX0_init_0 : decode cX0_init 0 = .ok (.aload_n 0, 1) := by decide +kernel
theorem dX0_init_1 : decode cX0_init 1 = .ok (.invokespecial 3, 3) := by decide +kernel
theorem dX0_init_4 : decode cX0_init 4 = .ok (.aload_n 0, 1) := by decide +kernel
theorem dX0_init_5 : decode cX0_init 5 = .ok (.bipush 40, 2) := by decide +kernel
theorem dX0_init_7 : decode cX0_init 7 = .ok (.newarray .int, 2) := by decide +kernel
theorem dX0_init_9 : decode cX0_init 9 = .ok (.putfield 9, 3) := by decide +kernel
theorem dX0_init_12 : decode cX0_init 12 = .ok (.aload_n 0, 1) := by decide +kernel
theorem dX0_init_13 : decode cX0_init 13 = .ok (.bipush 40, 2) := by decide +kernel
theorem dX0_init_15 : decode cX0_init 15 = .ok (.newarray .int, 2) := by decide +kernel
theorem dX0_init_17 : decode cX0_init 17 = .ok (.putfield 15, 3) := by decide +kernel
theorem dX0_init_20 : decode cX0_init 20 = .ok (.aload_n 0, 1) := by decide +kernel
theorem dX0_init_21 : decode cX0_init 21 = .ok (.iconst 5, 1) := by decide +kernel
theorem dX0_init_22 : decode cX0_init 22 = .ok (.bipush 14, 2) := by decide +kernel
theorem dX0_init_24 : decode cX0_init 24 = .ok (.multianewarray 18 2, 4) := by decide +kernel
theorem dX0_init_28 : decode cX0_init 28 = .ok (.putfield 20, 3) := by decide +kernel
theorem dX0_init_31 : decode cX0_init 31 = .ok (.aload_n 0, 1) := by decide +kernel
theorem dX0_init_32 : decode cX0_init 32 = .ok (.bipush 14, 2) := by decide +kernel
theorem dX0_init_34 : decode cX0_init 34 = .ok (.newarray .int, 2) := by decide +kernel
theorem dX0_init_36 : decode cX0_init 36 = .ok (.putfield 23, 3) := by decide +kernel
theorem dX0_init_39 : decode cX0_init 39 = .ok (.return_, 1) := by decide +kernel
noncomputable def vX0_init : List Cond := .code yX0_init cX0_init 1 none :: (([.methodLink RX0 3 objectInit, .instanceMethod objectInit, .code objectInit ⟨#[0xb1]⟩ 1 none, .arrayClass .int, .fieldLink RX0 9 "IcicleClock$Acts" "eaves" "[I", .fieldLink RX0 15 "IcicleClock$Acts" "days" "[I", .classLink RX0 18 "[[I", .fieldLink RX0 20 "IcicleClock$Acts" "slammed" "[[I", .fieldLink RX0 23 "IcicleClock$Acts" "rung" "[I"] : List Cond) ++ wsX00)
theorem iX0_init_0 : ∀ w ∈ wsX00, w ∈ vX0_init := fun _ h => List.mem_cons_of_mem _ (List.mem_append_right _ h)
set_option maxHeartbeats 8000000 in
set_option maxRecDepth 100000 in
theorem f_n_Acts (cs : Nat → ClassId) (h0 : Nat) (ad_0 : Nat → Nat) (g_0 : Nat → va_E) (q_1 : Nat) (ad_2 : Nat → Nat) (g_3 : Nat → va_E) (q_4 : Nat) (ad_5 : Nat → Nat) (g_6 : Nat → va_E) (r_8 : Nat → Nat) (q_7 : Nat) (ad_9 : Nat → Nat) (g_10 : Nat → va_E) (q_11 : Nat) (ad_12 : Nat → Nat) (g_13 : Nat → va_E) (ead_2 : ad_2 = ct ad_0 0 (fun _ => q_1)) (eg_3 : g_3 = ct g_0 0 (fun _ => .inl (cs 1, 40, .inl (fun _ => 0)))) (ead_5 : ad_5 = ct ad_2 1 (fun _ => q_4)) (eg_6 : g_6 = ct g_3 1 (fun _ => .inl (cs 1, 40, .inl (fun _ => 0)))) (ead_9 : ad_9 = ct ad_5 2 (ct (fun _ => q_7) 1 r_8)) (eg_10 : g_10 = ct g_6 2 (ct (fun _ => .inl (cs 6, 5, .inr (.inr (.inr (.inr (fun i => if i < 5 then some (r_8 i) else none)))))) 1 (fun _ => .inl (cs 1, 14, .inl (fun _ => 0))))) (ead_12 : ad_12 = ct ad_9 8 (fun _ => q_11)) (eg_13 : g_13 = ct g_10 8 (fun _ => .inl (cs 1, 14, .inl (fun _ => 0)))) : (ct (fun _ => .inr (0, [.int 0, .ref q_1, .ref q_4, .ref q_7, .ref q_11])) 1 g_13) 0 = .inr (0, [.int 0, .ref (ct (fun _ => h0) 1 ad_12 1), .ref (ct (fun _ => h0) 1 ad_12 2), .ref (ct (fun _ => h0) 1 ad_12 3), .ref (ct (fun _ => h0) 1 ad_12 9)]) ∧ (ct (fun _ => .inr (0, [.int 0, .ref q_1, .ref q_4, .ref q_7, .ref q_11])) 1 g_13) 1 = .inl (cs 1, 40, .inl (fun _ => 0)) ∧ (ct (fun _ => .inr (0, [.int 0, .ref q_1, .ref q_4, .ref q_7, .ref q_11])) 1 g_13) 2 = .inl (cs 1, 40, .inl (fun _ => 0)) ∧ (∃ f, (ct (fun _ => .inr (0, [.int 0, .ref q_1, .ref q_4, .ref q_7, .ref q_11])) 1 g_13) 3 = .inl (cs 6, 5, .inr (.inr (.inr (.inr f)))) ∧ f 0 = some (ct (fun _ => h0) 1 ad_12 4) ∧ f 1 = some (ct (fun _ => h0) 1 ad_12 5) ∧ f 2 = some (ct (fun _ => h0) 1 ad_12 6) ∧ f 3 = some (ct (fun _ => h0) 1 ad_12 7) ∧ f 4 = some (ct (fun _ => h0) 1 ad_12 8)) ∧ (ct (fun _ => .inr (0, [.int 0, .ref q_1, .ref q_4, .ref q_7, .ref q_11])) 1 g_13) 4 = .inl (cs 1, 14, .inl (fun _ => 0)) ∧ (ct (fun _ => .inr (0, [.int 0, .ref q_1, .ref q_4, .ref q_7, .ref q_11])) 1 g_13) 5 = .inl (cs 1, 14, .inl (fun _ => 0)) ∧ (ct (fun _ => .inr (0, [.int 0, .ref q_1, .ref q_4, .ref q_7, .ref q_11])) 1 g_13) 6 = .inl (cs 1, 14, .inl (fun _ => 0)) ∧ (ct (fun _ => .inr (0, [.int 0, .ref q_1, .ref q_4, .ref q_7, .ref q_11])) 1 g_13) 7 = .inl (cs 1, 14, .inl (fun _ => 0)) ∧ (ct (fun _ => .inr (0, [.int 0, .ref q_1, .ref q_4, .ref q_7, .ref q_11])) 1 g_13) 8 = .inl (cs 1, 14, .inl (fun _ => 0)) ∧ (ct (fun _ => .inr (0, [.int 0, .ref q_1, .ref q_4, .ref q_7, .ref q_11])) 1 g_13) 9 = .inl (cs 1, 14, .inl (fun _ => 0)) := by
  subst eg_13
  subst ead_12
  subst eg_10
  subst ead_9
  subst eg_6
  subst ead_5
  subst eg_3
  subst ead_2
  exact ⟨rfl, rfl, rfl, ⟨_, rfl, rfl, rfl, rfl, rfl, rfl⟩, rfl, rfl, rfl, rfl, rfl, rfl⟩
set_option maxHeartbeats 8000000 in
set_option maxRecDepth 100000 in
theorem n_Acts (l : Launch) (D : va_G) (cs : Nat → ClassId) (h0 sz : Nat) : cN l yX0_init vX0_init { frames := 1, cells := 9, slots := 169, locals := 12 } D cs h0 sz (.inr (0, [.int 0, .null, .null, .null, .null])) 10 (fun a g => g 0 = .inr (0, [.int 0, .ref (a 1), .ref (a 2), .ref (a 3), .ref (a 9)]) ∧ g 1 = .inl (cs 1, 40, .inl (fun _ => 0)) ∧ g 2 = .inl (cs 1, 40, .inl (fun _ => 0)) ∧ (∃ f, g 3 = .inl (cs 6, 5, .inr (.inr (.inr (.inr f)))) ∧ f 0 = some (a 4) ∧ f 1 = some (a 5) ∧ f 2 = some (a 6) ∧ f 3 = some (a 7) ∧ f 4 = some (a 8)) ∧ g 4 = .inl (cs 1, 14, .inl (fun _ => 0)) ∧ g 5 = .inl (cs 1, 14, .inl (fun _ => 0)) ∧ g 6 = .inl (cs 1, 14, .inl (fun _ => 0)) ∧ g 7 = .inl (cs 1, 14, .inl (fun _ => 0)) ∧ g 8 = .inl (cs 1, 14, .inl (fun _ => 0)) ∧ g 9 = .inl (cs 1, 14, .inl (fun _ => 0))) 9 169 := by
  refine cN.start (cc := cX0_init) (maxL := 1) RX0 rfl (by decide) rfl rfl (by decide) ?_
  intro p e s m below meth c ls A X hnm0 hax hA hP hD hl hfin
  have hx := X.1
  have hb := X.2.1
  have hS : va_S A s.heap s.heap [] := va_S.rf
  obtain ⟨ad_0, g_0⟩ : (Nat → Nat) × (Nat → va_E) := (fun _ => 0, fun _ => .inr (0, []))
  have hP : va_P D vwCl ((h0, .inr (0, [.int 0, .null, .null, .null, .null])) :: wL ad_0 g_0 0) s.heap := hP
  have hD : va_D A ((h0, .inr (0, [.int 0, .null, .null, .null, .null])) :: wL ad_0 g_0 0) := hD
  refine lv_aload_n hx hb dX0_init_0 rfl (lv_at hl 0 rfl) ?_
  refine r_obj X hl.1 (List.mem_of_getElem? (i := 1) rfl) (List.mem_of_getElem? (i := 2) rfl) (List.mem_of_getElem? (i := 3) rfl) dX0_init_1 (Nat.le_of_ble_eq_true rfl) (Nat.le_of_ble_eq_true rfl) ?_
  refine lv_aload_n hx hb dX0_init_4 rfl (lv_at hl 0 rfl) ?_
  refine lv_bipush (v := 40) hx hb dX0_init_5 (by decide) ?_
  refine r_newa (atype := .int) X 1 rfl rfl (fun _ h => h) (List.mem_of_getElem? (i := 4) rfl) hP hD hS hA (a0 := (40, .inl (fun _ => 0))) (fun _ => rfl) (by decide) (by decide) (Nat.le_of_ble_eq_true rfl) (Nat.le_of_ble_eq_true rfl) (Nat.le_of_ble_eq_true rfl) dX0_init_7 (fun q_1 ad_2 g_3 H ead_2 eg_3 hP hD hS => ?_)
  have hP : va_P D vwCl ((h0, .inr (0, [.int 0, .null, .null, .null, .null])) :: wL ad_2 g_3 1) H := hP
  have hD : va_D A ((h0, .inr (0, [.int 0, .null, .null, .null, .null])) :: wL ad_2 g_3 1) := hD
  refine r_putF X hnm0 iX0_init_0 tyX0 tyX0_ok nmX0 hP hD hS rfl 1 (by decide) (List.mem_of_getElem? (i := 5) rfl) rfl rfl (ty := .array .int) (v := .ref q_1) (by decide +kernel) rfl rfl (Nat.le_of_ble_eq_true rfl) dX0_init_9 (fun H locs hP hD hS => ?_)
  have hP : va_P D vwCl ((h0, .inr (0, [.int 0, .ref q_1, .null, .null, .null])) :: wL ad_2 g_3 1) H := hP
  have hD : va_D A ((h0, .inr (0, [.int 0, .ref q_1, .null, .null, .null])) :: wL ad_2 g_3 1) := hD
  refine lv_aload_n hx hb dX0_init_12 rfl (lv_at hl 0 rfl) ?_
  refine lv_bipush (v := 40) hx hb dX0_init_13 (by decide) ?_
  refine r_newa (atype := .int) X 1 rfl rfl (fun _ h => h) (List.mem_of_getElem? (i := 4) rfl) hP hD hS hA (a0 := (40, .inl (fun _ => 0))) (fun _ => rfl) (by decide) (by decide) (Nat.le_of_ble_eq_true rfl) (Nat.le_of_ble_eq_true rfl) (Nat.le_of_ble_eq_true rfl) dX0_init_15 (fun q_4 ad_5 g_6 H ead_5 eg_6 hP hD hS => ?_)
  have hP : va_P D vwCl ((h0, .inr (0, [.int 0, .ref q_1, .null, .null, .null])) :: wL ad_5 g_6 2) H := hP
  have hD : va_D A ((h0, .inr (0, [.int 0, .ref q_1, .null, .null, .null])) :: wL ad_5 g_6 2) := hD
  refine r_putF X hnm0 iX0_init_0 tyX0 tyX0_ok nmX0 hP hD hS rfl 2 (by decide) (List.mem_of_getElem? (i := 6) rfl) rfl rfl (ty := .array .int) (v := .ref q_4) (by decide +kernel) rfl rfl (Nat.le_of_ble_eq_true rfl) dX0_init_17 (fun H locs hP hD hS => ?_)
  have hP : va_P D vwCl ((h0, .inr (0, [.int 0, .ref q_1, .ref q_4, .null, .null])) :: wL ad_5 g_6 2) H := hP
  have hD : va_D A ((h0, .inr (0, [.int 0, .ref q_1, .ref q_4, .null, .null])) :: wL ad_5 g_6 2) := hD
  refine lv_aload_n hx hb dX0_init_20 rfl (lv_at hl 0 rfl) ?_
  refine lv_iconst (v := 5) hx hb dX0_init_21 (by decide) ?_
  refine lv_bipush (v := 14) hx hb dX0_init_22 (by decide) ?_
  refine r_mna (N' := 5) (K' := 14) X (List.mem_of_getElem? (i := 7) rfl) hax.2.1 (List.mem_of_getElem? (i := 4) rfl) hP hD hS hA (by decide) (by decide) (by decide) (by decide) (Nat.le_of_ble_eq_true rfl) (Nat.le_of_ble_eq_true rfl) (Nat.le_of_ble_eq_true rfl) (Nat.le_of_ble_eq_true rfl) (Nat.le_of_ble_eq_true rfl) dX0_init_24 (fun q_7 r_8 ad_9 g_10 H ead_9 eg_10 hP hD hS => ?_)
  have hP : va_P D vwCl ((h0, .inr (0, [.int 0, .ref q_1, .ref q_4, .null, .null])) :: wL ad_9 g_10 8) H := hP
  have hD : va_D A ((h0, .inr (0, [.int 0, .ref q_1, .ref q_4, .null, .null])) :: wL ad_9 g_10 8) := hD
  refine r_putF X hnm0 iX0_init_0 tyX0 tyX0_ok nmX0 hP hD hS rfl 3 (by decide) (List.mem_of_getElem? (i := 8) rfl) rfl rfl (ty := .array (.array .int)) (v := .ref q_7) (by decide +kernel) rfl rfl (Nat.le_of_ble_eq_true rfl) dX0_init_28 (fun H locs hP hD hS => ?_)
  have hP : va_P D vwCl ((h0, .inr (0, [.int 0, .ref q_1, .ref q_4, .ref q_7, .null])) :: wL ad_9 g_10 8) H := hP
  have hD : va_D A ((h0, .inr (0, [.int 0, .ref q_1, .ref q_4, .ref q_7, .null])) :: wL ad_9 g_10 8) := hD
  refine lv_aload_n hx hb dX0_init_31 rfl (lv_at hl 0 rfl) ?_
  refine lv_bipush (v := 14) hx hb dX0_init_32 (by decide) ?_
  refine r_newa (atype := .int) X 1 rfl rfl (fun _ h => h) (List.mem_of_getElem? (i := 4) rfl) hP hD hS hA (a0 := (14, .inl (fun _ => 0))) (fun _ => rfl) (by decide) (by decide) (Nat.le_of_ble_eq_true rfl) (Nat.le_of_ble_eq_true rfl) (Nat.le_of_ble_eq_true rfl) dX0_init_34 (fun q_11 ad_12 g_13 H ead_12 eg_13 hP hD hS => ?_)
  have hP : va_P D vwCl ((h0, .inr (0, [.int 0, .ref q_1, .ref q_4, .ref q_7, .null])) :: wL ad_12 g_13 9) H := hP
  have hD : va_D A ((h0, .inr (0, [.int 0, .ref q_1, .ref q_4, .ref q_7, .null])) :: wL ad_12 g_13 9) := hD
  refine r_putF X hnm0 iX0_init_0 tyX0 tyX0_ok nmX0 hP hD hS rfl 4 (by decide) (List.mem_of_getElem? (i := 9) rfl) rfl rfl (ty := .array .int) (v := .ref q_11) (by decide +kernel) rfl rfl (Nat.le_of_ble_eq_true rfl) dX0_init_36 (fun H locs hP hD hS => ?_)
  have hP : va_P D vwCl ((h0, .inr (0, [.int 0, .ref q_1, .ref q_4, .ref q_7, .ref q_11])) :: wL ad_12 g_13 9) H := hP
  have hD : va_D A ((h0, .inr (0, [.int 0, .ref q_1, .ref q_4, .ref q_7, .ref q_11])) :: wL ad_12 g_13 9) := hD
  have eW : (h0, .inr (0, [.int 0, .ref q_1, .ref q_4, .ref q_7, .ref q_11])) :: wL ad_12 g_13 9 = wL (ct (fun _ => h0) 1 ad_12) (ct (fun _ => .inr (0, [.int 0, .ref q_1, .ref q_4, .ref q_7, .ref q_11])) 1 g_13) 10 := by rw [wL_cons, show 1 + 9 = 10 from rfl]
  rw [eW] at hP hD
  refine W.widen (k := 9) (n := 169) (Nat.le_of_ble_eq_true rfl) (Nat.le_of_ble_eq_true rfl) ?_
  refine hfin H locs 39 ls _ _ hP hD hS rfl ?_ dX0_init_39
  exact f_n_Acts cs h0 _ _ _ _ _ _ _ _ _ _ _ _ _ _ _ ead_2 eg_3 ead_5 eg_6 ead_9 eg_10 ead_12 eg_13

theorem dX6_init_0 : decode cX6_init 0 = .ok (.aload_n 0, 1) := by decide +kernel
theorem dX6_init_1 : decode cX6_init 1 = .ok (.invokespecial 3, 3) := by decide +kernel
theorem dX6_init_4 : decode cX6_init 4 = .ok (.aload_n 0, 1) := by decide +kernel
theorem dX6_init_5 : decode cX6_init 5 = .ok (.bipush 14, 2) := by decide +kernel
theorem dX6_init_7 : decode cX6_init 7 = .ok (.newarray .int, 2) := by decide +kernel
theorem dX6_init_9 : decode cX6_init 9 = .ok (.putfield 9, 3) := by decide +kernel
theorem dX6_init_12 : decode cX6_init 12 = .ok (.aload_n 0, 1) := by decide +kernel
theorem dX6_init_13 : decode cX6_init 13 = .ok (.bipush 14, 2) := by decide +kernel
theorem dX6_init_15 : decode cX6_init 15 = .ok (.newarray .boolean, 2) := by decide +kernel
theorem dX6_init_17 : decode cX6_init 17 = .ok (.putfield 15, 3) := by decide +kernel
theorem dX6_init_20 : decode cX6_init 20 = .ok (.aload_n 0, 1) := by decide +kernel
theorem dX6_init_21 : decode cX6_init 21 = .ok (.iconst 5, 1) := by decide +kernel
theorem dX6_init_22 : decode cX6_init 22 = .ok (.newarray .int, 2) := by decide +kernel
theorem dX6_init_24 : decode cX6_init 24 = .ok (.putfield 19, 3) := by decide +kernel
theorem dX6_init_27 : decode cX6_init 27 = .ok (.aload_n 0, 1) := by decide +kernel
theorem dX6_init_28 : decode cX6_init 28 = .ok (.bipush 8, 2) := by decide +kernel
theorem dX6_init_30 : decode cX6_init 30 = .ok (.newarray .int, 2) := by decide +kernel
theorem dX6_init_32 : decode cX6_init 32 = .ok (.putfield 22, 3) := by decide +kernel
theorem dX6_init_35 : decode cX6_init 35 = .ok (.aload_n 0, 1) := by decide +kernel
theorem dX6_init_36 : decode cX6_init 36 = .ok (.bipush 8, 2) := by decide +kernel
theorem dX6_init_38 : decode cX6_init 38 = .ok (.newarray .int, 2) := by decide +kernel
theorem dX6_init_40 : decode cX6_init 40 = .ok (.putfield 25, 3) := by decide +kernel
theorem dX6_init_43 : decode cX6_init 43 = .ok (.aload_n 0, 1) := by decide +kernel
theorem dX6_init_44 : decode cX6_init 44 = .ok (.bipush 8, 2) := by decide +kernel
theorem dX6_init_46 : decode cX6_init 46 = .ok (.newarray .int, 2) := by decide +kernel
theorem dX6_init_48 : decode cX6_init 48 = .ok (.putfield 28, 3) := by decide +kernel
theorem dX6_init_51 : decode cX6_init 51 = .ok (.aload_n 0, 1) := by decide +kernel
theorem dX6_init_52 : decode cX6_init 52 = .ok (.bipush 8, 2) := by decide +kernel
theorem dX6_init_54 : decode cX6_init 54 = .ok (.newarray .int, 2) := by decide +kernel
theorem dX6_init_56 : decode cX6_init 56 = .ok (.putfield 31, 3) := by decide +kernel
theorem dX6_init_59 : decode cX6_init 59 = .ok (.aload_n 0, 1) := by decide +kernel
theorem dX6_init_60 : decode cX6_init 60 = .ok (.bipush 6, 2) := by decide +kernel
theorem dX6_init_62 : decode cX6_init 62 = .ok (.newarray .int, 2) := by decide +kernel
theorem dX6_init_64 : decode cX6_init 64 = .ok (.putfield 34, 3) := by decide +kernel
theorem dX6_init_67 : decode cX6_init 67 = .ok (.aload_n 0, 1) := by decide +kernel
theorem dX6_init_68 : decode cX6_init 68 = .ok (.bipush 6, 2) := by decide +kernel
theorem dX6_init_70 : decode cX6_init 70 = .ok (.newarray .int, 2) := by decide +kernel
theorem dX6_init_72 : decode cX6_init 72 = .ok (.putfield 37, 3) := by decide +kernel
theorem dX6_init_75 : decode cX6_init 75 = .ok (.aload_n 0, 1) := by decide +kernel
theorem dX6_init_76 : decode cX6_init 76 = .ok (.new 40, 3) := by decide +kernel
theorem dX6_init_79 : decode cX6_init 79 = .ok (.dup, 1) := by decide +kernel
theorem dX6_init_80 : decode cX6_init 80 = .ok (.invokespecial 42, 3) := by decide +kernel
theorem dX6_init_83 : decode cX6_init 83 = .ok (.putfield 43, 3) := by decide +kernel
theorem dX6_init_86 : decode cX6_init 86 = .ok (.return_, 1) := by decide +kernel
noncomputable def vX6_init : List Cond := .code yX6_init cX6_init 1 none :: (([.methodLink RX6 3 objectInit, .instanceMethod objectInit, .code objectInit ⟨#[0xb1]⟩ 1 none, .arrayClass .int, .fieldLink RX6 9 "IcicleClock$Street" "thaw" "[I", .arrayClass .boolean, .fieldLink RX6 15 "IcicleClock$Street" "isThaw" "[Z", .fieldLink RX6 19 "IcicleClock$Street" "sun" "[I", .fieldLink RX6 22 "IcicleClock$Street" "eaveOf" "[I", .fieldLink RX6 25 "IcicleClock$Street" "lengthTold" "[I", .fieldLink RX6 28 "IcicleClock$Street" "lengthHung" "[I", .fieldLink RX6 31 "IcicleClock$Street" "hourOf" "[I", .fieldLink RX6 34 "IcicleClock$Street" "dueHour" "[I", .fieldLink RX6 37 "IcicleClock$Street" "dueDay" "[I", .classLink RX6 40 RX0, .instantiable RX0 5, .initialized RX0, .code yX0_init cX0_init 1 none, .methodLink RX0 3 objectInit, .fieldLink RX0 9 "IcicleClock$Acts" "eaves" "[I", .fieldLink RX0 15 "IcicleClock$Acts" "days" "[I", .classLink RX0 18 "[[I", .fieldLink RX0 20 "IcicleClock$Acts" "slammed" "[[I", .fieldLink RX0 23 "IcicleClock$Acts" "rung" "[I", .instanceMethod yX0_init, .fieldLink RX6 43 "IcicleClock$Street" "acts" "LIcicleClock$Acts;"] : List Cond) ++ wsX60 ++ wsX00)
theorem iX6_init_6 : ∀ w ∈ wsX60, w ∈ vX6_init := fun _ h => List.mem_cons_of_mem _ (List.mem_append_left _ (List.mem_append_right _ h))
theorem iX6_init_0 : ∀ w ∈ wsX00, w ∈ vX6_init := fun _ h => List.mem_cons_of_mem _ (List.mem_append_right _ h)
set_option maxRecDepth 20000 in
theorem gg_X6_init_X0_init : GoodIn vX6_init vX0_init := goodIn_r _ [18, 19, 2, 3, 4, 20, 21, 22, 23, 24, 45, 46, 47, 48, 49] (by decide +kernel) (by decide +kernel)
set_option maxHeartbeats 8000000 in
set_option maxRecDepth 100000 in
theorem f_n_Street (cs : Nat → ClassId) (h0 : Nat) (ad_0 : Nat → Nat) (g_0 : Nat → va_E) (q_1 : Nat) (ad_2 : Nat → Nat) (g_3 : Nat → va_E) (q_4 : Nat) (ad_5 : Nat → Nat) (g_6 : Nat → va_E) (q_7 : Nat) (ad_8 : Nat → Nat) (g_9 : Nat → va_E) (q_10 : Nat) (ad_11 : Nat → Nat) (g_12 : Nat → va_E) (q_13 : Nat) (ad_14 : Nat → Nat) (g_15 : Nat → va_E) (q_16 : Nat) (ad_17 : Nat → Nat) (g_18 : Nat → va_E) (q_19 : Nat) (ad_20 : Nat → Nat) (g_21 : Nat → va_E) (q_22 : Nat) (ad_23 : Nat → Nat) (g_24 : Nat → va_E) (q_25 : Nat) (ad_26 : Nat → Nat) (g_27 : Nat → va_E) (q_28 : Nat) (a_29 : Nat → Nat) (c_30 : Nat → va_E) (ad_33 : Nat → Nat) (g_34 : Nat → va_E) (ead_2 : ad_2 = ct ad_0 0 (fun _ => q_1)) (eg_3 : g_3 = ct g_0 0 (fun _ => .inl (cs 1, 14, .inl (fun _ => 0)))) (ead_5 : ad_5 = ct ad_2 1 (fun _ => q_4)) (eg_6 : g_6 = ct g_3 1 (fun _ => .inl (cs 3, 14, .inl (fun _ => 0)))) (ead_8 : ad_8 = ct ad_5 2 (fun _ => q_7)) (eg_9 : g_9 = ct g_6 2 (fun _ => .inl (cs 1, 5, .inl (fun _ => 0)))) (ead_11 : ad_11 = ct ad_8 3 (fun _ => q_10)) (eg_12 : g_12 = ct g_9 3 (fun _ => .inl (cs 1, 8, .inl (fun _ => 0)))) (ead_14 : ad_14 = ct ad_11 4 (fun _ => q_13)) (eg_15 : g_15 = ct g_12 4 (fun _ => .inl (cs 1, 8, .inl (fun _ => 0)))) (ead_17 : ad_17 = ct ad_14 5 (fun _ => q_16)) (eg_18 : g_18 = ct g_15 5 (fun _ => .inl (cs 1, 8, .inl (fun _ => 0)))) (ead_20 : ad_20 = ct ad_17 6 (fun _ => q_19)) (eg_21 : g_21 = ct g_18 6 (fun _ => .inl (cs 1, 8, .inl (fun _ => 0)))) (ead_23 : ad_23 = ct ad_20 7 (fun _ => q_22)) (eg_24 : g_24 = ct g_21 7 (fun _ => .inl (cs 1, 6, .inl (fun _ => 0)))) (ead_26 : ad_26 = ct ad_23 8 (fun _ => q_25)) (eg_27 : g_27 = ct g_24 8 (fun _ => .inl (cs 1, 6, .inl (fun _ => 0)))) (h_31 : a_29 0 = q_28) (h_32 : c_30 0 = .inr (0, [.int 0, .ref (a_29 1), .ref (a_29 2), .ref (a_29 3), .ref (a_29 9)]) ∧ c_30 1 = .inl (cs 1, 40, .inl (fun _ => 0)) ∧ c_30 2 = .inl (cs 1, 40, .inl (fun _ => 0)) ∧ (∃ f, c_30 3 = .inl (cs 6, 5, .inr (.inr (.inr (.inr f)))) ∧ f 0 = some (a_29 4) ∧ f 1 = some (a_29 5) ∧ f 2 = some (a_29 6) ∧ f 3 = some (a_29 7) ∧ f 4 = some (a_29 8)) ∧ c_30 4 = .inl (cs 1, 14, .inl (fun _ => 0)) ∧ c_30 5 = .inl (cs 1, 14, .inl (fun _ => 0)) ∧ c_30 6 = .inl (cs 1, 14, .inl (fun _ => 0)) ∧ c_30 7 = .inl (cs 1, 14, .inl (fun _ => 0)) ∧ c_30 8 = .inl (cs 1, 14, .inl (fun _ => 0)) ∧ c_30 9 = .inl (cs 1, 14, .inl (fun _ => 0))) (ead_33 : ad_33 = ct ad_26 9 a_29) (eg_34 : g_34 = ct g_27 9 c_30) : (ct (fun _ => .inr (6, [.int 0, .int 0, .int 0, .int 0, .int 0, .int 0, .int 0, .int 0, .ref q_1, .ref q_4, .ref q_7, .ref q_10, .ref q_13, .ref q_16, .ref q_19, .ref q_22, .ref q_25, .ref q_28])) 1 g_34) 0 = .inr (6, [.int 0, .int 0, .int 0, .int 0, .int 0, .int 0, .int 0, .int 0, .ref (ct (fun _ => h0) 1 ad_33 1), .ref (ct (fun _ => h0) 1 ad_33 2), .ref (ct (fun _ => h0) 1 ad_33 3), .ref (ct (fun _ => h0) 1 ad_33 4), .ref (ct (fun _ => h0) 1 ad_33 5), .ref (ct (fun _ => h0) 1 ad_33 6), .ref (ct (fun _ => h0) 1 ad_33 7), .ref (ct (fun _ => h0) 1 ad_33 8), .ref (ct (fun _ => h0) 1 ad_33 9), .ref (ct (fun _ => h0) 1 ad_33 10)]) ∧ (ct (fun _ => .inr (6, [.int 0, .int 0, .int 0, .int 0, .int 0, .int 0, .int 0, .int 0, .ref q_1, .ref q_4, .ref q_7, .ref q_10, .ref q_13, .ref q_16, .ref q_19, .ref q_22, .ref q_25, .ref q_28])) 1 g_34) 1 = .inl (cs 1, 14, .inl (fun _ => 0)) ∧ (ct (fun _ => .inr (6, [.int 0, .int 0, .int 0, .int 0, .int 0, .int 0, .int 0, .int 0, .ref q_1, .ref q_4, .ref q_7, .ref q_10, .ref q_13, .ref q_16, .ref q_19, .ref q_22, .ref q_25, .ref q_28])) 1 g_34) 2 = .inl (cs 3, 14, .inl (fun _ => 0)) ∧ (ct (fun _ => .inr (6, [.int 0, .int 0, .int 0, .int 0, .int 0, .int 0, .int 0, .int 0, .ref q_1, .ref q_4, .ref q_7, .ref q_10, .ref q_13, .ref q_16, .ref q_19, .ref q_22, .ref q_25, .ref q_28])) 1 g_34) 3 = .inl (cs 1, 5, .inl (fun _ => 0)) ∧ (ct (fun _ => .inr (6, [.int 0, .int 0, .int 0, .int 0, .int 0, .int 0, .int 0, .int 0, .ref q_1, .ref q_4, .ref q_7, .ref q_10, .ref q_13, .ref q_16, .ref q_19, .ref q_22, .ref q_25, .ref q_28])) 1 g_34) 4 = .inl (cs 1, 8, .inl (fun _ => 0)) ∧ (ct (fun _ => .inr (6, [.int 0, .int 0, .int 0, .int 0, .int 0, .int 0, .int 0, .int 0, .ref q_1, .ref q_4, .ref q_7, .ref q_10, .ref q_13, .ref q_16, .ref q_19, .ref q_22, .ref q_25, .ref q_28])) 1 g_34) 5 = .inl (cs 1, 8, .inl (fun _ => 0)) ∧ (ct (fun _ => .inr (6, [.int 0, .int 0, .int 0, .int 0, .int 0, .int 0, .int 0, .int 0, .ref q_1, .ref q_4, .ref q_7, .ref q_10, .ref q_13, .ref q_16, .ref q_19, .ref q_22, .ref q_25, .ref q_28])) 1 g_34) 6 = .inl (cs 1, 8, .inl (fun _ => 0)) ∧ (ct (fun _ => .inr (6, [.int 0, .int 0, .int 0, .int 0, .int 0, .int 0, .int 0, .int 0, .ref q_1, .ref q_4, .ref q_7, .ref q_10, .ref q_13, .ref q_16, .ref q_19, .ref q_22, .ref q_25, .ref q_28])) 1 g_34) 7 = .inl (cs 1, 8, .inl (fun _ => 0)) ∧ (ct (fun _ => .inr (6, [.int 0, .int 0, .int 0, .int 0, .int 0, .int 0, .int 0, .int 0, .ref q_1, .ref q_4, .ref q_7, .ref q_10, .ref q_13, .ref q_16, .ref q_19, .ref q_22, .ref q_25, .ref q_28])) 1 g_34) 8 = .inl (cs 1, 6, .inl (fun _ => 0)) ∧ (ct (fun _ => .inr (6, [.int 0, .int 0, .int 0, .int 0, .int 0, .int 0, .int 0, .int 0, .ref q_1, .ref q_4, .ref q_7, .ref q_10, .ref q_13, .ref q_16, .ref q_19, .ref q_22, .ref q_25, .ref q_28])) 1 g_34) 9 = .inl (cs 1, 6, .inl (fun _ => 0)) ∧ (ct (fun _ => .inr (6, [.int 0, .int 0, .int 0, .int 0, .int 0, .int 0, .int 0, .int 0, .ref q_1, .ref q_4, .ref q_7, .ref q_10, .ref q_13, .ref q_16, .ref q_19, .ref q_22, .ref q_25, .ref q_28])) 1 g_34) 10 = .inr (0, [.int 0, .ref (ct (fun _ => h0) 1 ad_33 11), .ref (ct (fun _ => h0) 1 ad_33 12), .ref (ct (fun _ => h0) 1 ad_33 13), .ref (ct (fun _ => h0) 1 ad_33 19)]) ∧ (ct (fun _ => .inr (6, [.int 0, .int 0, .int 0, .int 0, .int 0, .int 0, .int 0, .int 0, .ref q_1, .ref q_4, .ref q_7, .ref q_10, .ref q_13, .ref q_16, .ref q_19, .ref q_22, .ref q_25, .ref q_28])) 1 g_34) 11 = .inl (cs 1, 40, .inl (fun _ => 0)) ∧ (ct (fun _ => .inr (6, [.int 0, .int 0, .int 0, .int 0, .int 0, .int 0, .int 0, .int 0, .ref q_1, .ref q_4, .ref q_7, .ref q_10, .ref q_13, .ref q_16, .ref q_19, .ref q_22, .ref q_25, .ref q_28])) 1 g_34) 12 = .inl (cs 1, 40, .inl (fun _ => 0)) ∧ (∃ f, (ct (fun _ => .inr (6, [.int 0, .int 0, .int 0, .int 0, .int 0, .int 0, .int 0, .int 0, .ref q_1, .ref q_4, .ref q_7, .ref q_10, .ref q_13, .ref q_16, .ref q_19, .ref q_22, .ref q_25, .ref q_28])) 1 g_34) 13 = .inl (cs 6, 5, .inr (.inr (.inr (.inr f)))) ∧ f 0 = some (ct (fun _ => h0) 1 ad_33 14) ∧ f 1 = some (ct (fun _ => h0) 1 ad_33 15) ∧ f 2 = some (ct (fun _ => h0) 1 ad_33 16) ∧ f 3 = some (ct (fun _ => h0) 1 ad_33 17) ∧ f 4 = some (ct (fun _ => h0) 1 ad_33 18)) ∧ (ct (fun _ => .inr (6, [.int 0, .int 0, .int 0, .int 0, .int 0, .int 0, .int 0, .int 0, .ref q_1, .ref q_4, .ref q_7, .ref q_10, .ref q_13, .ref q_16, .ref q_19, .ref q_22, .ref q_25, .ref q_28])) 1 g_34) 14 = .inl (cs 1, 14, .inl (fun _ => 0)) ∧ (ct (fun _ => .inr (6, [.int 0, .int 0, .int 0, .int 0, .int 0, .int 0, .int 0, .int 0, .ref q_1, .ref q_4, .ref q_7, .ref q_10, .ref q_13, .ref q_16, .ref q_19, .ref q_22, .ref q_25, .ref q_28])) 1 g_34) 15 = .inl (cs 1, 14, .inl (fun _ => 0)) ∧ (ct (fun _ => .inr (6, [.int 0, .int 0, .int 0, .int 0, .int 0, .int 0, .int 0, .int 0, .ref q_1, .ref q_4, .ref q_7, .ref q_10, .ref q_13, .ref q_16, .ref q_19, .ref q_22, .ref q_25, .ref q_28])) 1 g_34) 16 = .inl (cs 1, 14, .inl (fun _ => 0)) ∧ (ct (fun _ => .inr (6, [.int 0, .int 0, .int 0, .int 0, .int 0, .int 0, .int 0, .int 0, .ref q_1, .ref q_4, .ref q_7, .ref q_10, .ref q_13, .ref q_16, .ref q_19, .ref q_22, .ref q_25, .ref q_28])) 1 g_34) 17 = .inl (cs 1, 14, .inl (fun _ => 0)) ∧ (ct (fun _ => .inr (6, [.int 0, .int 0, .int 0, .int 0, .int 0, .int 0, .int 0, .int 0, .ref q_1, .ref q_4, .ref q_7, .ref q_10, .ref q_13, .ref q_16, .ref q_19, .ref q_22, .ref q_25, .ref q_28])) 1 g_34) 18 = .inl (cs 1, 14, .inl (fun _ => 0)) ∧ (ct (fun _ => .inr (6, [.int 0, .int 0, .int 0, .int 0, .int 0, .int 0, .int 0, .int 0, .ref q_1, .ref q_4, .ref q_7, .ref q_10, .ref q_13, .ref q_16, .ref q_19, .ref q_22, .ref q_25, .ref q_28])) 1 g_34) 19 = .inl (cs 1, 14, .inl (fun _ => 0)) := by
  subst h_31
  subst eg_34
  subst ead_33
  subst eg_27
  subst ead_26
  subst eg_24
  subst ead_23
  subst eg_21
  subst ead_20
  subst eg_18
  subst ead_17
  subst eg_15
  subst ead_14
  subst eg_12
  subst ead_11
  subst eg_9
  subst ead_8
  subst eg_6
  subst ead_5
  subst eg_3
  subst ead_2
  exact ⟨rfl, rfl, rfl, rfl, rfl, rfl, rfl, rfl, rfl, rfl, h_32.1, h_32.2.1, h_32.2.2.1, h_32.2.2.2.1, h_32.2.2.2.2.1, h_32.2.2.2.2.2.1, h_32.2.2.2.2.2.2.1, h_32.2.2.2.2.2.2.2.1, h_32.2.2.2.2.2.2.2.2.1, h_32.2.2.2.2.2.2.2.2.2⟩
set_option maxHeartbeats 8000000 in
set_option maxRecDepth 100000 in
theorem n_Street (l : Launch) (D : va_G) (cs : Nat → ClassId) (h0 sz : Nat) : cN l yX6_init vX6_init { frames := 2, cells := 19, slots := 251, locals := 32 } D cs h0 sz (.inr (6, [.int 0, .int 0, .int 0, .int 0, .int 0, .int 0, .int 0, .int 0, .null, .null, .null, .null, .null, .null, .null, .null, .null, .null])) 20 (fun a g => g 0 = .inr (6, [.int 0, .int 0, .int 0, .int 0, .int 0, .int 0, .int 0, .int 0, .ref (a 1), .ref (a 2), .ref (a 3), .ref (a 4), .ref (a 5), .ref (a 6), .ref (a 7), .ref (a 8), .ref (a 9), .ref (a 10)]) ∧ g 1 = .inl (cs 1, 14, .inl (fun _ => 0)) ∧ g 2 = .inl (cs 3, 14, .inl (fun _ => 0)) ∧ g 3 = .inl (cs 1, 5, .inl (fun _ => 0)) ∧ g 4 = .inl (cs 1, 8, .inl (fun _ => 0)) ∧ g 5 = .inl (cs 1, 8, .inl (fun _ => 0)) ∧ g 6 = .inl (cs 1, 8, .inl (fun _ => 0)) ∧ g 7 = .inl (cs 1, 8, .inl (fun _ => 0)) ∧ g 8 = .inl (cs 1, 6, .inl (fun _ => 0)) ∧ g 9 = .inl (cs 1, 6, .inl (fun _ => 0)) ∧ g 10 = .inr (0, [.int 0, .ref (a 11), .ref (a 12), .ref (a 13), .ref (a 19)]) ∧ g 11 = .inl (cs 1, 40, .inl (fun _ => 0)) ∧ g 12 = .inl (cs 1, 40, .inl (fun _ => 0)) ∧ (∃ f, g 13 = .inl (cs 6, 5, .inr (.inr (.inr (.inr f)))) ∧ f 0 = some (a 14) ∧ f 1 = some (a 15) ∧ f 2 = some (a 16) ∧ f 3 = some (a 17) ∧ f 4 = some (a 18)) ∧ g 14 = .inl (cs 1, 14, .inl (fun _ => 0)) ∧ g 15 = .inl (cs 1, 14, .inl (fun _ => 0)) ∧ g 16 = .inl (cs 1, 14, .inl (fun _ => 0)) ∧ g 17 = .inl (cs 1, 14, .inl (fun _ => 0)) ∧ g 18 = .inl (cs 1, 14, .inl (fun _ => 0)) ∧ g 19 = .inl (cs 1, 14, .inl (fun _ => 0))) 19 251 := by
  refine cN.start (cc := cX6_init) (maxL := 1) RX6 rfl (by decide) rfl rfl (by decide) ?_
  intro p e s m below meth c ls A X hnm0 hax hA hP hD hl hfin
  have hx := X.1
  have hb := X.2.1
  have hS : va_S A s.heap s.heap [] := va_S.rf
  obtain ⟨ad_0, g_0⟩ : (Nat → Nat) × (Nat → va_E) := (fun _ => 0, fun _ => .inr (0, []))
  have hP : va_P D vwCl ((h0, .inr (6, [.int 0, .int 0, .int 0, .int 0, .int 0, .int 0, .int 0, .int 0, .null, .null, .null, .null, .null, .null, .null, .null, .null, .null])) :: wL ad_0 g_0 0) s.heap := hP
  have hD : va_D A ((h0, .inr (6, [.int 0, .int 0, .int 0, .int 0, .int 0, .int 0, .int 0, .int 0, .null, .null, .null, .null, .null, .null, .null, .null, .null, .null])) :: wL ad_0 g_0 0) := hD
  refine lv_aload_n hx hb dX6_init_0 rfl (lv_at hl 0 rfl) ?_
  refine r_obj X hl.1 (List.mem_of_getElem? (i := 1) rfl) (List.mem_of_getElem? (i := 2) rfl) (List.mem_of_getElem? (i := 3) rfl) dX6_init_1 (Nat.le_of_ble_eq_true rfl) (Nat.le_of_ble_eq_true rfl) ?_
  refine lv_aload_n hx hb dX6_init_4 rfl (lv_at hl 0 rfl) ?_
  refine lv_bipush (v := 14) hx hb dX6_init_5 (by decide) ?_
  refine r_newa (atype := .int) X 1 rfl rfl (fun _ h => h) (List.mem_of_getElem? (i := 4) rfl) hP hD hS hA (a0 := (14, .inl (fun _ => 0))) (fun _ => rfl) (by decide) (by decide) (Nat.le_of_ble_eq_true rfl) (Nat.le_of_ble_eq_true rfl) (Nat.le_of_ble_eq_true rfl) dX6_init_7 (fun q_1 ad_2 g_3 H ead_2 eg_3 hP hD hS => ?_)
  have hP : va_P D vwCl ((h0, .inr (6, [.int 0, .int 0, .int 0, .int 0, .int 0, .int 0, .int 0, .int 0, .null, .null, .null, .null, .null, .null, .null, .null, .null, .null])) :: wL ad_2 g_3 1) H := hP
  have hD : va_D A ((h0, .inr (6, [.int 0, .int 0, .int 0, .int 0, .int 0, .int 0, .int 0, .int 0, .null, .null, .null, .null, .null, .null, .null, .null, .null, .null])) :: wL ad_2 g_3 1) := hD
  refine r_putF X hnm0 iX6_init_6 tyX6 tyX6_ok nmX6 hP hD hS rfl 8 (by decide) (List.mem_of_getElem? (i := 5) rfl) rfl rfl (ty := .array .int) (v := .ref q_1) (by decide +kernel) rfl rfl (Nat.le_of_ble_eq_true rfl) dX6_init_9 (fun H locs hP hD hS => ?_)
  have hP : va_P D vwCl ((h0, .inr (6, [.int 0, .int 0, .int 0, .int 0, .int 0, .int 0, .int 0, .int 0, .ref q_1, .null, .null, .null, .null, .null, .null, .null, .null, .null])) :: wL ad_2 g_3 1) H := hP
  have hD : va_D A ((h0, .inr (6, [.int 0, .int 0, .int 0, .int 0, .int 0, .int 0, .int 0, .int 0, .ref q_1, .null, .null, .null, .null, .null, .null, .null, .null, .null])) :: wL ad_2 g_3 1) := hD
  refine lv_aload_n hx hb dX6_init_12 rfl (lv_at hl 0 rfl) ?_
  refine lv_bipush (v := 14) hx hb dX6_init_13 (by decide) ?_
  refine r_newa (atype := .boolean) X 3 rfl rfl (fun _ h => h) (List.mem_of_getElem? (i := 6) rfl) hP hD hS hA (a0 := (14, .inl (fun _ => 0))) (fun _ => rfl) (by decide) (by decide) (Nat.le_of_ble_eq_true rfl) (Nat.le_of_ble_eq_true rfl) (Nat.le_of_ble_eq_true rfl) dX6_init_15 (fun q_4 ad_5 g_6 H ead_5 eg_6 hP hD hS => ?_)
  have hP : va_P D vwCl ((h0, .inr (6, [.int 0, .int 0, .int 0, .int 0, .int 0, .int 0, .int 0, .int 0, .ref q_1, .null, .null, .null, .null, .null, .null, .null, .null, .null])) :: wL ad_5 g_6 2) H := hP
  have hD : va_D A ((h0, .inr (6, [.int 0, .int 0, .int 0, .int 0, .int 0, .int 0, .int 0, .int 0, .ref q_1, .null, .null, .null, .null, .null, .null, .null, .null, .null])) :: wL ad_5 g_6 2) := hD
  refine r_putF X hnm0 iX6_init_6 tyX6 tyX6_ok nmX6 hP hD hS rfl 9 (by decide) (List.mem_of_getElem? (i := 7) rfl) rfl rfl (ty := .array .boolean) (v := .ref q_4) (by decide +kernel) rfl rfl (Nat.le_of_ble_eq_true rfl) dX6_init_17 (fun H locs hP hD hS => ?_)
  have hP : va_P D vwCl ((h0, .inr (6, [.int 0, .int 0, .int 0, .int 0, .int 0, .int 0, .int 0, .int 0, .ref q_1, .ref q_4, .null, .null, .null, .null, .null, .null, .null, .null])) :: wL ad_5 g_6 2) H := hP
  have hD : va_D A ((h0, .inr (6, [.int 0, .int 0, .int 0, .int 0, .int 0, .int 0, .int 0, .int 0, .ref q_1, .ref q_4, .null, .null, .null, .null, .null, .null, .null, .null])) :: wL ad_5 g_6 2) := hD
  refine lv_aload_n hx hb dX6_init_20 rfl (lv_at hl 0 rfl) ?_
  refine lv_iconst (v := 5) hx hb dX6_init_21 (by decide) ?_
  refine r_newa (atype := .int) X 1 rfl rfl (fun _ h => h) (List.mem_of_getElem? (i := 4) rfl) hP hD hS hA (a0 := (5, .inl (fun _ => 0))) (fun _ => rfl) (by decide) (by decide) (Nat.le_of_ble_eq_true rfl) (Nat.le_of_ble_eq_true rfl) (Nat.le_of_ble_eq_true rfl) dX6_init_22 (fun q_7 ad_8 g_9 H ead_8 eg_9 hP hD hS => ?_)
  have hP : va_P D vwCl ((h0, .inr (6, [.int 0, .int 0, .int 0, .int 0, .int 0, .int 0, .int 0, .int 0, .ref q_1, .ref q_4, .null, .null, .null, .null, .null, .null, .null, .null])) :: wL ad_8 g_9 3) H := hP
  have hD : va_D A ((h0, .inr (6, [.int 0, .int 0, .int 0, .int 0, .int 0, .int 0, .int 0, .int 0, .ref q_1, .ref q_4, .null, .null, .null, .null, .null, .null, .null, .null])) :: wL ad_8 g_9 3) := hD
  refine r_putF X hnm0 iX6_init_6 tyX6 tyX6_ok nmX6 hP hD hS rfl 10 (by decide) (List.mem_of_getElem? (i := 8) rfl) rfl rfl (ty := .array .int) (v := .ref q_7) (by decide +kernel) rfl rfl (Nat.le_of_ble_eq_true rfl) dX6_init_24 (fun H locs hP hD hS => ?_)
  have hP : va_P D vwCl ((h0, .inr (6, [.int 0, .int 0, .int 0, .int 0, .int 0, .int 0, .int 0, .int 0, .ref q_1, .ref q_4, .ref q_7, .null, .null, .null, .null, .null, .null, .null])) :: wL ad_8 g_9 3) H := hP
  have hD : va_D A ((h0, .inr (6, [.int 0, .int 0, .int 0, .int 0, .int 0, .int 0, .int 0, .int 0, .ref q_1, .ref q_4, .ref q_7, .null, .null, .null, .null, .null, .null, .null])) :: wL ad_8 g_9 3) := hD
  refine lv_aload_n hx hb dX6_init_27 rfl (lv_at hl 0 rfl) ?_
  refine lv_bipush (v := 8) hx hb dX6_init_28 (by decide) ?_
  refine r_newa (atype := .int) X 1 rfl rfl (fun _ h => h) (List.mem_of_getElem? (i := 4) rfl) hP hD hS hA (a0 := (8, .inl (fun _ => 0))) (fun _ => rfl) (by decide) (by decide) (Nat.le_of_ble_eq_true rfl) (Nat.le_of_ble_eq_true rfl) (Nat.le_of_ble_eq_true rfl) dX6_init_30 (fun q_10 ad_11 g_12 H ead_11 eg_12 hP hD hS => ?_)
  have hP : va_P D vwCl ((h0, .inr (6, [.int 0, .int 0, .int 0, .int 0, .int 0, .int 0, .int 0, .int 0, .ref q_1, .ref q_4, .ref q_7, .null, .null, .null, .null, .null, .null, .null])) :: wL ad_11 g_12 4) H := hP
  have hD : va_D A ((h0, .inr (6, [.int 0, .int 0, .int 0, .int 0, .int 0, .int 0, .int 0, .int 0, .ref q_1, .ref q_4, .ref q_7, .null, .null, .null, .null, .null, .null, .null])) :: wL ad_11 g_12 4) := hD
  refine r_putF X hnm0 iX6_init_6 tyX6 tyX6_ok nmX6 hP hD hS rfl 11 (by decide) (List.mem_of_getElem? (i := 9) rfl) rfl rfl (ty := .array .int) (v := .ref q_10) (by decide +kernel) rfl rfl (Nat.le_of_ble_eq_true rfl) dX6_init_32 (fun H locs hP hD hS => ?_)
  have hP : va_P D vwCl ((h0, .inr (6, [.int 0, .int 0, .int 0, .int 0, .int 0, .int 0, .int 0, .int 0, .ref q_1, .ref q_4, .ref q_7, .ref q_10, .null, .null, .null, .null, .null, .null])) :: wL ad_11 g_12 4) H := hP
  have hD : va_D A ((h0, .inr (6, [.int 0, .int 0, .int 0, .int 0, .int 0, .int 0, .int 0, .int 0, .ref q_1, .ref q_4, .ref q_7, .ref q_10, .null, .null, .null, .null, .null, .null])) :: wL ad_11 g_12 4) := hD
  refine lv_aload_n hx hb dX6_init_35 rfl (lv_at hl 0 rfl) ?_
  refine lv_bipush (v := 8) hx hb dX6_init_36 (by decide) ?_
  refine r_newa (atype := .int) X 1 rfl rfl (fun _ h => h) (List.mem_of_getElem? (i := 4) rfl) hP hD hS hA (a0 := (8, .inl (fun _ => 0))) (fun _ => rfl) (by decide) (by decide) (Nat.le_of_ble_eq_true rfl) (Nat.le_of_ble_eq_true rfl) (Nat.le_of_ble_eq_true rfl) dX6_init_38 (fun q_13 ad_14 g_15 H ead_14 eg_15 hP hD hS => ?_)
  have hP : va_P D vwCl ((h0, .inr (6, [.int 0, .int 0, .int 0, .int 0, .int 0, .int 0, .int 0, .int 0, .ref q_1, .ref q_4, .ref q_7, .ref q_10, .null, .null, .null, .null, .null, .null])) :: wL ad_14 g_15 5) H := hP
  have hD : va_D A ((h0, .inr (6, [.int 0, .int 0, .int 0, .int 0, .int 0, .int 0, .int 0, .int 0, .ref q_1, .ref q_4, .ref q_7, .ref q_10, .null, .null, .null, .null, .null, .null])) :: wL ad_14 g_15 5) := hD
  refine r_putF X hnm0 iX6_init_6 tyX6 tyX6_ok nmX6 hP hD hS rfl 12 (by decide) (List.mem_of_getElem? (i := 10) rfl) rfl rfl (ty := .array .int) (v := .ref q_13) (by decide +kernel) rfl rfl (Nat.le_of_ble_eq_true rfl) dX6_init_40 (fun H locs hP hD hS => ?_)
  have hP : va_P D vwCl ((h0, .inr (6, [.int 0, .int 0, .int 0, .int 0, .int 0, .int 0, .int 0, .int 0, .ref q_1, .ref q_4, .ref q_7, .ref q_10, .ref q_13, .null, .null, .null, .null, .null])) :: wL ad_14 g_15 5) H := hP
  have hD : va_D A ((h0, .inr (6, [.int 0, .int 0, .int 0, .int 0, .int 0, .int 0, .int 0, .int 0, .ref q_1, .ref q_4, .ref q_7, .ref q_10, .ref q_13, .null, .null, .null, .null, .null])) :: wL ad_14 g_15 5) := hD
  refine lv_aload_n hx hb dX6_init_43 rfl (lv_at hl 0 rfl) ?_
  refine lv_bipush (v := 8) hx hb dX6_init_44 (by decide) ?_
  refine r_newa (atype := .int) X 1 rfl rfl (fun _ h => h) (List.mem_of_getElem? (i := 4) rfl) hP hD hS hA (a0 := (8, .inl (fun _ => 0))) (fun _ => rfl) (by decide) (by decide) (Nat.le_of_ble_eq_true rfl) (Nat.le_of_ble_eq_true rfl) (Nat.le_of_ble_eq_true rfl) dX6_init_46 (fun q_16 ad_17 g_18 H ead_17 eg_18 hP hD hS => ?_)
  have hP : va_P D vwCl ((h0, .inr (6, [.int 0, .int 0, .int 0, .int 0, .int 0, .int 0, .int 0, .int 0, .ref q_1, .ref q_4, .ref q_7, .ref q_10, .ref q_13, .null, .null, .null, .null, .null])) :: wL ad_17 g_18 6) H := hP
  have hD : va_D A ((h0, .inr (6, [.int 0, .int 0, .int 0, .int 0, .int 0, .int 0, .int 0, .int 0, .ref q_1, .ref q_4, .ref q_7, .ref q_10, .ref q_13, .null, .null, .null, .null, .null])) :: wL ad_17 g_18 6) := hD
  refine r_putF X hnm0 iX6_init_6 tyX6 tyX6_ok nmX6 hP hD hS rfl 13 (by decide) (List.mem_of_getElem? (i := 11) rfl) rfl rfl (ty := .array .int) (v := .ref q_16) (by decide +kernel) rfl rfl (Nat.le_of_ble_eq_true rfl) dX6_init_48 (fun H locs hP hD hS => ?_)
  have hP : va_P D vwCl ((h0, .inr (6, [.int 0, .int 0, .int 0, .int 0, .int 0, .int 0, .int 0, .int 0, .ref q_1, .ref q_4, .ref q_7, .ref q_10, .ref q_13, .ref q_16, .null, .null, .null, .null])) :: wL ad_17 g_18 6) H := hP
  have hD : va_D A ((h0, .inr (6, [.int 0, .int 0, .int 0, .int 0, .int 0, .int 0, .int 0, .int 0, .ref q_1, .ref q_4, .ref q_7, .ref q_10, .ref q_13, .ref q_16, .null, .null, .null, .null])) :: wL ad_17 g_18 6) := hD
  refine lv_aload_n hx hb dX6_init_51 rfl (lv_at hl 0 rfl) ?_
  refine lv_bipush (v := 8) hx hb dX6_init_52 (by decide) ?_
  refine r_newa (atype := .int) X 1 rfl rfl (fun _ h => h) (List.mem_of_getElem? (i := 4) rfl) hP hD hS hA (a0 := (8, .inl (fun _ => 0))) (fun _ => rfl) (by decide) (by decide) (Nat.le_of_ble_eq_true rfl) (Nat.le_of_ble_eq_true rfl) (Nat.le_of_ble_eq_true rfl) dX6_init_54 (fun q_19 ad_20 g_21 H ead_20 eg_21 hP hD hS => ?_)
  have hP : va_P D vwCl ((h0, .inr (6, [.int 0, .int 0, .int 0, .int 0, .int 0, .int 0, .int 0, .int 0, .ref q_1, .ref q_4, .ref q_7, .ref q_10, .ref q_13, .ref q_16, .null, .null, .null, .null])) :: wL ad_20 g_21 7) H := hP
  have hD : va_D A ((h0, .inr (6, [.int 0, .int 0, .int 0, .int 0, .int 0, .int 0, .int 0, .int 0, .ref q_1, .ref q_4, .ref q_7, .ref q_10, .ref q_13, .ref q_16, .null, .null, .null, .null])) :: wL ad_20 g_21 7) := hD
  refine r_putF X hnm0 iX6_init_6 tyX6 tyX6_ok nmX6 hP hD hS rfl 14 (by decide) (List.mem_of_getElem? (i := 12) rfl) rfl rfl (ty := .array .int) (v := .ref q_19) (by decide +kernel) rfl rfl (Nat.le_of_ble_eq_true rfl) dX6_init_56 (fun H locs hP hD hS => ?_)
  have hP : va_P D vwCl ((h0, .inr (6, [.int 0, .int 0, .int 0, .int 0, .int 0, .int 0, .int 0, .int 0, .ref q_1, .ref q_4, .ref q_7, .ref q_10, .ref q_13, .ref q_16, .ref q_19, .null, .null, .null])) :: wL ad_20 g_21 7) H := hP
  have hD : va_D A ((h0, .inr (6, [.int 0, .int 0, .int 0, .int 0, .int 0, .int 0, .int 0, .int 0, .ref q_1, .ref q_4, .ref q_7, .ref q_10, .ref q_13, .ref q_16, .ref q_19, .null, .null, .null])) :: wL ad_20 g_21 7) := hD
  refine lv_aload_n hx hb dX6_init_59 rfl (lv_at hl 0 rfl) ?_
  refine lv_bipush (v := 6) hx hb dX6_init_60 (by decide) ?_
  refine r_newa (atype := .int) X 1 rfl rfl (fun _ h => h) (List.mem_of_getElem? (i := 4) rfl) hP hD hS hA (a0 := (6, .inl (fun _ => 0))) (fun _ => rfl) (by decide) (by decide) (Nat.le_of_ble_eq_true rfl) (Nat.le_of_ble_eq_true rfl) (Nat.le_of_ble_eq_true rfl) dX6_init_62 (fun q_22 ad_23 g_24 H ead_23 eg_24 hP hD hS => ?_)
  have hP : va_P D vwCl ((h0, .inr (6, [.int 0, .int 0, .int 0, .int 0, .int 0, .int 0, .int 0, .int 0, .ref q_1, .ref q_4, .ref q_7, .ref q_10, .ref q_13, .ref q_16, .ref q_19, .null, .null, .null])) :: wL ad_23 g_24 8) H := hP
  have hD : va_D A ((h0, .inr (6, [.int 0, .int 0, .int 0, .int 0, .int 0, .int 0, .int 0, .int 0, .ref q_1, .ref q_4, .ref q_7, .ref q_10, .ref q_13, .ref q_16, .ref q_19, .null, .null, .null])) :: wL ad_23 g_24 8) := hD
  refine r_putF X hnm0 iX6_init_6 tyX6 tyX6_ok nmX6 hP hD hS rfl 15 (by decide) (List.mem_of_getElem? (i := 13) rfl) rfl rfl (ty := .array .int) (v := .ref q_22) (by decide +kernel) rfl rfl (Nat.le_of_ble_eq_true rfl) dX6_init_64 (fun H locs hP hD hS => ?_)
  have hP : va_P D vwCl ((h0, .inr (6, [.int 0, .int 0, .int 0, .int 0, .int 0, .int 0, .int 0, .int 0, .ref q_1, .ref q_4, .ref q_7, .ref q_10, .ref q_13, .ref q_16, .ref q_19, .ref q_22, .null, .null])) :: wL ad_23 g_24 8) H := hP
  have hD : va_D A ((h0, .inr (6, [.int 0, .int 0, .int 0, .int 0, .int 0, .int 0, .int 0, .int 0, .ref q_1, .ref q_4, .ref q_7, .ref q_10, .ref q_13, .ref q_16, .ref q_19, .ref q_22, .null, .null])) :: wL ad_23 g_24 8) := hD
  refine lv_aload_n hx hb dX6_init_67 rfl (lv_at hl 0 rfl) ?_
  refine lv_bipush (v := 6) hx hb dX6_init_68 (by decide) ?_
  refine r_newa (atype := .int) X 1 rfl rfl (fun _ h => h) (List.mem_of_getElem? (i := 4) rfl) hP hD hS hA (a0 := (6, .inl (fun _ => 0))) (fun _ => rfl) (by decide) (by decide) (Nat.le_of_ble_eq_true rfl) (Nat.le_of_ble_eq_true rfl) (Nat.le_of_ble_eq_true rfl) dX6_init_70 (fun q_25 ad_26 g_27 H ead_26 eg_27 hP hD hS => ?_)
  have hP : va_P D vwCl ((h0, .inr (6, [.int 0, .int 0, .int 0, .int 0, .int 0, .int 0, .int 0, .int 0, .ref q_1, .ref q_4, .ref q_7, .ref q_10, .ref q_13, .ref q_16, .ref q_19, .ref q_22, .null, .null])) :: wL ad_26 g_27 9) H := hP
  have hD : va_D A ((h0, .inr (6, [.int 0, .int 0, .int 0, .int 0, .int 0, .int 0, .int 0, .int 0, .ref q_1, .ref q_4, .ref q_7, .ref q_10, .ref q_13, .ref q_16, .ref q_19, .ref q_22, .null, .null])) :: wL ad_26 g_27 9) := hD
  refine r_putF X hnm0 iX6_init_6 tyX6 tyX6_ok nmX6 hP hD hS rfl 16 (by decide) (List.mem_of_getElem? (i := 14) rfl) rfl rfl (ty := .array .int) (v := .ref q_25) (by decide +kernel) rfl rfl (Nat.le_of_ble_eq_true rfl) dX6_init_72 (fun H locs hP hD hS => ?_)
  have hP : va_P D vwCl ((h0, .inr (6, [.int 0, .int 0, .int 0, .int 0, .int 0, .int 0, .int 0, .int 0, .ref q_1, .ref q_4, .ref q_7, .ref q_10, .ref q_13, .ref q_16, .ref q_19, .ref q_22, .ref q_25, .null])) :: wL ad_26 g_27 9) H := hP
  have hD : va_D A ((h0, .inr (6, [.int 0, .int 0, .int 0, .int 0, .int 0, .int 0, .int 0, .int 0, .ref q_1, .ref q_4, .ref q_7, .ref q_10, .ref q_13, .ref q_16, .ref q_19, .ref q_22, .ref q_25, .null])) :: wL ad_26 g_27 9) := hD
  refine lv_aload_n hx hb dX6_init_75 rfl (lv_at hl 0 rfl) ?_
  refine r_new (ci := 0) (fs := [.int 0, .null, .null, .null, .null]) X iX6_init_0 tyX0 tyX0_ok (List.mem_of_getElem? (i := 15) rfl) (List.mem_of_getElem? (i := 16) rfl) (List.mem_of_getElem? (i := 17) rfl) hP hD hS hA rfl (fun j hj => by rcases (show j = 0 ∨ j = 1 ∨ j = 2 ∨ j = 3 ∨ j = 4 by omega) with rfl | rfl | rfl | rfl | rfl <;> rfl) (Nat.le_of_ble_eq_true rfl) (Nat.le_of_ble_eq_true rfl) dX6_init_76 (fun q_28 H hP hD hS => ?_)
  have hP : va_P D vwCl (((h0, .inr (6, [.int 0, .int 0, .int 0, .int 0, .int 0, .int 0, .int 0, .int 0, .ref q_1, .ref q_4, .ref q_7, .ref q_10, .ref q_13, .ref q_16, .ref q_19, .ref q_22, .ref q_25, .null])) :: wL ad_26 g_27 9) ++ [(q_28, .inr (0, [.int 0, .null, .null, .null, .null]))]) H := hP
  have hD : va_D A (((h0, .inr (6, [.int 0, .int 0, .int 0, .int 0, .int 0, .int 0, .int 0, .int 0, .ref q_1, .ref q_4, .ref q_7, .ref q_10, .ref q_13, .ref q_16, .ref q_19, .ref q_22, .ref q_25, .null])) :: wL ad_26 g_27 9) ++ [(q_28, .inr (0, [.int 0, .null, .null, .null, .null]))]) := hD
  refine lv_dup hx hb dX6_init_79 rfl ?_
  refine r_init X hax hP hD hS hA (n_Acts l D cs q_28 H.size) ⟨va_cnB 0 X.2.2.2.2.1 gg_X6_init_X0_init rfl rfl rfl (hax.1 _ (List.mem_of_getElem? (i := 2) rfl)) (X.2.2.2.2.1 _ (List.mem_of_getElem? (i := 17) rfl)) (by decide +kernel) ⟨Nat.le_of_ble_eq_true rfl, Nat.le_of_ble_eq_true rfl⟩, rfl, X.2.2.2.2.1 _ (List.mem_of_getElem? (i := 25) rfl)⟩ hl.1 (Nat.le_of_ble_eq_true rfl) dX6_init_80 ⟨Nat.le_of_ble_eq_true rfl, Nat.le_of_ble_eq_true rfl⟩ (fun a_29 c_30 H locs h_31 h_32 hP hD hS => ?_)
  obtain ⟨ad_33, ead_33⟩ : ∃ x, x = ct ad_26 9 a_29 := ⟨_, rfl⟩
  obtain ⟨g_34, eg_34⟩ : ∃ x, x = ct g_27 9 c_30 := ⟨_, rfl⟩
  have eT : wL ad_26 g_27 9 ++ wL a_29 c_30 10 = wL ad_33 g_34 19 := by rw [ead_33, eg_34]; exact wL_app _ _ _ _ _ _
  have hP : va_P D vwCl ((h0, .inr (6, [.int 0, .int 0, .int 0, .int 0, .int 0, .int 0, .int 0, .int 0, .ref q_1, .ref q_4, .ref q_7, .ref q_10, .ref q_13, .ref q_16, .ref q_19, .ref q_22, .ref q_25, .null])) :: wL ad_33 g_34 19) H := by rw [← eT]; exact hP
  have hD : va_D A ((h0, .inr (6, [.int 0, .int 0, .int 0, .int 0, .int 0, .int 0, .int 0, .int 0, .ref q_1, .ref q_4, .ref q_7, .ref q_10, .ref q_13, .ref q_16, .ref q_19, .ref q_22, .ref q_25, .null])) :: wL ad_33 g_34 19) := by rw [← eT]; exact hD
  refine r_putF X hnm0 iX6_init_6 tyX6 tyX6_ok nmX6 hP hD hS rfl 17 (by decide) (List.mem_of_getElem? (i := 26) rfl) rfl rfl (ty := .object "IcicleClock$Acts") (v := .ref q_28) (by decide +kernel) rfl rfl (Nat.le_of_ble_eq_true rfl) dX6_init_83 (fun H locs hP hD hS => ?_)
  have hP : va_P D vwCl ((h0, .inr (6, [.int 0, .int 0, .int 0, .int 0, .int 0, .int 0, .int 0, .int 0, .ref q_1, .ref q_4, .ref q_7, .ref q_10, .ref q_13, .ref q_16, .ref q_19, .ref q_22, .ref q_25, .ref q_28])) :: wL ad_33 g_34 19) H := hP
  have hD : va_D A ((h0, .inr (6, [.int 0, .int 0, .int 0, .int 0, .int 0, .int 0, .int 0, .int 0, .ref q_1, .ref q_4, .ref q_7, .ref q_10, .ref q_13, .ref q_16, .ref q_19, .ref q_22, .ref q_25, .ref q_28])) :: wL ad_33 g_34 19) := hD
  have eW : (h0, .inr (6, [.int 0, .int 0, .int 0, .int 0, .int 0, .int 0, .int 0, .int 0, .ref q_1, .ref q_4, .ref q_7, .ref q_10, .ref q_13, .ref q_16, .ref q_19, .ref q_22, .ref q_25, .ref q_28])) :: wL ad_33 g_34 19 = wL (ct (fun _ => h0) 1 ad_33) (ct (fun _ => .inr (6, [.int 0, .int 0, .int 0, .int 0, .int 0, .int 0, .int 0, .int 0, .ref q_1, .ref q_4, .ref q_7, .ref q_10, .ref q_13, .ref q_16, .ref q_19, .ref q_22, .ref q_25, .ref q_28])) 1 g_34) 20 := by rw [wL_cons, show 1 + 19 = 20 from rfl]
  rw [eW] at hP hD
  refine W.widen (k := 19) (n := 251) (Nat.le_of_ble_eq_true rfl) (Nat.le_of_ble_eq_true rfl) ?_
  refine hfin H locs 86 ls _ _ hP hD hS rfl ?_ dX6_init_86
  exact f_n_Street cs h0 _ _ _ _ _ _ _ _ _ _ _ _ _ _ _ _ _ _ _ _ _ _ _ _ _ _ _ _ _ _ _ _ _ _ ead_2 eg_3 ead_5 eg_6 ead_8 eg_9 ead_11 eg_12 ead_14 eg_15 ead_17 eg_18 ead_20 eg_21 ead_23 eg_24 ead_26 eg_27 h_31 h_32 ead_33 eg_34

theorem dX5_init_0 : decode cX5_init 0 = .ok (.aload_n 0, 1) := by decide +kernel
theorem dX5_init_1 : decode cX5_init 1 = .ok (.invokespecial 3, 3) := by decide +kernel
theorem dX5_init_4 : decode cX5_init 4 = .ok (.aload_n 0, 1) := by decide +kernel
theorem dX5_init_5 : decode cX5_init 5 = .ok (.bipush 60, 2) := by decide +kernel
theorem dX5_init_7 : decode cX5_init 7 = .ok (.newarray .long, 2) := by decide +kernel
theorem dX5_init_9 : decode cX5_init 9 = .ok (.putfield 9, 3) := by decide +kernel
theorem dX5_init_12 : decode cX5_init 12 = .ok (.return_, 1) := by decide +kernel
noncomputable def vX5_init : List Cond := .code yX5_init cX5_init 1 none :: (([.methodLink RX5 3 objectInit, .instanceMethod objectInit, .code objectInit ⟨#[0xb1]⟩ 1 none, .arrayClass .long, .fieldLink RX5 9 "IcicleClock$Slot" "numbers" "[J"] : List Cond) ++ wsX50)
theorem iX5_init_5 : ∀ w ∈ wsX50, w ∈ vX5_init := fun _ h => List.mem_cons_of_mem _ (List.mem_append_right _ h)
set_option maxHeartbeats 8000000 in
set_option maxRecDepth 100000 in
theorem f_n_Slot (cs : Nat → ClassId) (h0 : Nat) (ad_0 : Nat → Nat) (g_0 : Nat → va_E) (q_1 : Nat) (ad_2 : Nat → Nat) (g_3 : Nat → va_E) (ead_2 : ad_2 = ct ad_0 0 (fun _ => q_1)) (eg_3 : g_3 = ct g_0 0 (fun _ => .inl (cs 2, 60, .inr (.inl (fun _ => 0))))) : (ct (fun _ => .inr (5, [.ref q_1, .int 0, .int 0, .int 0])) 1 g_3) 0 = .inr (5, [.ref (ct (fun _ => h0) 1 ad_2 1), .int 0, .int 0, .int 0]) ∧ (ct (fun _ => .inr (5, [.ref q_1, .int 0, .int 0, .int 0])) 1 g_3) 1 = .inl (cs 2, 60, .inr (.inl (fun _ => 0))) := by
  subst eg_3
  subst ead_2
  exact ⟨rfl, rfl⟩
set_option maxHeartbeats 8000000 in
set_option maxRecDepth 100000 in
theorem n_Slot (l : Launch) (D : va_G) (cs : Nat → ClassId) (h0 sz : Nat) : cN l yX5_init vX5_init { frames := 1, cells := 1, slots := 60, locals := 12 } D cs h0 sz (.inr (5, [.null, .int 0, .int 0, .int 0])) 2 (fun a g => g 0 = .inr (5, [.ref (a 1), .int 0, .int 0, .int 0]) ∧ g 1 = .inl (cs 2, 60, .inr (.inl (fun _ => 0)))) 1 60 := by
  refine cN.start (cc := cX5_init) (maxL := 1) RX5 rfl (by decide) rfl rfl (by decide) ?_
  intro p e s m below meth c ls A X hnm0 hax hA hP hD hl hfin
  have hx := X.1
  have hb := X.2.1
  have hS : va_S A s.heap s.heap [] := va_S.rf
  obtain ⟨ad_0, g_0⟩ : (Nat → Nat) × (Nat → va_E) := (fun _ => 0, fun _ => .inr (0, []))
  have hP : va_P D vwCl ((h0, .inr (5, [.null, .int 0, .int 0, .int 0])) :: wL ad_0 g_0 0) s.heap := hP
  have hD : va_D A ((h0, .inr (5, [.null, .int 0, .int 0, .int 0])) :: wL ad_0 g_0 0) := hD
  refine lv_aload_n hx hb dX5_init_0 rfl (lv_at hl 0 rfl) ?_
  refine r_obj X hl.1 (List.mem_of_getElem? (i := 1) rfl) (List.mem_of_getElem? (i := 2) rfl) (List.mem_of_getElem? (i := 3) rfl) dX5_init_1 (Nat.le_of_ble_eq_true rfl) (Nat.le_of_ble_eq_true rfl) ?_
  refine lv_aload_n hx hb dX5_init_4 rfl (lv_at hl 0 rfl) ?_
  refine lv_bipush (v := 60) hx hb dX5_init_5 (by decide) ?_
  refine r_newa (atype := .long) X 2 rfl rfl (fun _ h => h) (List.mem_of_getElem? (i := 4) rfl) hP hD hS hA (a0 := (60, .inr (.inl (fun _ => 0)))) (fun _ => rfl) (by decide) (by decide) (Nat.le_of_ble_eq_true rfl) (Nat.le_of_ble_eq_true rfl) (Nat.le_of_ble_eq_true rfl) dX5_init_7 (fun q_1 ad_2 g_3 H ead_2 eg_3 hP hD hS => ?_)
  have hP : va_P D vwCl ((h0, .inr (5, [.null, .int 0, .int 0, .int 0])) :: wL ad_2 g_3 1) H := hP
  have hD : va_D A ((h0, .inr (5, [.null, .int 0, .int 0, .int 0])) :: wL ad_2 g_3 1) := hD
  refine r_putF X hnm0 iX5_init_5 tyX5 tyX5_ok nmX5 hP hD hS rfl 0 (by decide) (List.mem_of_getElem? (i := 5) rfl) rfl rfl (ty := .array .long) (v := .ref q_1) (by decide +kernel) rfl rfl (Nat.le_of_ble_eq_true rfl) dX5_init_9 (fun H locs hP hD hS => ?_)
  have hP : va_P D vwCl ((h0, .inr (5, [.ref q_1, .int 0, .int 0, .int 0])) :: wL ad_2 g_3 1) H := hP
  have hD : va_D A ((h0, .inr (5, [.ref q_1, .int 0, .int 0, .int 0])) :: wL ad_2 g_3 1) := hD
  have eW : (h0, .inr (5, [.ref q_1, .int 0, .int 0, .int 0])) :: wL ad_2 g_3 1 = wL (ct (fun _ => h0) 1 ad_2) (ct (fun _ => .inr (5, [.ref q_1, .int 0, .int 0, .int 0])) 1 g_3) 2 := by rw [wL_cons, show 1 + 1 = 2 from rfl]
  rw [eW] at hP hD
  refine W.widen (k := 1) (n := 60) (Nat.le_of_ble_eq_true rfl) (Nat.le_of_ble_eq_true rfl) ?_
  refine hfin H locs 12 ls _ _ hP hD hS rfl ?_ dX5_init_12
  exact f_n_Slot cs h0 _ _ _ _ _ ead_2 eg_3

theorem dX10_init_0 : decode cX10_init 0 = .ok (.aload_n 0, 1) := by decide +kernel
theorem dX10_init_1 : decode cX10_init 1 = .ok (.invokespecial 3, 3) := by decide +kernel
theorem dX10_init_4 : decode cX10_init 4 = .ok (.aload_n 0, 1) := by decide +kernel
theorem dX10_init_5 : decode cX10_init 5 = .ok (.iconst (-1), 1) := by decide +kernel
theorem dX10_init_6 : decode cX10_init 6 = .ok (.putfield 9, 3) := by decide +kernel
theorem dX10_init_9 : decode cX10_init 9 = .ok (.aload_n 0, 1) := by decide +kernel
theorem dX10_init_10 : decode cX10_init 10 = .ok (.iconst (-1), 1) := by decide +kernel
theorem dX10_init_11 : decode cX10_init 11 = .ok (.putfield 15, 3) := by decide +kernel
theorem dX10_init_14 : decode cX10_init 14 = .ok (.aload_n 0, 1) := by decide +kernel
theorem dX10_init_15 : decode cX10_init 15 = .ok (.bipush 8, 2) := by decide +kernel
theorem dX10_init_17 : decode cX10_init 17 = .ok (.newarray .int, 2) := by decide +kernel
theorem dX10_init_19 : decode cX10_init 19 = .ok (.putfield 18, 3) := by decide +kernel
theorem dX10_init_22 : decode cX10_init 22 = .ok (.return_, 1) := by decide +kernel
noncomputable def vX10_init : List Cond := .code yX10_init cX10_init 1 none :: (([.methodLink RX10 3 objectInit, .instanceMethod objectInit, .code objectInit ⟨#[0xb1]⟩ 1 none, .fieldLink RX10 9 "IcicleClock$Winter" "doorEave" "I", .fieldLink RX10 15 "IcicleClock$Winter" "doorDay" "I", .arrayClass .int, .fieldLink RX10 18 "IcicleClock$Winter" "fall" "[I"] : List Cond) ++ wsX100)
theorem iX10_init_10 : ∀ w ∈ wsX100, w ∈ vX10_init := fun _ h => List.mem_cons_of_mem _ (List.mem_append_right _ h)
set_option maxHeartbeats 8000000 in
set_option maxRecDepth 100000 in
theorem f_n_Winter (cs : Nat → ClassId) (h0 : Nat) (ad_0 : Nat → Nat) (g_0 : Nat → va_E) (q_1 : Nat) (ad_2 : Nat → Nat) (g_3 : Nat → va_E) (ead_2 : ad_2 = ct ad_0 0 (fun _ => q_1)) (eg_3 : g_3 = ct g_0 0 (fun _ => .inl (cs 1, 8, .inl (fun _ => 0)))) : (ct (fun _ => .inr (10, [.int 0, .int (-1), .int (-1), .ref q_1])) 1 g_3) 0 = .inr (10, [.int 0, .int (-1), .int (-1), .ref (ct (fun _ => h0) 1 ad_2 1)]) ∧ (ct (fun _ => .inr (10, [.int 0, .int (-1), .int (-1), .ref q_1])) 1 g_3) 1 = .inl (cs 1, 8, .inl (fun _ => 0)) := by
  subst eg_3
  subst ead_2
  exact ⟨rfl, rfl⟩
set_option maxHeartbeats 8000000 in
set_option maxRecDepth 100000 in
theorem n_Winter (l : Launch) (D : va_G) (cs : Nat → ClassId) (h0 sz : Nat) : cN l yX10_init vX10_init { frames := 1, cells := 1, slots := 8, locals := 12 } D cs h0 sz (.inr (10, [.int 0, .int 0, .int 0, .null])) 2 (fun a g => g 0 = .inr (10, [.int 0, .int (-1), .int (-1), .ref (a 1)]) ∧ g 1 = .inl (cs 1, 8, .inl (fun _ => 0))) 1 8 := by
  refine cN.start (cc := cX10_init) (maxL := 1) RX10 rfl (by decide) rfl rfl (by decide) ?_
  intro p e s m below meth c ls A X hnm0 hax hA hP hD hl hfin
  have hx := X.1
  have hb := X.2.1
  have hS : va_S A s.heap s.heap [] := va_S.rf
  obtain ⟨ad_0, g_0⟩ : (Nat → Nat) × (Nat → va_E) := (fun _ => 0, fun _ => .inr (0, []))
  have hP : va_P D vwCl ((h0, .inr (10, [.int 0, .int 0, .int 0, .null])) :: wL ad_0 g_0 0) s.heap := hP
  have hD : va_D A ((h0, .inr (10, [.int 0, .int 0, .int 0, .null])) :: wL ad_0 g_0 0) := hD
  refine lv_aload_n hx hb dX10_init_0 rfl (lv_at hl 0 rfl) ?_
  refine r_obj X hl.1 (List.mem_of_getElem? (i := 1) rfl) (List.mem_of_getElem? (i := 2) rfl) (List.mem_of_getElem? (i := 3) rfl) dX10_init_1 (Nat.le_of_ble_eq_true rfl) (Nat.le_of_ble_eq_true rfl) ?_
  refine lv_aload_n hx hb dX10_init_4 rfl (lv_at hl 0 rfl) ?_
  refine lv_iconst (v := (-1)) hx hb dX10_init_5 (by decide) ?_
  refine r_put X iX10_init_10 tyX10 tyX10_ok nmX10 hP hD hS rfl 1 (by decide) (List.mem_of_getElem? (i := 4) rfl) rfl (ty := .int) (v := .int (-1)) (by decide +kernel) rfl rfl (Nat.le_of_ble_eq_true rfl) dX10_init_6 (fun H locs hP hD hS => ?_)
  have hP : va_P D vwCl ((h0, .inr (10, [.int 0, .int (-1), .int 0, .null])) :: wL ad_0 g_0 0) H := hP
  have hD : va_D A ((h0, .inr (10, [.int 0, .int (-1), .int 0, .null])) :: wL ad_0 g_0 0) := hD
  refine lv_aload_n hx hb dX10_init_9 rfl (lv_at hl 0 rfl) ?_
  refine lv_iconst (v := (-1)) hx hb dX10_init_10 (by decide) ?_
  refine r_put X iX10_init_10 tyX10 tyX10_ok nmX10 hP hD hS rfl 2 (by decide) (List.mem_of_getElem? (i := 5) rfl) rfl (ty := .int) (v := .int (-1)) (by decide +kernel) rfl rfl (Nat.le_of_ble_eq_true rfl) dX10_init_11 (fun H locs hP hD hS => ?_)
  have hP : va_P D vwCl ((h0, .inr (10, [.int 0, .int (-1), .int (-1), .null])) :: wL ad_0 g_0 0) H := hP
  have hD : va_D A ((h0, .inr (10, [.int 0, .int (-1), .int (-1), .null])) :: wL ad_0 g_0 0) := hD
  refine lv_aload_n hx hb dX10_init_14 rfl (lv_at hl 0 rfl) ?_
  refine lv_bipush (v := 8) hx hb dX10_init_15 (by decide) ?_
  refine r_newa (atype := .int) X 1 rfl rfl (fun _ h => h) (List.mem_of_getElem? (i := 6) rfl) hP hD hS hA (a0 := (8, .inl (fun _ => 0))) (fun _ => rfl) (by decide) (by decide) (Nat.le_of_ble_eq_true rfl) (Nat.le_of_ble_eq_true rfl) (Nat.le_of_ble_eq_true rfl) dX10_init_17 (fun q_1 ad_2 g_3 H ead_2 eg_3 hP hD hS => ?_)
  have hP : va_P D vwCl ((h0, .inr (10, [.int 0, .int (-1), .int (-1), .null])) :: wL ad_2 g_3 1) H := hP
  have hD : va_D A ((h0, .inr (10, [.int 0, .int (-1), .int (-1), .null])) :: wL ad_2 g_3 1) := hD
  refine r_putF X hnm0 iX10_init_10 tyX10 tyX10_ok nmX10 hP hD hS rfl 3 (by decide) (List.mem_of_getElem? (i := 7) rfl) rfl rfl (ty := .array .int) (v := .ref q_1) (by decide +kernel) rfl rfl (Nat.le_of_ble_eq_true rfl) dX10_init_19 (fun H locs hP hD hS => ?_)
  have hP : va_P D vwCl ((h0, .inr (10, [.int 0, .int (-1), .int (-1), .ref q_1])) :: wL ad_2 g_3 1) H := hP
  have hD : va_D A ((h0, .inr (10, [.int 0, .int (-1), .int (-1), .ref q_1])) :: wL ad_2 g_3 1) := hD
  have eW : (h0, .inr (10, [.int 0, .int (-1), .int (-1), .ref q_1])) :: wL ad_2 g_3 1 = wL (ct (fun _ => h0) 1 ad_2) (ct (fun _ => .inr (10, [.int 0, .int (-1), .int (-1), .ref q_1])) 1 g_3) 2 := by rw [wL_cons, show 1 + 1 = 2 from rfl]
  rw [eW] at hP hD
  refine W.widen (k := 1) (n := 8) (Nat.le_of_ble_eq_true rfl) (Nat.le_of_ble_eq_true rfl) ?_
  refine hfin H locs 22 ls _ _ hP hD hS rfl ?_ dX10_init_22
  exact f_n_Winter cs h0 _ _ _ _ _ ead_2 eg_3

theorem dX3_init_0 : decode cX3_init 0 = .ok (.aload_n 0, 1) := by decide +kernel
theorem dX3_init_1 : decode cX3_init 1 = .ok (.invokespecial 3, 3) := by decide +kernel
theorem dX3_init_4 : decode cX3_init 4 = .ok (.aload_n 0, 1) := by decide +kernel
theorem dX3_init_5 : decode cX3_init 5 = .ok (.bipush 8, 2) := by decide +kernel
theorem dX3_init_7 : decode cX3_init 7 = .ok (.newarray .int, 2) := by decide +kernel
theorem dX3_init_9 : decode cX3_init 9 = .ok (.putfield 9, 3) := by decide +kernel
theorem dX3_init_12 : decode cX3_init 12 = .ok (.return_, 1) := by decide +kernel
noncomputable def vX3_init : List Cond := .code yX3_init cX3_init 1 none :: (([.methodLink RX3 3 objectInit, .instanceMethod objectInit, .code objectInit ⟨#[0xb1]⟩ 1 none, .arrayClass .int, .fieldLink RX3 9 "IcicleClock$Seen" "fall" "[I"] : List Cond) ++ wsX30)
theorem iX3_init_3 : ∀ w ∈ wsX30, w ∈ vX3_init := fun _ h => List.mem_cons_of_mem _ (List.mem_append_right _ h)
set_option maxHeartbeats 8000000 in
set_option maxRecDepth 100000 in
theorem f_n_Seen (cs : Nat → ClassId) (h0 : Nat) (ad_0 : Nat → Nat) (g_0 : Nat → va_E) (q_1 : Nat) (ad_2 : Nat → Nat) (g_3 : Nat → va_E) (ead_2 : ad_2 = ct ad_0 0 (fun _ => q_1)) (eg_3 : g_3 = ct g_0 0 (fun _ => .inl (cs 1, 8, .inl (fun _ => 0)))) : (ct (fun _ => .inr (3, [.ref q_1, .int 0])) 1 g_3) 0 = .inr (3, [.ref (ct (fun _ => h0) 1 ad_2 1), .int 0]) ∧ (ct (fun _ => .inr (3, [.ref q_1, .int 0])) 1 g_3) 1 = .inl (cs 1, 8, .inl (fun _ => 0)) := by
  subst eg_3
  subst ead_2
  exact ⟨rfl, rfl⟩
set_option maxHeartbeats 8000000 in
set_option maxRecDepth 100000 in
theorem n_Seen (l : Launch) (D : va_G) (cs : Nat → ClassId) (h0 sz : Nat) : cN l yX3_init vX3_init { frames := 1, cells := 1, slots := 8, locals := 12 } D cs h0 sz (.inr (3, [.null, .int 0])) 2 (fun a g => g 0 = .inr (3, [.ref (a 1), .int 0]) ∧ g 1 = .inl (cs 1, 8, .inl (fun _ => 0))) 1 8 := by
  refine cN.start (cc := cX3_init) (maxL := 1) RX3 rfl (by decide) rfl rfl (by decide) ?_
  intro p e s m below meth c ls A X hnm0 hax hA hP hD hl hfin
  have hx := X.1
  have hb := X.2.1
  have hS : va_S A s.heap s.heap [] := va_S.rf
  obtain ⟨ad_0, g_0⟩ : (Nat → Nat) × (Nat → va_E) := (fun _ => 0, fun _ => .inr (0, []))
  have hP : va_P D vwCl ((h0, .inr (3, [.null, .int 0])) :: wL ad_0 g_0 0) s.heap := hP
  have hD : va_D A ((h0, .inr (3, [.null, .int 0])) :: wL ad_0 g_0 0) := hD
  refine lv_aload_n hx hb dX3_init_0 rfl (lv_at hl 0 rfl) ?_
  refine r_obj X hl.1 (List.mem_of_getElem? (i := 1) rfl) (List.mem_of_getElem? (i := 2) rfl) (List.mem_of_getElem? (i := 3) rfl) dX3_init_1 (Nat.le_of_ble_eq_true rfl) (Nat.le_of_ble_eq_true rfl) ?_
  refine lv_aload_n hx hb dX3_init_4 rfl (lv_at hl 0 rfl) ?_
  refine lv_bipush (v := 8) hx hb dX3_init_5 (by decide) ?_
  refine r_newa (atype := .int) X 1 rfl rfl (fun _ h => h) (List.mem_of_getElem? (i := 4) rfl) hP hD hS hA (a0 := (8, .inl (fun _ => 0))) (fun _ => rfl) (by decide) (by decide) (Nat.le_of_ble_eq_true rfl) (Nat.le_of_ble_eq_true rfl) (Nat.le_of_ble_eq_true rfl) dX3_init_7 (fun q_1 ad_2 g_3 H ead_2 eg_3 hP hD hS => ?_)
  have hP : va_P D vwCl ((h0, .inr (3, [.null, .int 0])) :: wL ad_2 g_3 1) H := hP
  have hD : va_D A ((h0, .inr (3, [.null, .int 0])) :: wL ad_2 g_3 1) := hD
  refine r_putF X hnm0 iX3_init_3 tyX3 tyX3_ok nmX3 hP hD hS rfl 0 (by decide) (List.mem_of_getElem? (i := 5) rfl) rfl rfl (ty := .array .int) (v := .ref q_1) (by decide +kernel) rfl rfl (Nat.le_of_ble_eq_true rfl) dX3_init_9 (fun H locs hP hD hS => ?_)
  have hP : va_P D vwCl ((h0, .inr (3, [.ref q_1, .int 0])) :: wL ad_2 g_3 1) H := hP
  have hD : va_D A ((h0, .inr (3, [.ref q_1, .int 0])) :: wL ad_2 g_3 1) := hD
  have eW : (h0, .inr (3, [.ref q_1, .int 0])) :: wL ad_2 g_3 1 = wL (ct (fun _ => h0) 1 ad_2) (ct (fun _ => .inr (3, [.ref q_1, .int 0])) 1 g_3) 2 := by rw [wL_cons, show 1 + 1 = 2 from rfl]
  rw [eW] at hP hD
  refine W.widen (k := 1) (n := 8) (Nat.le_of_ble_eq_true rfl) (Nat.le_of_ble_eq_true rfl) ?_
  refine hfin H locs 12 ls _ _ hP hD hS rfl ?_ dX3_init_12
  exact f_n_Seen cs h0 _ _ _ _ _ ead_2 eg_3

theorem dX4_init_0 : decode cX4_init 0 = .ok (.aload_n 0, 1) := by decide +kernel
theorem dX4_init_1 : decode cX4_init 1 = .ok (.invokespecial 3, 3) := by decide +kernel
theorem dX4_init_4 : decode cX4_init 4 = .ok (.aload_n 0, 1) := by decide +kernel
theorem dX4_init_5 : decode cX4_init 5 = .ok (.bipush 8, 2) := by decide +kernel
theorem dX4_init_7 : decode cX4_init 7 = .ok (.bipush 15, 2) := by decide +kernel
theorem dX4_init_9 : decode cX4_init 9 = .ok (.multianewarray 9 2, 4) := by decide +kernel
theorem dX4_init_13 : decode cX4_init 13 = .ok (.putfield 11, 3) := by decide +kernel
theorem dX4_init_16 : decode cX4_init 16 = .ok (.return_, 1) := by decide +kernel
noncomputable def vX4_init : List Cond := .code yX4_init cX4_init 1 none :: (([.methodLink RX4 3 objectInit, .instanceMethod objectInit, .code objectInit ⟨#[0xb1]⟩ 1 none, .classLink RX4 9 "[[I", .arrayClass .int, .fieldLink RX4 11 "IcicleClock$Slams" "tally" "[[I"] : List Cond) ++ wsX40)
theorem iX4_init_4 : ∀ w ∈ wsX40, w ∈ vX4_init := fun _ h => List.mem_cons_of_mem _ (List.mem_append_right _ h)
set_option maxHeartbeats 8000000 in
set_option maxRecDepth 100000 in
theorem f_n_Slams (cs : Nat → ClassId) (h0 : Nat) (ad_0 : Nat → Nat) (g_0 : Nat → va_E) (r_2 : Nat → Nat) (q_1 : Nat) (ad_3 : Nat → Nat) (g_4 : Nat → va_E) (ead_3 : ad_3 = ct ad_0 0 (ct (fun _ => q_1) 1 r_2)) (eg_4 : g_4 = ct g_0 0 (ct (fun _ => .inl (cs 6, 8, .inr (.inr (.inr (.inr (fun i => if i < 8 then some (r_2 i) else none)))))) 1 (fun _ => .inl (cs 1, 15, .inl (fun _ => 0))))) : (ct (fun _ => .inr (4, [.int 0, .int 0, .ref q_1])) 1 g_4) 0 = .inr (4, [.int 0, .int 0, .ref (ct (fun _ => h0) 1 ad_3 1)]) ∧ (∃ f, (ct (fun _ => .inr (4, [.int 0, .int 0, .ref q_1])) 1 g_4) 1 = .inl (cs 6, 8, .inr (.inr (.inr (.inr f)))) ∧ f 0 = some (ct (fun _ => h0) 1 ad_3 2) ∧ f 1 = some (ct (fun _ => h0) 1 ad_3 3) ∧ f 2 = some (ct (fun _ => h0) 1 ad_3 4) ∧ f 3 = some (ct (fun _ => h0) 1 ad_3 5) ∧ f 4 = some (ct (fun _ => h0) 1 ad_3 6) ∧ f 5 = some (ct (fun _ => h0) 1 ad_3 7) ∧ f 6 = some (ct (fun _ => h0) 1 ad_3 8) ∧ f 7 = some (ct (fun _ => h0) 1 ad_3 9)) ∧ (ct (fun _ => .inr (4, [.int 0, .int 0, .ref q_1])) 1 g_4) 2 = .inl (cs 1, 15, .inl (fun _ => 0)) ∧ (ct (fun _ => .inr (4, [.int 0, .int 0, .ref q_1])) 1 g_4) 3 = .inl (cs 1, 15, .inl (fun _ => 0)) ∧ (ct (fun _ => .inr (4, [.int 0, .int 0, .ref q_1])) 1 g_4) 4 = .inl (cs 1, 15, .inl (fun _ => 0)) ∧ (ct (fun _ => .inr (4, [.int 0, .int 0, .ref q_1])) 1 g_4) 5 = .inl (cs 1, 15, .inl (fun _ => 0)) ∧ (ct (fun _ => .inr (4, [.int 0, .int 0, .ref q_1])) 1 g_4) 6 = .inl (cs 1, 15, .inl (fun _ => 0)) ∧ (ct (fun _ => .inr (4, [.int 0, .int 0, .ref q_1])) 1 g_4) 7 = .inl (cs 1, 15, .inl (fun _ => 0)) ∧ (ct (fun _ => .inr (4, [.int 0, .int 0, .ref q_1])) 1 g_4) 8 = .inl (cs 1, 15, .inl (fun _ => 0)) ∧ (ct (fun _ => .inr (4, [.int 0, .int 0, .ref q_1])) 1 g_4) 9 = .inl (cs 1, 15, .inl (fun _ => 0)) := by
  subst eg_4
  subst ead_3
  exact ⟨rfl, ⟨_, rfl, rfl, rfl, rfl, rfl, rfl, rfl, rfl, rfl⟩, rfl, rfl, rfl, rfl, rfl, rfl, rfl, rfl⟩
set_option maxHeartbeats 8000000 in
set_option maxRecDepth 100000 in
theorem n_Slams (l : Launch) (D : va_G) (cs : Nat → ClassId) (h0 sz : Nat) : cN l yX4_init vX4_init { frames := 1, cells := 9, slots := 128, locals := 12 } D cs h0 sz (.inr (4, [.int 0, .int 0, .null])) 10 (fun a g => g 0 = .inr (4, [.int 0, .int 0, .ref (a 1)]) ∧ (∃ f, g 1 = .inl (cs 6, 8, .inr (.inr (.inr (.inr f)))) ∧ f 0 = some (a 2) ∧ f 1 = some (a 3) ∧ f 2 = some (a 4) ∧ f 3 = some (a 5) ∧ f 4 = some (a 6) ∧ f 5 = some (a 7) ∧ f 6 = some (a 8) ∧ f 7 = some (a 9)) ∧ g 2 = .inl (cs 1, 15, .inl (fun _ => 0)) ∧ g 3 = .inl (cs 1, 15, .inl (fun _ => 0)) ∧ g 4 = .inl (cs 1, 15, .inl (fun _ => 0)) ∧ g 5 = .inl (cs 1, 15, .inl (fun _ => 0)) ∧ g 6 = .inl (cs 1, 15, .inl (fun _ => 0)) ∧ g 7 = .inl (cs 1, 15, .inl (fun _ => 0)) ∧ g 8 = .inl (cs 1, 15, .inl (fun _ => 0)) ∧ g 9 = .inl (cs 1, 15, .inl (fun _ => 0))) 9 128 := by
  refine cN.start (cc := cX4_init) (maxL := 1) RX4 rfl (by decide) rfl rfl (by decide) ?_
  intro p e s m below meth c ls A X hnm0 hax hA hP hD hl hfin
  have hx := X.1
  have hb := X.2.1
  have hS : va_S A s.heap s.heap [] := va_S.rf
  obtain ⟨ad_0, g_0⟩ : (Nat → Nat) × (Nat → va_E) := (fun _ => 0, fun _ => .inr (0, []))
  have hP : va_P D vwCl ((h0, .inr (4, [.int 0, .int 0, .null])) :: wL ad_0 g_0 0) s.heap := hP
  have hD : va_D A ((h0, .inr (4, [.int 0, .int 0, .null])) :: wL ad_0 g_0 0) := hD
  refine lv_aload_n hx hb dX4_init_0 rfl (lv_at hl 0 rfl) ?_
  refine r_obj X hl.1 (List.mem_of_getElem? (i := 1) rfl) (List.mem_of_getElem? (i := 2) rfl) (List.mem_of_getElem? (i := 3) rfl) dX4_init_1 (Nat.le_of_ble_eq_true rfl) (Nat.le_of_ble_eq_true rfl) ?_
  refine lv_aload_n hx hb dX4_init_4 rfl (lv_at hl 0 rfl) ?_
  refine lv_bipush (v := 8) hx hb dX4_init_5 (by decide) ?_
  refine lv_bipush (v := 15) hx hb dX4_init_7 (by decide) ?_
  refine r_mna (N' := 8) (K' := 15) X (List.mem_of_getElem? (i := 4) rfl) hax.2.1 (List.mem_of_getElem? (i := 5) rfl) hP hD hS hA (by decide) (by decide) (by decide) (by decide) (Nat.le_of_ble_eq_true rfl) (Nat.le_of_ble_eq_true rfl) (Nat.le_of_ble_eq_true rfl) (Nat.le_of_ble_eq_true rfl) (Nat.le_of_ble_eq_true rfl) dX4_init_9 (fun q_1 r_2 ad_3 g_4 H ead_3 eg_4 hP hD hS => ?_)
  have hP : va_P D vwCl ((h0, .inr (4, [.int 0, .int 0, .null])) :: wL ad_3 g_4 9) H := hP
  have hD : va_D A ((h0, .inr (4, [.int 0, .int 0, .null])) :: wL ad_3 g_4 9) := hD
  refine r_putF X hnm0 iX4_init_4 tyX4 tyX4_ok nmX4 hP hD hS rfl 2 (by decide) (List.mem_of_getElem? (i := 6) rfl) rfl rfl (ty := .array (.array .int)) (v := .ref q_1) (by decide +kernel) rfl rfl (Nat.le_of_ble_eq_true rfl) dX4_init_13 (fun H locs hP hD hS => ?_)
  have hP : va_P D vwCl ((h0, .inr (4, [.int 0, .int 0, .ref q_1])) :: wL ad_3 g_4 9) H := hP
  have hD : va_D A ((h0, .inr (4, [.int 0, .int 0, .ref q_1])) :: wL ad_3 g_4 9) := hD
  have eW : (h0, .inr (4, [.int 0, .int 0, .ref q_1])) :: wL ad_3 g_4 9 = wL (ct (fun _ => h0) 1 ad_3) (ct (fun _ => .inr (4, [.int 0, .int 0, .ref q_1])) 1 g_4) 10 := by rw [wL_cons, show 1 + 9 = 10 from rfl]
  rw [eW] at hP hD
  refine W.widen (k := 9) (n := 128) (Nat.le_of_ble_eq_true rfl) (Nat.le_of_ble_eq_true rfl) ?_
  refine hfin H locs 16 ls _ _ hP hD hS rfl ?_ dX4_init_16
  exact f_n_Slams cs h0 _ _ _ _ _ _ ead_3 eg_4

theorem dX9_init_0 : decode cX9_init 0 = .ok (.aload_n 0, 1) := by decide +kernel
theorem dX9_init_1 : decode cX9_init 1 = .ok (.invokespecial 3, 3) := by decide +kernel
theorem dX9_init_4 : decode cX9_init 4 = .ok (.aload_n 0, 1) := by decide +kernel
theorem dX9_init_5 : decode cX9_init 5 = .ok (.iconst 5, 1) := by decide +kernel
theorem dX9_init_6 : decode cX9_init 6 = .ok (.newarray .int, 2) := by decide +kernel
theorem dX9_init_8 : decode cX9_init 8 = .ok (.putfield 9, 3) := by decide +kernel
theorem dX9_init_11 : decode cX9_init 11 = .ok (.aload_n 0, 1) := by decide +kernel
theorem dX9_init_12 : decode cX9_init 12 = .ok (.iconst 5, 1) := by decide +kernel
theorem dX9_init_13 : decode cX9_init 13 = .ok (.newarray .int, 2) := by decide +kernel
theorem dX9_init_15 : decode cX9_init 15 = .ok (.putfield 15, 3) := by decide +kernel
theorem dX9_init_18 : decode cX9_init 18 = .ok (.aload_n 0, 1) := by decide +kernel
theorem dX9_init_19 : decode cX9_init 19 = .ok (.bipush 6, 2) := by decide +kernel
theorem dX9_init_21 : decode cX9_init 21 = .ok (.bipush 16, 2) := by decide +kernel
theorem dX9_init_23 : decode cX9_init 23 = .ok (.multianewarray 18 2, 4) := by decide +kernel
theorem dX9_init_27 : decode cX9_init 27 = .ok (.putfield 20, 3) := by decide +kernel
theorem dX9_init_30 : decode cX9_init 30 = .ok (.return_, 1) := by decide +kernel
noncomputable def vX9_init : List Cond := .code yX9_init cX9_init 1 none :: (([.methodLink RX9 3 objectInit, .instanceMethod objectInit, .code objectInit ⟨#[0xb1]⟩ 1 none, .arrayClass .int, .fieldLink RX9 9 "IcicleClock$Weathers" "least" "[I", .fieldLink RX9 15 "IcicleClock$Weathers" "most" "[I", .classLink RX9 18 "[[I", .fieldLink RX9 20 "IcicleClock$Weathers" "goings" "[[I"] : List Cond) ++ wsX90)
theorem iX9_init_9 : ∀ w ∈ wsX90, w ∈ vX9_init := fun _ h => List.mem_cons_of_mem _ (List.mem_append_right _ h)
set_option maxHeartbeats 8000000 in
set_option maxRecDepth 100000 in
theorem f_n_Weathers (cs : Nat → ClassId) (h0 : Nat) (ad_0 : Nat → Nat) (g_0 : Nat → va_E) (q_1 : Nat) (ad_2 : Nat → Nat) (g_3 : Nat → va_E) (q_4 : Nat) (ad_5 : Nat → Nat) (g_6 : Nat → va_E) (r_8 : Nat → Nat) (q_7 : Nat) (ad_9 : Nat → Nat) (g_10 : Nat → va_E) (ead_2 : ad_2 = ct ad_0 0 (fun _ => q_1)) (eg_3 : g_3 = ct g_0 0 (fun _ => .inl (cs 1, 5, .inl (fun _ => 0)))) (ead_5 : ad_5 = ct ad_2 1 (fun _ => q_4)) (eg_6 : g_6 = ct g_3 1 (fun _ => .inl (cs 1, 5, .inl (fun _ => 0)))) (ead_9 : ad_9 = ct ad_5 2 (ct (fun _ => q_7) 1 r_8)) (eg_10 : g_10 = ct g_6 2 (ct (fun _ => .inl (cs 6, 6, .inr (.inr (.inr (.inr (fun i => if i < 6 then some (r_8 i) else none)))))) 1 (fun _ => .inl (cs 1, 16, .inl (fun _ => 0))))) : (ct (fun _ => .inr (9, [.ref q_1, .ref q_4, .ref q_7, .int 0])) 1 g_10) 0 = .inr (9, [.ref (ct (fun _ => h0) 1 ad_9 1), .ref (ct (fun _ => h0) 1 ad_9 2), .ref (ct (fun _ => h0) 1 ad_9 3), .int 0]) ∧ (ct (fun _ => .inr (9, [.ref q_1, .ref q_4, .ref q_7, .int 0])) 1 g_10) 1 = .inl (cs 1, 5, .inl (fun _ => 0)) ∧ (ct (fun _ => .inr (9, [.ref q_1, .ref q_4, .ref q_7, .int 0])) 1 g_10) 2 = .inl (cs 1, 5, .inl (fun _ => 0)) ∧ (∃ f, (ct (fun _ => .inr (9, [.ref q_1, .ref q_4, .ref q_7, .int 0])) 1 g_10) 3 = .inl (cs 6, 6, .inr (.inr (.inr (.inr f)))) ∧ f 0 = some (ct (fun _ => h0) 1 ad_9 4) ∧ f 1 = some (ct (fun _ => h0) 1 ad_9 5) ∧ f 2 = some (ct (fun _ => h0) 1 ad_9 6) ∧ f 3 = some (ct (fun _ => h0) 1 ad_9 7) ∧ f 4 = some (ct (fun _ => h0) 1 ad_9 8) ∧ f 5 = some (ct (fun _ => h0) 1 ad_9 9)) ∧ (ct (fun _ => .inr (9, [.ref q_1, .ref q_4, .ref q_7, .int 0])) 1 g_10) 4 = .inl (cs 1, 16, .inl (fun _ => 0)) ∧ (ct (fun _ => .inr (9, [.ref q_1, .ref q_4, .ref q_7, .int 0])) 1 g_10) 5 = .inl (cs 1, 16, .inl (fun _ => 0)) ∧ (ct (fun _ => .inr (9, [.ref q_1, .ref q_4, .ref q_7, .int 0])) 1 g_10) 6 = .inl (cs 1, 16, .inl (fun _ => 0)) ∧ (ct (fun _ => .inr (9, [.ref q_1, .ref q_4, .ref q_7, .int 0])) 1 g_10) 7 = .inl (cs 1, 16, .inl (fun _ => 0)) ∧ (ct (fun _ => .inr (9, [.ref q_1, .ref q_4, .ref q_7, .int 0])) 1 g_10) 8 = .inl (cs 1, 16, .inl (fun _ => 0)) ∧ (ct (fun _ => .inr (9, [.ref q_1, .ref q_4, .ref q_7, .int 0])) 1 g_10) 9 = .inl (cs 1, 16, .inl (fun _ => 0)) := by
  subst eg_10
  subst ead_9
  subst eg_6
  subst ead_5
  subst eg_3
  subst ead_2
  exact ⟨rfl, rfl, rfl, ⟨_, rfl, rfl, rfl, rfl, rfl, rfl, rfl⟩, rfl, rfl, rfl, rfl, rfl, rfl⟩
set_option maxHeartbeats 8000000 in
set_option maxRecDepth 100000 in
theorem n_Weathers (l : Launch) (D : va_G) (cs : Nat → ClassId) (h0 sz : Nat) : cN l yX9_init vX9_init { frames := 1, cells := 9, slots := 112, locals := 12 } D cs h0 sz (.inr (9, [.null, .null, .null, .int 0])) 10 (fun a g => g 0 = .inr (9, [.ref (a 1), .ref (a 2), .ref (a 3), .int 0]) ∧ g 1 = .inl (cs 1, 5, .inl (fun _ => 0)) ∧ g 2 = .inl (cs 1, 5, .inl (fun _ => 0)) ∧ (∃ f, g 3 = .inl (cs 6, 6, .inr (.inr (.inr (.inr f)))) ∧ f 0 = some (a 4) ∧ f 1 = some (a 5) ∧ f 2 = some (a 6) ∧ f 3 = some (a 7) ∧ f 4 = some (a 8) ∧ f 5 = some (a 9)) ∧ g 4 = .inl (cs 1, 16, .inl (fun _ => 0)) ∧ g 5 = .inl (cs 1, 16, .inl (fun _ => 0)) ∧ g 6 = .inl (cs 1, 16, .inl (fun _ => 0)) ∧ g 7 = .inl (cs 1, 16, .inl (fun _ => 0)) ∧ g 8 = .inl (cs 1, 16, .inl (fun _ => 0)) ∧ g 9 = .inl (cs 1, 16, .inl (fun _ => 0))) 9 112 := by
  refine cN.start (cc := cX9_init) (maxL := 1) RX9 rfl (by decide) rfl rfl (by decide) ?_
  intro p e s m below meth c ls A X hnm0 hax hA hP hD hl hfin
  have hx := X.1
  have hb := X.2.1
  have hS : va_S A s.heap s.heap [] := va_S.rf
  obtain ⟨ad_0, g_0⟩ : (Nat → Nat) × (Nat → va_E) := (fun _ => 0, fun _ => .inr (0, []))
  have hP : va_P D vwCl ((h0, .inr (9, [.null, .null, .null, .int 0])) :: wL ad_0 g_0 0) s.heap := hP
  have hD : va_D A ((h0, .inr (9, [.null, .null, .null, .int 0])) :: wL ad_0 g_0 0) := hD
  refine lv_aload_n hx hb dX9_init_0 rfl (lv_at hl 0 rfl) ?_
  refine r_obj X hl.1 (List.mem_of_getElem? (i := 1) rfl) (List.mem_of_getElem? (i := 2) rfl) (List.mem_of_getElem? (i := 3) rfl) dX9_init_1 (Nat.le_of_ble_eq_true rfl) (Nat.le_of_ble_eq_true rfl) ?_
  refine lv_aload_n hx hb dX9_init_4 rfl (lv_at hl 0 rfl) ?_
  refine lv_iconst (v := 5) hx hb dX9_init_5 (by decide) ?_
  refine r_newa (atype := .int) X 1 rfl rfl (fun _ h => h) (List.mem_of_getElem? (i := 4) rfl) hP hD hS hA (a0 := (5, .inl (fun _ => 0))) (fun _ => rfl) (by decide) (by decide) (Nat.le_of_ble_eq_true rfl) (Nat.le_of_ble_eq_true rfl) (Nat.le_of_ble_eq_true rfl) dX9_init_6 (fun q_1 ad_2 g_3 H ead_2 eg_3 hP hD hS => ?_)
  have hP : va_P D vwCl ((h0, .inr (9, [.null, .null, .null, .int 0])) :: wL ad_2 g_3 1) H := hP
  have hD : va_D A ((h0, .inr (9, [.null, .null, .null, .int 0])) :: wL ad_2 g_3 1) := hD
  refine r_putF X hnm0 iX9_init_9 tyX9 tyX9_ok nmX9 hP hD hS rfl 0 (by decide) (List.mem_of_getElem? (i := 5) rfl) rfl rfl (ty := .array .int) (v := .ref q_1) (by decide +kernel) rfl rfl (Nat.le_of_ble_eq_true rfl) dX9_init_8 (fun H locs hP hD hS => ?_)
  have hP : va_P D vwCl ((h0, .inr (9, [.ref q_1, .null, .null, .int 0])) :: wL ad_2 g_3 1) H := hP
  have hD : va_D A ((h0, .inr (9, [.ref q_1, .null, .null, .int 0])) :: wL ad_2 g_3 1) := hD
  refine lv_aload_n hx hb dX9_init_11 rfl (lv_at hl 0 rfl) ?_
  refine lv_iconst (v := 5) hx hb dX9_init_12 (by decide) ?_
  refine r_newa (atype := .int) X 1 rfl rfl (fun _ h => h) (List.mem_of_getElem? (i := 4) rfl) hP hD hS hA (a0 := (5, .inl (fun _ => 0))) (fun _ => rfl) (by decide) (by decide) (Nat.le_of_ble_eq_true rfl) (Nat.le_of_ble_eq_true rfl) (Nat.le_of_ble_eq_true rfl) dX9_init_13 (fun q_4 ad_5 g_6 H ead_5 eg_6 hP hD hS => ?_)
  have hP : va_P D vwCl ((h0, .inr (9, [.ref q_1, .null, .null, .int 0])) :: wL ad_5 g_6 2) H := hP
  have hD : va_D A ((h0, .inr (9, [.ref q_1, .null, .null, .int 0])) :: wL ad_5 g_6 2) := hD
  refine r_putF X hnm0 iX9_init_9 tyX9 tyX9_ok nmX9 hP hD hS rfl 1 (by decide) (List.mem_of_getElem? (i := 6) rfl) rfl rfl (ty := .array .int) (v := .ref q_4) (by decide +kernel) rfl rfl (Nat.le_of_ble_eq_true rfl) dX9_init_15 (fun H locs hP hD hS => ?_)
  have hP : va_P D vwCl ((h0, .inr (9, [.ref q_1, .ref q_4, .null, .int 0])) :: wL ad_5 g_6 2) H := hP
  have hD : va_D A ((h0, .inr (9, [.ref q_1, .ref q_4, .null, .int 0])) :: wL ad_5 g_6 2) := hD
  refine lv_aload_n hx hb dX9_init_18 rfl (lv_at hl 0 rfl) ?_
  refine lv_bipush (v := 6) hx hb dX9_init_19 (by decide) ?_
  refine lv_bipush (v := 16) hx hb dX9_init_21 (by decide) ?_
  refine r_mna (N' := 6) (K' := 16) X (List.mem_of_getElem? (i := 7) rfl) hax.2.1 (List.mem_of_getElem? (i := 4) rfl) hP hD hS hA (by decide) (by decide) (by decide) (by decide) (Nat.le_of_ble_eq_true rfl) (Nat.le_of_ble_eq_true rfl) (Nat.le_of_ble_eq_true rfl) (Nat.le_of_ble_eq_true rfl) (Nat.le_of_ble_eq_true rfl) dX9_init_23 (fun q_7 r_8 ad_9 g_10 H ead_9 eg_10 hP hD hS => ?_)
  have hP : va_P D vwCl ((h0, .inr (9, [.ref q_1, .ref q_4, .null, .int 0])) :: wL ad_9 g_10 9) H := hP
  have hD : va_D A ((h0, .inr (9, [.ref q_1, .ref q_4, .null, .int 0])) :: wL ad_9 g_10 9) := hD
  refine r_putF X hnm0 iX9_init_9 tyX9 tyX9_ok nmX9 hP hD hS rfl 2 (by decide) (List.mem_of_getElem? (i := 8) rfl) rfl rfl (ty := .array (.array .int)) (v := .ref q_7) (by decide +kernel) rfl rfl (Nat.le_of_ble_eq_true rfl) dX9_init_27 (fun H locs hP hD hS => ?_)
  have hP : va_P D vwCl ((h0, .inr (9, [.ref q_1, .ref q_4, .ref q_7, .int 0])) :: wL ad_9 g_10 9) H := hP
  have hD : va_D A ((h0, .inr (9, [.ref q_1, .ref q_4, .ref q_7, .int 0])) :: wL ad_9 g_10 9) := hD
  have eW : (h0, .inr (9, [.ref q_1, .ref q_4, .ref q_7, .int 0])) :: wL ad_9 g_10 9 = wL (ct (fun _ => h0) 1 ad_9) (ct (fun _ => .inr (9, [.ref q_1, .ref q_4, .ref q_7, .int 0])) 1 g_10) 10 := by rw [wL_cons, show 1 + 9 = 10 from rfl]
  rw [eW] at hP hD
  refine W.widen (k := 9) (n := 112) (Nat.le_of_ble_eq_true rfl) (Nat.le_of_ble_eq_true rfl) ?_
  refine hfin H locs 30 ls _ _ hP hD hS rfl ?_ dX9_init_30
  exact f_n_Weathers cs h0 _ _ _ _ _ _ _ _ _ _ _ _ ead_2 eg_3 ead_5 eg_6 ead_9 eg_10

theorem dX1_init_0 : decode cX1_init 0 = .ok (.aload_n 0, 1) := by decide +kernel
theorem dX1_init_1 : decode cX1_init 1 = .ok (.invokespecial 3, 3) := by decide +kernel
theorem dX1_init_4 : decode cX1_init 4 = .ok (.aload_n 0, 1) := by decide +kernel
theorem dX1_init_5 : decode cX1_init 5 = .ok (.bipush 15, 2) := by decide +kernel
theorem dX1_init_7 : decode cX1_init 7 = .ok (.newarray .long, 2) := by decide +kernel
theorem dX1_init_9 : decode cX1_init 9 = .ok (.putfield 9, 3) := by decide +kernel
theorem dX1_init_12 : decode cX1_init 12 = .ok (.aload_n 0, 1) := by decide +kernel
theorem dX1_init_13 : decode cX1_init 13 = .ok (.bipush 14, 2) := by decide +kernel
theorem dX1_init_15 : decode cX1_init 15 = .ok (.newarray .long, 2) := by decide +kernel
theorem dX1_init_17 : decode cX1_init 17 = .ok (.putfield 15, 3) := by decide +kernel
theorem dX1_init_20 : decode cX1_init 20 = .ok (.aload_n 0, 1) := by decide +kernel
theorem dX1_init_21 : decode cX1_init 21 = .ok (.bipush 14, 2) := by decide +kernel
theorem dX1_init_23 : decode cX1_init 23 = .ok (.newarray .long, 2) := by decide +kernel
theorem dX1_init_25 : decode cX1_init 25 = .ok (.putfield 18, 3) := by decide +kernel
theorem dX1_init_28 : decode cX1_init 28 = .ok (.return_, 1) := by decide +kernel
noncomputable def vX1_init : List Cond := .code yX1_init cX1_init 1 none :: (([.methodLink RX1 3 objectInit, .instanceMethod objectInit, .code objectInit ⟨#[0xb1]⟩ 1 none, .arrayClass .long, .fieldLink RX1 9 "IcicleClock$Chances" "hanging" "[J", .fieldLink RX1 15 "IcicleClock$Chances" "weight" "[J", .fieldLink RX1 18 "IcicleClock$Chances" "whole" "[J"] : List Cond) ++ wsX10)
theorem iX1_init_1 : ∀ w ∈ wsX10, w ∈ vX1_init := fun _ h => List.mem_cons_of_mem _ (List.mem_append_right _ h)
set_option maxHeartbeats 8000000 in
set_option maxRecDepth 100000 in
theorem f_n_Chances (cs : Nat → ClassId) (h0 : Nat) (ad_0 : Nat → Nat) (g_0 : Nat → va_E) (q_1 : Nat) (ad_2 : Nat → Nat) (g_3 : Nat → va_E) (q_4 : Nat) (ad_5 : Nat → Nat) (g_6 : Nat → va_E) (q_7 : Nat) (ad_8 : Nat → Nat) (g_9 : Nat → va_E) (ead_2 : ad_2 = ct ad_0 0 (fun _ => q_1)) (eg_3 : g_3 = ct g_0 0 (fun _ => .inl (cs 2, 15, .inr (.inl (fun _ => 0))))) (ead_5 : ad_5 = ct ad_2 1 (fun _ => q_4)) (eg_6 : g_6 = ct g_3 1 (fun _ => .inl (cs 2, 14, .inr (.inl (fun _ => 0))))) (ead_8 : ad_8 = ct ad_5 2 (fun _ => q_7)) (eg_9 : g_9 = ct g_6 2 (fun _ => .inl (cs 2, 14, .inr (.inl (fun _ => 0))))) : (ct (fun _ => .inr (1, [.ref q_1, .ref q_4, .ref q_7, .int 0])) 1 g_9) 0 = .inr (1, [.ref (ct (fun _ => h0) 1 ad_8 1), .ref (ct (fun _ => h0) 1 ad_8 2), .ref (ct (fun _ => h0) 1 ad_8 3), .int 0]) ∧ (ct (fun _ => .inr (1, [.ref q_1, .ref q_4, .ref q_7, .int 0])) 1 g_9) 1 = .inl (cs 2, 15, .inr (.inl (fun _ => 0))) ∧ (ct (fun _ => .inr (1, [.ref q_1, .ref q_4, .ref q_7, .int 0])) 1 g_9) 2 = .inl (cs 2, 14, .inr (.inl (fun _ => 0))) ∧ (ct (fun _ => .inr (1, [.ref q_1, .ref q_4, .ref q_7, .int 0])) 1 g_9) 3 = .inl (cs 2, 14, .inr (.inl (fun _ => 0))) := by
  subst eg_9
  subst ead_8
  subst eg_6
  subst ead_5
  subst eg_3
  subst ead_2
  exact ⟨rfl, rfl, rfl, rfl⟩
set_option maxHeartbeats 8000000 in
set_option maxRecDepth 100000 in
theorem n_Chances (l : Launch) (D : va_G) (cs : Nat → ClassId) (h0 sz : Nat) : cN l yX1_init vX1_init { frames := 1, cells := 3, slots := 43, locals := 12 } D cs h0 sz (.inr (1, [.null, .null, .null, .int 0])) 4 (fun a g => g 0 = .inr (1, [.ref (a 1), .ref (a 2), .ref (a 3), .int 0]) ∧ g 1 = .inl (cs 2, 15, .inr (.inl (fun _ => 0))) ∧ g 2 = .inl (cs 2, 14, .inr (.inl (fun _ => 0))) ∧ g 3 = .inl (cs 2, 14, .inr (.inl (fun _ => 0)))) 3 43 := by
  refine cN.start (cc := cX1_init) (maxL := 1) RX1 rfl (by decide) rfl rfl (by decide) ?_
  intro p e s m below meth c ls A X hnm0 hax hA hP hD hl hfin
  have hx := X.1
  have hb := X.2.1
  have hS : va_S A s.heap s.heap [] := va_S.rf
  obtain ⟨ad_0, g_0⟩ : (Nat → Nat) × (Nat → va_E) := (fun _ => 0, fun _ => .inr (0, []))
  have hP : va_P D vwCl ((h0, .inr (1, [.null, .null, .null, .int 0])) :: wL ad_0 g_0 0) s.heap := hP
  have hD : va_D A ((h0, .inr (1, [.null, .null, .null, .int 0])) :: wL ad_0 g_0 0) := hD
  refine lv_aload_n hx hb dX1_init_0 rfl (lv_at hl 0 rfl) ?_
  refine r_obj X hl.1 (List.mem_of_getElem? (i := 1) rfl) (List.mem_of_getElem? (i := 2) rfl) (List.mem_of_getElem? (i := 3) rfl) dX1_init_1 (Nat.le_of_ble_eq_true rfl) (Nat.le_of_ble_eq_true rfl) ?_
  refine lv_aload_n hx hb dX1_init_4 rfl (lv_at hl 0 rfl) ?_
  refine lv_bipush (v := 15) hx hb dX1_init_5 (by decide) ?_
  refine r_newa (atype := .long) X 2 rfl rfl (fun _ h => h) (List.mem_of_getElem? (i := 4) rfl) hP hD hS hA (a0 := (15, .inr (.inl (fun _ => 0)))) (fun _ => rfl) (by decide) (by decide) (Nat.le_of_ble_eq_true rfl) (Nat.le_of_ble_eq_true rfl) (Nat.le_of_ble_eq_true rfl) dX1_init_7 (fun q_1 ad_2 g_3 H ead_2 eg_3 hP hD hS => ?_)
  have hP : va_P D vwCl ((h0, .inr (1, [.null, .null, .null, .int 0])) :: wL ad_2 g_3 1) H := hP
  have hD : va_D A ((h0, .inr (1, [.null, .null, .null, .int 0])) :: wL ad_2 g_3 1) := hD
  refine r_putF X hnm0 iX1_init_1 tyX1 tyX1_ok nmX1 hP hD hS rfl 0 (by decide) (List.mem_of_getElem? (i := 5) rfl) rfl rfl (ty := .array .long) (v := .ref q_1) (by decide +kernel) rfl rfl (Nat.le_of_ble_eq_true rfl) dX1_init_9 (fun H locs hP hD hS => ?_)
  have hP : va_P D vwCl ((h0, .inr (1, [.ref q_1, .null, .null, .int 0])) :: wL ad_2 g_3 1) H := hP
  have hD : va_D A ((h0, .inr (1, [.ref q_1, .null, .null, .int 0])) :: wL ad_2 g_3 1) := hD
  refine lv_aload_n hx hb dX1_init_12 rfl (lv_at hl 0 rfl) ?_
  refine lv_bipush (v := 14) hx hb dX1_init_13 (by decide) ?_
  refine r_newa (atype := .long) X 2 rfl rfl (fun _ h => h) (List.mem_of_getElem? (i := 4) rfl) hP hD hS hA (a0 := (14, .inr (.inl (fun _ => 0)))) (fun _ => rfl) (by decide) (by decide) (Nat.le_of_ble_eq_true rfl) (Nat.le_of_ble_eq_true rfl) (Nat.le_of_ble_eq_true rfl) dX1_init_15 (fun q_4 ad_5 g_6 H ead_5 eg_6 hP hD hS => ?_)
  have hP : va_P D vwCl ((h0, .inr (1, [.ref q_1, .null, .null, .int 0])) :: wL ad_5 g_6 2) H := hP
  have hD : va_D A ((h0, .inr (1, [.ref q_1, .null, .null, .int 0])) :: wL ad_5 g_6 2) := hD
  refine r_putF X hnm0 iX1_init_1 tyX1 tyX1_ok nmX1 hP hD hS rfl 1 (by decide) (List.mem_of_getElem? (i := 6) rfl) rfl rfl (ty := .array .long) (v := .ref q_4) (by decide +kernel) rfl rfl (Nat.le_of_ble_eq_true rfl) dX1_init_17 (fun H locs hP hD hS => ?_)
  have hP : va_P D vwCl ((h0, .inr (1, [.ref q_1, .ref q_4, .null, .int 0])) :: wL ad_5 g_6 2) H := hP
  have hD : va_D A ((h0, .inr (1, [.ref q_1, .ref q_4, .null, .int 0])) :: wL ad_5 g_6 2) := hD
  refine lv_aload_n hx hb dX1_init_20 rfl (lv_at hl 0 rfl) ?_
  refine lv_bipush (v := 14) hx hb dX1_init_21 (by decide) ?_
  refine r_newa (atype := .long) X 2 rfl rfl (fun _ h => h) (List.mem_of_getElem? (i := 4) rfl) hP hD hS hA (a0 := (14, .inr (.inl (fun _ => 0)))) (fun _ => rfl) (by decide) (by decide) (Nat.le_of_ble_eq_true rfl) (Nat.le_of_ble_eq_true rfl) (Nat.le_of_ble_eq_true rfl) dX1_init_23 (fun q_7 ad_8 g_9 H ead_8 eg_9 hP hD hS => ?_)
  have hP : va_P D vwCl ((h0, .inr (1, [.ref q_1, .ref q_4, .null, .int 0])) :: wL ad_8 g_9 3) H := hP
  have hD : va_D A ((h0, .inr (1, [.ref q_1, .ref q_4, .null, .int 0])) :: wL ad_8 g_9 3) := hD
  refine r_putF X hnm0 iX1_init_1 tyX1 tyX1_ok nmX1 hP hD hS rfl 2 (by decide) (List.mem_of_getElem? (i := 7) rfl) rfl rfl (ty := .array .long) (v := .ref q_7) (by decide +kernel) rfl rfl (Nat.le_of_ble_eq_true rfl) dX1_init_25 (fun H locs hP hD hS => ?_)
  have hP : va_P D vwCl ((h0, .inr (1, [.ref q_1, .ref q_4, .ref q_7, .int 0])) :: wL ad_8 g_9 3) H := hP
  have hD : va_D A ((h0, .inr (1, [.ref q_1, .ref q_4, .ref q_7, .int 0])) :: wL ad_8 g_9 3) := hD
  have eW : (h0, .inr (1, [.ref q_1, .ref q_4, .ref q_7, .int 0])) :: wL ad_8 g_9 3 = wL (ct (fun _ => h0) 1 ad_8) (ct (fun _ => .inr (1, [.ref q_1, .ref q_4, .ref q_7, .int 0])) 1 g_9) 4 := by rw [wL_cons, show 1 + 3 = 4 from rfl]
  rw [eW] at hP hD
  refine W.widen (k := 3) (n := 43) (Nat.le_of_ble_eq_true rfl) (Nat.le_of_ble_eq_true rfl) ?_
  refine hfin H locs 28 ls _ _ hP hD hS rfl ?_ dX1_init_28
  exact f_n_Chances cs h0 _ _ _ _ _ _ _ _ _ _ _ ead_2 eg_3 ead_5 eg_6 ead_8 eg_9

theorem dX8_init_0 : decode cX8_init 0 = .ok (.aload_n 0, 1) := by decide +kernel
theorem dX8_init_1 : decode cX8_init 1 = .ok (.invokespecial 3, 3) := by decide +kernel
theorem dX8_init_4 : decode cX8_init 4 = .ok (.aload_n 0, 1) := by decide +kernel
theorem dX8_init_5 : decode cX8_init 5 = .ok (.bipush 14, 2) := by decide +kernel
theorem dX8_init_7 : decode cX8_init 7 = .ok (.iconst 5, 1) := by decide +kernel
theorem dX8_init_8 : decode cX8_init 8 = .ok (.multianewarray 9 2, 4) := by decide +kernel
theorem dX8_init_12 : decode cX8_init 12 = .ok (.putfield 11, 3) := by decide +kernel
theorem dX8_init_15 : decode cX8_init 15 = .ok (.aload_n 0, 1) := by decide +kernel
theorem dX8_init_16 : decode cX8_init 16 = .ok (.bipush 14, 2) := by decide +kernel
theorem dX8_init_18 : decode cX8_init 18 = .ok (.iconst 5, 1) := by decide +kernel
theorem dX8_init_19 : decode cX8_init 19 = .ok (.multianewarray 9 2, 4) := by decide +kernel
theorem dX8_init_23 : decode cX8_init 23 = .ok (.putfield 16, 3) := by decide +kernel
theorem dX8_init_26 : decode cX8_init 26 = .ok (.aload_n 0, 1) := by decide +kernel
theorem dX8_init_27 : decode cX8_init 27 = .ok (.bipush 14, 2) := by decide +kernel
theorem dX8_init_29 : decode cX8_init 29 = .ok (.iconst 5, 1) := by decide +kernel
theorem dX8_init_30 : decode cX8_init 30 = .ok (.multianewarray 9 2, 4) := by decide +kernel
theorem dX8_init_34 : decode cX8_init 34 = .ok (.putfield 19, 3) := by decide +kernel
theorem dX8_init_37 : decode cX8_init 37 = .ok (.return_, 1) := by decide +kernel
noncomputable def vX8_init : List Cond := .code yX8_init cX8_init 1 none :: (([.methodLink RX8 3 objectInit, .instanceMethod objectInit, .code objectInit ⟨#[0xb1]⟩ 1 none, .classLink RX8 9 "[[I", .arrayClass .int, .fieldLink RX8 11 "IcicleClock$Walker" "struck" "[[I", .fieldLink RX8 16 "IcicleClock$Walker" "least" "[[I", .fieldLink RX8 19 "IcicleClock$Walker" "many" "[[I"] : List Cond) ++ wsX80)
theorem iX8_init_8 : ∀ w ∈ wsX80, w ∈ vX8_init := fun _ h => List.mem_cons_of_mem _ (List.mem_append_right _ h)
set_option maxHeartbeats 8000000 in
set_option maxRecDepth 100000 in
theorem f_n_Walker (cs : Nat → ClassId) (h0 : Nat) (ad_0 : Nat → Nat) (g_0 : Nat → va_E) (r_2 : Nat → Nat) (q_1 : Nat) (ad_3 : Nat → Nat) (g_4 : Nat → va_E) (r_6 : Nat → Nat) (q_5 : Nat) (ad_7 : Nat → Nat) (g_8 : Nat → va_E) (r_10 : Nat → Nat) (q_9 : Nat) (ad_11 : Nat → Nat) (g_12 : Nat → va_E) (ead_3 : ad_3 = ct ad_0 0 (ct (fun _ => q_1) 1 r_2)) (eg_4 : g_4 = ct g_0 0 (ct (fun _ => .inl (cs 6, 14, .inr (.inr (.inr (.inr (fun i => if i < 14 then some (r_2 i) else none)))))) 1 (fun _ => .inl (cs 1, 5, .inl (fun _ => 0))))) (ead_7 : ad_7 = ct ad_3 15 (ct (fun _ => q_5) 1 r_6)) (eg_8 : g_8 = ct g_4 15 (ct (fun _ => .inl (cs 6, 14, .inr (.inr (.inr (.inr (fun i => if i < 14 then some (r_6 i) else none)))))) 1 (fun _ => .inl (cs 1, 5, .inl (fun _ => 0))))) (ead_11 : ad_11 = ct ad_7 30 (ct (fun _ => q_9) 1 r_10)) (eg_12 : g_12 = ct g_8 30 (ct (fun _ => .inl (cs 6, 14, .inr (.inr (.inr (.inr (fun i => if i < 14 then some (r_10 i) else none)))))) 1 (fun _ => .inl (cs 1, 5, .inl (fun _ => 0))))) : (ct (fun _ => .inr (8, [.int 0, .ref q_1, .ref q_5, .ref q_9, .int 0, .int 0])) 1 g_12) 0 = .inr (8, [.int 0, .ref (ct (fun _ => h0) 1 ad_11 1), .ref (ct (fun _ => h0) 1 ad_11 16), .ref (ct (fun _ => h0) 1 ad_11 31), .int 0, .int 0]) ∧ (∃ f, (ct (fun _ => .inr (8, [.int 0, .ref q_1, .ref q_5, .ref q_9, .int 0, .int 0])) 1 g_12) 1 = .inl (cs 6, 14, .inr (.inr (.inr (.inr f)))) ∧ f 0 = some (ct (fun _ => h0) 1 ad_11 2) ∧ f 1 = some (ct (fun _ => h0) 1 ad_11 3) ∧ f 2 = some (ct (fun _ => h0) 1 ad_11 4) ∧ f 3 = some (ct (fun _ => h0) 1 ad_11 5) ∧ f 4 = some (ct (fun _ => h0) 1 ad_11 6) ∧ f 5 = some (ct (fun _ => h0) 1 ad_11 7) ∧ f 6 = some (ct (fun _ => h0) 1 ad_11 8) ∧ f 7 = some (ct (fun _ => h0) 1 ad_11 9) ∧ f 8 = some (ct (fun _ => h0) 1 ad_11 10) ∧ f 9 = some (ct (fun _ => h0) 1 ad_11 11) ∧ f 10 = some (ct (fun _ => h0) 1 ad_11 12) ∧ f 11 = some (ct (fun _ => h0) 1 ad_11 13) ∧ f 12 = some (ct (fun _ => h0) 1 ad_11 14) ∧ f 13 = some (ct (fun _ => h0) 1 ad_11 15)) ∧ (ct (fun _ => .inr (8, [.int 0, .ref q_1, .ref q_5, .ref q_9, .int 0, .int 0])) 1 g_12) 2 = .inl (cs 1, 5, .inl (fun _ => 0)) ∧ (ct (fun _ => .inr (8, [.int 0, .ref q_1, .ref q_5, .ref q_9, .int 0, .int 0])) 1 g_12) 3 = .inl (cs 1, 5, .inl (fun _ => 0)) ∧ (ct (fun _ => .inr (8, [.int 0, .ref q_1, .ref q_5, .ref q_9, .int 0, .int 0])) 1 g_12) 4 = .inl (cs 1, 5, .inl (fun _ => 0)) ∧ (ct (fun _ => .inr (8, [.int 0, .ref q_1, .ref q_5, .ref q_9, .int 0, .int 0])) 1 g_12) 5 = .inl (cs 1, 5, .inl (fun _ => 0)) ∧ (ct (fun _ => .inr (8, [.int 0, .ref q_1, .ref q_5, .ref q_9, .int 0, .int 0])) 1 g_12) 6 = .inl (cs 1, 5, .inl (fun _ => 0)) ∧ (ct (fun _ => .inr (8, [.int 0, .ref q_1, .ref q_5, .ref q_9, .int 0, .int 0])) 1 g_12) 7 = .inl (cs 1, 5, .inl (fun _ => 0)) ∧ (ct (fun _ => .inr (8, [.int 0, .ref q_1, .ref q_5, .ref q_9, .int 0, .int 0])) 1 g_12) 8 = .inl (cs 1, 5, .inl (fun _ => 0)) ∧ (ct (fun _ => .inr (8, [.int 0, .ref q_1, .ref q_5, .ref q_9, .int 0, .int 0])) 1 g_12) 9 = .inl (cs 1, 5, .inl (fun _ => 0)) ∧ (ct (fun _ => .inr (8, [.int 0, .ref q_1, .ref q_5, .ref q_9, .int 0, .int 0])) 1 g_12) 10 = .inl (cs 1, 5, .inl (fun _ => 0)) ∧ (ct (fun _ => .inr (8, [.int 0, .ref q_1, .ref q_5, .ref q_9, .int 0, .int 0])) 1 g_12) 11 = .inl (cs 1, 5, .inl (fun _ => 0)) ∧ (ct (fun _ => .inr (8, [.int 0, .ref q_1, .ref q_5, .ref q_9, .int 0, .int 0])) 1 g_12) 12 = .inl (cs 1, 5, .inl (fun _ => 0)) ∧ (ct (fun _ => .inr (8, [.int 0, .ref q_1, .ref q_5, .ref q_9, .int 0, .int 0])) 1 g_12) 13 = .inl (cs 1, 5, .inl (fun _ => 0)) ∧ (ct (fun _ => .inr (8, [.int 0, .ref q_1, .ref q_5, .ref q_9, .int 0, .int 0])) 1 g_12) 14 = .inl (cs 1, 5, .inl (fun _ => 0)) ∧ (ct (fun _ => .inr (8, [.int 0, .ref q_1, .ref q_5, .ref q_9, .int 0, .int 0])) 1 g_12) 15 = .inl (cs 1, 5, .inl (fun _ => 0)) ∧ (∃ f, (ct (fun _ => .inr (8, [.int 0, .ref q_1, .ref q_5, .ref q_9, .int 0, .int 0])) 1 g_12) 16 = .inl (cs 6, 14, .inr (.inr (.inr (.inr f)))) ∧ f 0 = some (ct (fun _ => h0) 1 ad_11 17) ∧ f 1 = some (ct (fun _ => h0) 1 ad_11 18) ∧ f 2 = some (ct (fun _ => h0) 1 ad_11 19) ∧ f 3 = some (ct (fun _ => h0) 1 ad_11 20) ∧ f 4 = some (ct (fun _ => h0) 1 ad_11 21) ∧ f 5 = some (ct (fun _ => h0) 1 ad_11 22) ∧ f 6 = some (ct (fun _ => h0) 1 ad_11 23) ∧ f 7 = some (ct (fun _ => h0) 1 ad_11 24) ∧ f 8 = some (ct (fun _ => h0) 1 ad_11 25) ∧ f 9 = some (ct (fun _ => h0) 1 ad_11 26) ∧ f 10 = some (ct (fun _ => h0) 1 ad_11 27) ∧ f 11 = some (ct (fun _ => h0) 1 ad_11 28) ∧ f 12 = some (ct (fun _ => h0) 1 ad_11 29) ∧ f 13 = some (ct (fun _ => h0) 1 ad_11 30)) ∧ (ct (fun _ => .inr (8, [.int 0, .ref q_1, .ref q_5, .ref q_9, .int 0, .int 0])) 1 g_12) 17 = .inl (cs 1, 5, .inl (fun _ => 0)) ∧ (ct (fun _ => .inr (8, [.int 0, .ref q_1, .ref q_5, .ref q_9, .int 0, .int 0])) 1 g_12) 18 = .inl (cs 1, 5, .inl (fun _ => 0)) ∧ (ct (fun _ => .inr (8, [.int 0, .ref q_1, .ref q_5, .ref q_9, .int 0, .int 0])) 1 g_12) 19 = .inl (cs 1, 5, .inl (fun _ => 0)) ∧ (ct (fun _ => .inr (8, [.int 0, .ref q_1, .ref q_5, .ref q_9, .int 0, .int 0])) 1 g_12) 20 = .inl (cs 1, 5, .inl (fun _ => 0)) ∧ (ct (fun _ => .inr (8, [.int 0, .ref q_1, .ref q_5, .ref q_9, .int 0, .int 0])) 1 g_12) 21 = .inl (cs 1, 5, .inl (fun _ => 0)) ∧ (ct (fun _ => .inr (8, [.int 0, .ref q_1, .ref q_5, .ref q_9, .int 0, .int 0])) 1 g_12) 22 = .inl (cs 1, 5, .inl (fun _ => 0)) ∧ (ct (fun _ => .inr (8, [.int 0, .ref q_1, .ref q_5, .ref q_9, .int 0, .int 0])) 1 g_12) 23 = .inl (cs 1, 5, .inl (fun _ => 0)) ∧ (ct (fun _ => .inr (8, [.int 0, .ref q_1, .ref q_5, .ref q_9, .int 0, .int 0])) 1 g_12) 24 = .inl (cs 1, 5, .inl (fun _ => 0)) ∧ (ct (fun _ => .inr (8, [.int 0, .ref q_1, .ref q_5, .ref q_9, .int 0, .int 0])) 1 g_12) 25 = .inl (cs 1, 5, .inl (fun _ => 0)) ∧ (ct (fun _ => .inr (8, [.int 0, .ref q_1, .ref q_5, .ref q_9, .int 0, .int 0])) 1 g_12) 26 = .inl (cs 1, 5, .inl (fun _ => 0)) ∧ (ct (fun _ => .inr (8, [.int 0, .ref q_1, .ref q_5, .ref q_9, .int 0, .int 0])) 1 g_12) 27 = .inl (cs 1, 5, .inl (fun _ => 0)) ∧ (ct (fun _ => .inr (8, [.int 0, .ref q_1, .ref q_5, .ref q_9, .int 0, .int 0])) 1 g_12) 28 = .inl (cs 1, 5, .inl (fun _ => 0)) ∧ (ct (fun _ => .inr (8, [.int 0, .ref q_1, .ref q_5, .ref q_9, .int 0, .int 0])) 1 g_12) 29 = .inl (cs 1, 5, .inl (fun _ => 0)) ∧ (ct (fun _ => .inr (8, [.int 0, .ref q_1, .ref q_5, .ref q_9, .int 0, .int 0])) 1 g_12) 30 = .inl (cs 1, 5, .inl (fun _ => 0)) ∧ (∃ f, (ct (fun _ => .inr (8, [.int 0, .ref q_1, .ref q_5, .ref q_9, .int 0, .int 0])) 1 g_12) 31 = .inl (cs 6, 14, .inr (.inr (.inr (.inr f)))) ∧ f 0 = some (ct (fun _ => h0) 1 ad_11 32) ∧ f 1 = some (ct (fun _ => h0) 1 ad_11 33) ∧ f 2 = some (ct (fun _ => h0) 1 ad_11 34) ∧ f 3 = some (ct (fun _ => h0) 1 ad_11 35) ∧ f 4 = some (ct (fun _ => h0) 1 ad_11 36) ∧ f 5 = some (ct (fun _ => h0) 1 ad_11 37) ∧ f 6 = some (ct (fun _ => h0) 1 ad_11 38) ∧ f 7 = some (ct (fun _ => h0) 1 ad_11 39) ∧ f 8 = some (ct (fun _ => h0) 1 ad_11 40) ∧ f 9 = some (ct (fun _ => h0) 1 ad_11 41) ∧ f 10 = some (ct (fun _ => h0) 1 ad_11 42) ∧ f 11 = some (ct (fun _ => h0) 1 ad_11 43) ∧ f 12 = some (ct (fun _ => h0) 1 ad_11 44) ∧ f 13 = some (ct (fun _ => h0) 1 ad_11 45)) ∧ (ct (fun _ => .inr (8, [.int 0, .ref q_1, .ref q_5, .ref q_9, .int 0, .int 0])) 1 g_12) 32 = .inl (cs 1, 5, .inl (fun _ => 0)) ∧ (ct (fun _ => .inr (8, [.int 0, .ref q_1, .ref q_5, .ref q_9, .int 0, .int 0])) 1 g_12) 33 = .inl (cs 1, 5, .inl (fun _ => 0)) ∧ (ct (fun _ => .inr (8, [.int 0, .ref q_1, .ref q_5, .ref q_9, .int 0, .int 0])) 1 g_12) 34 = .inl (cs 1, 5, .inl (fun _ => 0)) ∧ (ct (fun _ => .inr (8, [.int 0, .ref q_1, .ref q_5, .ref q_9, .int 0, .int 0])) 1 g_12) 35 = .inl (cs 1, 5, .inl (fun _ => 0)) ∧ (ct (fun _ => .inr (8, [.int 0, .ref q_1, .ref q_5, .ref q_9, .int 0, .int 0])) 1 g_12) 36 = .inl (cs 1, 5, .inl (fun _ => 0)) ∧ (ct (fun _ => .inr (8, [.int 0, .ref q_1, .ref q_5, .ref q_9, .int 0, .int 0])) 1 g_12) 37 = .inl (cs 1, 5, .inl (fun _ => 0)) ∧ (ct (fun _ => .inr (8, [.int 0, .ref q_1, .ref q_5, .ref q_9, .int 0, .int 0])) 1 g_12) 38 = .inl (cs 1, 5, .inl (fun _ => 0)) ∧ (ct (fun _ => .inr (8, [.int 0, .ref q_1, .ref q_5, .ref q_9, .int 0, .int 0])) 1 g_12) 39 = .inl (cs 1, 5, .inl (fun _ => 0)) ∧ (ct (fun _ => .inr (8, [.int 0, .ref q_1, .ref q_5, .ref q_9, .int 0, .int 0])) 1 g_12) 40 = .inl (cs 1, 5, .inl (fun _ => 0)) ∧ (ct (fun _ => .inr (8, [.int 0, .ref q_1, .ref q_5, .ref q_9, .int 0, .int 0])) 1 g_12) 41 = .inl (cs 1, 5, .inl (fun _ => 0)) ∧ (ct (fun _ => .inr (8, [.int 0, .ref q_1, .ref q_5, .ref q_9, .int 0, .int 0])) 1 g_12) 42 = .inl (cs 1, 5, .inl (fun _ => 0)) ∧ (ct (fun _ => .inr (8, [.int 0, .ref q_1, .ref q_5, .ref q_9, .int 0, .int 0])) 1 g_12) 43 = .inl (cs 1, 5, .inl (fun _ => 0)) ∧ (ct (fun _ => .inr (8, [.int 0, .ref q_1, .ref q_5, .ref q_9, .int 0, .int 0])) 1 g_12) 44 = .inl (cs 1, 5, .inl (fun _ => 0)) ∧ (ct (fun _ => .inr (8, [.int 0, .ref q_1, .ref q_5, .ref q_9, .int 0, .int 0])) 1 g_12) 45 = .inl (cs 1, 5, .inl (fun _ => 0)) := by
  subst eg_12
  subst ead_11
  subst eg_8
  subst ead_7
  subst eg_4
  subst ead_3
  exact ⟨rfl, ⟨_, rfl, rfl, rfl, rfl, rfl, rfl, rfl, rfl, rfl, rfl, rfl, rfl, rfl, rfl, rfl⟩, rfl, rfl, rfl, rfl, rfl, rfl, rfl, rfl, rfl, rfl, rfl, rfl, rfl, rfl, ⟨_, rfl, rfl, rfl, rfl, rfl, rfl, rfl, rfl, rfl, rfl, rfl, rfl, rfl, rfl, rfl⟩, rfl, rfl, rfl, rfl, rfl, rfl, rfl, rfl, rfl, rfl, rfl, rfl, rfl, rfl, ⟨_, rfl, rfl, rfl, rfl, rfl, rfl, rfl, rfl, rfl, rfl, rfl, rfl, rfl, rfl, rfl⟩, rfl, rfl, rfl, rfl, rfl, rfl, rfl, rfl, rfl, rfl, rfl, rfl, rfl, rfl⟩
set_option maxHeartbeats 8000000 in
set_option maxRecDepth 100000 in
theorem n_Walker (l : Launch) (D : va_G) (cs : Nat → ClassId) (h0 sz : Nat) : cN l yX8_init vX8_init { frames := 1, cells := 45, slots := 252, locals := 12 } D cs h0 sz (.inr (8, [.int 0, .null, .null, .null, .int 0, .int 0])) 46 (fun a g => g 0 = .inr (8, [.int 0, .ref (a 1), .ref (a 16), .ref (a 31), .int 0, .int 0]) ∧ (∃ f, g 1 = .inl (cs 6, 14, .inr (.inr (.inr (.inr f)))) ∧ f 0 = some (a 2) ∧ f 1 = some (a 3) ∧ f 2 = some (a 4) ∧ f 3 = some (a 5) ∧ f 4 = some (a 6) ∧ f 5 = some (a 7) ∧ f 6 = some (a 8) ∧ f 7 = some (a 9) ∧ f 8 = some (a 10) ∧ f 9 = some (a 11) ∧ f 10 = some (a 12) ∧ f 11 = some (a 13) ∧ f 12 = some (a 14) ∧ f 13 = some (a 15)) ∧ g 2 = .inl (cs 1, 5, .inl (fun _ => 0)) ∧ g 3 = .inl (cs 1, 5, .inl (fun _ => 0)) ∧ g 4 = .inl (cs 1, 5, .inl (fun _ => 0)) ∧ g 5 = .inl (cs 1, 5, .inl (fun _ => 0)) ∧ g 6 = .inl (cs 1, 5, .inl (fun _ => 0)) ∧ g 7 = .inl (cs 1, 5, .inl (fun _ => 0)) ∧ g 8 = .inl (cs 1, 5, .inl (fun _ => 0)) ∧ g 9 = .inl (cs 1, 5, .inl (fun _ => 0)) ∧ g 10 = .inl (cs 1, 5, .inl (fun _ => 0)) ∧ g 11 = .inl (cs 1, 5, .inl (fun _ => 0)) ∧ g 12 = .inl (cs 1, 5, .inl (fun _ => 0)) ∧ g 13 = .inl (cs 1, 5, .inl (fun _ => 0)) ∧ g 14 = .inl (cs 1, 5, .inl (fun _ => 0)) ∧ g 15 = .inl (cs 1, 5, .inl (fun _ => 0)) ∧ (∃ f, g 16 = .inl (cs 6, 14, .inr (.inr (.inr (.inr f)))) ∧ f 0 = some (a 17) ∧ f 1 = some (a 18) ∧ f 2 = some (a 19) ∧ f 3 = some (a 20) ∧ f 4 = some (a 21) ∧ f 5 = some (a 22) ∧ f 6 = some (a 23) ∧ f 7 = some (a 24) ∧ f 8 = some (a 25) ∧ f 9 = some (a 26) ∧ f 10 = some (a 27) ∧ f 11 = some (a 28) ∧ f 12 = some (a 29) ∧ f 13 = some (a 30)) ∧ g 17 = .inl (cs 1, 5, .inl (fun _ => 0)) ∧ g 18 = .inl (cs 1, 5, .inl (fun _ => 0)) ∧ g 19 = .inl (cs 1, 5, .inl (fun _ => 0)) ∧ g 20 = .inl (cs 1, 5, .inl (fun _ => 0)) ∧ g 21 = .inl (cs 1, 5, .inl (fun _ => 0)) ∧ g 22 = .inl (cs 1, 5, .inl (fun _ => 0)) ∧ g 23 = .inl (cs 1, 5, .inl (fun _ => 0)) ∧ g 24 = .inl (cs 1, 5, .inl (fun _ => 0)) ∧ g 25 = .inl (cs 1, 5, .inl (fun _ => 0)) ∧ g 26 = .inl (cs 1, 5, .inl (fun _ => 0)) ∧ g 27 = .inl (cs 1, 5, .inl (fun _ => 0)) ∧ g 28 = .inl (cs 1, 5, .inl (fun _ => 0)) ∧ g 29 = .inl (cs 1, 5, .inl (fun _ => 0)) ∧ g 30 = .inl (cs 1, 5, .inl (fun _ => 0)) ∧ (∃ f, g 31 = .inl (cs 6, 14, .inr (.inr (.inr (.inr f)))) ∧ f 0 = some (a 32) ∧ f 1 = some (a 33) ∧ f 2 = some (a 34) ∧ f 3 = some (a 35) ∧ f 4 = some (a 36) ∧ f 5 = some (a 37) ∧ f 6 = some (a 38) ∧ f 7 = some (a 39) ∧ f 8 = some (a 40) ∧ f 9 = some (a 41) ∧ f 10 = some (a 42) ∧ f 11 = some (a 43) ∧ f 12 = some (a 44) ∧ f 13 = some (a 45)) ∧ g 32 = .inl (cs 1, 5, .inl (fun _ => 0)) ∧ g 33 = .inl (cs 1, 5, .inl (fun _ => 0)) ∧ g 34 = .inl (cs 1, 5, .inl (fun _ => 0)) ∧ g 35 = .inl (cs 1, 5, .inl (fun _ => 0)) ∧ g 36 = .inl (cs 1, 5, .inl (fun _ => 0)) ∧ g 37 = .inl (cs 1, 5, .inl (fun _ => 0)) ∧ g 38 = .inl (cs 1, 5, .inl (fun _ => 0)) ∧ g 39 = .inl (cs 1, 5, .inl (fun _ => 0)) ∧ g 40 = .inl (cs 1, 5, .inl (fun _ => 0)) ∧ g 41 = .inl (cs 1, 5, .inl (fun _ => 0)) ∧ g 42 = .inl (cs 1, 5, .inl (fun _ => 0)) ∧ g 43 = .inl (cs 1, 5, .inl (fun _ => 0)) ∧ g 44 = .inl (cs 1, 5, .inl (fun _ => 0)) ∧ g 45 = .inl (cs 1, 5, .inl (fun _ => 0))) 45 252 := by
  refine cN.start (cc := cX8_init) (maxL := 1) RX8 rfl (by decide) rfl rfl (by decide) ?_
  intro p e s m below meth c ls A X hnm0 hax hA hP hD hl hfin
  have hx := X.1
  have hb := X.2.1
  have hS : va_S A s.heap s.heap [] := va_S.rf
  obtain ⟨ad_0, g_0⟩ : (Nat → Nat) × (Nat → va_E) := (fun _ => 0, fun _ => .inr (0, []))
  have hP : va_P D vwCl ((h0, .inr (8, [.int 0, .null, .null, .null, .int 0, .int 0])) :: wL ad_0 g_0 0) s.heap := hP
  have hD : va_D A ((h0, .inr (8, [.int 0, .null, .null, .null, .int 0, .int 0])) :: wL ad_0 g_0 0) := hD
  refine lv_aload_n hx hb dX8_init_0 rfl (lv_at hl 0 rfl) ?_
  refine r_obj X hl.1 (List.mem_of_getElem? (i := 1) rfl) (List.mem_of_getElem? (i := 2) rfl) (List.mem_of_getElem? (i := 3) rfl) dX8_init_1 (Nat.le_of_ble_eq_true rfl) (Nat.le_of_ble_eq_true rfl) ?_
  refine lv_aload_n hx hb dX8_init_4 rfl (lv_at hl 0 rfl) ?_
  refine lv_bipush (v := 14) hx hb dX8_init_5 (by decide) ?_
  refine lv_iconst (v := 5) hx hb dX8_init_7 (by decide) ?_
  refine r_mna (N' := 14) (K' := 5) X (List.mem_of_getElem? (i := 4) rfl) hax.2.1 (List.mem_of_getElem? (i := 5) rfl) hP hD hS hA (by decide) (by decide) (by decide) (by decide) (Nat.le_of_ble_eq_true rfl) (Nat.le_of_ble_eq_true rfl) (Nat.le_of_ble_eq_true rfl) (Nat.le_of_ble_eq_true rfl) (Nat.le_of_ble_eq_true rfl) dX8_init_8 (fun q_1 r_2 ad_3 g_4 H ead_3 eg_4 hP hD hS => ?_)
  have hP : va_P D vwCl ((h0, .inr (8, [.int 0, .null, .null, .null, .int 0, .int 0])) :: wL ad_3 g_4 15) H := hP
  have hD : va_D A ((h0, .inr (8, [.int 0, .null, .null, .null, .int 0, .int 0])) :: wL ad_3 g_4 15) := hD
  refine r_putF X hnm0 iX8_init_8 tyX8 tyX8_ok nmX8 hP hD hS rfl 1 (by decide) (List.mem_of_getElem? (i := 6) rfl) rfl rfl (ty := .array (.array .int)) (v := .ref q_1) (by decide +kernel) rfl rfl (Nat.le_of_ble_eq_true rfl) dX8_init_12 (fun H locs hP hD hS => ?_)
  have hP : va_P D vwCl ((h0, .inr (8, [.int 0, .ref q_1, .null, .null, .int 0, .int 0])) :: wL ad_3 g_4 15) H := hP
  have hD : va_D A ((h0, .inr (8, [.int 0, .ref q_1, .null, .null, .int 0, .int 0])) :: wL ad_3 g_4 15) := hD
  refine lv_aload_n hx hb dX8_init_15 rfl (lv_at hl 0 rfl) ?_
  refine lv_bipush (v := 14) hx hb dX8_init_16 (by decide) ?_
  refine lv_iconst (v := 5) hx hb dX8_init_18 (by decide) ?_
  refine r_mna (N' := 14) (K' := 5) X (List.mem_of_getElem? (i := 4) rfl) hax.2.1 (List.mem_of_getElem? (i := 5) rfl) hP hD hS hA (by decide) (by decide) (by decide) (by decide) (Nat.le_of_ble_eq_true rfl) (Nat.le_of_ble_eq_true rfl) (Nat.le_of_ble_eq_true rfl) (Nat.le_of_ble_eq_true rfl) (Nat.le_of_ble_eq_true rfl) dX8_init_19 (fun q_5 r_6 ad_7 g_8 H ead_7 eg_8 hP hD hS => ?_)
  have hP : va_P D vwCl ((h0, .inr (8, [.int 0, .ref q_1, .null, .null, .int 0, .int 0])) :: wL ad_7 g_8 30) H := hP
  have hD : va_D A ((h0, .inr (8, [.int 0, .ref q_1, .null, .null, .int 0, .int 0])) :: wL ad_7 g_8 30) := hD
  refine r_putF X hnm0 iX8_init_8 tyX8 tyX8_ok nmX8 hP hD hS rfl 2 (by decide) (List.mem_of_getElem? (i := 7) rfl) rfl rfl (ty := .array (.array .int)) (v := .ref q_5) (by decide +kernel) rfl rfl (Nat.le_of_ble_eq_true rfl) dX8_init_23 (fun H locs hP hD hS => ?_)
  have hP : va_P D vwCl ((h0, .inr (8, [.int 0, .ref q_1, .ref q_5, .null, .int 0, .int 0])) :: wL ad_7 g_8 30) H := hP
  have hD : va_D A ((h0, .inr (8, [.int 0, .ref q_1, .ref q_5, .null, .int 0, .int 0])) :: wL ad_7 g_8 30) := hD
  refine lv_aload_n hx hb dX8_init_26 rfl (lv_at hl 0 rfl) ?_
  refine lv_bipush (v := 14) hx hb dX8_init_27 (by decide) ?_
  refine lv_iconst (v := 5) hx hb dX8_init_29 (by decide) ?_
  refine r_mna (N' := 14) (K' := 5) X (List.mem_of_getElem? (i := 4) rfl) hax.2.1 (List.mem_of_getElem? (i := 5) rfl) hP hD hS hA (by decide) (by decide) (by decide) (by decide) (Nat.le_of_ble_eq_true rfl) (Nat.le_of_ble_eq_true rfl) (Nat.le_of_ble_eq_true rfl) (Nat.le_of_ble_eq_true rfl) (Nat.le_of_ble_eq_true rfl) dX8_init_30 (fun q_9 r_10 ad_11 g_12 H ead_11 eg_12 hP hD hS => ?_)
  have hP : va_P D vwCl ((h0, .inr (8, [.int 0, .ref q_1, .ref q_5, .null, .int 0, .int 0])) :: wL ad_11 g_12 45) H := hP
  have hD : va_D A ((h0, .inr (8, [.int 0, .ref q_1, .ref q_5, .null, .int 0, .int 0])) :: wL ad_11 g_12 45) := hD
  refine r_putF X hnm0 iX8_init_8 tyX8 tyX8_ok nmX8 hP hD hS rfl 3 (by decide) (List.mem_of_getElem? (i := 8) rfl) rfl rfl (ty := .array (.array .int)) (v := .ref q_9) (by decide +kernel) rfl rfl (Nat.le_of_ble_eq_true rfl) dX8_init_34 (fun H locs hP hD hS => ?_)
  have hP : va_P D vwCl ((h0, .inr (8, [.int 0, .ref q_1, .ref q_5, .ref q_9, .int 0, .int 0])) :: wL ad_11 g_12 45) H := hP
  have hD : va_D A ((h0, .inr (8, [.int 0, .ref q_1, .ref q_5, .ref q_9, .int 0, .int 0])) :: wL ad_11 g_12 45) := hD
  have eW : (h0, .inr (8, [.int 0, .ref q_1, .ref q_5, .ref q_9, .int 0, .int 0])) :: wL ad_11 g_12 45 = wL (ct (fun _ => h0) 1 ad_11) (ct (fun _ => .inr (8, [.int 0, .ref q_1, .ref q_5, .ref q_9, .int 0, .int 0])) 1 g_12) 46 := by rw [wL_cons, show 1 + 45 = 46 from rfl]
  rw [eW] at hP hD
  refine W.widen (k := 45) (n := 252) (Nat.le_of_ble_eq_true rfl) (Nat.le_of_ble_eq_true rfl) ?_
  refine hfin H locs 37 ls _ _ hP hD hS rfl ?_ dX8_init_37
  exact f_n_Walker cs h0 _ _ _ _ _ _ _ _ _ _ _ _ _ _ ead_3 eg_4 ead_7 eg_8 ead_11 eg_12

theorem dX2_init_0 : decode cX2_init 0 = .ok (.aload_n 0, 1) := by decide +kernel
theorem dX2_init_1 : decode cX2_init 1 = .ok (.invokespecial 3, 3) := by decide +kernel
theorem dX2_init_4 : decode cX2_init 4 = .ok (.aload_n 0, 1) := by decide +kernel
theorem dX2_init_5 : decode cX2_init 5 = .ok (.iconst 5, 1) := by decide +kernel
theorem dX2_init_6 : decode cX2_init 6 = .ok (.iconst 5, 1) := by decide +kernel
theorem dX2_init_7 : decode cX2_init 7 = .ok (.multianewarray 9 2, 4) := by decide +kernel
theorem dX2_init_11 : decode cX2_init 11 = .ok (.putfield 11, 3) := by decide +kernel
theorem dX2_init_14 : decode cX2_init 14 = .ok (.return_, 1) := by decide +kernel
noncomputable def vX2_init : List Cond := .code yX2_init cX2_init 1 none :: (([.methodLink RX2 3 objectInit, .instanceMethod objectInit, .code objectInit ⟨#[0xb1]⟩ 1 none, .classLink RX2 9 "[[I", .arrayClass .int, .fieldLink RX2 11 "IcicleClock$Clerks" "shared" "[[I"] : List Cond) ++ wsX20)
theorem iX2_init_2 : ∀ w ∈ wsX20, w ∈ vX2_init := fun _ h => List.mem_cons_of_mem _ (List.mem_append_right _ h)
set_option maxHeartbeats 8000000 in
set_option maxRecDepth 100000 in
theorem f_n_Clerks (cs : Nat → ClassId) (h0 : Nat) (ad_0 : Nat → Nat) (g_0 : Nat → va_E) (r_2 : Nat → Nat) (q_1 : Nat) (ad_3 : Nat → Nat) (g_4 : Nat → va_E) (ead_3 : ad_3 = ct ad_0 0 (ct (fun _ => q_1) 1 r_2)) (eg_4 : g_4 = ct g_0 0 (ct (fun _ => .inl (cs 6, 5, .inr (.inr (.inr (.inr (fun i => if i < 5 then some (r_2 i) else none)))))) 1 (fun _ => .inl (cs 1, 5, .inl (fun _ => 0))))) : (ct (fun _ => .inr (2, [.int 0, .int 0, .ref q_1])) 1 g_4) 0 = .inr (2, [.int 0, .int 0, .ref (ct (fun _ => h0) 1 ad_3 1)]) ∧ (∃ f, (ct (fun _ => .inr (2, [.int 0, .int 0, .ref q_1])) 1 g_4) 1 = .inl (cs 6, 5, .inr (.inr (.inr (.inr f)))) ∧ f 0 = some (ct (fun _ => h0) 1 ad_3 2) ∧ f 1 = some (ct (fun _ => h0) 1 ad_3 3) ∧ f 2 = some (ct (fun _ => h0) 1 ad_3 4) ∧ f 3 = some (ct (fun _ => h0) 1 ad_3 5) ∧ f 4 = some (ct (fun _ => h0) 1 ad_3 6)) ∧ (ct (fun _ => .inr (2, [.int 0, .int 0, .ref q_1])) 1 g_4) 2 = .inl (cs 1, 5, .inl (fun _ => 0)) ∧ (ct (fun _ => .inr (2, [.int 0, .int 0, .ref q_1])) 1 g_4) 3 = .inl (cs 1, 5, .inl (fun _ => 0)) ∧ (ct (fun _ => .inr (2, [.int 0, .int 0, .ref q_1])) 1 g_4) 4 = .inl (cs 1, 5, .inl (fun _ => 0)) ∧ (ct (fun _ => .inr (2, [.int 0, .int 0, .ref q_1])) 1 g_4) 5 = .inl (cs 1, 5, .inl (fun _ => 0)) ∧ (ct (fun _ => .inr (2, [.int 0, .int 0, .ref q_1])) 1 g_4) 6 = .inl (cs 1, 5, .inl (fun _ => 0)) := by
  subst eg_4
  subst ead_3
  exact ⟨rfl, ⟨_, rfl, rfl, rfl, rfl, rfl, rfl⟩, rfl, rfl, rfl, rfl, rfl⟩
set_option maxHeartbeats 8000000 in
set_option maxRecDepth 100000 in
theorem n_Clerks (l : Launch) (D : va_G) (cs : Nat → ClassId) (h0 sz : Nat) : cN l yX2_init vX2_init { frames := 1, cells := 6, slots := 30, locals := 12 } D cs h0 sz (.inr (2, [.int 0, .int 0, .null])) 7 (fun a g => g 0 = .inr (2, [.int 0, .int 0, .ref (a 1)]) ∧ (∃ f, g 1 = .inl (cs 6, 5, .inr (.inr (.inr (.inr f)))) ∧ f 0 = some (a 2) ∧ f 1 = some (a 3) ∧ f 2 = some (a 4) ∧ f 3 = some (a 5) ∧ f 4 = some (a 6)) ∧ g 2 = .inl (cs 1, 5, .inl (fun _ => 0)) ∧ g 3 = .inl (cs 1, 5, .inl (fun _ => 0)) ∧ g 4 = .inl (cs 1, 5, .inl (fun _ => 0)) ∧ g 5 = .inl (cs 1, 5, .inl (fun _ => 0)) ∧ g 6 = .inl (cs 1, 5, .inl (fun _ => 0))) 6 30 := by
  refine cN.start (cc := cX2_init) (maxL := 1) RX2 rfl (by decide) rfl rfl (by decide) ?_
  intro p e s m below meth c ls A X hnm0 hax hA hP hD hl hfin
  have hx := X.1
  have hb := X.2.1
  have hS : va_S A s.heap s.heap [] := va_S.rf
  obtain ⟨ad_0, g_0⟩ : (Nat → Nat) × (Nat → va_E) := (fun _ => 0, fun _ => .inr (0, []))
  have hP : va_P D vwCl ((h0, .inr (2, [.int 0, .int 0, .null])) :: wL ad_0 g_0 0) s.heap := hP
  have hD : va_D A ((h0, .inr (2, [.int 0, .int 0, .null])) :: wL ad_0 g_0 0) := hD
  refine lv_aload_n hx hb dX2_init_0 rfl (lv_at hl 0 rfl) ?_
  refine r_obj X hl.1 (List.mem_of_getElem? (i := 1) rfl) (List.mem_of_getElem? (i := 2) rfl) (List.mem_of_getElem? (i := 3) rfl) dX2_init_1 (Nat.le_of_ble_eq_true rfl) (Nat.le_of_ble_eq_true rfl) ?_
  refine lv_aload_n hx hb dX2_init_4 rfl (lv_at hl 0 rfl) ?_
  refine lv_iconst (v := 5) hx hb dX2_init_5 (by decide) ?_
  refine lv_iconst (v := 5) hx hb dX2_init_6 (by decide) ?_
  refine r_mna (N' := 5) (K' := 5) X (List.mem_of_getElem? (i := 4) rfl) hax.2.1 (List.mem_of_getElem? (i := 5) rfl) hP hD hS hA (by decide) (by decide) (by decide) (by decide) (Nat.le_of_ble_eq_true rfl) (Nat.le_of_ble_eq_true rfl) (Nat.le_of_ble_eq_true rfl) (Nat.le_of_ble_eq_true rfl) (Nat.le_of_ble_eq_true rfl) dX2_init_7 (fun q_1 r_2 ad_3 g_4 H ead_3 eg_4 hP hD hS => ?_)
  have hP : va_P D vwCl ((h0, .inr (2, [.int 0, .int 0, .null])) :: wL ad_3 g_4 6) H := hP
  have hD : va_D A ((h0, .inr (2, [.int 0, .int 0, .null])) :: wL ad_3 g_4 6) := hD
  refine r_putF X hnm0 iX2_init_2 tyX2 tyX2_ok nmX2 hP hD hS rfl 2 (by decide) (List.mem_of_getElem? (i := 6) rfl) rfl rfl (ty := .array (.array .int)) (v := .ref q_1) (by decide +kernel) rfl rfl (Nat.le_of_ble_eq_true rfl) dX2_init_11 (fun H locs hP hD hS => ?_)
  have hP : va_P D vwCl ((h0, .inr (2, [.int 0, .int 0, .ref q_1])) :: wL ad_3 g_4 6) H := hP
  have hD : va_D A ((h0, .inr (2, [.int 0, .int 0, .ref q_1])) :: wL ad_3 g_4 6) := hD
  have eW : (h0, .inr (2, [.int 0, .int 0, .ref q_1])) :: wL ad_3 g_4 6 = wL (ct (fun _ => h0) 1 ad_3) (ct (fun _ => .inr (2, [.int 0, .int 0, .ref q_1])) 1 g_4) 7 := by rw [wL_cons, show 1 + 6 = 7 from rfl]
  rw [eW] at hP hD
  refine W.widen (k := 6) (n := 30) (Nat.le_of_ble_eq_true rfl) (Nat.le_of_ble_eq_true rfl) ?_
  refine hfin H locs 14 ls _ _ hP hD hS rfl ?_ dX2_init_14
  exact f_n_Clerks cs h0 _ _ _ _ _ _ ead_3 eg_4
