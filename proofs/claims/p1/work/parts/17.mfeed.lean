theorem dX12_feed_0 : decode cX12_feed 0 = .ok (.aload_n 0, 1) := by decide +kernel
theorem dX12_feed_1 : decode cX12_feed 1 = .ok (.getfield 86, 3) := by decide +kernel
theorem dX12_feed_4 : decode cX12_feed 4 = .ok (.bipush 20, 2) := by decide +kernel
theorem dX12_feed_6 : decode cX12_feed 6 = .ok (.iadd, 1) := by decide +kernel
theorem dX12_feed_7 : decode cX12_feed 7 = .ok (.sipush 1000, 3) := by decide +kernel
theorem dX12_feed_10 : decode cX12_feed 10 = .ok (.if_icmp .le 5, 3) := by decide +kernel
theorem dX12_feed_15 : decode cX12_feed 15 = .ok (.aload_n 0, 1) := by decide +kernel
theorem dX12_feed_16 : decode cX12_feed 16 = .ok (.getfield 24, 3) := by decide +kernel
theorem dX12_feed_19 : decode cX12_feed 19 = .ok (.iconst 0, 1) := by decide +kernel
theorem dX12_feed_20 : decode cX12_feed 20 = .ok (.iload_n 1, 1) := by decide +kernel
theorem dX12_feed_21 : decode cX12_feed 21 = .ok (.iastore, 1) := by decide +kernel
theorem dX12_feed_22 : decode cX12_feed 22 = .ok (.aload_n 0, 1) := by decide +kernel
theorem dX12_feed_23 : decode cX12_feed 23 = .ok (.getfield 24, 3) := by decide +kernel
theorem dX12_feed_26 : decode cX12_feed 26 = .ok (.iconst 1, 1) := by decide +kernel
theorem dX12_feed_27 : decode cX12_feed 27 = .ok (.iload_n 2, 1) := by decide +kernel
theorem dX12_feed_28 : decode cX12_feed 28 = .ok (.iastore, 1) := by decide +kernel
theorem dX12_feed_29 : decode cX12_feed 29 = .ok (.aload_n 0, 1) := by decide +kernel
theorem dX12_feed_30 : decode cX12_feed 30 = .ok (.getfield 24, 3) := by decide +kernel
theorem dX12_feed_33 : decode cX12_feed 33 = .ok (.iconst 2, 1) := by decide +kernel
theorem dX12_feed_34 : decode cX12_feed 34 = .ok (.iload_n 3, 1) := by decide +kernel
theorem dX12_feed_35 : decode cX12_feed 35 = .ok (.iastore, 1) := by decide +kernel
theorem dX12_feed_36 : decode cX12_feed 36 = .ok (.aload_n 0, 1) := by decide +kernel
theorem dX12_feed_37 : decode cX12_feed 37 = .ok (.getfield 24, 3) := by decide +kernel
theorem dX12_feed_40 : decode cX12_feed 40 = .ok (.iconst 3, 1) := by decide +kernel
theorem dX12_feed_41 : decode cX12_feed 41 = .ok (.iload 4, 2) := by decide +kernel
theorem dX12_feed_43 : decode cX12_feed 43 = .ok (.iastore, 1) := by decide +kernel
theorem dX12_feed_44 : decode cX12_feed 44 = .ok (.aload_n 0, 1) := by decide +kernel
theorem dX12_feed_45 : decode cX12_feed 45 = .ok (.getfield 24, 3) := by decide +kernel
theorem dX12_feed_48 : decode cX12_feed 48 = .ok (.iconst 4, 1) := by decide +kernel
theorem dX12_feed_49 : decode cX12_feed 49 = .ok (.iload 5, 2) := by decide +kernel
theorem dX12_feed_51 : decode cX12_feed 51 = .ok (.iastore, 1) := by decide +kernel
theorem dX12_feed_52 : decode cX12_feed 52 = .ok (.iconst 0, 1) := by decide +kernel
theorem dX12_feed_53 : decode cX12_feed 53 = .ok (.istore 6, 2) := by decide +kernel
theorem dX12_feed_55 : decode cX12_feed 55 = .ok (.iload 6, 2) := by decide +kernel
theorem dX12_feed_57 : decode cX12_feed 57 = .ok (.bipush 20, 2) := by decide +kernel
theorem dX12_feed_59 : decode cX12_feed 59 = .ok (.if_icmp .ge 42, 3) := by decide +kernel
theorem dX12_feed_101 : decode cX12_feed 101 = .ok (.aload_n 0, 1) := by decide +kernel
theorem dX12_feed_102 : decode cX12_feed 102 = .ok (.dup, 1) := by decide +kernel
theorem dX12_feed_103 : decode cX12_feed 103 = .ok (.getfield 86, 3) := by decide +kernel
theorem dX12_feed_106 : decode cX12_feed 106 = .ok (.bipush 20, 2) := by decide +kernel
theorem dX12_feed_108 : decode cX12_feed 108 = .ok (.iadd, 1) := by decide +kernel
theorem dX12_feed_109 : decode cX12_feed 109 = .ok (.putfield 86, 3) := by decide +kernel
theorem dX12_feed_112 : decode cX12_feed 112 = .ok (.aload_n 0, 1) := by decide +kernel
theorem dX12_feed_113 : decode cX12_feed 113 = .ok (.getfield 86, 3) := by decide +kernel
theorem dX12_feed_116 : decode cX12_feed 116 = .ok (.ireturn, 1) := by decide +kernel
theorem dX12_feed_62 : decode cX12_feed 62 = .ok (.aload_n 0, 1) := by decide +kernel
theorem dX12_feed_63 : decode cX12_feed 63 = .ok (.getfield 20, 3) := by decide +kernel
theorem dX12_feed_66 : decode cX12_feed 66 = .ok (.aload_n 0, 1) := by decide +kernel
theorem dX12_feed_67 : decode cX12_feed 67 = .ok (.getfield 86, 3) := by decide +kernel
theorem dX12_feed_70 : decode cX12_feed 70 = .ok (.iload 6, 2) := by decide +kernel
theorem dX12_feed_72 : decode cX12_feed 72 = .ok (.iadd, 1) := by decide +kernel
theorem dX12_feed_73 : decode cX12_feed 73 = .ok (.aload_n 0, 1) := by decide +kernel
theorem dX12_feed_74 : decode cX12_feed 74 = .ok (.getfield 24, 3) := by decide +kernel
theorem dX12_feed_77 : decode cX12_feed 77 = .ok (.iload 6, 2) := by decide +kernel
theorem dX12_feed_79 : decode cX12_feed 79 = .ok (.iconst 4, 1) := by decide +kernel
theorem dX12_feed_80 : decode cX12_feed 80 = .ok (.idiv, 1) := by decide +kernel
theorem dX12_feed_81 : decode cX12_feed 81 = .ok (.iaload, 1) := by decide +kernel
theorem dX12_feed_82 : decode cX12_feed 82 = .ok (.bipush 24, 2) := by decide +kernel
theorem dX12_feed_84 : decode cX12_feed 84 = .ok (.bipush 8, 2) := by decide +kernel
theorem dX12_feed_86 : decode cX12_feed 86 = .ok (.iload 6, 2) := by decide +kernel
theorem dX12_feed_88 : decode cX12_feed 88 = .ok (.iconst 4, 1) := by decide +kernel
theorem dX12_feed_89 : decode cX12_feed 89 = .ok (.irem, 1) := by decide +kernel
theorem dX12_feed_90 : decode cX12_feed 90 = .ok (.imul, 1) := by decide +kernel
theorem dX12_feed_91 : decode cX12_feed 91 = .ok (.isub, 1) := by decide +kernel
theorem dX12_feed_92 : decode cX12_feed 92 = .ok (.ishr, 1) := by decide +kernel
theorem dX12_feed_93 : decode cX12_feed 93 = .ok (.i2b, 1) := by decide +kernel
theorem dX12_feed_94 : decode cX12_feed 94 = .ok (.bastore, 1) := by decide +kernel
theorem dX12_feed_95 : decode cX12_feed 95 = .ok (.iinc 6 1, 3) := by decide +kernel
theorem dX12_feed_98 : decode cX12_feed 98 = .ok (.goto (-43), 3) := by decide +kernel
def vX12_feed : List Cond := .code yX12_feed cX12_feed 7 (some .int) :: ([.fieldLink RX12 86 "IcicleClockModel" "taped" "I", .fieldLink RX12 24 "IcicleClockModel" "five" "[I", .fieldLink RX12 20 "IcicleClockModel" "tape" "[B"] ++ wsX120)
theorem iX12_feed_12 : ∀ w ∈ wsX120, w ∈ vX12_feed := fun _ h => List.mem_cons_of_mem _ (List.mem_append_right _ h)
set_option maxHeartbeats 4000000 in
set_option maxRecDepth 100000 in
theorem m_feed (l : Launch) (D : va_G) (cs : Nat → ClassId) (ad : Nat → Nat) (hj : wJ ad nW) (g : Nat → va_E) (va : Int32) (vb : Int32) (vc : Int32) (vd : Int32) (vf : Int32) (h197 : g 197 = .inr (12, [.int 0, .ref (ad 198), .ref (ad 199), .ref (ad 200), .ref (ad 201), .int 0, .ref (ad 202), .int 0, .int 0, .int 0, .int 0, .int 0, .int 0, .int (-1), .ref (ad 203), .ref (ad 204), .ref (ad 205), .int 0, .int 0, .ref (ad 206), .ref (ad 207), .ref (ad 208), .int 0, .int 0, .int 0, .int 0, .int 0, .ref (ad 209), .ref (ad 210), .ref (ad 211), .long 0, .long 0, .ref (ad 212), .ref (ad 213), .int 0, .int 0, .ref (ad 214), .ref (ad 215), .ref (ad 216), .ref (ad 217)])) (h201 : g 201 = .inl (cs 0, 1000, .inl (fun _ => 0))) (h202 : g 202 = .inl (cs 1, 5, .inl (fun _ => 0))) : cI l yX12_feed vX12_feed { frames := 0, cells := 0, slots := 0, locals := 0 } D cs ad nW [.ref (ad 197), .int va, .int vb, .int vc, .int vd, .int vf] g (fun r g2 => r = 20) := by
  refine Met.start (cc := cX12_feed) (maxL := 7) (ret := (some .int)) RX12 rfl (by decide) rfl (Nat.le_of_ble_eq_true rfl) ?_
  intro p e s m below meth c ls X hP hl
  have hx := X.1
  have hb := X.2.1
  have hS : va_S (wA ad nW) s.heap s.heap [] := va_S.rf
  have hA : ∀ i, i < nW → wA ad nW (ad i) := fun i h => ⟨i, h, rfl⟩
  have hl : lv_has ls 7 [(0, .ref (ad 197)), (1, .int va), (2, .int vb), (3, .int vc), (4, .int vd), (5, .int vf)] := hl
  refine lv_aload_n hx hb dX12_feed_0 rfl (lv_at hl 0 rfl) ?_
  refine q_get X iX12_feed_12 hP (by decide) h197 rfl 5 (by decide) (List.mem_of_getElem? (i := 1) rfl) (v := .int 0) rfl dX12_feed_1 ?_
  refine lv_bipush (v := 20) hx hb dX12_feed_4 (by decide) ?_
  refine lv_iadd hx hb dX12_feed_6 ?_
  refine lv_topi (fun z_1 ez_1 => ?_)
  obtain rfl : z_1 = 20 := ez_1.trans (by decide)
  refine lv_sipush (v := 1000) hx hb dX12_feed_7 (by decide) ?_
  refine lv_icmp_le (tgt := 15) hx hb dX12_feed_10 (by decide) (fun _ => ?_) (fun h => absurd h (by decide))
  refine lv_aload_n hx hb dX12_feed_15 rfl (lv_at hl 0 rfl) ?_
  refine q_get X iX12_feed_12 hP (by decide) h197 rfl 6 (by decide) (List.mem_of_getElem? (i := 2) rfl) (v := .ref (ad 202)) rfl dX12_feed_16 ?_
  refine lv_iconst (v := 0) hx hb dX12_feed_19 (by decide) ?_
  refine lv_iload_n hx hb dX12_feed_20 rfl (lv_at hl 1 rfl) ?_
  refine q_iast X hP hj hA hS (by decide) h202 (by unfold vp_in; decide) dX12_feed_21 (fun H locs hP hS => ?_)
  generalize eg_2 : va_up g 202 _ = g_2 at hP
  have h_4 : g_2 197 = .inr (12, [.int 0, .ref (ad 198), .ref (ad 199), .ref (ad 200), .ref (ad 201), .int 0, .ref (ad 202), .int 0, .int 0, .int 0, .int 0, .int 0, .int 0, .int (-1), .ref (ad 203), .ref (ad 204), .ref (ad 205), .int 0, .int 0, .ref (ad 206), .ref (ad 207), .ref (ad 208), .int 0, .int 0, .int 0, .int 0, .int 0, .ref (ad 209), .ref (ad 210), .ref (ad 211), .long 0, .long 0, .ref (ad 212), .ref (ad 213), .int 0, .int 0, .ref (ad 214), .ref (ad 215), .ref (ad 216), .ref (ad 217)]) := by rw [← eg_2, va_up_ne _ _ (by decide)]; exact h197
  have h_5 : g_2 201 = .inl (cs 0, 1000, .inl (fun _ => 0)) := by rw [← eg_2, va_up_ne _ _ (by decide)]; exact h201
  obtain ⟨f_3, h_6⟩ : ∃ f, g_2 202 = .inl (cs 1, 5, .inl f) := ⟨_, by rw [← eg_2]; exact va_up_self _ _ _⟩
  refine lv_aload_n hx hb dX12_feed_22 rfl (lv_at hl 0 rfl) ?_
  refine q_get X iX12_feed_12 hP (by decide) h_4 rfl 6 (by decide) (List.mem_of_getElem? (i := 2) rfl) (v := .ref (ad 202)) rfl dX12_feed_23 ?_
  refine lv_iconst (v := 1) hx hb dX12_feed_26 (by decide) ?_
  refine lv_iload_n hx hb dX12_feed_27 rfl (lv_at hl 2 rfl) ?_
  refine q_iast X hP hj hA hS (by decide) h_6 (by unfold vp_in; decide) dX12_feed_28 (fun H locs hP hS => ?_)
  generalize eg_7 : va_up g_2 202 _ = g_7 at hP
  have h_9 : g_7 197 = .inr (12, [.int 0, .ref (ad 198), .ref (ad 199), .ref (ad 200), .ref (ad 201), .int 0, .ref (ad 202), .int 0, .int 0, .int 0, .int 0, .int 0, .int 0, .int (-1), .ref (ad 203), .ref (ad 204), .ref (ad 205), .int 0, .int 0, .ref (ad 206), .ref (ad 207), .ref (ad 208), .int 0, .int 0, .int 0, .int 0, .int 0, .ref (ad 209), .ref (ad 210), .ref (ad 211), .long 0, .long 0, .ref (ad 212), .ref (ad 213), .int 0, .int 0, .ref (ad 214), .ref (ad 215), .ref (ad 216), .ref (ad 217)]) := by rw [← eg_7, va_up_ne _ _ (by decide)]; exact h_4
  have h_10 : g_7 201 = .inl (cs 0, 1000, .inl (fun _ => 0)) := by rw [← eg_7, va_up_ne _ _ (by decide)]; exact h_5
  obtain ⟨f_8, h_11⟩ : ∃ f, g_7 202 = .inl (cs 1, 5, .inl f) := ⟨_, by rw [← eg_7]; exact va_up_self _ _ _⟩
  refine lv_aload_n hx hb dX12_feed_29 rfl (lv_at hl 0 rfl) ?_
  refine q_get X iX12_feed_12 hP (by decide) h_9 rfl 6 (by decide) (List.mem_of_getElem? (i := 2) rfl) (v := .ref (ad 202)) rfl dX12_feed_30 ?_
  refine lv_iconst (v := 2) hx hb dX12_feed_33 (by decide) ?_
  refine lv_iload_n hx hb dX12_feed_34 rfl (lv_at hl 3 rfl) ?_
  refine q_iast X hP hj hA hS (by decide) h_11 (by unfold vp_in; decide) dX12_feed_35 (fun H locs hP hS => ?_)
  generalize eg_12 : va_up g_7 202 _ = g_12 at hP
  have h_14 : g_12 197 = .inr (12, [.int 0, .ref (ad 198), .ref (ad 199), .ref (ad 200), .ref (ad 201), .int 0, .ref (ad 202), .int 0, .int 0, .int 0, .int 0, .int 0, .int 0, .int (-1), .ref (ad 203), .ref (ad 204), .ref (ad 205), .int 0, .int 0, .ref (ad 206), .ref (ad 207), .ref (ad 208), .int 0, .int 0, .int 0, .int 0, .int 0, .ref (ad 209), .ref (ad 210), .ref (ad 211), .long 0, .long 0, .ref (ad 212), .ref (ad 213), .int 0, .int 0, .ref (ad 214), .ref (ad 215), .ref (ad 216), .ref (ad 217)]) := by rw [← eg_12, va_up_ne _ _ (by decide)]; exact h_9
  have h_15 : g_12 201 = .inl (cs 0, 1000, .inl (fun _ => 0)) := by rw [← eg_12, va_up_ne _ _ (by decide)]; exact h_10
  obtain ⟨f_13, h_16⟩ : ∃ f, g_12 202 = .inl (cs 1, 5, .inl f) := ⟨_, by rw [← eg_12]; exact va_up_self _ _ _⟩
  refine lv_aload_n hx hb dX12_feed_36 rfl (lv_at hl 0 rfl) ?_
  refine q_get X iX12_feed_12 hP (by decide) h_14 rfl 6 (by decide) (List.mem_of_getElem? (i := 2) rfl) (v := .ref (ad 202)) rfl dX12_feed_37 ?_
  refine lv_iconst (v := 3) hx hb dX12_feed_40 (by decide) ?_
  refine lv_iload hx hb dX12_feed_41 (lv_at hl 4 rfl) ?_
  refine q_iast X hP hj hA hS (by decide) h_16 (by unfold vp_in; decide) dX12_feed_43 (fun H locs hP hS => ?_)
  generalize eg_17 : va_up g_12 202 _ = g_17 at hP
  have h_19 : g_17 197 = .inr (12, [.int 0, .ref (ad 198), .ref (ad 199), .ref (ad 200), .ref (ad 201), .int 0, .ref (ad 202), .int 0, .int 0, .int 0, .int 0, .int 0, .int 0, .int (-1), .ref (ad 203), .ref (ad 204), .ref (ad 205), .int 0, .int 0, .ref (ad 206), .ref (ad 207), .ref (ad 208), .int 0, .int 0, .int 0, .int 0, .int 0, .ref (ad 209), .ref (ad 210), .ref (ad 211), .long 0, .long 0, .ref (ad 212), .ref (ad 213), .int 0, .int 0, .ref (ad 214), .ref (ad 215), .ref (ad 216), .ref (ad 217)]) := by rw [← eg_17, va_up_ne _ _ (by decide)]; exact h_14
  have h_20 : g_17 201 = .inl (cs 0, 1000, .inl (fun _ => 0)) := by rw [← eg_17, va_up_ne _ _ (by decide)]; exact h_15
  obtain ⟨f_18, h_21⟩ : ∃ f, g_17 202 = .inl (cs 1, 5, .inl f) := ⟨_, by rw [← eg_17]; exact va_up_self _ _ _⟩
  refine lv_aload_n hx hb dX12_feed_44 rfl (lv_at hl 0 rfl) ?_
  refine q_get X iX12_feed_12 hP (by decide) h_19 rfl 6 (by decide) (List.mem_of_getElem? (i := 2) rfl) (v := .ref (ad 202)) rfl dX12_feed_45 ?_
  refine lv_iconst (v := 4) hx hb dX12_feed_48 (by decide) ?_
  refine lv_iload hx hb dX12_feed_49 (lv_at hl 5 rfl) ?_
  refine q_iast X hP hj hA hS (by decide) h_21 (by unfold vp_in; decide) dX12_feed_51 (fun H locs hP hS => ?_)
  generalize eg_22 : va_up g_17 202 _ = g_22 at hP
  have h_24 : g_22 197 = .inr (12, [.int 0, .ref (ad 198), .ref (ad 199), .ref (ad 200), .ref (ad 201), .int 0, .ref (ad 202), .int 0, .int 0, .int 0, .int 0, .int 0, .int 0, .int (-1), .ref (ad 203), .ref (ad 204), .ref (ad 205), .int 0, .int 0, .ref (ad 206), .ref (ad 207), .ref (ad 208), .int 0, .int 0, .int 0, .int 0, .int 0, .ref (ad 209), .ref (ad 210), .ref (ad 211), .long 0, .long 0, .ref (ad 212), .ref (ad 213), .int 0, .int 0, .ref (ad 214), .ref (ad 215), .ref (ad 216), .ref (ad 217)]) := by rw [← eg_22, va_up_ne _ _ (by decide)]; exact h_19
  have h_25 : g_22 201 = .inl (cs 0, 1000, .inl (fun _ => 0)) := by rw [← eg_22, va_up_ne _ _ (by decide)]; exact h_20
  obtain ⟨f_23, h_26⟩ : ∃ f, g_22 202 = .inl (cs 1, 5, .inl f) := ⟨_, by rw [← eg_22]; exact va_up_self _ _ _⟩
  refine lv_iconst (v := 0) hx hb dX12_feed_52 (by decide) ?_
  refine lv_istore (lv' := [(6, .int 0), (0, .ref (ad 197)), (1, .int va), (2, .int vb), (3, .int vc), (4, .int vd), (5, .int vf)]) hx hb dX12_feed_53 hl (by decide) rfl (fun ls hl => ?_)
  have HL55 : ∀ (d55 k55 : Nat) (f55_201 : Nat → Int32) (G55 : Nat → va_E) (H : Heap) (locs : List Loc) (ls : Array Slot), k55 + d55 = 20 → G55 197 = .inr (12, [.int 0, .ref (ad 198), .ref (ad 199), .ref (ad 200), .ref (ad 201), .int 0, .ref (ad 202), .int 0, .int 0, .int 0, .int 0, .int 0, .int 0, .int (-1), .ref (ad 203), .ref (ad 204), .ref (ad 205), .int 0, .int 0, .ref (ad 206), .ref (ad 207), .ref (ad 208), .int 0, .int 0, .int 0, .int 0, .int 0, .ref (ad 209), .ref (ad 210), .ref (ad 211), .long 0, .long 0, .ref (ad 212), .ref (ad 213), .int 0, .int 0, .ref (ad 214), .ref (ad 215), .ref (ad 216), .ref (ad 217)]) → G55 201 = .inl (cs 0, 1000, .inl f55_201) → G55 202 = .inl (cs 1, 5, .inl f_23) → va_P D vwCl (wL ad G55 nW) H → va_S (wA ad nW) s.heap H locs → lv_has ls 7 [(6, .int (nI k55)), (0, .ref (ad 197)), (1, .int va), (2, .int vb), (3, .int vc), (4, .int vd), (5, .int vf)] → W p l e ({ frames := 0, cells := 0, slots := 0, locals := 0 } : Room) s m ([.ref (ad 197), .int va, .int vb, .int vc, .int vd, .int vf] : List Value).toArray below meth c H locs 0 0 (MQ below (qI D ad nW (fun r g2 => r = 20)) ([.ref (ad 197), .int va, .int vb, .int vc, .int vd, .int vf] : List Value).toArray s 0 0 (wA ad nW)) (F0 m 55 ls []) := by
    intro d55
    induction d55 with
    | zero =>
      intro k55 f55_201 G55 H locs ls hk55 h55_197 h55_201 h55_202 hP hS hl
      obtain rfl : k55 = 20 := by omega
      refine lv_iload hx hb dX12_feed_55 (lv_at hl 0 rfl) ?_
      refine lv_bipush (v := 20) hx hb dX12_feed_57 (by decide) ?_
      refine lv_icmp_ge (tgt := 101) hx hb dX12_feed_59 (by decide) (fun _ => ?_) (fun h => absurd h (by decide))
      refine lv_aload_n hx hb dX12_feed_101 rfl (lv_at hl 1 rfl) ?_
      refine lv_dup hx hb dX12_feed_102 rfl ?_
      refine q_get X iX12_feed_12 hP (by decide) h55_197 rfl 5 (by decide) (List.mem_of_getElem? (i := 1) rfl) (v := .int 0) rfl dX12_feed_103 ?_
      refine lv_bipush (v := 20) hx hb dX12_feed_106 (by decide) ?_
      refine lv_iadd hx hb dX12_feed_108 ?_
      refine lv_topi (fun z_27 ez_27 => ?_)
      obtain rfl : z_27 = 20 := ez_27.trans (by decide)
      refine q_put X iX12_feed_12 tyX12 tyX12_ok nmX12 hP hj hA hS (by decide) h55_197 rfl 5 (by decide) (List.mem_of_getElem? (i := 1) rfl) rfl (ty := .int) (v := .int 20) (by decide +kernel) rfl rfl (Nat.le_of_ble_eq_true rfl) dX12_feed_109 (fun H locs hP hS => ?_)
      generalize eg_28 : va_up G55 197 _ = g_28 at hP
      have h_29 : g_28 197 = .inr (12, [.int 0, .ref (ad 198), .ref (ad 199), .ref (ad 200), .ref (ad 201), .int 20, .ref (ad 202), .int 0, .int 0, .int 0, .int 0, .int 0, .int 0, .int (-1), .ref (ad 203), .ref (ad 204), .ref (ad 205), .int 0, .int 0, .ref (ad 206), .ref (ad 207), .ref (ad 208), .int 0, .int 0, .int 0, .int 0, .int 0, .ref (ad 209), .ref (ad 210), .ref (ad 211), .long 0, .long 0, .ref (ad 212), .ref (ad 213), .int 0, .int 0, .ref (ad 214), .ref (ad 215), .ref (ad 216), .ref (ad 217)]) := by rw [← eg_28]; exact va_up_self _ _ _
      have h_30 : g_28 201 = .inl (cs 0, 1000, .inl f55_201) := by rw [← eg_28, va_up_ne _ _ (by decide)]; exact h55_201
      have h_31 : g_28 202 = .inl (cs 1, 5, .inl f_23) := by rw [← eg_28, va_up_ne _ _ (by decide)]; exact h55_202
      refine lv_aload_n hx hb dX12_feed_112 rfl (lv_at hl 1 rfl) ?_
      refine q_get X iX12_feed_12 hP (by decide) h_29 rfl 5 (by decide) (List.mem_of_getElem? (i := 1) rfl) (v := .int 20) rfl dX12_feed_113 ?_
      exact q_iret X hP hS rfl dX12_feed_116
    | succ d55 ih55 =>
      intro k55 f55_201 G55 H locs ls hk55 h55_197 h55_201 h55_202 hP hS hl
      refine lv_iload hx hb dX12_feed_55 (lv_at hl 0 rfl) ?_
      refine lv_bipush (v := 20) hx hb dX12_feed_57 (by decide) ?_
      refine lv_icmp_ge (tgt := 101) hx hb dX12_feed_59 (by decide) (fun hc_59 => absurd hc_59 (nI_ge (a := k55) (b := 20) (by omega) (by decide))) (fun hc_59 => ?_)
      refine lv_aload_n hx hb dX12_feed_62 rfl (lv_at hl 1 rfl) ?_
      refine q_get X iX12_feed_12 hP (by decide) h55_197 rfl 4 (by decide) (List.mem_of_getElem? (i := 3) rfl) (v := .ref (ad 201)) rfl dX12_feed_63 ?_
      refine lv_aload_n hx hb dX12_feed_66 rfl (lv_at hl 1 rfl) ?_
      refine q_get X iX12_feed_12 hP (by decide) h55_197 rfl 5 (by decide) (List.mem_of_getElem? (i := 1) rfl) (v := .int 0) rfl dX12_feed_67 ?_
      refine lv_iload hx hb dX12_feed_70 (lv_at hl 0 rfl) ?_
      refine lv_iadd hx hb dX12_feed_72 ?_
      refine lv_topi (fun z_32 ez_32 => ?_)
      obtain rfl : z_32 = nI (0 + k55) := ez_32.trans (nI_add 0 k55)
      refine lv_aload_n hx hb dX12_feed_73 rfl (lv_at hl 1 rfl) ?_
      refine q_get X iX12_feed_12 hP (by decide) h55_197 rfl 6 (by decide) (List.mem_of_getElem? (i := 2) rfl) (v := .ref (ad 202)) rfl dX12_feed_74 ?_
      refine lv_iload hx hb dX12_feed_77 (lv_at hl 0 rfl) ?_
      refine lv_iconst (v := 4) hx hb dX12_feed_79 (by decide) ?_
      refine lv_idiv hx hb dX12_feed_80 (by decide) ?_
      refine lv_topi (fun z_33 ez_33 => ?_)
      obtain rfl : z_33 = nI (k55 / 4) := ez_33.trans (pk_div (by omega) (by decide) (by decide))
      refine q_iald X hP (by decide) h55_202 (vp_in_nI (by omega) (by decide)) dX12_feed_81 ?_
      refine lv_bipush (v := 24) hx hb dX12_feed_82 (by decide) ?_
      refine lv_bipush (v := 8) hx hb dX12_feed_84 (by decide) ?_
      refine lv_iload hx hb dX12_feed_86 (lv_at hl 0 rfl) ?_
      refine lv_iconst (v := 4) hx hb dX12_feed_88 (by decide) ?_
      refine lv_irem hx hb dX12_feed_89 (by decide) ?_
      refine lv_topi (fun z_34 ez_34 => ?_)
      obtain rfl : z_34 = nI (k55 % 4) := ez_34.trans (pk_rem (by omega) (by decide) (by decide))
      refine lv_imul hx hb dX12_feed_90 ?_
      refine lv_topi (fun z_35 ez_35 => ?_)
      obtain rfl : z_35 = nI (8 * (k55 % 4)) := ez_35.trans (pk_mul 8 (k55 % 4))
      refine lv_isub hx hb dX12_feed_91 ?_
      refine lv_topi (fun z_36 ez_36 => ?_)
      refine lv_ishr hx hb dX12_feed_92 ?_
      refine lv_topi (fun z_37 ez_37 => ?_)
      refine lv_i2b hx hb dX12_feed_93 rfl ?_
      refine lv_topi (fun z_38 ez_38 => ?_)
      refine q_bast X hP hj hA hS (by decide) h55_201 (vp_in_nI (by omega) (by decide)) dX12_feed_94 (fun H locs hP hS => ?_)
      generalize eg_39 : va_up G55 201 _ = g_39 at hP
      have h_41 : g_39 197 = .inr (12, [.int 0, .ref (ad 198), .ref (ad 199), .ref (ad 200), .ref (ad 201), .int 0, .ref (ad 202), .int 0, .int 0, .int 0, .int 0, .int 0, .int 0, .int (-1), .ref (ad 203), .ref (ad 204), .ref (ad 205), .int 0, .int 0, .ref (ad 206), .ref (ad 207), .ref (ad 208), .int 0, .int 0, .int 0, .int 0, .int 0, .ref (ad 209), .ref (ad 210), .ref (ad 211), .long 0, .long 0, .ref (ad 212), .ref (ad 213), .int 0, .int 0, .ref (ad 214), .ref (ad 215), .ref (ad 216), .ref (ad 217)]) := by rw [← eg_39, va_up_ne _ _ (by decide)]; exact h55_197
      obtain ⟨f_40, h_42⟩ : ∃ f, g_39 201 = .inl (cs 0, 1000, .inl f) := ⟨_, by rw [← eg_39]; exact va_up_self _ _ _⟩
      have h_43 : g_39 202 = .inl (cs 1, 5, .inl f_23) := by rw [← eg_39, va_up_ne _ _ (by decide)]; exact h55_202
      refine lv_iinc (v := (nI (k55 + 1))) (lv' := [(6, .int (nI (k55 + 1))), (0, .ref (ad 197)), (1, .int va), (2, .int vb), (3, .int vc), (4, .int vd), (5, .int vf)]) hx hb dX12_feed_95 hl (k := 0) rfl (nI_add k55 1) (by decide) rfl (fun ls hl => ?_)
      refine lv_goto (tgt := 55) hx hb dX12_feed_98 (by decide) ?_
      exact ih55 (k55 + 1) _ g_39 _ _ ls (by omega) h_41 h_42 h_43 hP hS (lv_sub hl [0, 1, 2, 3, 4, 5, 6] rfl)
  exact HL55 20 0 _ g_22 _ _ ls (by omega) h_24 h_25 h_26 hP hS (lv_sub hl [0, 1, 2, 3, 4, 5, 6] rfl)
