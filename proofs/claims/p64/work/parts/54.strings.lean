theorem lenS_le : ∀ i, lenS.getD i 0 ≤ 6 := by
  intro i
  by_cases h : i < 15
  · rcases (by omega : i = 0 ∨ i = 1 ∨ i = 2 ∨ i = 3 ∨ i = 4 ∨ i = 5 ∨ i = 6 ∨ i = 7 ∨ i = 8 ∨ i = 9 ∨ i = 10 ∨ i = 11 ∨ i = 12 ∨ i = 13 ∨ i = 14) with rfl | rfl | rfl | rfl | rfl | rfl | rfl | rfl | rfl | rfl | rfl | rfl | rfl | rfl | rfl <;> decide
  · have h2 : lenS[i]? = none := List.getElem?_eq_none (show lenS.length ≤ i from Nat.not_lt.mp h)
    simp [List.getD, h2]
section STRROW
variable {p : Program} {l : Launch} {e : Env} {R : Room} {s : State} {m : MethodId} {args : Array Value} {below : List Frame} {meth : Method} {c : Code} {H H0 : Heap} {locs : List Loc} {cells slots : Nat} {Q : State → Prop}
variable {cc : ByteArray} {pc nL n : Nat} {ls : Array Slot} {rest : List Value} {D : va_G} {cs : Nat → ClassId} {A : Nat → Prop} {ad : Nat → Nat} {kS : kSt} {g : Nat → va_E} {rt : Option FieldType} {Ts : List Cond} {own : String}
variable {y : MethodName} {ws ws' : List Cond} {rm : Room} {bytes : ByteArray} {maxL index k : Nat} {ret : Option FieldType} {C : String} {As : List Value} {st : List Value}
theorem s_callt (X : Cx p s m args meth c cc nL rt Ts own D cs) (Z : SX ad kS s s.heap) {i : Nat} (hi : i < 15) {post : Int32 → (Nat → va_E) → Prop} (hM : sI l y ws rm D cs ad kS (.ref (kS.1 i) :: As) g post) (cw : CallW R s args own RJ0 index y bytes maxL ret ws rm 0 0 k) (hP : va_P D vwCl (wL ad g 218) H) (hA : ∀ i, i < 218 → A (ad i)) (hk : ∀ a : Nat, a < s.heap.size → ¬ wA ad 218 a → H[a]? = s.heap[a]?) (hS : va_S A H0 H locs) (hn : As.length = k) (hsz : ls.size = nL) (hst : st = As.reverse ++ .ref (kS.1 i) :: rest) (hcat : (rest.map fun v => v.category).sum ≤ 8) (hdg : decode cc pc = .ok (.invokevirtual index, 3)) (hf : cells + 0 ≤ R.cells ∧ slots + 0 ≤ R.slots)
    (kk : ∀ (r : Int32) (g' : Nat → va_E) (H1 : Heap) (locs1 : List Loc), post r g' → va_P D vwCl (wL ad g' 218) H1 → va_S A H0 H1 locs1 → W p l e R s m args below meth c H1 locs1 cells slots Q (F0 m (pc + 3) ls (.int r :: rest))) : W p l e R s m args below meth c H locs cells slots Q (F0 m pc ls st) := by
  have hV : PreV s H RJ0 (kS.1 i) (pS D cs ad kS (.ref (kS.1 i) :: As) g) As := by
    refine ⟨pS_blind, ?_, fun U hU hW => ⟨rfl, by rw [hU]; exact hP, va_K.moved hW.alike X.2.2.2.2.2.2.1, Z.go hk hU hW⟩⟩
    obtain ⟨cell, h1, h2, h3, -⟩ := (Z.1 i hi).1.kept hk
    exact ⟨cell, h1, h2, h3⟩
  exact va_calli (va_runV (nL := nL) (b := kS.1 i) (As := As) (rest := rest) ⟨X.1, X.2.1, X.2.2.2.1, X.2.2.2.2.2.1, X.2.2.2.2.1⟩ hM cw hV rfl hn hsz hst (lv_room hcat) hdg hf) hS (fun q _ h => wA_in hA q h) (wA_in hA) (fun r u t H1 locs1 ht _ hw hB _ _ hS1 => kk r u H1 locs1 hw (by rw [← ht]; exact hB) hS1)
end STRROW
theorem dJ0_coder_7d493_0 : decode cJ0_coder_7d493 0 = .ok (.getstatic 38, 3) := by decide +kernel
theorem dJ0_coder_7d493_3 : decode cJ0_coder_7d493 3 = .ok (.ifCond .eq 10, 3) := by decide +kernel
theorem dJ0_coder_7d493_6 : decode cJ0_coder_7d493 6 = .ok (.aload_n 0, 1) := by decide +kernel
theorem dJ0_coder_7d493_7 : decode cJ0_coder_7d493 7 = .ok (.getfield 15, 3) := by decide +kernel
theorem dJ0_coder_7d493_10 : decode cJ0_coder_7d493 10 = .ok (.goto 4, 3) := by decide +kernel
theorem dJ0_coder_7d493_13 : decode cJ0_coder_7d493 13 = .ok (.iconst 1, 1) := by decide +kernel
theorem dJ0_coder_7d493_14 : decode cJ0_coder_7d493 14 = .ok (.ireturn, 1) := by decide +kernel
def vJ0_coder_7d493 : List Cond := .code yJ0_coder_7d493 cJ0_coder_7d493 1 (some .byte) :: [.fieldLink RJ0 38 "java/lang/String" "COMPACT_STRINGS" "Z", .fieldLink RJ0 15 "java/lang/String" "coder" "B"]
set_option maxHeartbeats 4000000 in
set_option maxRecDepth 100000 in
theorem s_coder (l : Launch) (D : va_G) (cs : Nat → ClassId) (ad : Nat → Nat) (kS : kSt) (K : sK) (hKO : KO K) (hj : wJ ad 218) (g : Nat → va_E) (hW : WF (shp ad K) ad cs g) (i : Nat) (hi : i < 15) : sI l yJ0_coder_7d493 vJ0_coder_7d493 { frames := 0, cells := 0, slots := 0, locals := 0 } D cs ad kS [.ref (kS.1 i)] g (fun r g2 => g2 = g ∧ r = 0) := by
  refine Met.startS (cc := cJ0_coder_7d493) (maxL := 1) (ret := (some .byte)) RJ0 rfl (by decide) rfl (Nat.le_of_ble_eq_true rfl) ?_
  intro p e s m below meth c ls X Z hP hl
  have hx := X.1
  have hb := X.2.1
  have hS : va_S (wA ad 218) s.heap s.heap [] := va_S.rf
  have hA : ∀ i, i < 218 → wA ad 218 (ad i) := fun i h => ⟨i, h, rfl⟩
  have hl : lv_has ls 1 [(0, .ref (kS.1 i))] := hl
  refine va_gets hx hb Z.2.2.1 hS X.2.2.2.2.2.1 (X.2.2.2.2.1 _ (List.mem_of_getElem? (i := 1) rfl)) (fun _ h => h) dJ0_coder_7d493_0 ?_
  refine lv_if_eq (tgt := 13) hx hb dJ0_coder_7d493_3 (by decide) (fun h => absurd h (by decide)) (fun _ => ?_)
  refine lv_aload_n hx hb dJ0_coder_7d493_6 rfl (lv_at hl 0 rfl) ?_
  refine vk_getf hx hb (Z.1 i hi).2.1 hS X.2.2.2.2.2.1 (X.2.2.2.2.1 _ (List.mem_of_getElem? (i := 2) rfl)) (fun _ h => h) dJ0_coder_7d493_7 ?_
  refine lv_goto (tgt := 14) hx hb dJ0_coder_7d493_10 (by decide) ?_
  exact q_nret X hP hS rfl ⟨rfl, rfl⟩ dJ0_coder_7d493_14
theorem dJ0_isLatin1_aae02_0 : decode cJ0_isLatin1_aae02 0 = .ok (.getstatic 38, 3) := by decide +kernel
theorem dJ0_isLatin1_aae02_3 : decode cJ0_isLatin1_aae02 3 = .ok (.ifCond .eq 14, 3) := by decide +kernel
theorem dJ0_isLatin1_aae02_6 : decode cJ0_isLatin1_aae02 6 = .ok (.aload_n 0, 1) := by decide +kernel
theorem dJ0_isLatin1_aae02_7 : decode cJ0_isLatin1_aae02 7 = .ok (.getfield 15, 3) := by decide +kernel
theorem dJ0_isLatin1_aae02_10 : decode cJ0_isLatin1_aae02 10 = .ok (.ifCond .ne 7, 3) := by decide +kernel
theorem dJ0_isLatin1_aae02_13 : decode cJ0_isLatin1_aae02 13 = .ok (.iconst 1, 1) := by decide +kernel
theorem dJ0_isLatin1_aae02_14 : decode cJ0_isLatin1_aae02 14 = .ok (.goto 4, 3) := by decide +kernel
theorem dJ0_isLatin1_aae02_17 : decode cJ0_isLatin1_aae02 17 = .ok (.iconst 0, 1) := by decide +kernel
theorem dJ0_isLatin1_aae02_18 : decode cJ0_isLatin1_aae02 18 = .ok (.ireturn, 1) := by decide +kernel
def vJ0_isLatin1_aae02 : List Cond := .code yJ0_isLatin1_aae02 cJ0_isLatin1_aae02 1 (some .boolean) :: [.fieldLink RJ0 38 "java/lang/String" "COMPACT_STRINGS" "Z", .fieldLink RJ0 15 "java/lang/String" "coder" "B"]
set_option maxHeartbeats 4000000 in
set_option maxRecDepth 100000 in
theorem s_isLatin1 (l : Launch) (D : va_G) (cs : Nat → ClassId) (ad : Nat → Nat) (kS : kSt) (K : sK) (hKO : KO K) (hj : wJ ad 218) (g : Nat → va_E) (hW : WF (shp ad K) ad cs g) (i : Nat) (hi : i < 15) : sI l yJ0_isLatin1_aae02 vJ0_isLatin1_aae02 { frames := 0, cells := 0, slots := 0, locals := 0 } D cs ad kS [.ref (kS.1 i)] g (fun r g2 => g2 = g ∧ r = 1) := by
  refine Met.startS (cc := cJ0_isLatin1_aae02) (maxL := 1) (ret := (some .boolean)) RJ0 rfl (by decide) rfl (Nat.le_of_ble_eq_true rfl) ?_
  intro p e s m below meth c ls X Z hP hl
  have hx := X.1
  have hb := X.2.1
  have hS : va_S (wA ad 218) s.heap s.heap [] := va_S.rf
  have hA : ∀ i, i < 218 → wA ad 218 (ad i) := fun i h => ⟨i, h, rfl⟩
  have hl : lv_has ls 1 [(0, .ref (kS.1 i))] := hl
  refine va_gets hx hb Z.2.2.1 hS X.2.2.2.2.2.1 (X.2.2.2.2.1 _ (List.mem_of_getElem? (i := 1) rfl)) (fun _ h => h) dJ0_isLatin1_aae02_0 ?_
  refine lv_if_eq (tgt := 17) hx hb dJ0_isLatin1_aae02_3 (by decide) (fun h => absurd h (by decide)) (fun _ => ?_)
  refine lv_aload_n hx hb dJ0_isLatin1_aae02_6 rfl (lv_at hl 0 rfl) ?_
  refine vk_getf hx hb (Z.1 i hi).2.1 hS X.2.2.2.2.2.1 (X.2.2.2.2.1 _ (List.mem_of_getElem? (i := 2) rfl)) (fun _ h => h) dJ0_isLatin1_aae02_7 ?_
  refine lv_if_ne (tgt := 17) hx hb dJ0_isLatin1_aae02_10 (by decide) (fun h => absurd rfl h) (fun _ => ?_)
  refine lv_iconst (v := 1) hx hb dJ0_isLatin1_aae02_13 (by decide) ?_
  refine lv_goto (tgt := 18) hx hb dJ0_isLatin1_aae02_14 (by decide) ?_
  exact q_nret X hP hS rfl ⟨rfl, rfl⟩ dJ0_isLatin1_aae02_18
theorem dJ0_length_8abf5_0 : decode cJ0_length_8abf5 0 = .ok (.aload_n 0, 1) := by decide +kernel
theorem dJ0_length_8abf5_1 : decode cJ0_length_8abf5 1 = .ok (.getfield 9, 3) := by decide +kernel
theorem dJ0_length_8abf5_4 : decode cJ0_length_8abf5 4 = .ok (.arraylength, 1) := by decide +kernel
theorem dJ0_length_8abf5_5 : decode cJ0_length_8abf5 5 = .ok (.aload_n 0, 1) := by decide +kernel
theorem dJ0_length_8abf5_6 : decode cJ0_length_8abf5 6 = .ok (.invokevirtual 335, 3) := by decide +kernel
theorem dJ0_length_8abf5_9 : decode cJ0_length_8abf5 9 = .ok (.ishr, 1) := by decide +kernel
theorem dJ0_length_8abf5_10 : decode cJ0_length_8abf5 10 = .ok (.ireturn, 1) := by decide +kernel
def vJ0_length_8abf5 : List Cond := .code yJ0_length_8abf5 cJ0_length_8abf5 1 (some .int) :: [.fieldLink RJ0 9 "java/lang/String" "value" "[B", .methodLink RJ0 335 yJ0_coder_7d493, .instanceMethod yJ0_coder_7d493, .selects RJ0 yJ0_coder_7d493 yJ0_coder_7d493, .initialized RJ0, .code yJ0_coder_7d493 cJ0_coder_7d493 1 (some .byte), .fieldLink RJ0 38 "java/lang/String" "COMPACT_STRINGS" "Z", .fieldLink RJ0 15 "java/lang/String" "coder" "B"]
set_option maxRecDepth 20000 in
theorem gg_len_coder : GoodIn vJ0_length_8abf5 (wsV RJ0 335 RJ0 yJ0_coder_7d493 vJ0_coder_7d493) := goodIn_r _ [2, 3, 4, 5, 6, 7, 8] (by decide +kernel) (by decide +kernel)
set_option maxHeartbeats 4000000 in
set_option maxRecDepth 100000 in
theorem s_length (l : Launch) (D : va_G) (cs : Nat → ClassId) (ad : Nat → Nat) (kS : kSt) (K : sK) (hKO : KO K) (hj : wJ ad 218) (g : Nat → va_E) (hW : WF (shp ad K) ad cs g) (i : Nat) (hi : i < 15) : sI l yJ0_length_8abf5 vJ0_length_8abf5 { frames := 1, cells := 0, slots := 0, locals := 20 } D cs ad kS [.ref (kS.1 i)] g (fun r g2 => g2 = g ∧ r.toInt = (lenS.getD i 0 : Int)) := by
  refine Met.startS (cc := cJ0_length_8abf5) (maxL := 1) (ret := (some .int)) RJ0 rfl (by decide) rfl (Nat.le_of_ble_eq_true rfl) ?_
  intro p e s m below meth c ls X Z hP hl
  have hx := X.1
  have hb := X.2.1
  have hS : va_S (wA ad 218) s.heap s.heap [] := va_S.rf
  have hA : ∀ i, i < 218 → wA ad 218 (ad i) := fun i h => ⟨i, h, rfl⟩
  have hl : lv_has ls 1 [(0, .ref (kS.1 i))] := hl
  refine lv_aload_n hx hb dJ0_length_8abf5_0 rfl (lv_at hl 0 rfl) ?_
  refine vk_getf hx hb (Z.1 i hi).2.2.1 hS X.2.2.2.2.2.1 (X.2.2.2.2.1 _ (List.mem_of_getElem? (i := 1) rfl)) (fun _ h => h) dJ0_length_8abf5_1 ?_
  refine va_tlen hx hb (Z.1 i hi).2.2.2.1 hS rfl dJ0_length_8abf5_4 ?_
  refine lv_aload_n hx hb dJ0_length_8abf5_5 rfl (lv_at hl 0 rfl) ?_
  refine s_callt (As := []) (rest := [.int (Int32.ofNat (lenS.getD i 0))]) X Z hi (s_coder l D cs ad kS K hKO hj g hW i hi) (cwV 0 X.2.2.2.2.1 gg_len_coder rfl rfl rfl (by decide +kernel) ⟨Nat.le_of_ble_eq_true rfl, Nat.le_of_ble_eq_true rfl⟩) hP hA hS.2.1 hS rfl hl.1 rfl (Nat.le_of_ble_eq_true rfl) dJ0_length_8abf5_6 ⟨Nat.le_of_ble_eq_true rfl, Nat.le_of_ble_eq_true rfl⟩ (fun r g2 H locs hw hP hS => ?_)
  obtain ⟨hwg, rfl⟩ := hw
  rw [hwg] at hP
  refine lv_ishr hx hb dJ0_length_8abf5_9 ?_
  have hle := lenS_le i
  exact q_iret X hP hS ⟨rfl, by rw [show Int32.ofNat (lenS.getD i 0) = nI (lenS.getD i 0) from rfl, sc_shr0 (by omega), nI_toInt (by omega)]⟩ dJ0_length_8abf5_10
theorem dJ3_checkIndex_8e157_0 : decode cJ3_checkIndex_8e157 0 = .ok (.iload_n 0, 1) := by decide +kernel
theorem dJ3_checkIndex_8e157_1 : decode cJ3_checkIndex_8e157 1 = .ok (.ifCond .lt 8, 3) := by decide +kernel
theorem dJ3_checkIndex_8e157_4 : decode cJ3_checkIndex_8e157 4 = .ok (.iload_n 0, 1) := by decide +kernel
theorem dJ3_checkIndex_8e157_5 : decode cJ3_checkIndex_8e157 5 = .ok (.iload_n 1, 1) := by decide +kernel
theorem dJ3_checkIndex_8e157_6 : decode cJ3_checkIndex_8e157 6 = .ok (.if_icmp .lt 10, 3) := by decide +kernel
theorem dJ3_checkIndex_8e157_9 : decode cJ3_checkIndex_8e157 9 = .ok (.aload_n 2, 1) := by decide +kernel
theorem dJ3_checkIndex_8e157_10 : decode cJ3_checkIndex_8e157 10 = .ok (.iload_n 0, 1) := by decide +kernel
theorem dJ3_checkIndex_8e157_11 : decode cJ3_checkIndex_8e157 11 = .ok (.iload_n 1, 1) := by decide +kernel
theorem dJ3_checkIndex_8e157_12 : decode cJ3_checkIndex_8e157 12 = .ok (.invokestatic 95, 3) := by decide +kernel
theorem dJ3_checkIndex_8e157_15 : decode cJ3_checkIndex_8e157 15 = .ok (.athrow, 1) := by decide +kernel
theorem dJ3_checkIndex_8e157_16 : decode cJ3_checkIndex_8e157 16 = .ok (.iload_n 0, 1) := by decide +kernel
theorem dJ3_checkIndex_8e157_17 : decode cJ3_checkIndex_8e157 17 = .ok (.ireturn, 1) := by decide +kernel
def vJ3_checkIndex_8e157 : List Cond := .code yJ3_checkIndex_8e157 cJ3_checkIndex_8e157 3 (some .int) :: []
set_option maxHeartbeats 4000000 in
set_option maxRecDepth 100000 in
theorem s_chkN (l : Launch) (D : va_G) (cs : Nat → ClassId) (ad : Nat → Nat) (kS : kSt) (K : sK) (hKO : KO K) (hj : wJ ad 218) (g : Nat → va_E) (hW : WF (shp ad K) ad cs g) (a b : Int32) (h1 : 0 ≤ a.toInt) (h2 : a.toInt < b.toInt) : sI l yJ3_checkIndex_8e157 vJ3_checkIndex_8e157 { frames := 0, cells := 0, slots := 0, locals := 0 } D cs ad kS [.int a, .int b, .null] g (fun _ g2 => g2 = g) := by
  refine Met.startS (cc := cJ3_checkIndex_8e157) (maxL := 3) (ret := (some .int)) RJ3 rfl (by decide) rfl (Nat.le_of_ble_eq_true rfl) ?_
  intro p e s m below meth c ls X Z hP hl
  have hx := X.1
  have hb := X.2.1
  have hS : va_S (wA ad 218) s.heap s.heap [] := va_S.rf
  have hA : ∀ i, i < 218 → wA ad 218 (ad i) := fun i h => ⟨i, h, rfl⟩
  have hl : lv_has ls 3 [(0, .int a), (1, .int b), (2, .null)] := hl
  refine lv_iload_n hx hb dJ3_checkIndex_8e157_0 rfl (lv_at hl 0 rfl) ?_
  refine lv_if_lt (tgt := 9) hx hb dJ3_checkIndex_8e157_1 (by decide) (fun h => by exfalso; have := n_lt (rfl : a.toInt = a.toInt) (by decide : (0 : Int32).toInt = 0) h; omega) (fun _ => ?_)
  refine lv_iload_n hx hb dJ3_checkIndex_8e157_4 rfl (lv_at hl 0 rfl) ?_
  refine lv_iload_n hx hb dJ3_checkIndex_8e157_5 rfl (lv_at hl 1 rfl) ?_
  refine lv_icmp_lt (tgt := 16) hx hb dJ3_checkIndex_8e157_6 (by decide) (fun _ => ?_) (fun h => by exfalso; have := n_nlt (rfl : a.toInt = a.toInt) (rfl : b.toInt = b.toInt) h; omega)
  refine lv_iload_n hx hb dJ3_checkIndex_8e157_16 rfl (lv_at hl 0 rfl) ?_
  exact q_iret X hP hS rfl dJ3_checkIndex_8e157_17
set_option maxHeartbeats 4000000 in
set_option maxRecDepth 100000 in
theorem s_chkR (l : Launch) (D : va_G) (cs : Nat → ClassId) (ad : Nat → Nat) (kS : kSt) (K : sK) (hKO : KO K) (hj : wJ ad 218) (g : Nat → va_E) (hW : WF (shp ad K) ad cs g) (t : Nat) (a b : Int32) (h1 : 0 ≤ a.toInt) (h2 : a.toInt < b.toInt) : sI l yJ3_checkIndex_8e157 vJ3_checkIndex_8e157 { frames := 0, cells := 0, slots := 0, locals := 0 } D cs ad kS [.int a, .int b, .ref t] g (fun _ g2 => g2 = g) := by
  refine Met.startS (cc := cJ3_checkIndex_8e157) (maxL := 3) (ret := (some .int)) RJ3 rfl (by decide) rfl (Nat.le_of_ble_eq_true rfl) ?_
  intro p e s m below meth c ls X Z hP hl
  have hx := X.1
  have hb := X.2.1
  have hS : va_S (wA ad 218) s.heap s.heap [] := va_S.rf
  have hA : ∀ i, i < 218 → wA ad 218 (ad i) := fun i h => ⟨i, h, rfl⟩
  have hl : lv_has ls 3 [(0, .int a), (1, .int b), (2, .ref t)] := hl
  refine lv_iload_n hx hb dJ3_checkIndex_8e157_0 rfl (lv_at hl 0 rfl) ?_
  refine lv_if_lt (tgt := 9) hx hb dJ3_checkIndex_8e157_1 (by decide) (fun h => by exfalso; have := n_lt (rfl : a.toInt = a.toInt) (by decide : (0 : Int32).toInt = 0) h; omega) (fun _ => ?_)
  refine lv_iload_n hx hb dJ3_checkIndex_8e157_4 rfl (lv_at hl 0 rfl) ?_
  refine lv_iload_n hx hb dJ3_checkIndex_8e157_5 rfl (lv_at hl 1 rfl) ?_
  refine lv_icmp_lt (tgt := 16) hx hb dJ3_checkIndex_8e157_6 (by decide) (fun _ => ?_) (fun h => by exfalso; have := n_nlt (rfl : a.toInt = a.toInt) (rfl : b.toInt = b.toInt) h; omega)
  refine lv_iload_n hx hb dJ3_checkIndex_8e157_16 rfl (lv_at hl 0 rfl) ?_
  exact q_iret X hP hS rfl dJ3_checkIndex_8e157_17
theorem dJ0_checkIndex_df160_0 : decode cJ0_checkIndex_df160 0 = .ok (.iload_n 0, 1) := by decide +kernel
theorem dJ0_checkIndex_df160_1 : decode cJ0_checkIndex_df160 1 = .ok (.iload_n 1, 1) := by decide +kernel
theorem dJ0_checkIndex_df160_2 : decode cJ0_checkIndex_df160 2 = .ok (.getstatic 1053, 3) := by decide +kernel
theorem dJ0_checkIndex_df160_5 : decode cJ0_checkIndex_df160 5 = .ok (.invokestatic 1059, 3) := by decide +kernel
theorem dJ0_checkIndex_df160_8 : decode cJ0_checkIndex_df160 8 = .ok (.pop, 1) := by decide +kernel
theorem dJ0_checkIndex_df160_9 : decode cJ0_checkIndex_df160 9 = .ok (.return_, 1) := by decide +kernel
def vJ0_checkIndex_df160 : List Cond := .code yJ0_checkIndex_df160 cJ0_checkIndex_df160 2 none :: [.fieldLink RJ0 1053 "jdk/internal/util/Preconditions" "SIOOBE_FORMATTER" "Ljava/util/function/BiFunction;", .methodLink RJ0 1059 yJ3_checkIndex_8e157, .static yJ3_checkIndex_8e157, .initialized RJ3, .code yJ3_checkIndex_8e157 cJ3_checkIndex_8e157 3 (some .int)]
set_option maxRecDepth 20000 in
theorem gg_chk : GoodIn vJ0_checkIndex_df160 (va_wsS RJ0 1059 yJ3_checkIndex_8e157 vJ3_checkIndex_8e157) := goodIn_r _ [2, 3, 4, 5] (by decide +kernel) (by decide +kernel)
set_option maxHeartbeats 4000000 in
set_option maxRecDepth 100000 in
theorem s_chk (l : Launch) (D : va_G) (cs : Nat → ClassId) (ad : Nat → Nat) (kS : kSt) (K : sK) (hKO : KO K) (hj : wJ ad 218) (g : Nat → va_E) (hW : WF (shp ad K) ad cs g) (a b : Int32) (h1 : 0 ≤ a.toInt) (h2 : a.toInt < b.toInt) : sV l yJ0_checkIndex_df160 vJ0_checkIndex_df160 { frames := 1, cells := 0, slots := 0, locals := 22 } D cs ad kS [.int a, .int b] g (fun g2 => g2 = g) := by
  refine Met.startS (cc := cJ0_checkIndex_df160) (maxL := 2) (ret := none) RJ0 rfl (by decide) rfl (Nat.le_of_ble_eq_true rfl) ?_
  intro p e s m below meth c ls X Z hP hl
  have hx := X.1
  have hb := X.2.1
  have hS : va_S (wA ad 218) s.heap s.heap [] := va_S.rf
  have hA : ∀ i, i < 218 → wA ad 218 (ad i) := fun i h => ⟨i, h, rfl⟩
  have hl : lv_has ls 2 [(0, .int a), (1, .int b)] := hl
  refine lv_iload_n hx hb dJ0_checkIndex_df160_0 rfl (lv_at hl 0 rfl) ?_
  refine lv_iload_n hx hb dJ0_checkIndex_df160_1 rfl (lv_at hl 1 rfl) ?_
  rcases Z.2.2.2 with hz | ⟨t, hz⟩
  · refine va_gets hx hb hz hS X.2.2.2.2.2.1 (X.2.2.2.2.1 _ (List.mem_of_getElem? (i := 1) rfl)) (fun _ h => h) dJ0_checkIndex_df160_2 ?_
    refine s_callSi (As := [.int a, .int b, .null]) (rest := []) X Z (s_chkN l D cs ad kS K hKO hj g hW a b h1 h2) (va_cwS 3 X.2.2.2.2.1 gg_chk rfl rfl rfl (by decide +kernel) ⟨Nat.le_of_ble_eq_true rfl, Nat.le_of_ble_eq_true rfl⟩) hP hA hS.2.1 hS rfl hl.1 rfl (Nat.le_of_ble_eq_true rfl) dJ0_checkIndex_df160_5 ⟨Nat.le_of_ble_eq_true rfl, Nat.le_of_ble_eq_true rfl⟩ (fun r g2 H locs hw hP hS => ?_)
    rw [hw] at hP
    refine lv_pop hx hb dJ0_checkIndex_df160_8 rfl ?_
    exact q_vret X hP hS rfl dJ0_checkIndex_df160_9
  · refine va_gets hx hb hz hS X.2.2.2.2.2.1 (X.2.2.2.2.1 _ (List.mem_of_getElem? (i := 1) rfl)) (fun _ h => h) dJ0_checkIndex_df160_2 ?_
    refine s_callSi (As := [.int a, .int b, .ref t]) (rest := []) X Z (s_chkR l D cs ad kS K hKO hj g hW t a b h1 h2) (va_cwS 3 X.2.2.2.2.1 gg_chk rfl rfl rfl (by decide +kernel) ⟨Nat.le_of_ble_eq_true rfl, Nat.le_of_ble_eq_true rfl⟩) hP hA hS.2.1 hS rfl hl.1 rfl (Nat.le_of_ble_eq_true rfl) dJ0_checkIndex_df160_5 ⟨Nat.le_of_ble_eq_true rfl, Nat.le_of_ble_eq_true rfl⟩ (fun r g2 H locs hw hP hS => ?_)
    rw [hw] at hP
    refine lv_pop hx hb dJ0_checkIndex_df160_8 rfl ?_
    exact q_vret X hP hS rfl dJ0_checkIndex_df160_9
theorem dJ1_charAt_3b067_0 : decode cJ1_charAt_3b067 0 = .ok (.iload_n 1, 1) := by decide +kernel
theorem dJ1_charAt_3b067_1 : decode cJ1_charAt_3b067 1 = .ok (.aload_n 0, 1) := by decide +kernel
theorem dJ1_charAt_3b067_2 : decode cJ1_charAt_3b067 2 = .ok (.arraylength, 1) := by decide +kernel
theorem dJ1_charAt_3b067_3 : decode cJ1_charAt_3b067 3 = .ok (.invokestatic 9, 3) := by decide +kernel
theorem dJ1_charAt_3b067_6 : decode cJ1_charAt_3b067 6 = .ok (.aload_n 0, 1) := by decide +kernel
theorem dJ1_charAt_3b067_7 : decode cJ1_charAt_3b067 7 = .ok (.iload_n 1, 1) := by decide +kernel
theorem dJ1_charAt_3b067_8 : decode cJ1_charAt_3b067 8 = .ok (.baload, 1) := by decide +kernel
theorem dJ1_charAt_3b067_9 : decode cJ1_charAt_3b067 9 = .ok (.sipush 255, 3) := by decide +kernel
theorem dJ1_charAt_3b067_12 : decode cJ1_charAt_3b067 12 = .ok (.iand, 1) := by decide +kernel
theorem dJ1_charAt_3b067_13 : decode cJ1_charAt_3b067 13 = .ok (.i2c, 1) := by decide +kernel
theorem dJ1_charAt_3b067_14 : decode cJ1_charAt_3b067 14 = .ok (.ireturn, 1) := by decide +kernel
def vJ1_charAt_3b067 : List Cond := .code yJ1_charAt_3b067 cJ1_charAt_3b067 2 (some .char) :: [.methodLink RJ1 9 yJ0_checkIndex_df160, .static yJ0_checkIndex_df160, .initialized RJ0, .code yJ0_checkIndex_df160 cJ0_checkIndex_df160 2 none, .fieldLink RJ0 1053 "jdk/internal/util/Preconditions" "SIOOBE_FORMATTER" "Ljava/util/function/BiFunction;", .methodLink RJ0 1059 yJ3_checkIndex_8e157, .static yJ3_checkIndex_8e157, .initialized RJ3, .code yJ3_checkIndex_8e157 cJ3_checkIndex_8e157 3 (some .int)]
set_option maxRecDepth 20000 in
theorem gg_lat_chk : GoodIn vJ1_charAt_3b067 (va_wsS RJ1 9 yJ0_checkIndex_df160 vJ0_checkIndex_df160) := goodIn_r _ [1, 2, 3, 4, 5, 6, 7, 8, 9] (by decide +kernel) (by decide +kernel)
set_option maxHeartbeats 4000000 in
set_option maxRecDepth 100000 in
theorem s_latAt (l : Launch) (D : va_G) (cs : Nat → ClassId) (ad : Nat → Nat) (kS : kSt) (K : sK) (hKO : KO K) (hj : wJ ad 218) (g : Nat → va_E) (hW : WF (shp ad K) ad cs g) (i : Nat) (k : Int32) (hi : i < 15) (h1 : 0 ≤ k.toInt) (h2 : k.toInt < (lenS.getD i 0 : Int)) : sI l yJ1_charAt_3b067 vJ1_charAt_3b067 { frames := 2, cells := 0, slots := 0, locals := 43 } D cs ad kS [.ref (kS.2.1 i), .int k] g (fun r g2 => g2 = g ∧ narrow .char (.int r) = .int r) := by
  refine Met.startS (cc := cJ1_charAt_3b067) (maxL := 2) (ret := (some .char)) RJ1 rfl (by decide) rfl (Nat.le_of_ble_eq_true rfl) ?_
  intro p e s m below meth c ls X Z hP hl
  have hx := X.1
  have hb := X.2.1
  have hS : va_S (wA ad 218) s.heap s.heap [] := va_S.rf
  have hA : ∀ i, i < 218 → wA ad 218 (ad i) := fun i h => ⟨i, h, rfl⟩
  have hl : lv_has ls 2 [(0, .ref (kS.2.1 i)), (1, .int k)] := hl
  have hle := lenS_le i
  have hlen : (Int32.ofNat (lenS.getD i 0)).toInt = (lenS.getD i 0 : Int) := nI_toInt (by omega)
  refine lv_iload_n hx hb dJ1_charAt_3b067_0 rfl (lv_at hl 1 rfl) ?_
  refine lv_aload_n hx hb dJ1_charAt_3b067_1 rfl (lv_at hl 0 rfl) ?_
  refine va_tlen hx hb (Z.1 i hi).2.2.2.1 hS rfl dJ1_charAt_3b067_2 ?_
  refine s_callSv (As := [.int k, .int (Int32.ofNat (lenS.getD i 0))]) (rest := []) X Z (s_chk l D cs ad kS K hKO hj g hW k (Int32.ofNat (lenS.getD i 0)) h1 (by omega)) (va_cwS 2 X.2.2.2.2.1 gg_lat_chk rfl rfl rfl (by decide +kernel) ⟨Nat.le_of_ble_eq_true rfl, Nat.le_of_ble_eq_true rfl⟩) hP hA hS.2.1 hS rfl hl.1 rfl (Nat.le_of_ble_eq_true rfl) dJ1_charAt_3b067_3 ⟨Nat.le_of_ble_eq_true rfl, Nat.le_of_ble_eq_true rfl⟩ (fun g2 H locs hw hP hS => ?_)
  rw [hw] at hP
  refine lv_aload_n hx hb dJ1_charAt_3b067_6 rfl (lv_at hl 0 rfl) ?_
  refine lv_iload_n hx hb dJ1_charAt_3b067_7 rfl (lv_at hl 1 rfl) ?_
  have hc := n_cl (rfl : k.toInt = k.toInt) h1
  obtain ⟨x, hxx⟩ := (Z.1 i hi).2.2.2.2 k.toNatClampNeg (by omega)
  refine va_tb hx hb (Z.1 i hi).2.2.2.1 hS (n_in (rfl : k.toInt = k.toInt) h1 h2) hxx dJ1_charAt_3b067_8 ?_
  refine lv_sipush (v := 255) hx hb dJ1_charAt_3b067_9 (by decide) ?_
  refine lv_iand hx hb dJ1_charAt_3b067_12 ?_
  refine lv_i2c hx hb dJ1_charAt_3b067_13 (sc_c2 x) ?_
  exact q_nret X hP hS (sc_nar x) ⟨rfl, sc_nar x⟩ dJ1_charAt_3b067_14
theorem dJ0_charAt_5068e_0 : decode cJ0_charAt_5068e 0 = .ok (.aload_n 0, 1) := by decide +kernel
theorem dJ0_charAt_5068e_1 : decode cJ0_charAt_5068e 1 = .ok (.invokevirtual 492, 3) := by decide +kernel
theorem dJ0_charAt_5068e_4 : decode cJ0_charAt_5068e 4 = .ok (.ifCond .eq 12, 3) := by decide +kernel
theorem dJ0_charAt_5068e_7 : decode cJ0_charAt_5068e 7 = .ok (.aload_n 0, 1) := by decide +kernel
theorem dJ0_charAt_5068e_8 : decode cJ0_charAt_5068e 8 = .ok (.getfield 9, 3) := by decide +kernel
theorem dJ0_charAt_5068e_11 : decode cJ0_charAt_5068e 11 = .ok (.iload_n 1, 1) := by decide +kernel
theorem dJ0_charAt_5068e_12 : decode cJ0_charAt_5068e 12 = .ok (.invokestatic 495, 3) := by decide +kernel
theorem dJ0_charAt_5068e_15 : decode cJ0_charAt_5068e 15 = .ok (.ireturn, 1) := by decide +kernel
theorem dJ0_charAt_5068e_16 : decode cJ0_charAt_5068e 16 = .ok (.aload_n 0, 1) := by decide +kernel
theorem dJ0_charAt_5068e_17 : decode cJ0_charAt_5068e 17 = .ok (.getfield 9, 3) := by decide +kernel
theorem dJ0_charAt_5068e_20 : decode cJ0_charAt_5068e 20 = .ok (.iload_n 1, 1) := by decide +kernel
theorem dJ0_charAt_5068e_21 : decode cJ0_charAt_5068e 21 = .ok (.invokestatic 498, 3) := by decide +kernel
theorem dJ0_charAt_5068e_24 : decode cJ0_charAt_5068e 24 = .ok (.ireturn, 1) := by decide +kernel
def vJ0_charAt_5068e : List Cond := .code yJ0_charAt_5068e cJ0_charAt_5068e 2 (some .char) :: [.fieldLink RJ0 9 "java/lang/String" "value" "[B", .methodLink RJ0 492 yJ0_isLatin1_aae02, .instanceMethod yJ0_isLatin1_aae02, .selects RJ0 yJ0_isLatin1_aae02 yJ0_isLatin1_aae02, .initialized RJ0, .code yJ0_isLatin1_aae02 cJ0_isLatin1_aae02 1 (some .boolean), .fieldLink RJ0 38 "java/lang/String" "COMPACT_STRINGS" "Z", .fieldLink RJ0 15 "java/lang/String" "coder" "B", .methodLink RJ0 495 yJ1_charAt_3b067, .static yJ1_charAt_3b067, .initialized RJ1, .code yJ1_charAt_3b067 cJ1_charAt_3b067 2 (some .char), .methodLink RJ1 9 yJ0_checkIndex_df160, .static yJ0_checkIndex_df160, .code yJ0_checkIndex_df160 cJ0_checkIndex_df160 2 none, .fieldLink RJ0 1053 "jdk/internal/util/Preconditions" "SIOOBE_FORMATTER" "Ljava/util/function/BiFunction;", .methodLink RJ0 1059 yJ3_checkIndex_8e157, .static yJ3_checkIndex_8e157, .initialized RJ3, .code yJ3_checkIndex_8e157 cJ3_checkIndex_8e157 3 (some .int)]
set_option maxRecDepth 20000 in
theorem gg_chr_lat1 : GoodIn vJ0_charAt_5068e (wsV RJ0 492 RJ0 yJ0_isLatin1_aae02 vJ0_isLatin1_aae02) := goodIn_r _ [2, 3, 4, 5, 6, 7, 8] (by decide +kernel) (by decide +kernel)
set_option maxRecDepth 20000 in
theorem gg_chr_at : GoodIn vJ0_charAt_5068e (va_wsS RJ0 495 yJ1_charAt_3b067 vJ1_charAt_3b067) := goodIn_r _ [9, 10, 11, 12, 13, 14, 5, 15, 16, 17, 18, 19, 20] (by decide +kernel) (by decide +kernel)
set_option maxHeartbeats 4000000 in
set_option maxRecDepth 100000 in
theorem s_charAt (l : Launch) (D : va_G) (cs : Nat → ClassId) (ad : Nat → Nat) (kS : kSt) (K : sK) (hKO : KO K) (hj : wJ ad 218) (g : Nat → va_E) (hW : WF (shp ad K) ad cs g) (i : Nat) (k : Int32) (hi : i < 15) (h1 : 0 ≤ k.toInt) (h2 : k.toInt < (lenS.getD i 0 : Int)) : sI l yJ0_charAt_5068e vJ0_charAt_5068e { frames := 3, cells := 0, slots := 0, locals := 64 } D cs ad kS [.ref (kS.1 i), .int k] g (fun _ g2 => g2 = g) := by
  refine Met.startS (cc := cJ0_charAt_5068e) (maxL := 2) (ret := (some .char)) RJ0 rfl (by decide) rfl (Nat.le_of_ble_eq_true rfl) ?_
  intro p e s m below meth c ls X Z hP hl
  have hx := X.1
  have hb := X.2.1
  have hS : va_S (wA ad 218) s.heap s.heap [] := va_S.rf
  have hA : ∀ i, i < 218 → wA ad 218 (ad i) := fun i h => ⟨i, h, rfl⟩
  have hl : lv_has ls 2 [(0, .ref (kS.1 i)), (1, .int k)] := hl
  refine lv_aload_n hx hb dJ0_charAt_5068e_0 rfl (lv_at hl 0 rfl) ?_
  refine s_callt (As := []) (rest := []) X Z hi (s_isLatin1 l D cs ad kS K hKO hj g hW i hi) (cwV 0 X.2.2.2.2.1 gg_chr_lat1 rfl rfl rfl (by decide +kernel) ⟨Nat.le_of_ble_eq_true rfl, Nat.le_of_ble_eq_true rfl⟩) hP hA hS.2.1 hS rfl hl.1 rfl (Nat.le_of_ble_eq_true rfl) dJ0_charAt_5068e_1 ⟨Nat.le_of_ble_eq_true rfl, Nat.le_of_ble_eq_true rfl⟩ (fun r g2 H locs hw hP hS => ?_)
  obtain ⟨hwg, rfl⟩ := hw
  rw [hwg] at hP
  refine lv_if_eq (tgt := 16) hx hb dJ0_charAt_5068e_4 (by decide) (fun h => absurd h (by decide)) (fun _ => ?_)
  refine lv_aload_n hx hb dJ0_charAt_5068e_7 rfl (lv_at hl 0 rfl) ?_
  refine vk_getf hx hb (Z.1 i hi).2.2.1 hS X.2.2.2.2.2.1 (X.2.2.2.2.1 _ (List.mem_of_getElem? (i := 1) rfl)) (fun _ h => h) dJ0_charAt_5068e_8 ?_
  refine lv_iload_n hx hb dJ0_charAt_5068e_11 rfl (lv_at hl 1 rfl) ?_
  refine s_callSi (As := [.ref (kS.2.1 i), .int k]) (rest := []) X Z (s_latAt l D cs ad kS K hKO hj g hW i k hi h1 h2) (va_cwS 2 X.2.2.2.2.1 gg_chr_at rfl rfl rfl (by decide +kernel) ⟨Nat.le_of_ble_eq_true rfl, Nat.le_of_ble_eq_true rfl⟩) hP hA hS.2.1 hS rfl hl.1 rfl (Nat.le_of_ble_eq_true rfl) dJ0_charAt_5068e_12 ⟨Nat.le_of_ble_eq_true rfl, Nat.le_of_ble_eq_true rfl⟩ (fun r g2 H locs hw hP hS => ?_)
  obtain ⟨hwg, hn⟩ := hw
  rw [hwg] at hP
  exact q_nret X hP hS hn rfl dJ0_charAt_5068e_15
