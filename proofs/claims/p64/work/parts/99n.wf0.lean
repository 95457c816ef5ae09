set_option maxRecDepth 100000 in
set_option maxHeartbeats 8000000 in
theorem FrX_ct0 {cs : Nat → ClassId} {aX aM : Nat → Nat} {gX gM : Nat → va_E} (h : FrX_0 cs aX gX) : FrX_0 cs (ct aX 197 aM) (ct gX 197 gM) := by
  unfold FrX_0 at h ⊢
  exact h
set_option maxRecDepth 100000 in
set_option maxHeartbeats 8000000 in
theorem FrX_ct1 {cs : Nat → ClassId} {aX aM : Nat → Nat} {gX gM : Nat → va_E} (h : FrX_1 cs aX gX) : FrX_1 cs (ct aX 197 aM) (ct gX 197 gM) := by
  unfold FrX_1 at h ⊢
  exact h
set_option maxRecDepth 100000 in
set_option maxHeartbeats 8000000 in
theorem FrX_ct2 {cs : Nat → ClassId} {aX aM : Nat → Nat} {gX gM : Nat → va_E} (h : FrX_2 cs aX gX) : FrX_2 cs (ct aX 197 aM) (ct gX 197 gM) := by
  unfold FrX_2 at h ⊢
  exact h
set_option maxRecDepth 100000 in
set_option maxHeartbeats 8000000 in
theorem FrX_ct3 {cs : Nat → ClassId} {aX aM : Nat → Nat} {gX gM : Nat → va_E} (h : FrX_3 cs aX gX) : FrX_3 cs (ct aX 197 aM) (ct gX 197 gM) := by
  unfold FrX_3 at h ⊢
  exact h
set_option maxRecDepth 100000 in
set_option maxHeartbeats 8000000 in
theorem FrX_ct4 {cs : Nat → ClassId} {aX aM : Nat → Nat} {gX gM : Nat → va_E} (h : FrX_4 cs aX gX) : FrX_4 cs (ct aX 197 aM) (ct gX 197 gM) := by
  unfold FrX_4 at h ⊢
  exact h
set_option maxRecDepth 100000 in
set_option maxHeartbeats 8000000 in
theorem FrX_ct5 {cs : Nat → ClassId} {aX aM : Nat → Nat} {gX gM : Nat → va_E} (h : FrX_5 cs aX gX) : FrX_5 cs (ct aX 197 aM) (ct gX 197 gM) := by
  unfold FrX_5 at h ⊢
  exact h
set_option maxRecDepth 100000 in
set_option maxHeartbeats 8000000 in
theorem FrX_ct6 {cs : Nat → ClassId} {aX aM : Nat → Nat} {gX gM : Nat → va_E} (h : FrX_6 cs aX gX) : FrX_6 cs (ct aX 197 aM) (ct gX 197 gM) := by
  unfold FrX_6 at h ⊢
  exact h
set_option maxRecDepth 100000 in
set_option maxHeartbeats 8000000 in
theorem FrX_ct7 {cs : Nat → ClassId} {aX aM : Nat → Nat} {gX gM : Nat → va_E} (h : FrX_7 cs aX gX) : FrX_7 cs (ct aX 197 aM) (ct gX 197 gM) := by
  unfold FrX_7 at h ⊢
  exact h
set_option maxRecDepth 100000 in
set_option maxHeartbeats 8000000 in
theorem FrX_ct8 {cs : Nat → ClassId} {aX aM : Nat → Nat} {gX gM : Nat → va_E} (h : FrX_8 cs aX gX) : FrX_8 cs (ct aX 197 aM) (ct gX 197 gM) := by
  unfold FrX_8 at h ⊢
  exact h
set_option maxRecDepth 100000 in
set_option maxHeartbeats 8000000 in
theorem FrX_ct9 {cs : Nat → ClassId} {aX aM : Nat → Nat} {gX gM : Nat → va_E} (h : FrX_9 cs aX gX) : FrX_9 cs (ct aX 197 aM) (ct gX 197 gM) := by
  unfold FrX_9 at h ⊢
  exact h
theorem FrX_ct {cs : Nat → ClassId} {aX aM : Nat → Nat} {gX gM : Nat → va_E} (h : FrX cs aX gX) : FrX cs (ct aX 197 aM) (ct gX 197 gM) := by
  obtain ⟨h0, h1, h2, h3, h4, h5, h6, h7, h8, h9⟩ := h
  exact ⟨FrX_ct0 h0, FrX_ct1 h1, FrX_ct2 h2, FrX_ct3 h3, FrX_ct4 h4, FrX_ct5 h5, FrX_ct6 h6, FrX_ct7 h7, FrX_ct8 h8, FrX_ct9 h9⟩
def FrM (cs : Nat → ClassId) (ad : Nat → Nat) (g : Nat → va_E) : Prop := g 197 = .inr (12, [.int 0, .ref (ad 198), .ref (ad 199), .ref (ad 200), .ref (ad 201), .int 0, .ref (ad 202), .int 0, .int 0, .int 0, .int 0, .int 0, .int 0, .int (-1), .ref (ad 203), .ref (ad 204), .ref (ad 205), .int 0, .int 0, .ref (ad 206), .ref (ad 207), .ref (ad 208), .int 0, .int 0, .int 0, .int 0, .int 0, .ref (ad 209), .ref (ad 210), .ref (ad 211), .long 0, .long 0, .ref (ad 212), .ref (ad 213), .int 0, .int 0, .ref (ad 214), .ref (ad 215), .ref (ad 216), .ref (ad 217)]) ∧ g 198 = .inl (cs 1, 118, .inl (fun _ => 0)) ∧ g 199 = .inl (cs 1, 354, .inl (fun _ => 0)) ∧ g 200 = .inl (cs 3, 3, .inl (fun _ => 0)) ∧ g 201 = .inl (cs 0, 1000, .inl (fun _ => 0)) ∧ g 202 = .inl (cs 1, 5, .inl (fun _ => 0)) ∧ g 203 = .inl (cs 1, 118, .inl (fun _ => 0)) ∧ g 204 = .inl (cs 1, 70, .inl (fun _ => 0)) ∧ g 205 = .inl (cs 1, 8, .inl (fun _ => 0)) ∧ g 206 = .inl (cs 1, 160, .inl (fun _ => 0)) ∧ g 207 = .inl (cs 1, 70, .inl (fun _ => 0)) ∧ g 208 = .inl (cs 1, 560, .inl (fun _ => 0)) ∧ g 209 = .inl (cs 2, 15, .inr (.inl (fun _ => 0))) ∧ g 210 = .inl (cs 2, 15, .inr (.inl (fun _ => 0))) ∧ g 211 = .inl (cs 2, 14, .inr (.inl (fun _ => 0))) ∧ g 212 = .inl (cs 1, 75, .inl (fun _ => 0)) ∧ g 213 = .inl (cs 1, 75, .inl (fun _ => 0)) ∧ g 214 = .inl (cs 1, 4, .inl mF) ∧ g 215 = .inl (cs 1, 4, .inl (fun _ => 0)) ∧ g 216 = .inl (cs 2, 240, .inr (.inl (fun _ => 0))) ∧ g 217 = .inl (cs 2, 60, .inr (.inl (fun _ => 0)))
abbrev K0 : sK := (fun _ => 0, fun _ => 0, fun _ => 0, fun _ => 0, mF, fun _ => 0, fun _ => 0)
theorem mF_r (j : Nat) : -1 ≤ (mF j).toInt ∧ (mF j).toInt ≤ 60 := upd_r (P := fun x => -1 ≤ x.toInt ∧ x.toInt ≤ 60) (fun j => upd_r (P := fun x => -1 ≤ x.toInt ∧ x.toInt ≤ 60) (fun j => upd_r (P := fun x => -1 ≤ x.toInt ∧ x.toInt ≤ 60) (fun j => upd_r (P := fun x => -1 ≤ x.toInt ∧ x.toInt ≤ 60) (fun _ => ⟨by decide, by decide⟩) ⟨by decide, by decide⟩ j) ⟨by decide, by decide⟩ j) ⟨by decide, by decide⟩ j) ⟨by decide, by decide⟩ j
theorem z_0 : (0 : Int) ≤ (0 : Int32).toInt := by decide
theorem z_1 : (0 : Int32).toInt ≤ 1 := by decide
theorem z_3 : (0 : Int32).toInt ≤ 3 := by decide
theorem z_60 : (0 : Int32).toInt ≤ 60 := by decide
theorem KO0 : KO K0 := fun j => by
  refine ⟨⟨?_, ?_⟩, ⟨?_, ?_⟩, ⟨?_, ?_⟩, mF_r j, ⟨?_, ?_⟩, ⟨?_, ?_⟩⟩ <;> first | exact z_0 | exact z_1 | exact z_60 | exact z_3
theorem KR0 : KR K0 := ⟨fun _ _ => rfl, fun j hj => ⟨fun _ => by rcases (by omega : j = 0 ∨ j = 1 ∨ j = 2 ∨ j = 3) with rfl | rfl | rfl | rfl <;> decide, fun h => absurd (by decide : (0 : Int32).toInt = 0) h⟩⟩
theorem wq0 (j : Nat) : wq j 0 := by unfold wq; omega
theorem sq0 (j : Nat) : sq j 0 := by unfold sq; omega
theorem rq0 (j : Nat) : rq j 0 := by unfold rq; omega
theorem okO.nil {ad : Nat → Nat} : okO ad [] [] := ⟨rfl, fun k t h => by simp at h⟩
theorem okO.cons {ad : Nat → Nat} {t : sT} {ts : List sT} {v : Value} {fs : List Value} (hv : okV ad t v) (h : okO ad ts fs) : okO ad (t :: ts) (v :: fs) := ⟨congrArg (· + 1) h.1, fun k u hk => by
  match k, hk with
  | 0, hk => cases hk; exact ⟨v, rfl, hv⟩
  | k + 1, hk => exact h.2 k u hk⟩
set_option maxRecDepth 100000 in
set_option maxHeartbeats 8000000 in
theorem wf0_0 {cs : Nat → ClassId} {ad : Nat → Nat} {g : Nat → va_E} (hX : FrX_0 cs ad g) : ∀ i, 0 ≤ i → i < 20 → okE ad cs (shp ad K0 i) (g i) := by
  obtain ⟨h0, h1, h2, h3, h4, h5, h6, h7, h8, h9, h10, h11, h12, h13, h14, h15, h16, h17, h18, h19⟩ := hX
  intro i hi1 hi2
  rcases (by omega : i = 0 ∨ i = 1 ∨ i = 2 ∨ i = 3 ∨ i = 4 ∨ i = 5 ∨ i = 6 ∨ i = 7 ∨ i = 8 ∨ i = 9 ∨ i = 10 ∨ i = 11 ∨ i = 12 ∨ i = 13 ∨ i = 14 ∨ i = 15 ∨ i = 16 ∨ i = 17 ∨ i = 18 ∨ i = 19) with rfl | rfl | rfl | rfl | rfl | rfl | rfl | rfl | rfl | rfl | rfl | rfl | rfl | rfl | rfl | rfl | rfl | rfl | rfl | rfl
  · rw [sh_0 ad K0, h0]
    exact ⟨_, rfl, (okO.cons rfl (okO.cons rfl (okO.cons rfl (okO.cons rfl (okO.cons rfl (okO.cons rfl (okO.cons rfl (okO.cons rfl (okO.cons rfl (okO.cons rfl (okO.cons rfl (okO.cons rfl (okO.cons rfl (okO.cons rfl okO.nil))))))))))))))⟩
  · rw [sh_1 ad K0, h1]
    exact ⟨_, rfl, (okO.cons rfl (okO.cons ⟨0, rfl, by decide, by decide⟩ (okO.cons ⟨0, rfl, by decide, by decide⟩ (okO.cons ⟨(-1), rfl, by decide, by decide⟩ (okO.cons ⟨0, rfl, by decide, by decide⟩ (okO.cons ⟨0, rfl, by decide, by decide⟩ (okO.cons ⟨0, rfl, by decide, by decide⟩ okO.nil)))))))⟩
  · rw [sh_2 ad K0, h2]
    exact ⟨_, rfl, _, rfl, fun j => trivial⟩
  · rw [sh_3 ad K0, h3]
    exact ⟨_, rfl, (okO.cons ⟨0, rfl, by decide, by decide⟩ (okO.cons ⟨0, rfl, by decide, by decide⟩ (okO.cons ⟨0, rfl, by decide, by decide⟩ (okO.cons ⟨0, rfl, by decide, by decide⟩ (okO.cons ⟨0, rfl, by decide, by decide⟩ (okO.cons ⟨0, rfl, by decide, by decide⟩ (okO.cons ⟨0, rfl, by decide, by decide⟩ (okO.cons ⟨0, rfl, by decide, by decide⟩ (okO.cons rfl (okO.cons rfl (okO.cons rfl (okO.cons rfl (okO.cons rfl (okO.cons rfl (okO.cons rfl (okO.cons rfl (okO.cons rfl (okO.cons rfl okO.nil))))))))))))))))))⟩
  · rw [sh_4 ad K0, h4]
    exact ⟨_, rfl, _, rfl, fun j => trivial⟩
  · rw [sh_5 ad K0, h5]
    exact ⟨_, rfl, _, rfl, fun j => trivial⟩
  · rw [sh_6 ad K0, h6]
    exact ⟨_, rfl, _, rfl, fun j => trivial⟩
  · rw [sh_7 ad K0, h7]
    exact ⟨_, rfl, _, rfl, fun j => ⟨by decide, by decide⟩⟩
  · rw [sh_8 ad K0, h8]
    exact ⟨_, rfl, _, rfl, fun j => trivial⟩
  · rw [sh_9 ad K0, h9]
    exact ⟨_, rfl, _, rfl, fun j => trivial⟩
  · rw [sh_10 ad K0, h10]
    exact ⟨_, rfl, _, rfl, fun j => trivial⟩
  · rw [sh_11 ad K0, h11]
    exact ⟨_, rfl, _, rfl, fun j => trivial⟩
  · rw [sh_12 ad K0, h12]
    exact ⟨_, rfl, _, rfl, fun j => trivial⟩
  · rw [sh_13 ad K0, h13]
    exact ⟨_, rfl, (okO.cons ⟨0, rfl, by decide, by decide⟩ (okO.cons rfl (okO.cons rfl (okO.cons rfl (okO.cons rfl okO.nil)))))⟩
  · rw [sh_14 ad K0, h14]
    exact ⟨_, rfl, _, rfl, fun j => ⟨by decide, by decide⟩⟩
  · rw [sh_15 ad K0, h15]
    exact ⟨_, rfl, _, rfl, fun j => ⟨by decide, by decide⟩⟩
  · obtain ⟨f, hf, r0, r1, r2, r3, r4⟩ := h16
    rw [sh_16 ad K0, hf]
    refine ⟨_, rfl, _, rfl, fun j hj => ?_⟩
    rcases (by omega : j = 0 ∨ j = 1 ∨ j = 2 ∨ j = 3 ∨ j = 4) with rfl | rfl | rfl | rfl | rfl
    · exact r0
    · exact r1
    · exact r2
    · exact r3
    · exact r4
  · rw [sh_17 ad K0, h17]
    exact ⟨_, rfl, _, rfl, fun j => trivial⟩
  · rw [sh_18 ad K0, h18]
    exact ⟨_, rfl, _, rfl, fun j => trivial⟩
  · rw [sh_19 ad K0, h19]
    exact ⟨_, rfl, _, rfl, fun j => trivial⟩
set_option maxRecDepth 100000 in
set_option maxHeartbeats 8000000 in
theorem wf0_1 {cs : Nat → ClassId} {ad : Nat → Nat} {g : Nat → va_E} (hX : FrX_1 cs ad g) : ∀ i, 20 ≤ i → i < 40 → okE ad cs (shp ad K0 i) (g i) := by
  obtain ⟨h20, h21, h22, h23, h24, h25, h26, h27, h28, h29, h30, h31, h32, h33, h34, h35, h36, h37, h38, h39⟩ := hX
  intro i hi1 hi2
  rcases (by omega : i = 20 ∨ i = 21 ∨ i = 22 ∨ i = 23 ∨ i = 24 ∨ i = 25 ∨ i = 26 ∨ i = 27 ∨ i = 28 ∨ i = 29 ∨ i = 30 ∨ i = 31 ∨ i = 32 ∨ i = 33 ∨ i = 34 ∨ i = 35 ∨ i = 36 ∨ i = 37 ∨ i = 38 ∨ i = 39) with rfl | rfl | rfl | rfl | rfl | rfl | rfl | rfl | rfl | rfl | rfl | rfl | rfl | rfl | rfl | rfl | rfl | rfl | rfl | rfl
  · rw [sh_20 ad K0, h20]
    exact ⟨_, rfl, _, rfl, fun j => trivial⟩
  · rw [sh_21 ad K0, h21]
    exact ⟨_, rfl, _, rfl, fun j => trivial⟩
  · rw [sh_22 ad K0, h22]
    exact ⟨_, rfl, _, rfl, fun j => trivial⟩
  · rw [sh_23 ad K0, h23]
    exact ⟨_, rfl, (okO.cons ⟨0, rfl, by decide, by decide⟩ (okO.cons ⟨0, rfl, by decide, by decide⟩ (okO.cons ⟨0, rfl, by decide, by decide⟩ (okO.cons ⟨0, rfl, by decide, by decide⟩ (okO.cons ⟨0, rfl, by decide, by decide⟩ (okO.cons ⟨0, rfl, by decide, by decide⟩ (okO.cons ⟨0, rfl, by decide, by decide⟩ (okO.cons ⟨0, rfl, by decide, by decide⟩ (okO.cons rfl (okO.cons rfl (okO.cons rfl (okO.cons rfl (okO.cons rfl (okO.cons rfl (okO.cons rfl (okO.cons rfl (okO.cons rfl (okO.cons rfl okO.nil))))))))))))))))))⟩
  · rw [sh_24 ad K0, h24]
    exact ⟨_, rfl, _, rfl, fun j => trivial⟩
  · rw [sh_25 ad K0, h25]
    exact ⟨_, rfl, _, rfl, fun j => trivial⟩
  · rw [sh_26 ad K0, h26]
    exact ⟨_, rfl, _, rfl, fun j => trivial⟩
  · rw [sh_27 ad K0, h27]
    exact ⟨_, rfl, _, rfl, fun j => ⟨by decide, by decide⟩⟩
  · rw [sh_28 ad K0, h28]
    exact ⟨_, rfl, _, rfl, fun j => trivial⟩
  · rw [sh_29 ad K0, h29]
    exact ⟨_, rfl, _, rfl, fun j => trivial⟩
  · rw [sh_30 ad K0, h30]
    exact ⟨_, rfl, _, rfl, fun j => trivial⟩
  · rw [sh_31 ad K0, h31]
    exact ⟨_, rfl, _, rfl, fun j => trivial⟩
  · rw [sh_32 ad K0, h32]
    exact ⟨_, rfl, _, rfl, fun j => trivial⟩
  · rw [sh_33 ad K0, h33]
    exact ⟨_, rfl, (okO.cons ⟨0, rfl, by decide, by decide⟩ (okO.cons rfl (okO.cons rfl (okO.cons rfl (okO.cons rfl okO.nil)))))⟩
  · rw [sh_34 ad K0, h34]
    exact ⟨_, rfl, _, rfl, fun j => ⟨by decide, by decide⟩⟩
  · rw [sh_35 ad K0, h35]
    exact ⟨_, rfl, _, rfl, fun j => ⟨by decide, by decide⟩⟩
  · obtain ⟨f, hf, r0, r1, r2, r3, r4⟩ := h36
    rw [sh_36 ad K0, hf]
    refine ⟨_, rfl, _, rfl, fun j hj => ?_⟩
    rcases (by omega : j = 0 ∨ j = 1 ∨ j = 2 ∨ j = 3 ∨ j = 4) with rfl | rfl | rfl | rfl | rfl
    · exact r0
    · exact r1
    · exact r2
    · exact r3
    · exact r4
  · rw [sh_37 ad K0, h37]
    exact ⟨_, rfl, _, rfl, fun j => trivial⟩
  · rw [sh_38 ad K0, h38]
    exact ⟨_, rfl, _, rfl, fun j => trivial⟩
  · rw [sh_39 ad K0, h39]
    exact ⟨_, rfl, _, rfl, fun j => trivial⟩
set_option maxRecDepth 100000 in
set_option maxHeartbeats 8000000 in
theorem wf0_2 {cs : Nat → ClassId} {ad : Nat → Nat} {g : Nat → va_E} (hX : FrX_2 cs ad g) : ∀ i, 40 ≤ i → i < 60 → okE ad cs (shp ad K0 i) (g i) := by
  obtain ⟨h40, h41, h42, h43, h44, h45, h46, h47, h48, h49, h50, h51, h52, h53, h54, h55, h56, h57, h58, h59⟩ := hX
  intro i hi1 hi2
  rcases (by omega : i = 40 ∨ i = 41 ∨ i = 42 ∨ i = 43 ∨ i = 44 ∨ i = 45 ∨ i = 46 ∨ i = 47 ∨ i = 48 ∨ i = 49 ∨ i = 50 ∨ i = 51 ∨ i = 52 ∨ i = 53 ∨ i = 54 ∨ i = 55 ∨ i = 56 ∨ i = 57 ∨ i = 58 ∨ i = 59) with rfl | rfl | rfl | rfl | rfl | rfl | rfl | rfl | rfl | rfl | rfl | rfl | rfl | rfl | rfl | rfl | rfl | rfl | rfl | rfl
  · rw [sh_40 ad K0, h40]
    exact ⟨_, rfl, _, rfl, fun j => trivial⟩
  · rw [sh_41 ad K0, h41]
    exact ⟨_, rfl, _, rfl, fun j => trivial⟩
  · rw [sh_42 ad K0, h42]
    exact ⟨_, rfl, _, rfl, fun j => trivial⟩
  · rw [sh_43 ad K0, h43]
    exact ⟨_, rfl, _, rfl, fun j hj => by rcases (by omega : j = 0 ∨ j = 1 ∨ j = 2) with rfl | rfl | rfl <;> rfl⟩
  · rw [sh_44 ad K0, h44]
    exact ⟨_, rfl, (okO.cons ⟨0, rfl, by decide, by decide⟩ (okO.cons ⟨0, rfl, by decide, by decide⟩ (okO.cons ⟨0, rfl, by decide, by decide⟩ (okO.cons ⟨0, rfl, by decide, by decide⟩ (okO.cons ⟨0, rfl, by decide, by decide⟩ (okO.cons ⟨0, rfl, by decide, by decide⟩ (okO.cons ⟨0, rfl, by decide, by decide⟩ (okO.cons ⟨0, rfl, by decide, by decide⟩ (okO.cons rfl (okO.cons rfl (okO.cons rfl (okO.cons rfl (okO.cons rfl (okO.cons rfl (okO.cons rfl (okO.cons rfl (okO.cons rfl (okO.cons rfl okO.nil))))))))))))))))))⟩
  · rw [sh_45 ad K0, h45]
    exact ⟨_, rfl, _, rfl, fun j => trivial⟩
  · rw [sh_46 ad K0, h46]
    exact ⟨_, rfl, _, rfl, fun j => trivial⟩
  · rw [sh_47 ad K0, h47]
    exact ⟨_, rfl, _, rfl, fun j => trivial⟩
  · rw [sh_48 ad K0, h48]
    exact ⟨_, rfl, _, rfl, fun j => ⟨by decide, by decide⟩⟩
  · rw [sh_49 ad K0, h49]
    exact ⟨_, rfl, _, rfl, fun j => trivial⟩
  · rw [sh_50 ad K0, h50]
    exact ⟨_, rfl, _, rfl, fun j => trivial⟩
  · rw [sh_51 ad K0, h51]
    exact ⟨_, rfl, _, rfl, fun j => trivial⟩
  · rw [sh_52 ad K0, h52]
    exact ⟨_, rfl, _, rfl, fun j => trivial⟩
  · rw [sh_53 ad K0, h53]
    exact ⟨_, rfl, _, rfl, fun j => trivial⟩
  · rw [sh_54 ad K0, h54]
    exact ⟨_, rfl, (okO.cons ⟨0, rfl, by decide, by decide⟩ (okO.cons rfl (okO.cons rfl (okO.cons rfl (okO.cons rfl okO.nil)))))⟩
  · rw [sh_55 ad K0, h55]
    exact ⟨_, rfl, _, rfl, fun j => ⟨by decide, by decide⟩⟩
  · rw [sh_56 ad K0, h56]
    exact ⟨_, rfl, _, rfl, fun j => ⟨by decide, by decide⟩⟩
  · obtain ⟨f, hf, r0, r1, r2, r3, r4⟩ := h57
    rw [sh_57 ad K0, hf]
    refine ⟨_, rfl, _, rfl, fun j hj => ?_⟩
    rcases (by omega : j = 0 ∨ j = 1 ∨ j = 2 ∨ j = 3 ∨ j = 4) with rfl | rfl | rfl | rfl | rfl
    · exact r0
    · exact r1
    · exact r2
    · exact r3
    · exact r4
  · rw [sh_58 ad K0, h58]
    exact ⟨_, rfl, _, rfl, fun j => trivial⟩
  · rw [sh_59 ad K0, h59]
    exact ⟨_, rfl, _, rfl, fun j => trivial⟩
set_option maxRecDepth 100000 in
set_option maxHeartbeats 8000000 in
theorem wf0_3 {cs : Nat → ClassId} {ad : Nat → Nat} {g : Nat → va_E} (hX : FrX_3 cs ad g) : ∀ i, 60 ≤ i → i < 80 → okE ad cs (shp ad K0 i) (g i) := by
  obtain ⟨h60, h61, h62, h63, h64, h65, h66, h67, h68, h69, h70, h71, h72, h73, h74, h75, h76, h77, h78, h79⟩ := hX
  intro i hi1 hi2
  rcases (by omega : i = 60 ∨ i = 61 ∨ i = 62 ∨ i = 63 ∨ i = 64 ∨ i = 65 ∨ i = 66 ∨ i = 67 ∨ i = 68 ∨ i = 69 ∨ i = 70 ∨ i = 71 ∨ i = 72 ∨ i = 73 ∨ i = 74 ∨ i = 75 ∨ i = 76 ∨ i = 77 ∨ i = 78 ∨ i = 79) with rfl | rfl | rfl | rfl | rfl | rfl | rfl | rfl | rfl | rfl | rfl | rfl | rfl | rfl | rfl | rfl | rfl | rfl | rfl | rfl
  · rw [sh_60 ad K0, h60]
    exact ⟨_, rfl, _, rfl, fun j => trivial⟩
  · rw [sh_61 ad K0, h61]
    exact ⟨_, rfl, _, rfl, fun j => trivial⟩
  · rw [sh_62 ad K0, h62]
    exact ⟨_, rfl, _, rfl, fun j => trivial⟩
  · rw [sh_63 ad K0, h63]
    exact ⟨_, rfl, _, rfl, fun j => trivial⟩
  · rw [sh_64 ad K0, h64]
    exact ⟨_, rfl, (okO.cons ⟨0, rfl, by decide, by decide⟩ (okO.cons ⟨0, rfl, by decide, by decide⟩ (okO.cons ⟨0, rfl, by decide, by decide⟩ (okO.cons ⟨0, rfl, by decide, by decide⟩ (okO.cons ⟨0, rfl, by decide, by decide⟩ (okO.cons ⟨0, rfl, by decide, by decide⟩ (okO.cons ⟨0, rfl, by decide, by decide⟩ (okO.cons ⟨0, rfl, by decide, by decide⟩ (okO.cons rfl (okO.cons rfl (okO.cons rfl (okO.cons rfl (okO.cons rfl (okO.cons rfl (okO.cons rfl (okO.cons rfl (okO.cons rfl (okO.cons rfl okO.nil))))))))))))))))))⟩
  · rw [sh_65 ad K0, h65]
    exact ⟨_, rfl, _, rfl, fun j => trivial⟩
  · rw [sh_66 ad K0, h66]
    exact ⟨_, rfl, _, rfl, fun j => trivial⟩
  · rw [sh_67 ad K0, h67]
    exact ⟨_, rfl, _, rfl, fun j => trivial⟩
  · rw [sh_68 ad K0, h68]
    exact ⟨_, rfl, _, rfl, fun j => ⟨by decide, by decide⟩⟩
  · rw [sh_69 ad K0, h69]
    exact ⟨_, rfl, _, rfl, fun j => trivial⟩
  · rw [sh_70 ad K0, h70]
    exact ⟨_, rfl, _, rfl, fun j => trivial⟩
  · rw [sh_71 ad K0, h71]
    exact ⟨_, rfl, _, rfl, fun j => trivial⟩
  · rw [sh_72 ad K0, h72]
    exact ⟨_, rfl, _, rfl, fun j => trivial⟩
  · rw [sh_73 ad K0, h73]
    exact ⟨_, rfl, _, rfl, fun j => trivial⟩
  · rw [sh_74 ad K0, h74]
    exact ⟨_, rfl, (okO.cons ⟨0, rfl, by decide, by decide⟩ (okO.cons rfl (okO.cons rfl (okO.cons rfl (okO.cons rfl okO.nil)))))⟩
  · rw [sh_75 ad K0, h75]
    exact ⟨_, rfl, _, rfl, fun j => ⟨by decide, by decide⟩⟩
  · rw [sh_76 ad K0, h76]
    exact ⟨_, rfl, _, rfl, fun j => ⟨by decide, by decide⟩⟩
  · obtain ⟨f, hf, r0, r1, r2, r3, r4⟩ := h77
    rw [sh_77 ad K0, hf]
    refine ⟨_, rfl, _, rfl, fun j hj => ?_⟩
    rcases (by omega : j = 0 ∨ j = 1 ∨ j = 2 ∨ j = 3 ∨ j = 4) with rfl | rfl | rfl | rfl | rfl
    · exact r0
    · exact r1
    · exact r2
    · exact r3
    · exact r4
  · rw [sh_78 ad K0, h78]
    exact ⟨_, rfl, _, rfl, fun j => trivial⟩
  · rw [sh_79 ad K0, h79]
    exact ⟨_, rfl, _, rfl, fun j => trivial⟩
set_option maxRecDepth 100000 in
set_option maxHeartbeats 8000000 in
theorem wf0_4 {cs : Nat → ClassId} {ad : Nat → Nat} {g : Nat → va_E} (hX : FrX_4 cs ad g) : ∀ i, 80 ≤ i → i < 100 → okE ad cs (shp ad K0 i) (g i) := by
  obtain ⟨h80, h81, h82, h83, h84, h85, h86, h87, h88, h89, h90, h91, h92, h93, h94, h95, h96, h97, h98, h99⟩ := hX
  intro i hi1 hi2
  rcases (by omega : i = 80 ∨ i = 81 ∨ i = 82 ∨ i = 83 ∨ i = 84 ∨ i = 85 ∨ i = 86 ∨ i = 87 ∨ i = 88 ∨ i = 89 ∨ i = 90 ∨ i = 91 ∨ i = 92 ∨ i = 93 ∨ i = 94 ∨ i = 95 ∨ i = 96 ∨ i = 97 ∨ i = 98 ∨ i = 99) with rfl | rfl | rfl | rfl | rfl | rfl | rfl | rfl | rfl | rfl | rfl | rfl | rfl | rfl | rfl | rfl | rfl | rfl | rfl | rfl
  · rw [sh_80 ad K0, h80]
    exact ⟨_, rfl, _, rfl, fun j => trivial⟩
  · rw [sh_81 ad K0, h81]
    exact ⟨_, rfl, _, rfl, fun j => trivial⟩
  · rw [sh_82 ad K0, h82]
    exact ⟨_, rfl, _, rfl, fun j => trivial⟩
  · rw [sh_83 ad K0, h83]
    exact ⟨_, rfl, _, rfl, fun j => trivial⟩
  · rw [sh_84 ad K0, h84]
    exact ⟨_, rfl, (okO.cons ⟨0, rfl, by decide, by decide⟩ (okO.cons ⟨0, rfl, by decide, by decide⟩ (okO.cons ⟨0, rfl, by decide, by decide⟩ (okO.cons ⟨0, rfl, by decide, by decide⟩ (okO.cons ⟨0, rfl, by decide, by decide⟩ (okO.cons ⟨0, rfl, by decide, by decide⟩ (okO.cons ⟨0, rfl, by decide, by decide⟩ (okO.cons ⟨0, rfl, by decide, by decide⟩ (okO.cons rfl (okO.cons rfl (okO.cons rfl (okO.cons rfl (okO.cons rfl (okO.cons rfl (okO.cons rfl (okO.cons rfl (okO.cons rfl (okO.cons rfl okO.nil))))))))))))))))))⟩
  · rw [sh_85 ad K0, h85]
    exact ⟨_, rfl, _, rfl, fun j => trivial⟩
  · rw [sh_86 ad K0, h86]
    exact ⟨_, rfl, _, rfl, fun j => trivial⟩
  · rw [sh_87 ad K0, h87]
    exact ⟨_, rfl, _, rfl, fun j => trivial⟩
  · rw [sh_88 ad K0, h88]
    exact ⟨_, rfl, _, rfl, fun j => ⟨by decide, by decide⟩⟩
  · rw [sh_89 ad K0, h89]
    exact ⟨_, rfl, _, rfl, fun j => trivial⟩
  · rw [sh_90 ad K0, h90]
    exact ⟨_, rfl, _, rfl, fun j => trivial⟩
  · rw [sh_91 ad K0, h91]
    exact ⟨_, rfl, _, rfl, fun j => trivial⟩
  · rw [sh_92 ad K0, h92]
    exact ⟨_, rfl, _, rfl, fun j => trivial⟩
  · rw [sh_93 ad K0, h93]
    exact ⟨_, rfl, _, rfl, fun j => trivial⟩
  · rw [sh_94 ad K0, h94]
    exact ⟨_, rfl, (okO.cons ⟨0, rfl, by decide, by decide⟩ (okO.cons rfl (okO.cons rfl (okO.cons rfl (okO.cons rfl okO.nil)))))⟩
  · rw [sh_95 ad K0, h95]
    exact ⟨_, rfl, _, rfl, fun j => ⟨by decide, by decide⟩⟩
  · rw [sh_96 ad K0, h96]
    exact ⟨_, rfl, _, rfl, fun j => ⟨by decide, by decide⟩⟩
  · obtain ⟨f, hf, r0, r1, r2, r3, r4⟩ := h97
    rw [sh_97 ad K0, hf]
    refine ⟨_, rfl, _, rfl, fun j hj => ?_⟩
    rcases (by omega : j = 0 ∨ j = 1 ∨ j = 2 ∨ j = 3 ∨ j = 4) with rfl | rfl | rfl | rfl | rfl
    · exact r0
    · exact r1
    · exact r2
    · exact r3
    · exact r4
  · rw [sh_98 ad K0, h98]
    exact ⟨_, rfl, _, rfl, fun j => trivial⟩
  · rw [sh_99 ad K0, h99]
    exact ⟨_, rfl, _, rfl, fun j => trivial⟩
set_option maxRecDepth 100000 in
set_option maxHeartbeats 8000000 in
theorem wf0_5 {cs : Nat → ClassId} {ad : Nat → Nat} {g : Nat → va_E} (hX : FrX_5 cs ad g) : ∀ i, 100 ≤ i → i < 120 → okE ad cs (shp ad K0 i) (g i) := by
  obtain ⟨h100, h101, h102, h103, h104, h105, h106, h107, h108, h109, h110, h111, h112, h113, h114, h115, h116, h117, h118, h119⟩ := hX
  intro i hi1 hi2
  rcases (by omega : i = 100 ∨ i = 101 ∨ i = 102 ∨ i = 103 ∨ i = 104 ∨ i = 105 ∨ i = 106 ∨ i = 107 ∨ i = 108 ∨ i = 109 ∨ i = 110 ∨ i = 111 ∨ i = 112 ∨ i = 113 ∨ i = 114 ∨ i = 115 ∨ i = 116 ∨ i = 117 ∨ i = 118 ∨ i = 119) with rfl | rfl | rfl | rfl | rfl | rfl | rfl | rfl | rfl | rfl | rfl | rfl | rfl | rfl | rfl | rfl | rfl | rfl | rfl | rfl
  · rw [sh_100 ad K0, h100]
    exact ⟨_, rfl, _, rfl, fun j => trivial⟩
  · rw [sh_101 ad K0, h101]
    exact ⟨_, rfl, _, rfl, fun j => trivial⟩
  · rw [sh_102 ad K0, h102]
    exact ⟨_, rfl, _, rfl, fun j => trivial⟩
  · rw [sh_103 ad K0, h103]
    exact ⟨_, rfl, _, rfl, fun j => trivial⟩
  · rw [sh_104 ad K0, h104]
    exact ⟨_, rfl, _, rfl, fun j => rfl⟩
  · rw [sh_105 ad K0, h105]
    exact ⟨_, rfl, _, rfl, fun j hj => by rcases (by omega : j = 0 ∨ j = 1 ∨ j = 2 ∨ j = 3) with rfl | rfl | rfl | rfl <;> rfl⟩
  · rw [sh_106 ad K0, h106]
    exact ⟨_, rfl, (okO.cons rfl (okO.cons ⟨0, rfl, by decide, by decide⟩ (okO.cons ⟨0, rfl, by decide, by decide⟩ (okO.cons ⟨0, rfl, by decide, by decide⟩ okO.nil))))⟩
  · rw [sh_107 ad K0, h107]
    exact ⟨_, rfl, _, rfl, fun _ => trivial⟩
  · rw [sh_108 ad K0, h108]
    exact ⟨_, rfl, (okO.cons rfl (okO.cons ⟨0, rfl, by decide, by decide⟩ (okO.cons ⟨0, rfl, by decide, by decide⟩ (okO.cons ⟨0, rfl, by decide, by decide⟩ okO.nil))))⟩
  · rw [sh_109 ad K0, h109]
    exact ⟨_, rfl, _, rfl, fun _ => trivial⟩
  · rw [sh_110 ad K0, h110]
    exact ⟨_, rfl, (okO.cons rfl (okO.cons ⟨0, rfl, by decide, by decide⟩ (okO.cons ⟨0, rfl, by decide, by decide⟩ (okO.cons ⟨0, rfl, by decide, by decide⟩ okO.nil))))⟩
  · rw [sh_111 ad K0, h111]
    exact ⟨_, rfl, _, rfl, fun _ => trivial⟩
  · rw [sh_112 ad K0, h112]
    exact ⟨_, rfl, (okO.cons rfl (okO.cons ⟨0, rfl, by decide, by decide⟩ (okO.cons ⟨0, rfl, by decide, by decide⟩ (okO.cons ⟨0, rfl, by decide, by decide⟩ okO.nil))))⟩
  · rw [sh_113 ad K0, h113]
    exact ⟨_, rfl, _, rfl, fun _ => trivial⟩
  · rw [sh_114 ad K0, h114]
    exact ⟨_, rfl, (okO.cons ⟨0, rfl, by decide, by decide⟩ (okO.cons ⟨(-1), rfl, by decide, by decide⟩ (okO.cons ⟨(-1), rfl, by decide, by decide⟩ (okO.cons rfl okO.nil))))⟩
  · rw [sh_115 ad K0, h115]
    exact ⟨_, rfl, _, rfl, fun j => ⟨by decide, by decide⟩⟩
  · rw [sh_116 ad K0, h116]
    exact ⟨_, rfl, (okO.cons ⟨0, rfl, by decide, by decide⟩ (okO.cons ⟨(-1), rfl, by decide, by decide⟩ (okO.cons ⟨(-1), rfl, by decide, by decide⟩ (okO.cons rfl okO.nil))))⟩
  · rw [sh_117 ad K0, h117]
    exact ⟨_, rfl, _, rfl, fun j => ⟨by decide, by decide⟩⟩
  · rw [sh_118 ad K0, h118]
    exact ⟨_, rfl, (okO.cons rfl (okO.cons ⟨0, rfl, by decide, by decide⟩ okO.nil))⟩
  · rw [sh_119 ad K0, h119]
    exact ⟨_, rfl, _, rfl, fun j => trivial⟩
set_option maxRecDepth 100000 in
set_option maxHeartbeats 8000000 in
theorem wf0_6 {cs : Nat → ClassId} {ad : Nat → Nat} {g : Nat → va_E} (hX : FrX_6 cs ad g) : ∀ i, 120 ≤ i → i < 140 → okE ad cs (shp ad K0 i) (g i) := by
  obtain ⟨h120, h121, h122, h123, h124, h125, h126, h127, h128, h129, h130, h131, h132, h133, h134, h135, h136, h137, h138, h139⟩ := hX
  intro i hi1 hi2
  rcases (by omega : i = 120 ∨ i = 121 ∨ i = 122 ∨ i = 123 ∨ i = 124 ∨ i = 125 ∨ i = 126 ∨ i = 127 ∨ i = 128 ∨ i = 129 ∨ i = 130 ∨ i = 131 ∨ i = 132 ∨ i = 133 ∨ i = 134 ∨ i = 135 ∨ i = 136 ∨ i = 137 ∨ i = 138 ∨ i = 139) with rfl | rfl | rfl | rfl | rfl | rfl | rfl | rfl | rfl | rfl | rfl | rfl | rfl | rfl | rfl | rfl | rfl | rfl | rfl | rfl
  · rw [sh_120 ad K0, h120]
    exact ⟨_, rfl, (okO.cons ⟨0, rfl, by decide, by decide⟩ (okO.cons ⟨0, rfl, by decide, by decide⟩ (okO.cons rfl okO.nil)))⟩
  · obtain ⟨f, hf, r0, r1, r2, r3, r4, r5, r6, r7⟩ := h121
    rw [sh_121 ad K0, hf]
    refine ⟨_, rfl, _, rfl, fun j hj => ?_⟩
    rcases (by omega : j = 0 ∨ j = 1 ∨ j = 2 ∨ j = 3 ∨ j = 4 ∨ j = 5 ∨ j = 6 ∨ j = 7) with rfl | rfl | rfl | rfl | rfl | rfl | rfl | rfl
    · exact r0
    · exact r1
    · exact r2
    · exact r3
    · exact r4
    · exact r5
    · exact r6
    · exact r7
  · rw [sh_122 ad K0, h122]
    exact ⟨_, rfl, _, rfl, fun j => trivial⟩
  · rw [sh_123 ad K0, h123]
    exact ⟨_, rfl, _, rfl, fun j => trivial⟩
  · rw [sh_124 ad K0, h124]
    exact ⟨_, rfl, _, rfl, fun j => trivial⟩
  · rw [sh_125 ad K0, h125]
    exact ⟨_, rfl, _, rfl, fun j => trivial⟩
  · rw [sh_126 ad K0, h126]
    exact ⟨_, rfl, _, rfl, fun j => trivial⟩
  · rw [sh_127 ad K0, h127]
    exact ⟨_, rfl, _, rfl, fun j => trivial⟩
  · rw [sh_128 ad K0, h128]
    exact ⟨_, rfl, _, rfl, fun j => trivial⟩
  · rw [sh_129 ad K0, h129]
    exact ⟨_, rfl, _, rfl, fun j => trivial⟩
  · rw [sh_130 ad K0, h130]
    exact ⟨_, rfl, (okO.cons rfl (okO.cons rfl (okO.cons rfl (okO.cons ⟨0, rfl, by decide, by decide⟩ okO.nil))))⟩
  · rw [sh_131 ad K0, h131]
    exact ⟨_, rfl, _, rfl, fun j => trivial⟩
  · rw [sh_132 ad K0, h132]
    exact ⟨_, rfl, _, rfl, fun j => trivial⟩
  · obtain ⟨f, hf, r0, r1, r2, r3, r4, r5⟩ := h133
    rw [sh_133 ad K0, hf]
    refine ⟨_, rfl, _, rfl, fun j hj => ?_⟩
    rcases (by omega : j = 0 ∨ j = 1 ∨ j = 2 ∨ j = 3 ∨ j = 4 ∨ j = 5) with rfl | rfl | rfl | rfl | rfl | rfl
    · exact r0
    · exact r1
    · exact r2
    · exact r3
    · exact r4
    · exact r5
  · rw [sh_134 ad K0, h134]
    exact ⟨_, rfl, _, rfl, fun j => trivial⟩
  · rw [sh_135 ad K0, h135]
    exact ⟨_, rfl, _, rfl, fun j => trivial⟩
  · rw [sh_136 ad K0, h136]
    exact ⟨_, rfl, _, rfl, fun j => trivial⟩
  · rw [sh_137 ad K0, h137]
    exact ⟨_, rfl, _, rfl, fun j => trivial⟩
  · rw [sh_138 ad K0, h138]
    exact ⟨_, rfl, _, rfl, fun j => trivial⟩
  · rw [sh_139 ad K0, h139]
    exact ⟨_, rfl, _, rfl, fun j => trivial⟩
set_option maxRecDepth 100000 in
set_option maxHeartbeats 8000000 in
theorem wf0_7 {cs : Nat → ClassId} {ad : Nat → Nat} {g : Nat → va_E} (hX : FrX_7 cs ad g) : ∀ i, 140 ≤ i → i < 160 → okE ad cs (shp ad K0 i) (g i) := by
  obtain ⟨h140, h141, h142, h143, h144, h145, h146, h147, h148, h149, h150, h151, h152, h153, h154, h155, h156, h157, h158, h159⟩ := hX
  intro i hi1 hi2
  rcases (by omega : i = 140 ∨ i = 141 ∨ i = 142 ∨ i = 143 ∨ i = 144 ∨ i = 145 ∨ i = 146 ∨ i = 147 ∨ i = 148 ∨ i = 149 ∨ i = 150 ∨ i = 151 ∨ i = 152 ∨ i = 153 ∨ i = 154 ∨ i = 155 ∨ i = 156 ∨ i = 157 ∨ i = 158 ∨ i = 159) with rfl | rfl | rfl | rfl | rfl | rfl | rfl | rfl | rfl | rfl | rfl | rfl | rfl | rfl | rfl | rfl | rfl | rfl | rfl | rfl
  · rw [sh_140 ad K0, h140]
    exact ⟨_, rfl, (okO.cons rfl (okO.cons rfl (okO.cons rfl (okO.cons ⟨0, rfl, by decide, by decide⟩ okO.nil))))⟩
  · rw [sh_141 ad K0, h141]
    exact ⟨_, rfl, _, rfl, fun _ => trivial⟩
  · rw [sh_142 ad K0, h142]
    exact ⟨_, rfl, _, rfl, fun _ => trivial⟩
  · rw [sh_143 ad K0, h143]
    exact ⟨_, rfl, _, rfl, fun _ => trivial⟩
  · rw [sh_144 ad K0, h144]
    exact ⟨_, rfl, (okO.cons ⟨0, rfl, by decide, by decide⟩ (okO.cons rfl (okO.cons rfl (okO.cons rfl (okO.cons ⟨0, rfl, by decide, by decide⟩ (okO.cons ⟨0, rfl, by decide, by decide⟩ okO.nil))))))⟩
  · obtain ⟨f, hf, r0, r1, r2, r3, r4, r5, r6, r7, r8, r9, r10, r11, r12, r13⟩ := h145
    rw [sh_145 ad K0, hf]
    refine ⟨_, rfl, _, rfl, fun j hj => ?_⟩
    rcases (by omega : j = 0 ∨ j = 1 ∨ j = 2 ∨ j = 3 ∨ j = 4 ∨ j = 5 ∨ j = 6 ∨ j = 7 ∨ j = 8 ∨ j = 9 ∨ j = 10 ∨ j = 11 ∨ j = 12 ∨ j = 13) with rfl | rfl | rfl | rfl | rfl | rfl | rfl | rfl | rfl | rfl | rfl | rfl | rfl | rfl
    · exact r0
    · exact r1
    · exact r2
    · exact r3
    · exact r4
    · exact r5
    · exact r6
    · exact r7
    · exact r8
    · exact r9
    · exact r10
    · exact r11
    · exact r12
    · exact r13
  · rw [sh_146 ad K0, h146]
    exact ⟨_, rfl, _, rfl, fun j => trivial⟩
  · rw [sh_147 ad K0, h147]
    exact ⟨_, rfl, _, rfl, fun j => trivial⟩
  · rw [sh_148 ad K0, h148]
    exact ⟨_, rfl, _, rfl, fun j => trivial⟩
  · rw [sh_149 ad K0, h149]
    exact ⟨_, rfl, _, rfl, fun j => trivial⟩
  · rw [sh_150 ad K0, h150]
    exact ⟨_, rfl, _, rfl, fun j => trivial⟩
  · rw [sh_151 ad K0, h151]
    exact ⟨_, rfl, _, rfl, fun j => trivial⟩
  · rw [sh_152 ad K0, h152]
    exact ⟨_, rfl, _, rfl, fun j => trivial⟩
  · rw [sh_153 ad K0, h153]
    exact ⟨_, rfl, _, rfl, fun j => trivial⟩
  · rw [sh_154 ad K0, h154]
    exact ⟨_, rfl, _, rfl, fun j => trivial⟩
  · rw [sh_155 ad K0, h155]
    exact ⟨_, rfl, _, rfl, fun j => trivial⟩
  · rw [sh_156 ad K0, h156]
    exact ⟨_, rfl, _, rfl, fun j => trivial⟩
  · rw [sh_157 ad K0, h157]
    exact ⟨_, rfl, _, rfl, fun j => trivial⟩
  · rw [sh_158 ad K0, h158]
    exact ⟨_, rfl, _, rfl, fun j => trivial⟩
  · rw [sh_159 ad K0, h159]
    exact ⟨_, rfl, _, rfl, fun j => trivial⟩
set_option maxRecDepth 100000 in
set_option maxHeartbeats 8000000 in
theorem wf0_8 {cs : Nat → ClassId} {ad : Nat → Nat} {g : Nat → va_E} (hX : FrX_8 cs ad g) : ∀ i, 160 ≤ i → i < 180 → okE ad cs (shp ad K0 i) (g i) := by
  obtain ⟨h160, h161, h162, h163, h164, h165, h166, h167, h168, h169, h170, h171, h172, h173, h174, h175, h176, h177, h178, h179⟩ := hX
  intro i hi1 hi2
  rcases (by omega : i = 160 ∨ i = 161 ∨ i = 162 ∨ i = 163 ∨ i = 164 ∨ i = 165 ∨ i = 166 ∨ i = 167 ∨ i = 168 ∨ i = 169 ∨ i = 170 ∨ i = 171 ∨ i = 172 ∨ i = 173 ∨ i = 174 ∨ i = 175 ∨ i = 176 ∨ i = 177 ∨ i = 178 ∨ i = 179) with rfl | rfl | rfl | rfl | rfl | rfl | rfl | rfl | rfl | rfl | rfl | rfl | rfl | rfl | rfl | rfl | rfl | rfl | rfl | rfl
  · obtain ⟨f, hf, r0, r1, r2, r3, r4, r5, r6, r7, r8, r9, r10, r11, r12, r13⟩ := h160
    rw [sh_160 ad K0, hf]
    refine ⟨_, rfl, _, rfl, fun j hj => ?_⟩
    rcases (by omega : j = 0 ∨ j = 1 ∨ j = 2 ∨ j = 3 ∨ j = 4 ∨ j = 5 ∨ j = 6 ∨ j = 7 ∨ j = 8 ∨ j = 9 ∨ j = 10 ∨ j = 11 ∨ j = 12 ∨ j = 13) with rfl | rfl | rfl | rfl | rfl | rfl | rfl | rfl | rfl | rfl | rfl | rfl | rfl | rfl
    · exact r0
    · exact r1
    · exact r2
    · exact r3
    · exact r4
    · exact r5
    · exact r6
    · exact r7
    · exact r8
    · exact r9
    · exact r10
    · exact r11
    · exact r12
    · exact r13
  · rw [sh_161 ad K0, h161]
    exact ⟨_, rfl, _, rfl, fun j => trivial⟩
  · rw [sh_162 ad K0, h162]
    exact ⟨_, rfl, _, rfl, fun j => trivial⟩
  · rw [sh_163 ad K0, h163]
    exact ⟨_, rfl, _, rfl, fun j => trivial⟩
  · rw [sh_164 ad K0, h164]
    exact ⟨_, rfl, _, rfl, fun j => trivial⟩
  · rw [sh_165 ad K0, h165]
    exact ⟨_, rfl, _, rfl, fun j => trivial⟩
  · rw [sh_166 ad K0, h166]
    exact ⟨_, rfl, _, rfl, fun j => trivial⟩
  · rw [sh_167 ad K0, h167]
    exact ⟨_, rfl, _, rfl, fun j => trivial⟩
  · rw [sh_168 ad K0, h168]
    exact ⟨_, rfl, _, rfl, fun j => trivial⟩
  · rw [sh_169 ad K0, h169]
    exact ⟨_, rfl, _, rfl, fun j => trivial⟩
  · rw [sh_170 ad K0, h170]
    exact ⟨_, rfl, _, rfl, fun j => trivial⟩
  · rw [sh_171 ad K0, h171]
    exact ⟨_, rfl, _, rfl, fun j => trivial⟩
  · rw [sh_172 ad K0, h172]
    exact ⟨_, rfl, _, rfl, fun j => trivial⟩
  · rw [sh_173 ad K0, h173]
    exact ⟨_, rfl, _, rfl, fun j => trivial⟩
  · rw [sh_174 ad K0, h174]
    exact ⟨_, rfl, _, rfl, fun j => trivial⟩
  · obtain ⟨f, hf, r0, r1, r2, r3, r4, r5, r6, r7, r8, r9, r10, r11, r12, r13⟩ := h175
    rw [sh_175 ad K0, hf]
    refine ⟨_, rfl, _, rfl, fun j hj => ?_⟩
    rcases (by omega : j = 0 ∨ j = 1 ∨ j = 2 ∨ j = 3 ∨ j = 4 ∨ j = 5 ∨ j = 6 ∨ j = 7 ∨ j = 8 ∨ j = 9 ∨ j = 10 ∨ j = 11 ∨ j = 12 ∨ j = 13) with rfl | rfl | rfl | rfl | rfl | rfl | rfl | rfl | rfl | rfl | rfl | rfl | rfl | rfl
    · exact r0
    · exact r1
    · exact r2
    · exact r3
    · exact r4
    · exact r5
    · exact r6
    · exact r7
    · exact r8
    · exact r9
    · exact r10
    · exact r11
    · exact r12
    · exact r13
  · rw [sh_176 ad K0, h176]
    exact ⟨_, rfl, _, rfl, fun j => trivial⟩
  · rw [sh_177 ad K0, h177]
    exact ⟨_, rfl, _, rfl, fun j => trivial⟩
  · rw [sh_178 ad K0, h178]
    exact ⟨_, rfl, _, rfl, fun j => trivial⟩
  · rw [sh_179 ad K0, h179]
    exact ⟨_, rfl, _, rfl, fun j => trivial⟩
set_option maxRecDepth 100000 in
set_option maxHeartbeats 8000000 in
theorem wf0_9 {cs : Nat → ClassId} {ad : Nat → Nat} {g : Nat → va_E} (hX : FrX_9 cs ad g) (hM : FrM cs ad g) : ∀ i, 180 ≤ i → i < 200 → okE ad cs (shp ad K0 i) (g i) := by
  obtain ⟨h180, h181, h182, h183, h184, h185, h186, h187, h188, h189, h190, h191, h192, h193, h194, h195, h196⟩ := hX
  obtain ⟨h197, h198, h199, -, -, -, -, -, -, -, -, -, -, -, -, -, -, -, -, -, -⟩ := hM
  intro i hi1 hi2
  rcases (by omega : i = 180 ∨ i = 181 ∨ i = 182 ∨ i = 183 ∨ i = 184 ∨ i = 185 ∨ i = 186 ∨ i = 187 ∨ i = 188 ∨ i = 189 ∨ i = 190 ∨ i = 191 ∨ i = 192 ∨ i = 193 ∨ i = 194 ∨ i = 195 ∨ i = 196 ∨ i = 197 ∨ i = 198 ∨ i = 199) with rfl | rfl | rfl | rfl | rfl | rfl | rfl | rfl | rfl | rfl | rfl | rfl | rfl | rfl | rfl | rfl | rfl | rfl | rfl | rfl
  · rw [sh_180 ad K0, h180]
    exact ⟨_, rfl, _, rfl, fun j => trivial⟩
  · rw [sh_181 ad K0, h181]
    exact ⟨_, rfl, _, rfl, fun j => trivial⟩
  · rw [sh_182 ad K0, h182]
    exact ⟨_, rfl, _, rfl, fun j => trivial⟩
  · rw [sh_183 ad K0, h183]
    exact ⟨_, rfl, _, rfl, fun j => trivial⟩
  · rw [sh_184 ad K0, h184]
    exact ⟨_, rfl, _, rfl, fun j => trivial⟩
  · rw [sh_185 ad K0, h185]
    exact ⟨_, rfl, _, rfl, fun j => trivial⟩
  · rw [sh_186 ad K0, h186]
    exact ⟨_, rfl, _, rfl, fun j => trivial⟩
  · rw [sh_187 ad K0, h187]
    exact ⟨_, rfl, _, rfl, fun j => trivial⟩
  · rw [sh_188 ad K0, h188]
    exact ⟨_, rfl, _, rfl, fun j => trivial⟩
  · rw [sh_189 ad K0, h189]
    exact ⟨_, rfl, _, rfl, fun j => trivial⟩
  · rw [sh_190 ad K0, h190]
    exact ⟨_, rfl, (okO.cons ⟨0, rfl, by decide, by decide⟩ (okO.cons ⟨0, rfl, by decide, by decide⟩ (okO.cons rfl okO.nil)))⟩
  · obtain ⟨f, hf, r0, r1, r2, r3, r4⟩ := h191
    rw [sh_191 ad K0, hf]
    refine ⟨_, rfl, _, rfl, fun j hj => ?_⟩
    rcases (by omega : j = 0 ∨ j = 1 ∨ j = 2 ∨ j = 3 ∨ j = 4) with rfl | rfl | rfl | rfl | rfl
    · exact r0
    · exact r1
    · exact r2
    · exact r3
    · exact r4
  · rw [sh_192 ad K0, h192]
    exact ⟨_, rfl, _, rfl, fun j => trivial⟩
  · rw [sh_193 ad K0, h193]
    exact ⟨_, rfl, _, rfl, fun j => trivial⟩
  · rw [sh_194 ad K0, h194]
    exact ⟨_, rfl, _, rfl, fun j => trivial⟩
  · rw [sh_195 ad K0, h195]
    exact ⟨_, rfl, _, rfl, fun j => trivial⟩
  · rw [sh_196 ad K0, h196]
    exact ⟨_, rfl, _, rfl, fun j => trivial⟩
  · rw [sh_197 ad K0, h197]
    exact ⟨_, rfl, (okO.cons ⟨0, rfl, by decide, by decide⟩ (okO.cons rfl (okO.cons rfl (okO.cons rfl (okO.cons rfl (okO.cons ⟨0, rfl, by decide, by decide⟩ (okO.cons rfl (okO.cons ⟨0, rfl, by decide, by decide⟩ (okO.cons ⟨0, rfl, by decide, by decide⟩ (okO.cons ⟨0, rfl, by decide, by decide⟩ (okO.cons ⟨0, rfl, by decide, by decide⟩ (okO.cons ⟨0, rfl, by decide, by decide⟩ (okO.cons ⟨0, rfl, by decide, by decide⟩ (okO.cons ⟨(-1), rfl, by decide, by decide⟩ (okO.cons rfl (okO.cons rfl (okO.cons rfl (okO.cons ⟨0, rfl, by decide, by decide⟩ (okO.cons ⟨0, rfl, by decide, by decide⟩ (okO.cons rfl (okO.cons rfl (okO.cons rfl (okO.cons ⟨0, rfl, by decide, by decide⟩ (okO.cons ⟨0, rfl, by decide, by decide⟩ (okO.cons ⟨0, rfl, by decide, by decide⟩ (okO.cons ⟨0, rfl, by decide, by decide⟩ (okO.cons ⟨0, rfl, by decide, by decide⟩ (okO.cons rfl (okO.cons rfl (okO.cons rfl (okO.cons ⟨0, rfl, by decide, by decide⟩ (okO.cons ⟨0, rfl, by decide, by decide⟩ (okO.cons rfl (okO.cons rfl (okO.cons ⟨0, rfl, by decide, by decide⟩ (okO.cons ⟨0, rfl, by decide, by decide⟩ (okO.cons rfl (okO.cons rfl (okO.cons rfl (okO.cons rfl okO.nil))))))))))))))))))))))))))))))))))))))))⟩
  · rw [sh_198 ad K0, h198]
    exact ⟨_, rfl, _, rfl, fun j => wq0 j⟩
  · rw [sh_199 ad K0, h199]
    exact ⟨_, rfl, _, rfl, fun j => wq0 _⟩
set_option maxRecDepth 100000 in
set_option maxHeartbeats 8000000 in
theorem wf0_10 {cs : Nat → ClassId} {ad : Nat → Nat} {g : Nat → va_E} (hM : FrM cs ad g) : ∀ i, 200 ≤ i → i < 218 → okE ad cs (shp ad K0 i) (g i) := by
  obtain ⟨-, -, -, h200, h201, h202, h203, h204, h205, h206, h207, h208, h209, h210, h211, h212, h213, h214, h215, h216, h217⟩ := hM
  intro i hi1 hi2
  rcases (by omega : i = 200 ∨ i = 201 ∨ i = 202 ∨ i = 203 ∨ i = 204 ∨ i = 205 ∨ i = 206 ∨ i = 207 ∨ i = 208 ∨ i = 209 ∨ i = 210 ∨ i = 211 ∨ i = 212 ∨ i = 213 ∨ i = 214 ∨ i = 215 ∨ i = 216 ∨ i = 217) with rfl | rfl | rfl | rfl | rfl | rfl | rfl | rfl | rfl | rfl | rfl | rfl | rfl | rfl | rfl | rfl | rfl | rfl
  · rw [sh_200 ad K0, h200]
    exact ⟨_, rfl, _, rfl, fun j => rfl⟩
  · rw [sh_201 ad K0, h201]
    exact ⟨_, rfl, _, rfl, fun j => trivial⟩
  · rw [sh_202 ad K0, h202]
    exact ⟨_, rfl, _, rfl, fun j => trivial⟩
  · rw [sh_203 ad K0, h203]
    exact ⟨_, rfl, _, rfl, fun j => wq0 j⟩
  · rw [sh_204 ad K0, h204]
    exact ⟨_, rfl, _, rfl, fun j => trivial⟩
  · rw [sh_205 ad K0, h205]
    exact ⟨_, rfl, _, rfl, fun j => ⟨by decide, by decide⟩⟩
  · rw [sh_206 ad K0, h206]
    exact ⟨_, rfl, _, rfl, fun j => rq0 j⟩
  · rw [sh_207 ad K0, h207]
    exact ⟨_, rfl, _, rfl, fun j => trivial⟩
  · rw [sh_208 ad K0, h208]
    exact ⟨_, rfl, _, rfl, fun j => trivial⟩
  · rw [sh_209 ad K0, h209]
    exact ⟨_, rfl, _, rfl, fun _ => trivial⟩
  · rw [sh_210 ad K0, h210]
    exact ⟨_, rfl, _, rfl, fun _ => trivial⟩
  · rw [sh_211 ad K0, h211]
    exact ⟨_, rfl, _, rfl, fun _ => trivial⟩
  · rw [sh_212 ad K0, h212]
    exact ⟨_, rfl, _, rfl, fun j => sq0 j⟩
  · rw [sh_213 ad K0, h213]
    exact ⟨_, rfl, _, rfl, fun j => trivial⟩
  · rw [sh_214 ad K0, h214]
    exact ⟨_, rfl, _, rfl, fun j => rfl⟩
  · rw [sh_215 ad K0, h215]
    exact ⟨_, rfl, _, rfl, fun j => rfl⟩
  · rw [sh_216 ad K0, h216]
    exact ⟨_, rfl, _, rfl, fun _ => trivial⟩
  · rw [sh_217 ad K0, h217]
    exact ⟨_, rfl, _, rfl, fun _ => trivial⟩
theorem wf0 {cs : Nat → ClassId} {ad : Nat → Nat} {g : Nat → va_E} (hX : FrX cs ad g) (hM : FrM cs ad g) : WF (shp ad K0) ad cs g := fun i hi => by
  obtain ⟨x0, x1, x2, x3, x4, x5, x6, x7, x8, x9⟩ := hX
  by_cases q0 : i < 20
  · exact wf0_0 x0 i (by omega) q0
  by_cases q20 : i < 40
  · exact wf0_1 x1 i (by omega) q20
  by_cases q40 : i < 60
  · exact wf0_2 x2 i (by omega) q40
  by_cases q60 : i < 80
  · exact wf0_3 x3 i (by omega) q60
  by_cases q80 : i < 100
  · exact wf0_4 x4 i (by omega) q80
  by_cases q100 : i < 120
  · exact wf0_5 x5 i (by omega) q100
  by_cases q120 : i < 140
  · exact wf0_6 x6 i (by omega) q120
  by_cases q140 : i < 160
  · exact wf0_7 x7 i (by omega) q140
  by_cases q160 : i < 180
  · exact wf0_8 x8 i (by omega) q160
  by_cases q180 : i < 200
  · exact wf0_9 x9 hM i (by omega) q180
  exact wf0_10  hM i (by omega) hi
