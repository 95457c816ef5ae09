-- TOKENS: what the reference reads of its tape
def seeI (g : Nat → va_E) (k : Int) : Int := if k < gI g 197 7 then (match g 201 with | .inl (_, _, .inl f) => (f k.toNat &&& 255).toInt | _ => 0) else -1
theorem seeI_at {g : Nat → va_E} {N : Nat} {c : ClassId} {f : Nat → Int32} {k z : Int32} (hg : g 201 = .inl (c, N, .inl f)) (h : k.toInt < gI g 197 7) (hz : z = f k.toNatClampNeg &&& 255) : z.toInt = seeI g k.toInt := by
  unfold seeI
  rw [if_pos h, hg]
  simp only
  rw [hz]; rfl
theorem seeI_no {g : Nat → va_E} {k : Int} (h : gI g 197 7 ≤ k) : seeI g k = -1 := by
  unfold seeI
  rw [if_neg (by omega)]
theorem seeI_tr {g g1 : Nat → va_E} (h1 : gI g1 197 7 = gI g 197 7) (h2 : g1 201 = g 201) (k : Int) : seeI g1 k = seeI g k := by unfold seeI; rw [h1, h2]
def chS (kS : kSt) (i j : Nat) : Int := match kS.2.2 i j with | .int x => (x &&& 255).toInt | _ => 0
theorem chS_of {kS : kSt} {i j : Nat} {x : Int32} (h : kS.2.2 i j = .int x) : chS kS i j = (x &&& 255).toInt := by unfold chS; rw [h]
/-- the token is the word q, so far as its first k signs say -/
def isB (kS : kSt) (g : Nat → va_E) (q : Nat) (k : Int) : Prop := gI g 197 12 = 0 ∧ gI g 197 10 = 1 ∧ gI g 197 8 - gI g 197 9 = (lenS.getD q 0 : Int) ∧ ∀ j : Nat, (j : Int) < k → (j : Int) < (lenS.getD q 0 : Int) → gA g 201 (gI g 197 9 + j).toNat = chS kS q j
noncomputable def isI (kS : kSt) (g : Nat → va_E) (q : Nat) : Int := @ite Int (isB kS g q (lenS.getD q 0 : Int)) (Classical.propDecidable _) 1 0
theorem isI_yes {kS : kSt} {g : Nat → va_E} {q : Nat} {k : Int} (h : isB kS g q k) (hk : (lenS.getD q 0 : Int) ≤ k) : isI kS g q = 1 := by
  unfold isI
  exact if_pos ⟨h.1, h.2.1, h.2.2.1, fun j a b => h.2.2.2 j (by omega) b⟩
theorem isI_no {kS : kSt} {g : Nat → va_E} {q : Nat} (h : ¬ (gI g 197 12 = 0 ∧ gI g 197 10 = 1 ∧ gI g 197 8 - gI g 197 9 = (lenS.getD q 0 : Int))) : isI kS g q = 0 := by
  unfold isI
  exact if_neg (fun a => h ⟨a.1, a.2.1, a.2.2.1⟩)
theorem isI_ne {kS : kSt} {g : Nat → va_E} {q j : Nat} (hj : (j : Int) < (lenS.getD q 0 : Int)) (h : gA g 201 (gI g 197 9 + j).toNat ≠ chS kS q j) : isI kS g q = 0 := by
  unfold isI
  exact if_neg (fun a => h (a.2.2.2 j hj hj))
theorem isI_01 (kS : kSt) (g : Nat → va_E) (q : Nat) : 0 ≤ isI kS g q ∧ isI kS g q ≤ 1 := by
  by_cases h : isB kS g q (lenS.getD q 0 : Int)
  · rw [isI_yes h (Int.le_refl _)]; omega
  · unfold isI; rw [if_neg h]; omega
theorem isI_good {kS : kSt} {g : Nat → va_E} {q : Nat} (h : isI kS g q ≠ 0) : gI g 197 12 = 0 := by
  by_cases e : gI g 197 12 = 0
  · exact e
  · exact absurd (isI_no (fun a => e a.1)) h
theorem isB.next {kS : kSt} {g : Nat → va_E} {q : Nat} {k k' : Int} {a b : Int} (h : isB kS g q k) (h0 : 0 ≤ k) (hk : k' = k + 1) (ha : gA g 201 (gI g 197 9 + k).toNat = a) (hb : b = chS kS q k.toNat) (hab : a = b) : isB kS g q k' :=
  ⟨h.1, h.2.1, h.2.2.1, fun j x y => by
    by_cases e : (j : Int) < k
    · exact h.2.2.2 j e y
    · have e2 : j = k.toNat := by omega
      rw [e2, ← hb, ← hab, ← ha, show gI g 197 9 + ((k.toNat : Nat) : Int) = gI g 197 9 + k by omega]⟩
/-- does the reading go on -/
def goF (g : Nat → va_E) : Int := if gI g 197 12 = 0 ∧ gI g 197 10 ≠ 0 then 1 else 0
theorem goF_1 {g : Nat → va_E} (h1 : gI g 197 12 = 0) (h2 : gI g 197 10 ≠ 0) : goF g = 1 := if_pos ⟨h1, h2⟩
theorem goF_0 {g : Nat → va_E} (h : gI g 197 12 ≠ 0 ∨ gI g 197 10 = 0) : goF g = 0 := if_neg (fun a => by rcases h with h | h; exact h a.1; exact a.2 h)
theorem goF_01 (g : Nat → va_E) : 0 ≤ goF g ∧ goF g ≤ 1 := by
  unfold goF
  by_cases q : gI g 197 12 = 0 ∧ gI g 197 10 ≠ 0
  · rw [if_pos q]; omega
  · rw [if_neg q]; omega
