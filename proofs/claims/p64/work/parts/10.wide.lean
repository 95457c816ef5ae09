abbrev mF : Nat → Int32 := upd (upd (upd (upd (fun _ => 0) 0 (-1)) 1 (-1)) 2 (-1)) 3 (-1)
theorem w_le (a b : Int32) : a.toInt64 ≤ b.toInt64 ↔ a ≤ b := by
  rw [Int64.le_iff_toInt_le, Int32.le_iff_toInt_le, Int32.toInt_toInt64, Int32.toInt_toInt64]
theorem w_lo {x : Int32} : (0 : Int64) ≤ x.toInt64 ↔ ¬ x < 0 := (w_le 0 x).trans Int32.not_lt.symm
theorem w_hi {x : Int32} (a b : Int32) (h : b.toInt = a.toInt + 1) : x.toInt64 ≤ a.toInt64 ↔ x < b := by
  rw [w_le, Int32.le_iff_toInt_le, Int32.lt_iff_toInt_lt, h]
  omega
theorem nb {r : Int32} {P Q : Prop} (h : (r = 1 ∧ P) ∨ (r = 0 ∧ Q)) : narrow .boolean (.int r) = .int r := by
  rcases h with ⟨rfl, -⟩ | ⟨rfl, -⟩ <;> rfl
theorem no_in {x a b : Int64} {r : Int32} (hab : b < a) (h : (r = 1 ∧ a ≤ x ∧ x ≤ b) ∨ (r = 0 ∧ ¬ (a ≤ x ∧ x ≤ b))) : r = 0 := by
  rcases h with h | h
  · exact absurd (Int64.le_trans h.2.1 h.2.2) (Int64.not_le.mpr hab)
  · exact h.1
theorem in_S {x : Int32} {r : Int32} (h : (r = 1 ∧ 0 ≤ x.toInt64 ∧ x.toInt64 ≤ 3) ∨ (r = 0 ∧ ¬ (0 ≤ x.toInt64 ∧ x.toInt64 ≤ 3))) : (r = 1 ∧ inS x) ∨ (r = 0 ∧ ¬ inS x) := by
  have e : (x.toInt64 ≤ 3) ↔ x < 4 := w_hi 3 4 (by decide)
  rcases h with h | h
  · exact Or.inl ⟨h.1, w_lo.mp h.2.1, e.mp h.2.2⟩
  · exact Or.inr ⟨h.1, fun q => h.2 ⟨w_lo.mpr q.1, e.mpr q.2⟩⟩
theorem in_3 {x : Int32} {r : Int32} (h : (r = 1 ∧ 0 ≤ x.toInt64 ∧ x.toInt64 ≤ 2) ∨ (r = 0 ∧ ¬ (0 ≤ x.toInt64 ∧ x.toInt64 ≤ 2))) : (r = 1 ∧ ¬ x < 0 ∧ x < 3) ∨ (r = 0 ∧ ¬ (¬ x < 0 ∧ x < 3)) := by
  have e : (x.toInt64 ≤ 2) ↔ x < 3 := w_hi 2 3 (by decide)
  rcases h with h | h
  · exact Or.inl ⟨h.1, w_lo.mp h.2.1, e.mp h.2.2⟩
  · exact Or.inr ⟨h.1, fun q => h.2 ⟨w_lo.mpr q.1, e.mpr q.2⟩⟩
