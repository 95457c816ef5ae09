-- WHAT THE REFERENCE'S LOOPS KEEP
/-- a slot's row as asksSeen leaves it: two numbers each, icicles at even places -/
def snOK (g : Nat → va_E) (sl : Int32) : Prop := gA g 214 sl.toNatClampNeg % 2 = 0 ∧ ∀ k : Int, 0 ≤ k → k < gA g 214 sl.toNatClampNeg → k % 2 = 0 → 0 ≤ gA g 216 (60 * sl.toInt + k).toNat ∧ gA g 216 (60 * sl.toInt + k).toNat ≤ 7
theorem gA_tr {g g' : Nat → va_E} {i : Nat} (h : g' i = g i) (j : Nat) : gA g' i j = gA g i j := by unfold gA; rw [h]
theorem gI_tr {g g' : Nat → va_E} {i : Nat} (h : g' i = g i) (k : Nat) : gI g' i k = gI g i k := by unfold gI; rw [h]
theorem snOK.tr {g g' : Nat → va_E} {sl : Int32} (h : snOK g sl) (h1 : g' 214 = g 214) (h2 : g' 216 = g 216) : snOK g' sl := by
  unfold snOK at *
  rw [gA_tr h1]
  exact ⟨h.1, fun k a b c => by rw [gA_tr h2]; exact h.2 k a b c⟩
theorem snOK.next {g : Nat → va_E} {sl : Int32} {i i' r : Int} (h : ∀ k : Int, 0 ≤ k → k < i → k % 2 = 0 → 0 ≤ gA g 216 (60 * sl.toInt + k).toNat ∧ gA g 216 (60 * sl.toInt + k).toNat ≤ 7) (hr : r = gA g 216 (60 * sl.toInt + i).toNat) (h0 : 0 ≤ r ∧ r ≤ 7) (hi : i % 2 = 0) (hi' : i' = i + 2) : ∀ k : Int, 0 ≤ k → k < i' → k % 2 = 0 → 0 ≤ gA g 216 (60 * sl.toInt + k).toNat ∧ gA g 216 (60 * sl.toInt + k).toNat ≤ 7 := by
  intro k h1 h2 h3
  by_cases q : k < i
  · exact h k h1 q h3
  · obtain rfl : k = i := by omega
    rw [← hr]; exact h0
/-- leastFrom, before the eave 'to' -/
def lfP (g : Nat → va_E) (ev dy lst to : Int) : Prop := (lst = 1000000000 ∧ (ev = -1 → to = 0) ∧ (ev ≠ -1 → to ≤ ev)) ∨ (0 ≤ lst ∧ lst ≤ 8 * (15 - dy) ∧ ∃ k : Int, 0 ≤ k ∧ k < to ∧ (ev = -1 ∨ (-1 ≤ k - ev ∧ k - ev ≤ 1)) ∧ gA g 212 (5 * dy + k).toNat = lst)
theorem lfP.zero {g : Nat → va_E} {ev dy lst to : Int} (h : ev = -1 ∨ 0 ≤ ev) (hl : lst = 1000000000) (ht : to = 0) : lfP g ev dy lst to := Or.inl ⟨hl, fun _ => ht, fun _ => by omega⟩
theorem lfP.skip {g : Nat → va_E} {ev dy lst to to' : Int} (h : lfP g ev dy lst to) (h1 : ev ≠ -1) (h2 : ¬ (-1 ≤ to - ev ∧ to - ev ≤ 1)) (ht : to' = to + 1) : lfP g ev dy lst to' := by
  rcases h with ⟨a, b, c⟩ | ⟨a, b, k, c, d, e, f⟩
  · exact Or.inl ⟨a, fun q => absurd q h1, fun _ => by have := c h1; omega⟩
  · exact Or.inr ⟨a, b, k, c, by omega, e, f⟩
theorem lfP.take {g : Nat → va_E} {ev dy lst lst' to to' v : Int} (h : lfP g ev dy lst to) (h0 : 0 ≤ to) (hd : 0 ≤ dy ∧ dy ≤ 14) (h1 : ev = -1 ∨ (-1 ≤ to - ev ∧ to - ev ≤ 1)) (hv : v = gA g 212 (5 * dy + to).toNat) (hb : 0 ≤ v ∧ v ≤ 8 * (15 - dy)) (hm : lst' ≤ lst ∧ lst' ≤ v ∧ (lst' = lst ∨ lst' = v)) (ht : to' = to + 1) : lfP g ev dy lst' to' := by
  by_cases q : lst' = v
  · exact Or.inr ⟨by omega, by omega, to, h0, by omega, h1, by rw [← hv, q]⟩
  · have q2 : lst' = lst := by omega
    rcases h with ⟨a, -, -⟩ | ⟨a, b, k, c, d, e, f⟩
    · exfalso; omega
    · exact Or.inr ⟨by omega, by omega, k, c, by omega, e, by rw [f, q2]⟩
theorem lfP.done {g : Nat → va_E} {ev dy lst to nE : Int} (h : lfP g ev dy lst to) (h0 : (0 ≤ ev ∧ ev < nE) ∨ (ev = -1 ∧ 0 < nE)) (h1 : nE ≤ to) (h2 : to ≤ nE) : (0 ≤ lst ∧ lst ≤ 8 * (15 - dy)) ∧ ∃ k : Int, 0 ≤ k ∧ k < nE ∧ (ev = -1 ∨ (-1 ≤ k - ev ∧ k - ev ≤ 1)) ∧ gA g 212 (5 * dy + k).toNat = lst := by
  rcases h with ⟨a, b, c⟩ | ⟨a, b, k, c, d, e, f⟩
  · exfalso
    rcases h0 with h0 | h0
    · have := c (by omega); omega
    · have := b h0.1; omega
  · exact ⟨⟨a, b⟩, k, c, by omega, e, f⟩
theorem j_rem {x y z : Int64} (hy : y.toInt ≠ 0) (h : z = x - x / y * y) : z.toInt.natAbs < y.toInt.natAbs := by
  subst h
  have hb : (x.toInt.tmod y.toInt).natAbs < y.toInt.natAbs := by
    rw [Int.natAbs_tmod]
    exact Nat.mod_lt _ (by omega)
  have e : (x - x / y * y).toInt = x.toInt.tmod y.toInt := by
    have h1 : x.toInt.tmod y.toInt = x.toInt - x.toInt.tdiv y.toInt * y.toInt := by have := Int.tmod_def x.toInt y.toInt; rw [this, Int.mul_comm]
    have hy1 := j_lo y
    have hy2 := j_hi y
    rw [Int64.toInt_sub, Int64.toInt_mul, Int64.toInt_div, Int.bmod_mul_bmod, Int.sub_bmod_bmod, ← h1]
    exact j_bm (by omega) (by omega)
  rw [e]
  exact hb
/-- 10 to the number of days -/
def tenP (d : Int) : Int := 10 ^ d.toNat
theorem tenP_le {d : Int} (h : d ≤ 14) : tenP d ≤ 100000000000000 := by
  unfold tenP
  have : (10 : Int) ^ d.toNat ≤ 10 ^ 14 := by exact_mod_cast Nat.pow_le_pow_right (by decide : 10 > 0) (by omega : d.toNat ≤ 14)
  exact this
theorem tenP_succ {d d' : Int} (h0 : 0 ≤ d) (h : d' = d + 1) : tenP d' = 10 * tenP d := by
  unfold tenP
  rw [h, (by omega : (d + 1).toNat = d.toNat + 1), Int.pow_succ, Int.mul_comm]
theorem tenP_pos (d : Int) : 1 ≤ tenP d := by
  unfold tenP
  have : 0 < (10 : Int) ^ d.toNat := Int.pow_pos (by decide)
  omega
theorem tenP_zero {d : Int} (h : d = 0) : tenP d = 1 := by rw [h]; rfl
theorem j_mul {x y z : Int64} {a b : Int} (hx : x.toInt = a) (hy : y.toInt = b) (h : z = x * y) (h1 : -9223372036854775808 ≤ a * b) (h2 : a * b ≤ 9223372036854775807) : z.toInt = a * b := by
  subst h hx hy
  rw [Int64.toInt_mul, j_bm h1 h2]
theorem gA_set {g g1 : Nat → va_E} {i N k : Nat} {c : ClassId} {f f1 : Nat → Int64} {x : Int64} (hg : g i = .inl (c, N, .inr (.inl f))) (hg1 : g1 i = .inl (c, N, .inr (.inl f1))) (e : f1 = vp_updL f k x) (j : Nat) : gA g1 i j = if j = k then x.toInt else gA g i j := by
  rw [gA_ofL hg1, gA_ofL hg, e]
  unfold vp_updL
  by_cases q : j = k
  · rw [if_pos q, if_pos q]
  · rw [if_neg q, if_neg q]
theorem gA_ne {g g1 : Nat → va_E} {i N k : Nat} {c : ClassId} {f f1 : Nat → Int64} {x : Int64} (hg : g i = .inl (c, N, .inr (.inl f))) (hg1 : g1 i = .inl (c, N, .inr (.inl f1))) (e : f1 = vp_updL f k x) {j : Nat} (q : j ≠ k) : gA g1 i j = gA g i j := by rw [gA_set hg hg1 e, if_neg q]
theorem gA_at {g g1 : Nat → va_E} {i N k : Nat} {c : ClassId} {f f1 : Nat → Int64} {x : Int64} (hg : g i = .inl (c, N, .inr (.inl f))) (hg1 : g1 i = .inl (c, N, .inr (.inl f1))) (e : f1 = vp_updL f k x) {j : Nat} (q : j = k) : gA g1 i j = x.toInt := by rw [gA_set hg hg1 e, if_pos q]
theorem ten_mul {x y z : Int64} {d : Int} (h : z = x * y) (hy : y.toInt = 1 ∨ y.toInt = 10) (hx : 1 ≤ x.toInt ∧ x.toInt ≤ tenP d) (hd : 0 ≤ d ∧ d ≤ 13) : 1 ≤ z.toInt ∧ z.toInt ≤ tenP (d + 1) := by
  have h1 := tenP_le (d := d) (by omega)
  have h2 := tenP_succ (d := d) hd.1 rfl
  rcases hy with q | q
  · have hz := j_mul (rfl : x.toInt = x.toInt) q h (by omega) (by omega); omega
  · have hz := j_mul (rfl : x.toInt = x.toInt) q h (by omega) (by omega); omega
