-- SHAPES: what a cell may hold, whatever calls came before
abbrev sC : Type := (Nat → Int32) ⊕ (Nat → Int64) ⊕ (Nat → UInt32) ⊕ (Nat → UInt64) ⊕ (Nat → Option Nat)
abbrev sT : Type := (Int × Int) ⊕ (Nat ⊕ (Int × Int))
def okV (ad : Nat → Nat) (t : sT) (v : Value) : Prop := match t with
  | .inl r => ∃ x : Int32, v = .int x ∧ r.1 ≤ x.toInt ∧ x.toInt ≤ r.2
  | .inr (.inl i) => v = .ref (ad i)
  | .inr (.inr r) => ∃ x : Int64, v = .long x ∧ r.1 ≤ x.toInt ∧ x.toInt ≤ r.2
def okO (ad : Nat → Nat) (ts : List sT) (fs : List Value) : Prop := fs.length = ts.length ∧ ∀ (k : Nat) (t : sT), ts[k]? = some t → ∃ v, fs[k]? = some v ∧ okV ad t v
abbrev sS : Type := (Nat × Nat × (sC → Prop)) ⊕ (Nat × List sT)
def okE (ad : Nat → Nat) (cs : Nat → ClassId) (sh : sS) (e : va_E) : Prop := match sh with
  | .inl a => ∃ c : sC, e = .inl (cs a.1, a.2.1, c) ∧ a.2.2 c
  | .inr o => ∃ fs, e = .inr (o.1, fs) ∧ okO ad o.2 fs
def WF (S : Nat → sS) (ad : Nat → Nat) (cs : Nat → ClassId) (g : Nat → va_E) : Prop := ∀ i, i < 218 → okE ad cs (S i) (g i)
def aF (F : (Nat → Int32) → Prop) : sC → Prop := fun c => ∃ f, c = .inl f ∧ F f
def aJ (F : (Nat → Int64) → Prop) : sC → Prop := fun c => ∃ f, c = .inr (.inl f) ∧ F f
def aR (ad : Nat → Nat) (base stride N : Nat) : sC → Prop := fun c => ∃ f : Nat → Option Nat, c = .inr (.inr (.inr (.inr f))) ∧ ∀ j, j < N → f j = some (ad (base + stride * j))
def rI (lo hi : Int) : (Nat → Int32) → Prop := fun f => ∀ j, lo ≤ (f j).toInt ∧ (f j).toInt ≤ hi
def rT : (Nat → Int32) → Prop := fun _ => True
def rU : (Nat → Int64) → Prop := fun _ => True
section SHAPE
variable {S : Nat → sS} {ad : Nat → Nat} {cs : Nat → ClassId} {g : Nat → va_E} {i ci t N : Nat} {ts : List sT} {fs : List Value}
theorem WF.obj (hW : WF S ad cs g) (hi : i < 218) (hs : S i = .inr (ci, ts)) : ∃ fs, g i = .inr (ci, fs) ∧ okO ad ts fs := by
  have h := hW i hi
  rw [hs] at h
  exact h
theorem WF.arr (hW : WF S ad cs g) (hi : i < 218) {F : (Nat → Int32) → Prop} (hs : S i = .inl (t, N, aF F)) : ∃ f, g i = .inl (cs t, N, .inl f) ∧ F f := by
  have h := hW i hi
  rw [hs] at h
  obtain ⟨c, h1, f, h2, h3⟩ := h
  exact ⟨f, by rw [h1, h2], h3⟩
theorem WF.arj (hW : WF S ad cs g) (hi : i < 218) {F : (Nat → Int64) → Prop} (hs : S i = .inl (t, N, aJ F)) : ∃ f, g i = .inl (cs t, N, .inr (.inl f)) ∧ F f := by
  have h := hW i hi
  rw [hs] at h
  obtain ⟨c, h1, f, h2, h3⟩ := h
  exact ⟨f, by rw [h1, h2], h3⟩
theorem WF.aref (hW : WF S ad cs g) (hi : i < 218) {ad' : Nat → Nat} {b st M : Nat} (hs : S i = .inl (t, N, aR ad' b st M)) : ∃ f, g i = .inl (cs t, N, .inr (.inr (.inr (.inr f)))) ∧ ∀ j, j < M → f j = some (ad' (b + st * j)) := by
  have h := hW i hi
  rw [hs] at h
  obtain ⟨c, h1, f, h2, h3⟩ := h
  exact ⟨f, by rw [h1, h2], h3⟩
theorem okO.int (h : okO ad ts fs) (k : Nat) {lo hi : Int} (hk : ts[k]? = some (.inl (lo, hi))) : ∃ x : Int32, fs[k]? = some (.int x) ∧ lo ≤ x.toInt ∧ x.toInt ≤ hi := by
  obtain ⟨v, h1, x, h2, h3, h4⟩ := h.2 k _ hk
  exact ⟨x, by rw [h1, h2], h3, h4⟩
theorem okO.lng (h : okO ad ts fs) (k : Nat) {lo hi : Int} (hk : ts[k]? = some (.inr (.inr (lo, hi)))) : ∃ x : Int64, fs[k]? = some (.long x) ∧ lo ≤ x.toInt ∧ x.toInt ≤ hi := by
  obtain ⟨v, h1, x, h2, h3, h4⟩ := h.2 k _ hk
  exact ⟨x, by rw [h1, h2], h3, h4⟩
theorem okO.ref (h : okO ad ts fs) (k : Nat) {j : Nat} (hk : ts[k]? = some (.inr (.inl j))) : fs[k]? = some (.ref (ad j)) := by
  obtain ⟨v, h1, h2⟩ := h.2 k _ hk
  rw [h1, h2]
theorem okO.lt (h : okO ad ts fs) (k : Nat) (hk : k < ts.length) : k < fs.length := by rw [h.1]; exact hk
theorem okO.set (h : okO ad ts fs) (k : Nat) {t : sT} (hk : ts[k]? = some t) {v : Value} (hv : okV ad t v) : okO ad ts (fs.set k v) := by
  refine ⟨by rw [List.length_set]; exact h.1, fun j u hj => ?_⟩
  by_cases e : k = j
  · subst e
    rw [hk] at hj
    cases hj
    have hl : k < fs.length := h.lt k (List.getElem?_eq_some_iff.mp hk).1
    exact ⟨v, by rw [List.getElem?_set_self hl], hv⟩
  · obtain ⟨w, h1, h2⟩ := h.2 j u hj
    exact ⟨w, by rw [List.getElem?_set_ne e]; exact h1, h2⟩
theorem WF.up (hW : WF S ad cs g) {e : va_E} (he : okE ad cs (S i) e) : WF S ad cs (va_up g i e) := fun j hj => by
  by_cases q : j = i
  · subst q
    rw [va_up_self]
    exact he
  · rw [va_up_ne _ _ q]
    exact hW j hj
end SHAPE
-- NUMBERS: what the machine's words say as integers
theorem n_lo (x : Int32) : -2147483648 ≤ x.toInt := Int32.le_toInt x
theorem n_hi (x : Int32) : x.toInt ≤ 2147483647 := by have := Int32.toInt_lt x; omega
theorem n_bm {a : Int} (h1 : -2147483648 ≤ a) (h2 : a ≤ 2147483647) : a.bmod (2 ^ 32) = a := Int.bmod_eq_of_le (by omega) (by omega)
theorem n_add {x y z : Int32} {a b : Int} (hx : x.toInt = a) (hy : y.toInt = b) (h : z = x + y) (h1 : -2147483648 ≤ a + b) (h2 : a + b ≤ 2147483647) : z.toInt = a + b := by
  subst h hx hy
  rw [Int32.toInt_add, n_bm h1 h2]
theorem n_sub {x y z : Int32} {a b : Int} (hx : x.toInt = a) (hy : y.toInt = b) (h : z = x - y) (h1 : -2147483648 ≤ a - b) (h2 : a - b ≤ 2147483647) : z.toInt = a - b := by
  subst h hx hy
  rw [Int32.toInt_sub, n_bm h1 h2]
theorem n_mul {x y z : Int32} {a b : Int} (hx : x.toInt = a) (hy : y.toInt = b) (h : z = x * y) (h1 : -2147483648 ≤ a * b) (h2 : a * b ≤ 2147483647) : z.toInt = a * b := by
  subst h hx hy
  rw [Int32.toInt_mul, n_bm h1 h2]
theorem n_neg {x z : Int32} {a : Int} (hx : x.toInt = a) (h : z = -x) (h1 : -2147483647 ≤ a) : z.toInt = -a := by
  subst h hx
  have := n_hi x
  rw [Int32.toInt_neg, n_bm (by omega) (by omega)]
theorem n_div {x y z : Int32} {a b : Int} (hx : x.toInt = a) (hy : y.toInt = b) (h : z = x / y) (h1 : 0 ≤ a) (h2 : 0 < b) : z.toInt = a / b := by
  subst h hx hy
  have hl := n_hi x
  have h3 := Int.ediv_nonneg h1 (Int.le_of_lt h2)
  have h4 := Int.ediv_le_self y.toInt h1
  rw [Int32.toInt_div, Int.tdiv_eq_ediv_of_nonneg h1, n_bm (by omega) (by omega)]
theorem n_rem {x y z : Int32} {a b : Int} (hx : x.toInt = a) (hy : y.toInt = b) (h : z = x - x / y * y) (h1 : 0 ≤ a) (h2 : 0 < b) : z.toInt = a % b := by
  have hd := n_div hx hy (z := x / y) rfl h1 h2
  have h3 := Int.ediv_nonneg h1 (Int.le_of_lt h2)
  have h4 := Int.mul_ediv_self_le (x := a) (k := b) (by omega)
  have h5 : a / b * b = b * (a / b) := Int.mul_comm _ _
  have hl := n_hi x
  have hl2 := n_hi y
  have h6 := Int.mul_nonneg h3 (Int.le_of_lt h2)
  have hm := n_mul hd hy (z := x / y * y) rfl (by omega) (by omega)
  have hs := n_sub hx hm h (by omega) (by omega)
  rw [hs, h5]
  have := Int.emod_def a b
  omega
theorem n_lt {x y : Int32} {a b : Int} (hx : x.toInt = a) (hy : y.toInt = b) (h : x < y) : a < b := by rw [← hx, ← hy]; exact Int32.lt_iff_toInt_lt.mp h
theorem n_nlt {x y : Int32} {a b : Int} (hx : x.toInt = a) (hy : y.toInt = b) (h : ¬ x < y) : b ≤ a := by rw [← hx, ← hy]; exact Int.not_lt.mp (fun q => h (Int32.lt_iff_toInt_lt.mpr q))
theorem n_le {x y : Int32} {a b : Int} (hx : x.toInt = a) (hy : y.toInt = b) (h : x ≤ y) : a ≤ b := by rw [← hx, ← hy]; exact Int32.le_iff_toInt_le.mp h
theorem n_nle {x y : Int32} {a b : Int} (hx : x.toInt = a) (hy : y.toInt = b) (h : ¬ x ≤ y) : b < a := by rw [← hx, ← hy]; exact Int.not_le.mp (fun q => h (Int32.le_iff_toInt_le.mpr q))
theorem n_eq {x y : Int32} {a b : Int} (hx : x.toInt = a) (hy : y.toInt = b) (h : x = y) : a = b := by rw [← hx, ← hy, h]
theorem n_ne {x y : Int32} {a b : Int} (hx : x.toInt = a) (hy : y.toInt = b) (h : ¬ x = y) : a ≠ b := by rw [← hx, ← hy]; exact fun q => h (Int32.toInt_inj.mp q)
theorem n_in {k : Int32} {a : Int} {N : Nat} (hk : k.toInt = a) (h1 : 0 ≤ a) (h2 : a < N) : vp_in k N := by
  subst hk
  unfold vp_in
  rintro (h | h)
  · have := Int32.lt_iff_toInt_lt.mp h
    have e : (0 : Int32).toInt = 0 := by decide
    omega
  · unfold Int32.toNatClampNeg at h
    omega
theorem n_cl {k : Int32} {a : Int} (hk : k.toInt = a) (h1 : 0 ≤ a) : (k.toNatClampNeg : Int) = a := by
  subst hk
  unfold Int32.toNatClampNeg
  omega
theorem n_max {x y z : Int32} {a b : Int} (hx : x.toInt = a) (hy : y.toInt = b) (h : z = if x < y then y else x) : a ≤ z.toInt ∧ b ≤ z.toInt ∧ (z.toInt = a ∨ z.toInt = b) := by
  subst h
  by_cases q : x < y
  · rw [if_pos q]; have := n_lt hx hy q; omega
  · rw [if_neg q]; have := n_nlt hx hy q; omega
theorem n_min {x y z : Int32} {a b : Int} (hx : x.toInt = a) (hy : y.toInt = b) (h : z = if y < x then y else x) : z.toInt ≤ a ∧ z.toInt ≤ b ∧ (z.toInt = a ∨ z.toInt = b) := by
  subst h
  by_cases q : y < x
  · rw [if_pos q]; have := n_lt hy hx q; omega
  · rw [if_neg q]; have := n_nlt hy hx q; omega
theorem n_and {x y z : Int32} {b : Int} (k : Nat) (hy : y.toBitVec.toNat = 2 ^ k - 1) (hk : 2 ^ k ≤ 2147483648) (hb : b = ((2 ^ k : Nat) : Int) - 1) (h : z = x &&& y) : 0 ≤ z.toInt ∧ z.toInt ≤ b := by
  obtain ⟨j, h1, h2⟩ := pk_andE x k hy
  rw [h, h2, nI_toInt (by omega)]
  omega
theorem n_bool {r : Int32} (h0 : 0 ≤ r.toInt) (h1 : r.toInt ≤ 1) : narrow .boolean (.int r) = .int r := by
  have e0 : (0 : Int32).toInt = 0 := by decide
  have e1 : (1 : Int32).toInt = 1 := by decide
  rcases (by omega : r.toInt = 0 ∨ r.toInt = 1) with h | h
  · rw [Int32.toInt_inj.mp (h.trans e0.symm)]; rfl
  · rw [Int32.toInt_inj.mp (h.trans e1.symm)]; rfl
-- longs
theorem j_lo (x : Int64) : -9223372036854775808 ≤ x.toInt := Int64.le_toInt x
theorem j_hi (x : Int64) : x.toInt ≤ 9223372036854775807 := by have := Int64.toInt_lt x; omega
theorem j_of {x : Int32} {a : Int} (hx : x.toInt = a) : x.toInt64.toInt = a := by rw [Int32.toInt_toInt64]; exact hx
theorem j_clt {x y : Int64} {a b : Int} (hx : x.toInt = a) (hy : y.toInt = b) (h : lg_cmp x y < 0) : a < b := by rw [← hx, ← hy]; exact Int64.lt_iff_toInt_lt.mp ((lg_cmp_lt x y).mp h)
theorem j_cge {x y : Int64} {a b : Int} (hx : x.toInt = a) (hy : y.toInt = b) (h : ¬ lg_cmp x y < 0) : b ≤ a := by rw [← hx, ← hy]; exact Int.not_lt.mp (fun q => h ((lg_cmp_lt x y).mpr (Int64.lt_iff_toInt_lt.mpr q)))
theorem j_cgt {x y : Int64} {a b : Int} (hx : x.toInt = a) (hy : y.toInt = b) (h : 0 < lg_cmp x y) : b < a := by rw [← hx, ← hy]; exact Int64.lt_iff_toInt_lt.mp ((lg_cmp_gt x y).mp h)
theorem j_cle {x y : Int64} {a b : Int} (hx : x.toInt = a) (hy : y.toInt = b) (h : ¬ 0 < lg_cmp x y) : a ≤ b := by rw [← hx, ← hy]; exact Int.not_lt.mp (fun q => h ((lg_cmp_gt x y).mpr (Int64.lt_iff_toInt_lt.mpr q)))
theorem j_ceq {x y : Int64} {a b : Int} (hx : x.toInt = a) (hy : y.toInt = b) (h : lg_cmp x y = 0) : a = b := by rw [← hx, ← hy, (lg_cmp_eq x y).mp h]
theorem j_cne {x y : Int64} {a b : Int} (hx : x.toInt = a) (hy : y.toInt = b) (h : ¬ lg_cmp x y = 0) : a ≠ b := by rw [← hx, ← hy]; exact fun q => h ((lg_cmp_eq x y).mpr (Int64.toInt_inj.mp q))
theorem j_l2i {x : Int64} {z : Int32} {a : Int} (hx : x.toInt = a) (h : z = x.toInt32) (h1 : -2147483648 ≤ a) (h2 : a ≤ 2147483647) : z.toInt = a := by
  subst h hx
  rw [Int64.toInt_toInt32, n_bm h1 h2]
theorem j_bm {a : Int} (h1 : -9223372036854775808 ≤ a) (h2 : a ≤ 9223372036854775807) : a.bmod (2 ^ 64) = a := Int.bmod_eq_of_le (by omega) (by omega)
theorem j_add {x y z : Int64} {a b : Int} (hx : x.toInt = a) (hy : y.toInt = b) (h : z = x + y) (h1 : -9223372036854775808 ≤ a + b) (h2 : a + b ≤ 9223372036854775807) : z.toInt = a + b := by
  subst h hx hy
  rw [Int64.toInt_add, j_bm h1 h2]
