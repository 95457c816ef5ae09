-- THE SHAPES OF ALL CELLS (by program: wip/safe/shapes.py)
def rP (q : Nat → Int → Prop) : (Nat → Int32) → Prop := fun f => ∀ j, q j (f j).toInt
def rQ (q : Nat → Int → Prop) : (Nat → Int64) → Prop := fun f => ∀ j, q j (f j).toInt
theorem rP.put {q : Nat → Int → Prop} {f : Nat → Int32} (h : rP q f) {k : Nat} {x : Int32} (hx : q k x.toInt) : rP q (upd f k x) := fun j => by
  unfold upd
  by_cases e : j = k
  · rw [if_pos e, e]; exact hx
  · rw [if_neg e]; exact h j
theorem rQ.put {q : Nat → Int → Prop} {f : Nat → Int64} (h : rQ q f) {k : Nat} {x : Int64} (hx : q k x.toInt) : rQ q (vp_updL f k x) := fun j => by
  unfold vp_updL
  by_cases e : j = k
  · rw [if_pos e, e]; exact hx
  · rw [if_neg e]; exact h j
def wq (j : Nat) (v : Int) : Prop := (j = 3 → 0 ≤ v ∧ v ≤ 14) ∧ (j = 4 → 0 ≤ v ∧ v ≤ 5) ∧ (j = 5 → 0 ≤ v ∧ v ≤ 8) ∧ (j = 6 → 0 ≤ v ∧ v ≤ 6) ∧ (j = 7 → 0 ≤ v ∧ v ≤ 40) ∧ (42 ≤ j → j < 66 → j % 3 = 0 → 0 ≤ v ∧ v ≤ 4) ∧ (78 ≤ j → (0 ≤ v ∧ v ≤ 93 ∧ v % 20 ≤ 13) ∨ (1000 ≤ v ∧ v ≤ 1013))
def sq (j : Nat) (v : Int) : Prop := 0 ≤ v ∧ v ≤ 120 ∧ (j < 75 → v ≤ 8 * (15 - (j : Int) / 5))
def rq (j : Nat) (v : Int) : Prop := 0 ≤ v ∧ v ≤ 4 * ((j : Int) % 32)
/-- what calls of image and row leave behind: images kept; slots: laid, width, held; the reference's many, width, hasImage -/
abbrev sK : Type := (Nat → Int32) × (Nat → Int32) × (Nat → Int32) × (Nat → Int32) × (Nat → Int32) × (Nat → Int32) × (Nat → Int32)
/-- an int field, a long field, an element, as integers -/
def gI (g : Nat → va_E) (i k : Nat) : Int := match g i with
  | .inr (_, fs) => (match fs[k]? with | some (.int x) => x.toInt | _ => 0)
  | _ => 0
theorem gI_of {g : Nat → va_E} {i ci k : Nat} {fs : List Value} {x : Int32} (hg : g i = .inr (ci, fs)) (hk : fs[k]? = some (.int x)) : gI g i k = x.toInt := by
  unfold gI; rw [hg]; simp only; rw [hk]
def gJ (g : Nat → va_E) (i k : Nat) : Int := match g i with
  | .inr (_, fs) => (match fs[k]? with | some (.long x) => x.toInt | _ => 0)
  | _ => 0
theorem gJ_of {g : Nat → va_E} {i ci k : Nat} {fs : List Value} {x : Int64} (hg : g i = .inr (ci, fs)) (hk : fs[k]? = some (.long x)) : gJ g i k = x.toInt := by
  unfold gJ; rw [hg]; simp only; rw [hk]
def gA (g : Nat → va_E) (i j : Nat) : Int := match g i with
  | .inl (_, _, .inl f) => (f j).toInt
  | .inl (_, _, .inr (.inl f)) => (f j).toInt
  | _ => 0
theorem gA_of {g : Nat → va_E} {i N : Nat} {c : ClassId} {f : Nat → Int32} (hg : g i = .inl (c, N, .inl f)) (j : Nat) : gA g i j = (f j).toInt := by
  unfold gA; rw [hg]
theorem gA_ofL {g : Nat → va_E} {i N : Nat} {c : ClassId} {f : Nat → Int64} (hg : g i = .inl (c, N, .inr (.inl f))) (j : Nat) : gA g i j = (f j).toInt := by
  unfold gA; rw [hg]
def shL (ad : Nat → Nat) : List sS := [
  .inr (11, [.inr (.inl 1), .inr (.inl 3), .inr (.inl 23), .inr (.inl 43), .inr (.inl 104), .inr (.inl 105), .inr (.inl 114), .inr (.inl 116), .inr (.inl 118), .inr (.inl 120), .inr (.inl 130), .inr (.inl 140), .inr (.inl 144), .inr (.inl 190)]),
  .inr (7, [.inr (.inl 2), .inl (0, 1000), .inl (-2147483648, 2147483647), .inl (-2147483648, 2147483647), .inl (0, 1000), .inl (0, 1000), .inl (0, 5)]),
  .inl (0, 1000, aF (rP (fun _ _ => True))),
  .inr (6, [.inl (-2147483648, 2147483647), .inl (-2147483648, 2147483647), .inl (-2147483648, 2147483647), .inl (0, 14), .inl (0, 5), .inl (0, 8), .inl (0, 6), .inl (-2147483648, 2147483647), .inr (.inl 4), .inr (.inl 5), .inr (.inl 6), .inr (.inl 7), .inr (.inl 8), .inr (.inl 9), .inr (.inl 10), .inr (.inl 11), .inr (.inl 12), .inr (.inl 13)]),
  .inl (1, 14, aF (rP (fun _ _ => True))),
  .inl (3, 14, aF (rP (fun _ _ => True))),
  .inl (1, 5, aF (rP (fun _ _ => True))),
  .inl (1, 8, aF (rP (fun _ v => 0 ≤ v ∧ v ≤ 4))),
  .inl (1, 8, aF (rP (fun _ _ => True))),
  .inl (1, 8, aF (rP (fun _ _ => True))),
  .inl (1, 8, aF (rP (fun _ _ => True))),
  .inl (1, 6, aF (rP (fun _ _ => True))),
  .inl (1, 6, aF (rP (fun _ _ => True))),
  .inr (0, [.inl (0, 40), .inr (.inl 14), .inr (.inl 15), .inr (.inl 16), .inr (.inl 22)]),
  .inl (1, 40, aF (rP (fun _ v => -1 ≤ v ∧ v ≤ 4))),
  .inl (1, 40, aF (rP (fun _ v => 0 ≤ v ∧ v ≤ 13))),
  .inl (6, 5, aR ad 17 1 5),
  .inl (1, 14, aF (rP (fun _ _ => True))),
  .inl (1, 14, aF (rP (fun _ _ => True))),
  .inl (1, 14, aF (rP (fun _ _ => True))),
  .inl (1, 14, aF (rP (fun _ _ => True))),
  .inl (1, 14, aF (rP (fun _ _ => True))),
  .inl (1, 14, aF (rP (fun _ _ => True))),
  .inr (6, [.inl (-2147483648, 2147483647), .inl (-2147483648, 2147483647), .inl (-2147483648, 2147483647), .inl (0, 14), .inl (0, 5), .inl (0, 8), .inl (0, 6), .inl (-2147483648, 2147483647), .inr (.inl 24), .inr (.inl 25), .inr (.inl 26), .inr (.inl 27), .inr (.inl 28), .inr (.inl 29), .inr (.inl 30), .inr (.inl 31), .inr (.inl 32), .inr (.inl 33)]),
  .inl (1, 14, aF (rP (fun _ _ => True))),
  .inl (3, 14, aF (rP (fun _ _ => True))),
  .inl (1, 5, aF (rP (fun _ _ => True))),
  .inl (1, 8, aF (rP (fun _ v => 0 ≤ v ∧ v ≤ 4))),
  .inl (1, 8, aF (rP (fun _ _ => True))),
  .inl (1, 8, aF (rP (fun _ _ => True))),
  .inl (1, 8, aF (rP (fun _ _ => True))),
  .inl (1, 6, aF (rP (fun _ _ => True))),
  .inl (1, 6, aF (rP (fun _ _ => True))),
  .inr (0, [.inl (0, 40), .inr (.inl 34), .inr (.inl 35), .inr (.inl 36), .inr (.inl 42)]),
  .inl (1, 40, aF (rP (fun _ v => -1 ≤ v ∧ v ≤ 4))),
  .inl (1, 40, aF (rP (fun _ v => 0 ≤ v ∧ v ≤ 13))),
  .inl (6, 5, aR ad 37 1 5),
  .inl (1, 14, aF (rP (fun _ _ => True))),
  .inl (1, 14, aF (rP (fun _ _ => True))),
  .inl (1, 14, aF (rP (fun _ _ => True))),
  .inl (1, 14, aF (rP (fun _ _ => True))),
  .inl (1, 14, aF (rP (fun _ _ => True))),
  .inl (1, 14, aF (rP (fun _ _ => True))),
  .inl (5, 3, aR ad 44 20 3),
  .inr (6, [.inl (-2147483648, 2147483647), .inl (-2147483648, 2147483647), .inl (-2147483648, 2147483647), .inl (0, 14), .inl (0, 5), .inl (0, 8), .inl (0, 6), .inl (-2147483648, 2147483647), .inr (.inl 45), .inr (.inl 46), .inr (.inl 47), .inr (.inl 48), .inr (.inl 49), .inr (.inl 50), .inr (.inl 51), .inr (.inl 52), .inr (.inl 53), .inr (.inl 54)]),
  .inl (1, 14, aF (rP (fun _ _ => True))),
  .inl (3, 14, aF (rP (fun _ _ => True))),
  .inl (1, 5, aF (rP (fun _ _ => True))),
  .inl (1, 8, aF (rP (fun _ v => 0 ≤ v ∧ v ≤ 4))),
  .inl (1, 8, aF (rP (fun _ _ => True))),
  .inl (1, 8, aF (rP (fun _ _ => True))),
  .inl (1, 8, aF (rP (fun _ _ => True))),
  .inl (1, 6, aF (rP (fun _ _ => True))),
  .inl (1, 6, aF (rP (fun _ _ => True))),
  .inr (0, [.inl (0, 40), .inr (.inl 55), .inr (.inl 56), .inr (.inl 57), .inr (.inl 63)]),
  .inl (1, 40, aF (rP (fun _ v => -1 ≤ v ∧ v ≤ 4))),
  .inl (1, 40, aF (rP (fun _ v => 0 ≤ v ∧ v ≤ 13))),
  .inl (6, 5, aR ad 58 1 5),
  .inl (1, 14, aF (rP (fun _ _ => True))),
  .inl (1, 14, aF (rP (fun _ _ => True))),
  .inl (1, 14, aF (rP (fun _ _ => True))),
  .inl (1, 14, aF (rP (fun _ _ => True))),
  .inl (1, 14, aF (rP (fun _ _ => True))),
  .inl (1, 14, aF (rP (fun _ _ => True))),
  .inr (6, [.inl (-2147483648, 2147483647), .inl (-2147483648, 2147483647), .inl (-2147483648, 2147483647), .inl (0, 14), .inl (0, 5), .inl (0, 8), .inl (0, 6), .inl (-2147483648, 2147483647), .inr (.inl 65), .inr (.inl 66), .inr (.inl 67), .inr (.inl 68), .inr (.inl 69), .inr (.inl 70), .inr (.inl 71), .inr (.inl 72), .inr (.inl 73), .inr (.inl 74)]),
  .inl (1, 14, aF (rP (fun _ _ => True))),
  .inl (3, 14, aF (rP (fun _ _ => True))),
  .inl (1, 5, aF (rP (fun _ _ => True))),
  .inl (1, 8, aF (rP (fun _ v => 0 ≤ v ∧ v ≤ 4))),
  .inl (1, 8, aF (rP (fun _ _ => True))),
  .inl (1, 8, aF (rP (fun _ _ => True))),
  .inl (1, 8, aF (rP (fun _ _ => True))),
  .inl (1, 6, aF (rP (fun _ _ => True))),
  .inl (1, 6, aF (rP (fun _ _ => True))),
  .inr (0, [.inl (0, 40), .inr (.inl 75), .inr (.inl 76), .inr (.inl 77), .inr (.inl 83)]),
  .inl (1, 40, aF (rP (fun _ v => -1 ≤ v ∧ v ≤ 4))),
  .inl (1, 40, aF (rP (fun _ v => 0 ≤ v ∧ v ≤ 13))),
  .inl (6, 5, aR ad 78 1 5),
  .inl (1, 14, aF (rP (fun _ _ => True))),
  .inl (1, 14, aF (rP (fun _ _ => True))),
  .inl (1, 14, aF (rP (fun _ _ => True))),
  .inl (1, 14, aF (rP (fun _ _ => True))),
  .inl (1, 14, aF (rP (fun _ _ => True))),
  .inl (1, 14, aF (rP (fun _ _ => True))),
  .inr (6, [.inl (-2147483648, 2147483647), .inl (-2147483648, 2147483647), .inl (-2147483648, 2147483647), .inl (0, 14), .inl (0, 5), .inl (0, 8), .inl (0, 6), .inl (-2147483648, 2147483647), .inr (.inl 85), .inr (.inl 86), .inr (.inl 87), .inr (.inl 88), .inr (.inl 89), .inr (.inl 90), .inr (.inl 91), .inr (.inl 92), .inr (.inl 93), .inr (.inl 94)]),
  .inl (1, 14, aF (rP (fun _ _ => True))),
  .inl (3, 14, aF (rP (fun _ _ => True))),
  .inl (1, 5, aF (rP (fun _ _ => True))),
  .inl (1, 8, aF (rP (fun _ v => 0 ≤ v ∧ v ≤ 4))),
  .inl (1, 8, aF (rP (fun _ _ => True))),
  .inl (1, 8, aF (rP (fun _ _ => True))),
  .inl (1, 8, aF (rP (fun _ _ => True))),
  .inl (1, 6, aF (rP (fun _ _ => True))),
  .inl (1, 6, aF (rP (fun _ _ => True))),
  .inr (0, [.inl (0, 40), .inr (.inl 95), .inr (.inl 96), .inr (.inl 97), .inr (.inl 103)]),
  .inl (1, 40, aF (rP (fun _ v => -1 ≤ v ∧ v ≤ 4))),
  .inl (1, 40, aF (rP (fun _ v => 0 ≤ v ∧ v ≤ 13))),
  .inl (6, 5, aR ad 98 1 5),
  .inl (1, 14, aF (rP (fun _ _ => True))),
  .inl (1, 14, aF (rP (fun _ _ => True))),
  .inl (1, 14, aF (rP (fun _ _ => True))),
  .inl (1, 14, aF (rP (fun _ _ => True))),
  .inl (1, 14, aF (rP (fun _ _ => True))),
  .inl (1, 14, aF (rP (fun _ _ => True))),
  .inl (0, 0, fun _ => False),
  .inl (4, 4, aR ad 106 2 4),
  .inl (0, 0, fun _ => False),
  .inl (2, 60, aJ (rQ (fun _ _ => True))),
  .inl (0, 0, fun _ => False),
  .inl (2, 60, aJ (rQ (fun _ _ => True))),
  .inl (0, 0, fun _ => False),
  .inl (2, 60, aJ (rQ (fun _ _ => True))),
  .inl (0, 0, fun _ => False),
  .inl (2, 60, aJ (rQ (fun _ _ => True))),
  .inr (10, [.inl (-2147483648, 2147483647), .inl (-2147483648, 2147483647), .inl (-2147483648, 2147483647), .inr (.inl 115)]),
  .inl (1, 8, aF (rP (fun _ v => -1 ≤ v ∧ v ≤ 13))),
  .inr (10, [.inl (-2147483648, 2147483647), .inl (-2147483648, 2147483647), .inl (-2147483648, 2147483647), .inr (.inl 117)]),
  .inl (1, 8, aF (rP (fun _ v => -1 ≤ v ∧ v ≤ 13))),
  .inr (3, [.inr (.inl 119), .inl (-2147483648, 2147483647)]),
  .inl (1, 8, aF (rP (fun _ _ => True))),
  .inr (4, [.inl (-2147483648, 2147483647), .inl (-2147483648, 2147483647), .inr (.inl 121)]),
  .inl (6, 8, aR ad 122 1 8),
  .inl (1, 15, aF (rP (fun _ _ => True))),
  .inl (1, 15, aF (rP (fun _ _ => True))),
  .inl (1, 15, aF (rP (fun _ _ => True))),
  .inl (1, 15, aF (rP (fun _ _ => True))),
  .inl (1, 15, aF (rP (fun _ _ => True))),
  .inl (1, 15, aF (rP (fun _ _ => True))),
  .inl (1, 15, aF (rP (fun _ _ => True))),
  .inl (1, 15, aF (rP (fun _ _ => True))),
  .inr (9, [.inr (.inl 131), .inr (.inl 132), .inr (.inl 133), .inl (0, 5)]),
  .inl (1, 5, aF (rP (fun _ _ => True))),
  .inl (1, 5, aF (rP (fun _ _ => True))),
  .inl (6, 6, aR ad 134 1 6),
  .inl (1, 16, aF (rP (fun _ _ => True))),
  .inl (1, 16, aF (rP (fun _ _ => True))),
  .inl (1, 16, aF (rP (fun _ _ => True))),
  .inl (1, 16, aF (rP (fun _ _ => True))),
  .inl (1, 16, aF (rP (fun _ _ => True))),
  .inl (1, 16, aF (rP (fun _ _ => True))),
  .inr (1, [.inr (.inl 141), .inr (.inl 142), .inr (.inl 143), .inl (0, 14)]),
  .inl (2, 15, aJ (rQ (fun _ _ => True))),
  .inl (2, 14, aJ (rQ (fun _ _ => True))),
  .inl (2, 14, aJ (rQ (fun _ _ => True))),
  .inr (8, [.inl (-2147483648, 2147483647), .inr (.inl 145), .inr (.inl 160), .inr (.inl 175), .inl (0, 14), .inl (0, 5)]),
  .inl (6, 14, aR ad 146 1 14),
  .inl (1, 5, aF (rP (fun _ _ => True))),
  .inl (1, 5, aF (rP (fun _ _ => True))),
  .inl (1, 5, aF (rP (fun _ _ => True))),
  .inl (1, 5, aF (rP (fun _ _ => True))),
  .inl (1, 5, aF (rP (fun _ _ => True))),
  .inl (1, 5, aF (rP (fun _ _ => True))),
  .inl (1, 5, aF (rP (fun _ _ => True))),
  .inl (1, 5, aF (rP (fun _ _ => True))),
  .inl (1, 5, aF (rP (fun _ _ => True))),
  .inl (1, 5, aF (rP (fun _ _ => True))),
  .inl (1, 5, aF (rP (fun _ _ => True))),
  .inl (1, 5, aF (rP (fun _ _ => True))),
  .inl (1, 5, aF (rP (fun _ _ => True))),
  .inl (1, 5, aF (rP (fun _ _ => True))),
  .inl (6, 14, aR ad 161 1 14),
  .inl (1, 5, aF (rP (fun _ _ => True))),
  .inl (1, 5, aF (rP (fun _ _ => True))),
  .inl (1, 5, aF (rP (fun _ _ => True))),
  .inl (1, 5, aF (rP (fun _ _ => True))),
  .inl (1, 5, aF (rP (fun _ _ => True))),
  .inl (1, 5, aF (rP (fun _ _ => True))),
  .inl (1, 5, aF (rP (fun _ _ => True))),
  .inl (1, 5, aF (rP (fun _ _ => True))),
  .inl (1, 5, aF (rP (fun _ _ => True))),
  .inl (1, 5, aF (rP (fun _ _ => True))),
  .inl (1, 5, aF (rP (fun _ _ => True))),
  .inl (1, 5, aF (rP (fun _ _ => True))),
  .inl (1, 5, aF (rP (fun _ _ => True))),
  .inl (1, 5, aF (rP (fun _ _ => True))),
  .inl (6, 14, aR ad 176 1 14),
  .inl (1, 5, aF (rP (fun _ _ => True))),
  .inl (1, 5, aF (rP (fun _ _ => True))),
  .inl (1, 5, aF (rP (fun _ _ => True))),
  .inl (1, 5, aF (rP (fun _ _ => True))),
  .inl (1, 5, aF (rP (fun _ _ => True))),
  .inl (1, 5, aF (rP (fun _ _ => True))),
  .inl (1, 5, aF (rP (fun _ _ => True))),
  .inl (1, 5, aF (rP (fun _ _ => True))),
  .inl (1, 5, aF (rP (fun _ _ => True))),
  .inl (1, 5, aF (rP (fun _ _ => True))),
  .inl (1, 5, aF (rP (fun _ _ => True))),
  .inl (1, 5, aF (rP (fun _ _ => True))),
  .inl (1, 5, aF (rP (fun _ _ => True))),
  .inl (1, 5, aF (rP (fun _ _ => True))),
  .inr (2, [.inl (-2147483648, 2147483647), .inl (-2147483648, 2147483647), .inr (.inl 191)]),
  .inl (6, 5, aR ad 192 1 5),
  .inl (1, 5, aF (rP (fun _ _ => True))),
  .inl (1, 5, aF (rP (fun _ _ => True))),
  .inl (1, 5, aF (rP (fun _ _ => True))),
  .inl (1, 5, aF (rP (fun _ _ => True))),
  .inl (1, 5, aF (rP (fun _ _ => True))),
  .inr (12, [.inl (-2147483648, 2147483647), .inr (.inl 198), .inr (.inl 199), .inr (.inl 200), .inr (.inl 201), .inl (0, 1000), .inr (.inl 202), .inl (0, 1000), .inl (0, 1000), .inl (0, 1000), .inl (0, 4), .inl (-2147483648, 2147483647), .inl (-2147483648, 2147483647), .inl (-2147483648, 2147483647), .inr (.inl 203), .inr (.inl 204), .inr (.inl 205), .inl (0, 14), .inl (-2147483648, 2147483647), .inr (.inl 206), .inr (.inl 207), .inr (.inl 208), .inl (0, 70), .inl (-2147483648, 2147483647), .inl (-2147483648, 2147483647), .inl (-2147483648, 2147483647), .inl (-2147483648, 2147483647), .inr (.inl 209), .inr (.inl 210), .inr (.inl 211), .inr (.inr (-9223372036854775808, 9223372036854775807)), .inr (.inr (-9223372036854775808, 9223372036854775807)), .inr (.inl 212), .inr (.inl 213), .inl (-2147483648, 2147483647), .inl (-2147483648, 2147483647), .inr (.inl 214), .inr (.inl 215), .inr (.inl 216), .inr (.inl 217)]),
  .inl (1, 118, aF (rP wq)),
  .inl (1, 354, aF (rP (fun j v => wq (j % 118) v))),
  .inl (0, 0, fun _ => False),
  .inl (0, 1000, aF (rP (fun _ _ => True))),
  .inl (1, 5, aF (rP (fun _ _ => True))),
  .inl (1, 118, aF (rP wq)),
  .inl (1, 70, aF (rP (fun _ _ => True))),
  .inl (1, 8, aF (rP (fun _ v => -1 ≤ v ∧ v ≤ 13))),
  .inl (1, 160, aF (rP rq)),
  .inl (1, 70, aF (rP (fun _ _ => True))),
  .inl (1, 560, aF (rP (fun _ _ => True))),
  .inl (2, 15, aJ (rQ (fun _ _ => True))),
  .inl (2, 15, aJ (rQ (fun _ _ => True))),
  .inl (2, 14, aJ (rQ (fun _ _ => True))),
  .inl (1, 75, aF (rP sq)),
  .inl (1, 75, aF (rP (fun _ _ => True))),
  .inl (0, 0, fun _ => False),
  .inl (0, 0, fun _ => False),
  .inl (2, 240, aJ (rQ (fun _ _ => True))),
  .inl (2, 60, aJ (rQ (fun _ _ => True)))]
def shp (ad : Nat → Nat) (K : sK) (i : Nat) : sS := if i = 104 then .inl (3, 3, aF (rP (fun j v => v = (K.1 j).toInt))) else if i = 106 then .inr (5, [.inr (.inl 107), .inl ((K.2.1 0).toInt, (K.2.1 0).toInt), .inl ((K.2.2.1 0).toInt, (K.2.2.1 0).toInt), .inl ((K.2.2.2.1 0).toInt, (K.2.2.2.1 0).toInt)]) else if i = 108 then .inr (5, [.inr (.inl 109), .inl ((K.2.1 1).toInt, (K.2.1 1).toInt), .inl ((K.2.2.1 1).toInt, (K.2.2.1 1).toInt), .inl ((K.2.2.2.1 1).toInt, (K.2.2.2.1 1).toInt)]) else if i = 110 then .inr (5, [.inr (.inl 111), .inl ((K.2.1 2).toInt, (K.2.1 2).toInt), .inl ((K.2.2.1 2).toInt, (K.2.2.1 2).toInt), .inl ((K.2.2.2.1 2).toInt, (K.2.2.2.1 2).toInt)]) else if i = 112 then .inr (5, [.inr (.inl 113), .inl ((K.2.1 3).toInt, (K.2.1 3).toInt), .inl ((K.2.2.1 3).toInt, (K.2.2.1 3).toInt), .inl ((K.2.2.2.1 3).toInt, (K.2.2.2.1 3).toInt)]) else if i = 200 then .inl (3, 3, aF (rP (fun j v => v = (K.2.2.2.2.2.2 j).toInt))) else if i = 214 then .inl (1, 4, aF (rP (fun j v => v = (K.2.2.2.2.1 j).toInt))) else if i = 215 then .inl (1, 4, aF (rP (fun j v => v = (K.2.2.2.2.2.1 j).toInt))) else (shL ad).getD i (.inl (0, 0, fun _ => False))
theorem sh_0 (ad : Nat → Nat) (K : sK) : shp ad K 0 = .inr (11, [.inr (.inl 1), .inr (.inl 3), .inr (.inl 23), .inr (.inl 43), .inr (.inl 104), .inr (.inl 105), .inr (.inl 114), .inr (.inl 116), .inr (.inl 118), .inr (.inl 120), .inr (.inl 130), .inr (.inl 140), .inr (.inl 144), .inr (.inl 190)]) := rfl
theorem sh_1 (ad : Nat → Nat) (K : sK) : shp ad K 1 = .inr (7, [.inr (.inl 2), .inl (0, 1000), .inl (-2147483648, 2147483647), .inl (-2147483648, 2147483647), .inl (0, 1000), .inl (0, 1000), .inl (0, 5)]) := rfl
theorem sh_2 (ad : Nat → Nat) (K : sK) : shp ad K 2 = .inl (0, 1000, aF (rP (fun _ _ => True))) := rfl
theorem sh_3 (ad : Nat → Nat) (K : sK) : shp ad K 3 = .inr (6, [.inl (-2147483648, 2147483647), .inl (-2147483648, 2147483647), .inl (-2147483648, 2147483647), .inl (0, 14), .inl (0, 5), .inl (0, 8), .inl (0, 6), .inl (-2147483648, 2147483647), .inr (.inl 4), .inr (.inl 5), .inr (.inl 6), .inr (.inl 7), .inr (.inl 8), .inr (.inl 9), .inr (.inl 10), .inr (.inl 11), .inr (.inl 12), .inr (.inl 13)]) := rfl
theorem sh_4 (ad : Nat → Nat) (K : sK) : shp ad K 4 = .inl (1, 14, aF (rP (fun _ _ => True))) := rfl
theorem sh_5 (ad : Nat → Nat) (K : sK) : shp ad K 5 = .inl (3, 14, aF (rP (fun _ _ => True))) := rfl
theorem sh_6 (ad : Nat → Nat) (K : sK) : shp ad K 6 = .inl (1, 5, aF (rP (fun _ _ => True))) := rfl
theorem sh_7 (ad : Nat → Nat) (K : sK) : shp ad K 7 = .inl (1, 8, aF (rP (fun _ v => 0 ≤ v ∧ v ≤ 4))) := rfl
theorem sh_8 (ad : Nat → Nat) (K : sK) : shp ad K 8 = .inl (1, 8, aF (rP (fun _ _ => True))) := rfl
theorem sh_9 (ad : Nat → Nat) (K : sK) : shp ad K 9 = .inl (1, 8, aF (rP (fun _ _ => True))) := rfl
theorem sh_10 (ad : Nat → Nat) (K : sK) : shp ad K 10 = .inl (1, 8, aF (rP (fun _ _ => True))) := rfl
theorem sh_11 (ad : Nat → Nat) (K : sK) : shp ad K 11 = .inl (1, 6, aF (rP (fun _ _ => True))) := rfl
theorem sh_12 (ad : Nat → Nat) (K : sK) : shp ad K 12 = .inl (1, 6, aF (rP (fun _ _ => True))) := rfl
theorem sh_13 (ad : Nat → Nat) (K : sK) : shp ad K 13 = .inr (0, [.inl (0, 40), .inr (.inl 14), .inr (.inl 15), .inr (.inl 16), .inr (.inl 22)]) := rfl
theorem sh_14 (ad : Nat → Nat) (K : sK) : shp ad K 14 = .inl (1, 40, aF (rP (fun _ v => -1 ≤ v ∧ v ≤ 4))) := rfl
theorem sh_15 (ad : Nat → Nat) (K : sK) : shp ad K 15 = .inl (1, 40, aF (rP (fun _ v => 0 ≤ v ∧ v ≤ 13))) := rfl
theorem sh_16 (ad : Nat → Nat) (K : sK) : shp ad K 16 = .inl (6, 5, aR ad 17 1 5) := rfl
theorem sh_17 (ad : Nat → Nat) (K : sK) : shp ad K 17 = .inl (1, 14, aF (rP (fun _ _ => True))) := rfl
theorem sh_18 (ad : Nat → Nat) (K : sK) : shp ad K 18 = .inl (1, 14, aF (rP (fun _ _ => True))) := rfl
theorem sh_19 (ad : Nat → Nat) (K : sK) : shp ad K 19 = .inl (1, 14, aF (rP (fun _ _ => True))) := rfl
theorem sh_20 (ad : Nat → Nat) (K : sK) : shp ad K 20 = .inl (1, 14, aF (rP (fun _ _ => True))) := rfl
theorem sh_21 (ad : Nat → Nat) (K : sK) : shp ad K 21 = .inl (1, 14, aF (rP (fun _ _ => True))) := rfl
theorem sh_22 (ad : Nat → Nat) (K : sK) : shp ad K 22 = .inl (1, 14, aF (rP (fun _ _ => True))) := rfl
theorem sh_23 (ad : Nat → Nat) (K : sK) : shp ad K 23 = .inr (6, [.inl (-2147483648, 2147483647), .inl (-2147483648, 2147483647), .inl (-2147483648, 2147483647), .inl (0, 14), .inl (0, 5), .inl (0, 8), .inl (0, 6), .inl (-2147483648, 2147483647), .inr (.inl 24), .inr (.inl 25), .inr (.inl 26), .inr (.inl 27), .inr (.inl 28), .inr (.inl 29), .inr (.inl 30), .inr (.inl 31), .inr (.inl 32), .inr (.inl 33)]) := rfl
theorem sh_24 (ad : Nat → Nat) (K : sK) : shp ad K 24 = .inl (1, 14, aF (rP (fun _ _ => True))) := rfl
theorem sh_25 (ad : Nat → Nat) (K : sK) : shp ad K 25 = .inl (3, 14, aF (rP (fun _ _ => True))) := rfl
theorem sh_26 (ad : Nat → Nat) (K : sK) : shp ad K 26 = .inl (1, 5, aF (rP (fun _ _ => True))) := rfl
theorem sh_27 (ad : Nat → Nat) (K : sK) : shp ad K 27 = .inl (1, 8, aF (rP (fun _ v => 0 ≤ v ∧ v ≤ 4))) := rfl
theorem sh_28 (ad : Nat → Nat) (K : sK) : shp ad K 28 = .inl (1, 8, aF (rP (fun _ _ => True))) := rfl
theorem sh_29 (ad : Nat → Nat) (K : sK) : shp ad K 29 = .inl (1, 8, aF (rP (fun _ _ => True))) := rfl
theorem sh_30 (ad : Nat → Nat) (K : sK) : shp ad K 30 = .inl (1, 8, aF (rP (fun _ _ => True))) := rfl
theorem sh_31 (ad : Nat → Nat) (K : sK) : shp ad K 31 = .inl (1, 6, aF (rP (fun _ _ => True))) := rfl
theorem sh_32 (ad : Nat → Nat) (K : sK) : shp ad K 32 = .inl (1, 6, aF (rP (fun _ _ => True))) := rfl
theorem sh_33 (ad : Nat → Nat) (K : sK) : shp ad K 33 = .inr (0, [.inl (0, 40), .inr (.inl 34), .inr (.inl 35), .inr (.inl 36), .inr (.inl 42)]) := rfl
theorem sh_34 (ad : Nat → Nat) (K : sK) : shp ad K 34 = .inl (1, 40, aF (rP (fun _ v => -1 ≤ v ∧ v ≤ 4))) := rfl
theorem sh_35 (ad : Nat → Nat) (K : sK) : shp ad K 35 = .inl (1, 40, aF (rP (fun _ v => 0 ≤ v ∧ v ≤ 13))) := rfl
theorem sh_36 (ad : Nat → Nat) (K : sK) : shp ad K 36 = .inl (6, 5, aR ad 37 1 5) := rfl
theorem sh_37 (ad : Nat → Nat) (K : sK) : shp ad K 37 = .inl (1, 14, aF (rP (fun _ _ => True))) := rfl
theorem sh_38 (ad : Nat → Nat) (K : sK) : shp ad K 38 = .inl (1, 14, aF (rP (fun _ _ => True))) := rfl
theorem sh_39 (ad : Nat → Nat) (K : sK) : shp ad K 39 = .inl (1, 14, aF (rP (fun _ _ => True))) := rfl
theorem sh_40 (ad : Nat → Nat) (K : sK) : shp ad K 40 = .inl (1, 14, aF (rP (fun _ _ => True))) := rfl
theorem sh_41 (ad : Nat → Nat) (K : sK) : shp ad K 41 = .inl (1, 14, aF (rP (fun _ _ => True))) := rfl
theorem sh_42 (ad : Nat → Nat) (K : sK) : shp ad K 42 = .inl (1, 14, aF (rP (fun _ _ => True))) := rfl
theorem sh_43 (ad : Nat → Nat) (K : sK) : shp ad K 43 = .inl (5, 3, aR ad 44 20 3) := rfl
theorem sh_44 (ad : Nat → Nat) (K : sK) : shp ad K 44 = .inr (6, [.inl (-2147483648, 2147483647), .inl (-2147483648, 2147483647), .inl (-2147483648, 2147483647), .inl (0, 14), .inl (0, 5), .inl (0, 8), .inl (0, 6), .inl (-2147483648, 2147483647), .inr (.inl 45), .inr (.inl 46), .inr (.inl 47), .inr (.inl 48), .inr (.inl 49), .inr (.inl 50), .inr (.inl 51), .inr (.inl 52), .inr (.inl 53), .inr (.inl 54)]) := rfl
theorem sh_45 (ad : Nat → Nat) (K : sK) : shp ad K 45 = .inl (1, 14, aF (rP (fun _ _ => True))) := rfl
theorem sh_46 (ad : Nat → Nat) (K : sK) : shp ad K 46 = .inl (3, 14, aF (rP (fun _ _ => True))) := rfl
theorem sh_47 (ad : Nat → Nat) (K : sK) : shp ad K 47 = .inl (1, 5, aF (rP (fun _ _ => True))) := rfl
theorem sh_48 (ad : Nat → Nat) (K : sK) : shp ad K 48 = .inl (1, 8, aF (rP (fun _ v => 0 ≤ v ∧ v ≤ 4))) := rfl
theorem sh_49 (ad : Nat → Nat) (K : sK) : shp ad K 49 = .inl (1, 8, aF (rP (fun _ _ => True))) := rfl
theorem sh_50 (ad : Nat → Nat) (K : sK) : shp ad K 50 = .inl (1, 8, aF (rP (fun _ _ => True))) := rfl
theorem sh_51 (ad : Nat → Nat) (K : sK) : shp ad K 51 = .inl (1, 8, aF (rP (fun _ _ => True))) := rfl
theorem sh_52 (ad : Nat → Nat) (K : sK) : shp ad K 52 = .inl (1, 6, aF (rP (fun _ _ => True))) := rfl
theorem sh_53 (ad : Nat → Nat) (K : sK) : shp ad K 53 = .inl (1, 6, aF (rP (fun _ _ => True))) := rfl
theorem sh_54 (ad : Nat → Nat) (K : sK) : shp ad K 54 = .inr (0, [.inl (0, 40), .inr (.inl 55), .inr (.inl 56), .inr (.inl 57), .inr (.inl 63)]) := rfl
theorem sh_55 (ad : Nat → Nat) (K : sK) : shp ad K 55 = .inl (1, 40, aF (rP (fun _ v => -1 ≤ v ∧ v ≤ 4))) := rfl
theorem sh_56 (ad : Nat → Nat) (K : sK) : shp ad K 56 = .inl (1, 40, aF (rP (fun _ v => 0 ≤ v ∧ v ≤ 13))) := rfl
theorem sh_57 (ad : Nat → Nat) (K : sK) : shp ad K 57 = .inl (6, 5, aR ad 58 1 5) := rfl
theorem sh_58 (ad : Nat → Nat) (K : sK) : shp ad K 58 = .inl (1, 14, aF (rP (fun _ _ => True))) := rfl
theorem sh_59 (ad : Nat → Nat) (K : sK) : shp ad K 59 = .inl (1, 14, aF (rP (fun _ _ => True))) := rfl
theorem sh_60 (ad : Nat → Nat) (K : sK) : shp ad K 60 = .inl (1, 14, aF (rP (fun _ _ => True))) := rfl
theorem sh_61 (ad : Nat → Nat) (K : sK) : shp ad K 61 = .inl (1, 14, aF (rP (fun _ _ => True))) := rfl
theorem sh_62 (ad : Nat → Nat) (K : sK) : shp ad K 62 = .inl (1, 14, aF (rP (fun _ _ => True))) := rfl
theorem sh_63 (ad : Nat → Nat) (K : sK) : shp ad K 63 = .inl (1, 14, aF (rP (fun _ _ => True))) := rfl
theorem sh_64 (ad : Nat → Nat) (K : sK) : shp ad K 64 = .inr (6, [.inl (-2147483648, 2147483647), .inl (-2147483648, 2147483647), .inl (-2147483648, 2147483647), .inl (0, 14), .inl (0, 5), .inl (0, 8), .inl (0, 6), .inl (-2147483648, 2147483647), .inr (.inl 65), .inr (.inl 66), .inr (.inl 67), .inr (.inl 68), .inr (.inl 69), .inr (.inl 70), .inr (.inl 71), .inr (.inl 72), .inr (.inl 73), .inr (.inl 74)]) := rfl
theorem sh_65 (ad : Nat → Nat) (K : sK) : shp ad K 65 = .inl (1, 14, aF (rP (fun _ _ => True))) := rfl
theorem sh_66 (ad : Nat → Nat) (K : sK) : shp ad K 66 = .inl (3, 14, aF (rP (fun _ _ => True))) := rfl
theorem sh_67 (ad : Nat → Nat) (K : sK) : shp ad K 67 = .inl (1, 5, aF (rP (fun _ _ => True))) := rfl
theorem sh_68 (ad : Nat → Nat) (K : sK) : shp ad K 68 = .inl (1, 8, aF (rP (fun _ v => 0 ≤ v ∧ v ≤ 4))) := rfl
theorem sh_69 (ad : Nat → Nat) (K : sK) : shp ad K 69 = .inl (1, 8, aF (rP (fun _ _ => True))) := rfl
theorem sh_70 (ad : Nat → Nat) (K : sK) : shp ad K 70 = .inl (1, 8, aF (rP (fun _ _ => True))) := rfl
theorem sh_71 (ad : Nat → Nat) (K : sK) : shp ad K 71 = .inl (1, 8, aF (rP (fun _ _ => True))) := rfl
theorem sh_72 (ad : Nat → Nat) (K : sK) : shp ad K 72 = .inl (1, 6, aF (rP (fun _ _ => True))) := rfl
theorem sh_73 (ad : Nat → Nat) (K : sK) : shp ad K 73 = .inl (1, 6, aF (rP (fun _ _ => True))) := rfl
theorem sh_74 (ad : Nat → Nat) (K : sK) : shp ad K 74 = .inr (0, [.inl (0, 40), .inr (.inl 75), .inr (.inl 76), .inr (.inl 77), .inr (.inl 83)]) := rfl
theorem sh_75 (ad : Nat → Nat) (K : sK) : shp ad K 75 = .inl (1, 40, aF (rP (fun _ v => -1 ≤ v ∧ v ≤ 4))) := rfl
theorem sh_76 (ad : Nat → Nat) (K : sK) : shp ad K 76 = .inl (1, 40, aF (rP (fun _ v => 0 ≤ v ∧ v ≤ 13))) := rfl
theorem sh_77 (ad : Nat → Nat) (K : sK) : shp ad K 77 = .inl (6, 5, aR ad 78 1 5) := rfl
theorem sh_78 (ad : Nat → Nat) (K : sK) : shp ad K 78 = .inl (1, 14, aF (rP (fun _ _ => True))) := rfl
theorem sh_79 (ad : Nat → Nat) (K : sK) : shp ad K 79 = .inl (1, 14, aF (rP (fun _ _ => True))) := rfl
theorem sh_80 (ad : Nat → Nat) (K : sK) : shp ad K 80 = .inl (1, 14, aF (rP (fun _ _ => True))) := rfl
theorem sh_81 (ad : Nat → Nat) (K : sK) : shp ad K 81 = .inl (1, 14, aF (rP (fun _ _ => True))) := rfl
theorem sh_82 (ad : Nat → Nat) (K : sK) : shp ad K 82 = .inl (1, 14, aF (rP (fun _ _ => True))) := rfl
theorem sh_83 (ad : Nat → Nat) (K : sK) : shp ad K 83 = .inl (1, 14, aF (rP (fun _ _ => True))) := rfl
theorem sh_84 (ad : Nat → Nat) (K : sK) : shp ad K 84 = .inr (6, [.inl (-2147483648, 2147483647), .inl (-2147483648, 2147483647), .inl (-2147483648, 2147483647), .inl (0, 14), .inl (0, 5), .inl (0, 8), .inl (0, 6), .inl (-2147483648, 2147483647), .inr (.inl 85), .inr (.inl 86), .inr (.inl 87), .inr (.inl 88), .inr (.inl 89), .inr (.inl 90), .inr (.inl 91), .inr (.inl 92), .inr (.inl 93), .inr (.inl 94)]) := rfl
theorem sh_85 (ad : Nat → Nat) (K : sK) : shp ad K 85 = .inl (1, 14, aF (rP (fun _ _ => True))) := rfl
theorem sh_86 (ad : Nat → Nat) (K : sK) : shp ad K 86 = .inl (3, 14, aF (rP (fun _ _ => True))) := rfl
theorem sh_87 (ad : Nat → Nat) (K : sK) : shp ad K 87 = .inl (1, 5, aF (rP (fun _ _ => True))) := rfl
theorem sh_88 (ad : Nat → Nat) (K : sK) : shp ad K 88 = .inl (1, 8, aF (rP (fun _ v => 0 ≤ v ∧ v ≤ 4))) := rfl
theorem sh_89 (ad : Nat → Nat) (K : sK) : shp ad K 89 = .inl (1, 8, aF (rP (fun _ _ => True))) := rfl
theorem sh_90 (ad : Nat → Nat) (K : sK) : shp ad K 90 = .inl (1, 8, aF (rP (fun _ _ => True))) := rfl
theorem sh_91 (ad : Nat → Nat) (K : sK) : shp ad K 91 = .inl (1, 8, aF (rP (fun _ _ => True))) := rfl
theorem sh_92 (ad : Nat → Nat) (K : sK) : shp ad K 92 = .inl (1, 6, aF (rP (fun _ _ => True))) := rfl
theorem sh_93 (ad : Nat → Nat) (K : sK) : shp ad K 93 = .inl (1, 6, aF (rP (fun _ _ => True))) := rfl
theorem sh_94 (ad : Nat → Nat) (K : sK) : shp ad K 94 = .inr (0, [.inl (0, 40), .inr (.inl 95), .inr (.inl 96), .inr (.inl 97), .inr (.inl 103)]) := rfl
theorem sh_95 (ad : Nat → Nat) (K : sK) : shp ad K 95 = .inl (1, 40, aF (rP (fun _ v => -1 ≤ v ∧ v ≤ 4))) := rfl
theorem sh_96 (ad : Nat → Nat) (K : sK) : shp ad K 96 = .inl (1, 40, aF (rP (fun _ v => 0 ≤ v ∧ v ≤ 13))) := rfl
theorem sh_97 (ad : Nat → Nat) (K : sK) : shp ad K 97 = .inl (6, 5, aR ad 98 1 5) := rfl
theorem sh_98 (ad : Nat → Nat) (K : sK) : shp ad K 98 = .inl (1, 14, aF (rP (fun _ _ => True))) := rfl
theorem sh_99 (ad : Nat → Nat) (K : sK) : shp ad K 99 = .inl (1, 14, aF (rP (fun _ _ => True))) := rfl
theorem sh_100 (ad : Nat → Nat) (K : sK) : shp ad K 100 = .inl (1, 14, aF (rP (fun _ _ => True))) := rfl
theorem sh_101 (ad : Nat → Nat) (K : sK) : shp ad K 101 = .inl (1, 14, aF (rP (fun _ _ => True))) := rfl
theorem sh_102 (ad : Nat → Nat) (K : sK) : shp ad K 102 = .inl (1, 14, aF (rP (fun _ _ => True))) := rfl
theorem sh_103 (ad : Nat → Nat) (K : sK) : shp ad K 103 = .inl (1, 14, aF (rP (fun _ _ => True))) := rfl
theorem sh_104 (ad : Nat → Nat) (K : sK) : shp ad K 104 = .inl (3, 3, aF (rP (fun j v => v = (K.1 j).toInt))) := rfl
theorem sh_105 (ad : Nat → Nat) (K : sK) : shp ad K 105 = .inl (4, 4, aR ad 106 2 4) := rfl
theorem sh_106 (ad : Nat → Nat) (K : sK) : shp ad K 106 = .inr (5, [.inr (.inl 107), .inl ((K.2.1 0).toInt, (K.2.1 0).toInt), .inl ((K.2.2.1 0).toInt, (K.2.2.1 0).toInt), .inl ((K.2.2.2.1 0).toInt, (K.2.2.2.1 0).toInt)]) := rfl
theorem sh_107 (ad : Nat → Nat) (K : sK) : shp ad K 107 = .inl (2, 60, aJ (rQ (fun _ _ => True))) := rfl
theorem sh_108 (ad : Nat → Nat) (K : sK) : shp ad K 108 = .inr (5, [.inr (.inl 109), .inl ((K.2.1 1).toInt, (K.2.1 1).toInt), .inl ((K.2.2.1 1).toInt, (K.2.2.1 1).toInt), .inl ((K.2.2.2.1 1).toInt, (K.2.2.2.1 1).toInt)]) := rfl
theorem sh_109 (ad : Nat → Nat) (K : sK) : shp ad K 109 = .inl (2, 60, aJ (rQ (fun _ _ => True))) := rfl
theorem sh_110 (ad : Nat → Nat) (K : sK) : shp ad K 110 = .inr (5, [.inr (.inl 111), .inl ((K.2.1 2).toInt, (K.2.1 2).toInt), .inl ((K.2.2.1 2).toInt, (K.2.2.1 2).toInt), .inl ((K.2.2.2.1 2).toInt, (K.2.2.2.1 2).toInt)]) := rfl
theorem sh_111 (ad : Nat → Nat) (K : sK) : shp ad K 111 = .inl (2, 60, aJ (rQ (fun _ _ => True))) := rfl
theorem sh_112 (ad : Nat → Nat) (K : sK) : shp ad K 112 = .inr (5, [.inr (.inl 113), .inl ((K.2.1 3).toInt, (K.2.1 3).toInt), .inl ((K.2.2.1 3).toInt, (K.2.2.1 3).toInt), .inl ((K.2.2.2.1 3).toInt, (K.2.2.2.1 3).toInt)]) := rfl
theorem sh_113 (ad : Nat → Nat) (K : sK) : shp ad K 113 = .inl (2, 60, aJ (rQ (fun _ _ => True))) := rfl
theorem sh_114 (ad : Nat → Nat) (K : sK) : shp ad K 114 = .inr (10, [.inl (-2147483648, 2147483647), .inl (-2147483648, 2147483647), .inl (-2147483648, 2147483647), .inr (.inl 115)]) := rfl
theorem sh_115 (ad : Nat → Nat) (K : sK) : shp ad K 115 = .inl (1, 8, aF (rP (fun _ v => -1 ≤ v ∧ v ≤ 13))) := rfl
theorem sh_116 (ad : Nat → Nat) (K : sK) : shp ad K 116 = .inr (10, [.inl (-2147483648, 2147483647), .inl (-2147483648, 2147483647), .inl (-2147483648, 2147483647), .inr (.inl 117)]) := rfl
theorem sh_117 (ad : Nat → Nat) (K : sK) : shp ad K 117 = .inl (1, 8, aF (rP (fun _ v => -1 ≤ v ∧ v ≤ 13))) := rfl
theorem sh_118 (ad : Nat → Nat) (K : sK) : shp ad K 118 = .inr (3, [.inr (.inl 119), .inl (-2147483648, 2147483647)]) := rfl
theorem sh_119 (ad : Nat → Nat) (K : sK) : shp ad K 119 = .inl (1, 8, aF (rP (fun _ _ => True))) := rfl
theorem sh_120 (ad : Nat → Nat) (K : sK) : shp ad K 120 = .inr (4, [.inl (-2147483648, 2147483647), .inl (-2147483648, 2147483647), .inr (.inl 121)]) := rfl
theorem sh_121 (ad : Nat → Nat) (K : sK) : shp ad K 121 = .inl (6, 8, aR ad 122 1 8) := rfl
theorem sh_122 (ad : Nat → Nat) (K : sK) : shp ad K 122 = .inl (1, 15, aF (rP (fun _ _ => True))) := rfl
theorem sh_123 (ad : Nat → Nat) (K : sK) : shp ad K 123 = .inl (1, 15, aF (rP (fun _ _ => True))) := rfl
theorem sh_124 (ad : Nat → Nat) (K : sK) : shp ad K 124 = .inl (1, 15, aF (rP (fun _ _ => True))) := rfl
theorem sh_125 (ad : Nat → Nat) (K : sK) : shp ad K 125 = .inl (1, 15, aF (rP (fun _ _ => True))) := rfl
theorem sh_126 (ad : Nat → Nat) (K : sK) : shp ad K 126 = .inl (1, 15, aF (rP (fun _ _ => True))) := rfl
theorem sh_127 (ad : Nat → Nat) (K : sK) : shp ad K 127 = .inl (1, 15, aF (rP (fun _ _ => True))) := rfl
theorem sh_128 (ad : Nat → Nat) (K : sK) : shp ad K 128 = .inl (1, 15, aF (rP (fun _ _ => True))) := rfl
theorem sh_129 (ad : Nat → Nat) (K : sK) : shp ad K 129 = .inl (1, 15, aF (rP (fun _ _ => True))) := rfl
theorem sh_130 (ad : Nat → Nat) (K : sK) : shp ad K 130 = .inr (9, [.inr (.inl 131), .inr (.inl 132), .inr (.inl 133), .inl (0, 5)]) := rfl
theorem sh_131 (ad : Nat → Nat) (K : sK) : shp ad K 131 = .inl (1, 5, aF (rP (fun _ _ => True))) := rfl
theorem sh_132 (ad : Nat → Nat) (K : sK) : shp ad K 132 = .inl (1, 5, aF (rP (fun _ _ => True))) := rfl
theorem sh_133 (ad : Nat → Nat) (K : sK) : shp ad K 133 = .inl (6, 6, aR ad 134 1 6) := rfl
theorem sh_134 (ad : Nat → Nat) (K : sK) : shp ad K 134 = .inl (1, 16, aF (rP (fun _ _ => True))) := rfl
theorem sh_135 (ad : Nat → Nat) (K : sK) : shp ad K 135 = .inl (1, 16, aF (rP (fun _ _ => True))) := rfl
theorem sh_136 (ad : Nat → Nat) (K : sK) : shp ad K 136 = .inl (1, 16, aF (rP (fun _ _ => True))) := rfl
theorem sh_137 (ad : Nat → Nat) (K : sK) : shp ad K 137 = .inl (1, 16, aF (rP (fun _ _ => True))) := rfl
theorem sh_138 (ad : Nat → Nat) (K : sK) : shp ad K 138 = .inl (1, 16, aF (rP (fun _ _ => True))) := rfl
theorem sh_139 (ad : Nat → Nat) (K : sK) : shp ad K 139 = .inl (1, 16, aF (rP (fun _ _ => True))) := rfl
theorem sh_140 (ad : Nat → Nat) (K : sK) : shp ad K 140 = .inr (1, [.inr (.inl 141), .inr (.inl 142), .inr (.inl 143), .inl (0, 14)]) := rfl
theorem sh_141 (ad : Nat → Nat) (K : sK) : shp ad K 141 = .inl (2, 15, aJ (rQ (fun _ _ => True))) := rfl
theorem sh_142 (ad : Nat → Nat) (K : sK) : shp ad K 142 = .inl (2, 14, aJ (rQ (fun _ _ => True))) := rfl
theorem sh_143 (ad : Nat → Nat) (K : sK) : shp ad K 143 = .inl (2, 14, aJ (rQ (fun _ _ => True))) := rfl
theorem sh_144 (ad : Nat → Nat) (K : sK) : shp ad K 144 = .inr (8, [.inl (-2147483648, 2147483647), .inr (.inl 145), .inr (.inl 160), .inr (.inl 175), .inl (0, 14), .inl (0, 5)]) := rfl
theorem sh_145 (ad : Nat → Nat) (K : sK) : shp ad K 145 = .inl (6, 14, aR ad 146 1 14) := rfl
theorem sh_146 (ad : Nat → Nat) (K : sK) : shp ad K 146 = .inl (1, 5, aF (rP (fun _ _ => True))) := rfl
theorem sh_147 (ad : Nat → Nat) (K : sK) : shp ad K 147 = .inl (1, 5, aF (rP (fun _ _ => True))) := rfl
theorem sh_148 (ad : Nat → Nat) (K : sK) : shp ad K 148 = .inl (1, 5, aF (rP (fun _ _ => True))) := rfl
theorem sh_149 (ad : Nat → Nat) (K : sK) : shp ad K 149 = .inl (1, 5, aF (rP (fun _ _ => True))) := rfl
theorem sh_150 (ad : Nat → Nat) (K : sK) : shp ad K 150 = .inl (1, 5, aF (rP (fun _ _ => True))) := rfl
theorem sh_151 (ad : Nat → Nat) (K : sK) : shp ad K 151 = .inl (1, 5, aF (rP (fun _ _ => True))) := rfl
theorem sh_152 (ad : Nat → Nat) (K : sK) : shp ad K 152 = .inl (1, 5, aF (rP (fun _ _ => True))) := rfl
theorem sh_153 (ad : Nat → Nat) (K : sK) : shp ad K 153 = .inl (1, 5, aF (rP (fun _ _ => True))) := rfl
theorem sh_154 (ad : Nat → Nat) (K : sK) : shp ad K 154 = .inl (1, 5, aF (rP (fun _ _ => True))) := rfl
theorem sh_155 (ad : Nat → Nat) (K : sK) : shp ad K 155 = .inl (1, 5, aF (rP (fun _ _ => True))) := rfl
theorem sh_156 (ad : Nat → Nat) (K : sK) : shp ad K 156 = .inl (1, 5, aF (rP (fun _ _ => True))) := rfl
theorem sh_157 (ad : Nat → Nat) (K : sK) : shp ad K 157 = .inl (1, 5, aF (rP (fun _ _ => True))) := rfl
theorem sh_158 (ad : Nat → Nat) (K : sK) : shp ad K 158 = .inl (1, 5, aF (rP (fun _ _ => True))) := rfl
theorem sh_159 (ad : Nat → Nat) (K : sK) : shp ad K 159 = .inl (1, 5, aF (rP (fun _ _ => True))) := rfl
theorem sh_160 (ad : Nat → Nat) (K : sK) : shp ad K 160 = .inl (6, 14, aR ad 161 1 14) := rfl
theorem sh_161 (ad : Nat → Nat) (K : sK) : shp ad K 161 = .inl (1, 5, aF (rP (fun _ _ => True))) := rfl
theorem sh_162 (ad : Nat → Nat) (K : sK) : shp ad K 162 = .inl (1, 5, aF (rP (fun _ _ => True))) := rfl
theorem sh_163 (ad : Nat → Nat) (K : sK) : shp ad K 163 = .inl (1, 5, aF (rP (fun _ _ => True))) := rfl
theorem sh_164 (ad : Nat → Nat) (K : sK) : shp ad K 164 = .inl (1, 5, aF (rP (fun _ _ => True))) := rfl
theorem sh_165 (ad : Nat → Nat) (K : sK) : shp ad K 165 = .inl (1, 5, aF (rP (fun _ _ => True))) := rfl
theorem sh_166 (ad : Nat → Nat) (K : sK) : shp ad K 166 = .inl (1, 5, aF (rP (fun _ _ => True))) := rfl
theorem sh_167 (ad : Nat → Nat) (K : sK) : shp ad K 167 = .inl (1, 5, aF (rP (fun _ _ => True))) := rfl
theorem sh_168 (ad : Nat → Nat) (K : sK) : shp ad K 168 = .inl (1, 5, aF (rP (fun _ _ => True))) := rfl
theorem sh_169 (ad : Nat → Nat) (K : sK) : shp ad K 169 = .inl (1, 5, aF (rP (fun _ _ => True))) := rfl
theorem sh_170 (ad : Nat → Nat) (K : sK) : shp ad K 170 = .inl (1, 5, aF (rP (fun _ _ => True))) := rfl
theorem sh_171 (ad : Nat → Nat) (K : sK) : shp ad K 171 = .inl (1, 5, aF (rP (fun _ _ => True))) := rfl
theorem sh_172 (ad : Nat → Nat) (K : sK) : shp ad K 172 = .inl (1, 5, aF (rP (fun _ _ => True))) := rfl
theorem sh_173 (ad : Nat → Nat) (K : sK) : shp ad K 173 = .inl (1, 5, aF (rP (fun _ _ => True))) := rfl
theorem sh_174 (ad : Nat → Nat) (K : sK) : shp ad K 174 = .inl (1, 5, aF (rP (fun _ _ => True))) := rfl
theorem sh_175 (ad : Nat → Nat) (K : sK) : shp ad K 175 = .inl (6, 14, aR ad 176 1 14) := rfl
theorem sh_176 (ad : Nat → Nat) (K : sK) : shp ad K 176 = .inl (1, 5, aF (rP (fun _ _ => True))) := rfl
theorem sh_177 (ad : Nat → Nat) (K : sK) : shp ad K 177 = .inl (1, 5, aF (rP (fun _ _ => True))) := rfl
theorem sh_178 (ad : Nat → Nat) (K : sK) : shp ad K 178 = .inl (1, 5, aF (rP (fun _ _ => True))) := rfl
theorem sh_179 (ad : Nat → Nat) (K : sK) : shp ad K 179 = .inl (1, 5, aF (rP (fun _ _ => True))) := rfl
theorem sh_180 (ad : Nat → Nat) (K : sK) : shp ad K 180 = .inl (1, 5, aF (rP (fun _ _ => True))) := rfl
theorem sh_181 (ad : Nat → Nat) (K : sK) : shp ad K 181 = .inl (1, 5, aF (rP (fun _ _ => True))) := rfl
theorem sh_182 (ad : Nat → Nat) (K : sK) : shp ad K 182 = .inl (1, 5, aF (rP (fun _ _ => True))) := rfl
theorem sh_183 (ad : Nat → Nat) (K : sK) : shp ad K 183 = .inl (1, 5, aF (rP (fun _ _ => True))) := rfl
theorem sh_184 (ad : Nat → Nat) (K : sK) : shp ad K 184 = .inl (1, 5, aF (rP (fun _ _ => True))) := rfl
theorem sh_185 (ad : Nat → Nat) (K : sK) : shp ad K 185 = .inl (1, 5, aF (rP (fun _ _ => True))) := rfl
theorem sh_186 (ad : Nat → Nat) (K : sK) : shp ad K 186 = .inl (1, 5, aF (rP (fun _ _ => True))) := rfl
theorem sh_187 (ad : Nat → Nat) (K : sK) : shp ad K 187 = .inl (1, 5, aF (rP (fun _ _ => True))) := rfl
theorem sh_188 (ad : Nat → Nat) (K : sK) : shp ad K 188 = .inl (1, 5, aF (rP (fun _ _ => True))) := rfl
theorem sh_189 (ad : Nat → Nat) (K : sK) : shp ad K 189 = .inl (1, 5, aF (rP (fun _ _ => True))) := rfl
theorem sh_190 (ad : Nat → Nat) (K : sK) : shp ad K 190 = .inr (2, [.inl (-2147483648, 2147483647), .inl (-2147483648, 2147483647), .inr (.inl 191)]) := rfl
theorem sh_191 (ad : Nat → Nat) (K : sK) : shp ad K 191 = .inl (6, 5, aR ad 192 1 5) := rfl
theorem sh_192 (ad : Nat → Nat) (K : sK) : shp ad K 192 = .inl (1, 5, aF (rP (fun _ _ => True))) := rfl
theorem sh_193 (ad : Nat → Nat) (K : sK) : shp ad K 193 = .inl (1, 5, aF (rP (fun _ _ => True))) := rfl
theorem sh_194 (ad : Nat → Nat) (K : sK) : shp ad K 194 = .inl (1, 5, aF (rP (fun _ _ => True))) := rfl
theorem sh_195 (ad : Nat → Nat) (K : sK) : shp ad K 195 = .inl (1, 5, aF (rP (fun _ _ => True))) := rfl
theorem sh_196 (ad : Nat → Nat) (K : sK) : shp ad K 196 = .inl (1, 5, aF (rP (fun _ _ => True))) := rfl
theorem sh_197 (ad : Nat → Nat) (K : sK) : shp ad K 197 = .inr (12, [.inl (-2147483648, 2147483647), .inr (.inl 198), .inr (.inl 199), .inr (.inl 200), .inr (.inl 201), .inl (0, 1000), .inr (.inl 202), .inl (0, 1000), .inl (0, 1000), .inl (0, 1000), .inl (0, 4), .inl (-2147483648, 2147483647), .inl (-2147483648, 2147483647), .inl (-2147483648, 2147483647), .inr (.inl 203), .inr (.inl 204), .inr (.inl 205), .inl (0, 14), .inl (-2147483648, 2147483647), .inr (.inl 206), .inr (.inl 207), .inr (.inl 208), .inl (0, 70), .inl (-2147483648, 2147483647), .inl (-2147483648, 2147483647), .inl (-2147483648, 2147483647), .inl (-2147483648, 2147483647), .inr (.inl 209), .inr (.inl 210), .inr (.inl 211), .inr (.inr (-9223372036854775808, 9223372036854775807)), .inr (.inr (-9223372036854775808, 9223372036854775807)), .inr (.inl 212), .inr (.inl 213), .inl (-2147483648, 2147483647), .inl (-2147483648, 2147483647), .inr (.inl 214), .inr (.inl 215), .inr (.inl 216), .inr (.inl 217)]) := rfl
theorem sh_198 (ad : Nat → Nat) (K : sK) : shp ad K 198 = .inl (1, 118, aF (rP wq)) := rfl
theorem sh_199 (ad : Nat → Nat) (K : sK) : shp ad K 199 = .inl (1, 354, aF (rP (fun j v => wq (j % 118) v))) := rfl
theorem sh_200 (ad : Nat → Nat) (K : sK) : shp ad K 200 = .inl (3, 3, aF (rP (fun j v => v = (K.2.2.2.2.2.2 j).toInt))) := rfl
theorem sh_201 (ad : Nat → Nat) (K : sK) : shp ad K 201 = .inl (0, 1000, aF (rP (fun _ _ => True))) := rfl
theorem sh_202 (ad : Nat → Nat) (K : sK) : shp ad K 202 = .inl (1, 5, aF (rP (fun _ _ => True))) := rfl
theorem sh_203 (ad : Nat → Nat) (K : sK) : shp ad K 203 = .inl (1, 118, aF (rP wq)) := rfl
theorem sh_204 (ad : Nat → Nat) (K : sK) : shp ad K 204 = .inl (1, 70, aF (rP (fun _ _ => True))) := rfl
theorem sh_205 (ad : Nat → Nat) (K : sK) : shp ad K 205 = .inl (1, 8, aF (rP (fun _ v => -1 ≤ v ∧ v ≤ 13))) := rfl
theorem sh_206 (ad : Nat → Nat) (K : sK) : shp ad K 206 = .inl (1, 160, aF (rP rq)) := rfl
theorem sh_207 (ad : Nat → Nat) (K : sK) : shp ad K 207 = .inl (1, 70, aF (rP (fun _ _ => True))) := rfl
theorem sh_208 (ad : Nat → Nat) (K : sK) : shp ad K 208 = .inl (1, 560, aF (rP (fun _ _ => True))) := rfl
theorem sh_209 (ad : Nat → Nat) (K : sK) : shp ad K 209 = .inl (2, 15, aJ (rQ (fun _ _ => True))) := rfl
theorem sh_210 (ad : Nat → Nat) (K : sK) : shp ad K 210 = .inl (2, 15, aJ (rQ (fun _ _ => True))) := rfl
theorem sh_211 (ad : Nat → Nat) (K : sK) : shp ad K 211 = .inl (2, 14, aJ (rQ (fun _ _ => True))) := rfl
theorem sh_212 (ad : Nat → Nat) (K : sK) : shp ad K 212 = .inl (1, 75, aF (rP sq)) := rfl
theorem sh_213 (ad : Nat → Nat) (K : sK) : shp ad K 213 = .inl (1, 75, aF (rP (fun _ _ => True))) := rfl
theorem sh_214 (ad : Nat → Nat) (K : sK) : shp ad K 214 = .inl (1, 4, aF (rP (fun j v => v = (K.2.2.2.2.1 j).toInt))) := rfl
theorem sh_215 (ad : Nat → Nat) (K : sK) : shp ad K 215 = .inl (1, 4, aF (rP (fun j v => v = (K.2.2.2.2.2.1 j).toInt))) := rfl
theorem sh_216 (ad : Nat → Nat) (K : sK) : shp ad K 216 = .inl (2, 240, aJ (rQ (fun _ _ => True))) := rfl
theorem sh_217 (ad : Nat → Nat) (K : sK) : shp ad K 217 = .inl (2, 60, aJ (rQ (fun _ _ => True))) := rfl
theorem shS_0 (ad : Nat → Nat) (K : sK) {b : Nat} (hb : b = 3 ∨ b = 23 ∨ b = 44 ∨ b = 64 ∨ b = 84) : shp ad K b = .inr (6, [.inl (-2147483648, 2147483647), .inl (-2147483648, 2147483647), .inl (-2147483648, 2147483647), .inl (0, 14), .inl (0, 5), .inl (0, 8), .inl (0, 6), .inl (-2147483648, 2147483647), .inr (.inl (b + 1)), .inr (.inl (b + 2)), .inr (.inl (b + 3)), .inr (.inl (b + 4)), .inr (.inl (b + 5)), .inr (.inl (b + 6)), .inr (.inl (b + 7)), .inr (.inl (b + 8)), .inr (.inl (b + 9)), .inr (.inl (b + 10))]) := by rcases hb with rfl | rfl | rfl | rfl | rfl <;> rfl
theorem shS_1 (ad : Nat → Nat) (K : sK) {b : Nat} (hb : b = 3 ∨ b = 23 ∨ b = 44 ∨ b = 64 ∨ b = 84) : shp ad K (b + 1) = .inl (1, 14, aF (rP (fun _ _ => True))) := by rcases hb with rfl | rfl | rfl | rfl | rfl <;> rfl
theorem shS_2 (ad : Nat → Nat) (K : sK) {b : Nat} (hb : b = 3 ∨ b = 23 ∨ b = 44 ∨ b = 64 ∨ b = 84) : shp ad K (b + 2) = .inl (3, 14, aF (rP (fun _ _ => True))) := by rcases hb with rfl | rfl | rfl | rfl | rfl <;> rfl
theorem shS_3 (ad : Nat → Nat) (K : sK) {b : Nat} (hb : b = 3 ∨ b = 23 ∨ b = 44 ∨ b = 64 ∨ b = 84) : shp ad K (b + 3) = .inl (1, 5, aF (rP (fun _ _ => True))) := by rcases hb with rfl | rfl | rfl | rfl | rfl <;> rfl
theorem shS_4 (ad : Nat → Nat) (K : sK) {b : Nat} (hb : b = 3 ∨ b = 23 ∨ b = 44 ∨ b = 64 ∨ b = 84) : shp ad K (b + 4) = .inl (1, 8, aF (rP (fun _ v => 0 ≤ v ∧ v ≤ 4))) := by rcases hb with rfl | rfl | rfl | rfl | rfl <;> rfl
theorem shS_5 (ad : Nat → Nat) (K : sK) {b : Nat} (hb : b = 3 ∨ b = 23 ∨ b = 44 ∨ b = 64 ∨ b = 84) : shp ad K (b + 5) = .inl (1, 8, aF (rP (fun _ _ => True))) := by rcases hb with rfl | rfl | rfl | rfl | rfl <;> rfl
theorem shS_6 (ad : Nat → Nat) (K : sK) {b : Nat} (hb : b = 3 ∨ b = 23 ∨ b = 44 ∨ b = 64 ∨ b = 84) : shp ad K (b + 6) = .inl (1, 8, aF (rP (fun _ _ => True))) := by rcases hb with rfl | rfl | rfl | rfl | rfl <;> rfl
theorem shS_7 (ad : Nat → Nat) (K : sK) {b : Nat} (hb : b = 3 ∨ b = 23 ∨ b = 44 ∨ b = 64 ∨ b = 84) : shp ad K (b + 7) = .inl (1, 8, aF (rP (fun _ _ => True))) := by rcases hb with rfl | rfl | rfl | rfl | rfl <;> rfl
theorem shS_8 (ad : Nat → Nat) (K : sK) {b : Nat} (hb : b = 3 ∨ b = 23 ∨ b = 44 ∨ b = 64 ∨ b = 84) : shp ad K (b + 8) = .inl (1, 6, aF (rP (fun _ _ => True))) := by rcases hb with rfl | rfl | rfl | rfl | rfl <;> rfl
theorem shS_9 (ad : Nat → Nat) (K : sK) {b : Nat} (hb : b = 3 ∨ b = 23 ∨ b = 44 ∨ b = 64 ∨ b = 84) : shp ad K (b + 9) = .inl (1, 6, aF (rP (fun _ _ => True))) := by rcases hb with rfl | rfl | rfl | rfl | rfl <;> rfl
theorem shS_10 (ad : Nat → Nat) (K : sK) {b : Nat} (hb : b = 3 ∨ b = 23 ∨ b = 44 ∨ b = 64 ∨ b = 84) : shp ad K (b + 10) = .inr (0, [.inl (0, 40), .inr (.inl (b + 11)), .inr (.inl (b + 12)), .inr (.inl (b + 13)), .inr (.inl (b + 19))]) := by rcases hb with rfl | rfl | rfl | rfl | rfl <;> rfl
theorem shS_11 (ad : Nat → Nat) (K : sK) {b : Nat} (hb : b = 3 ∨ b = 23 ∨ b = 44 ∨ b = 64 ∨ b = 84) : shp ad K (b + 11) = .inl (1, 40, aF (rP (fun _ v => -1 ≤ v ∧ v ≤ 4))) := by rcases hb with rfl | rfl | rfl | rfl | rfl <;> rfl
theorem shS_12 (ad : Nat → Nat) (K : sK) {b : Nat} (hb : b = 3 ∨ b = 23 ∨ b = 44 ∨ b = 64 ∨ b = 84) : shp ad K (b + 12) = .inl (1, 40, aF (rP (fun _ v => 0 ≤ v ∧ v ≤ 13))) := by rcases hb with rfl | rfl | rfl | rfl | rfl <;> rfl
theorem shS_13 (ad : Nat → Nat) (K : sK) {b : Nat} (hb : b = 3 ∨ b = 23 ∨ b = 44 ∨ b = 64 ∨ b = 84) : shp ad K (b + 13) = .inl (6, 5, aR ad (b + 14) 1 5) := by rcases hb with rfl | rfl | rfl | rfl | rfl <;> rfl
theorem shS_14 (ad : Nat → Nat) (K : sK) {b : Nat} (hb : b = 3 ∨ b = 23 ∨ b = 44 ∨ b = 64 ∨ b = 84) : shp ad K (b + 14) = .inl (1, 14, aF (rP (fun _ _ => True))) := by rcases hb with rfl | rfl | rfl | rfl | rfl <;> rfl
theorem shS_15 (ad : Nat → Nat) (K : sK) {b : Nat} (hb : b = 3 ∨ b = 23 ∨ b = 44 ∨ b = 64 ∨ b = 84) : shp ad K (b + 15) = .inl (1, 14, aF (rP (fun _ _ => True))) := by rcases hb with rfl | rfl | rfl | rfl | rfl <;> rfl
theorem shS_16 (ad : Nat → Nat) (K : sK) {b : Nat} (hb : b = 3 ∨ b = 23 ∨ b = 44 ∨ b = 64 ∨ b = 84) : shp ad K (b + 16) = .inl (1, 14, aF (rP (fun _ _ => True))) := by rcases hb with rfl | rfl | rfl | rfl | rfl <;> rfl
theorem shS_17 (ad : Nat → Nat) (K : sK) {b : Nat} (hb : b = 3 ∨ b = 23 ∨ b = 44 ∨ b = 64 ∨ b = 84) : shp ad K (b + 17) = .inl (1, 14, aF (rP (fun _ _ => True))) := by rcases hb with rfl | rfl | rfl | rfl | rfl <;> rfl
theorem shS_18 (ad : Nat → Nat) (K : sK) {b : Nat} (hb : b = 3 ∨ b = 23 ∨ b = 44 ∨ b = 64 ∨ b = 84) : shp ad K (b + 18) = .inl (1, 14, aF (rP (fun _ _ => True))) := by rcases hb with rfl | rfl | rfl | rfl | rfl <;> rfl
theorem shS_19 (ad : Nat → Nat) (K : sK) {b : Nat} (hb : b = 3 ∨ b = 23 ∨ b = 44 ∨ b = 64 ∨ b = 84) : shp ad K (b + 19) = .inl (1, 14, aF (rP (fun _ _ => True))) := by rcases hb with rfl | rfl | rfl | rfl | rfl <;> rfl
theorem shSR (ad : Nat → Nat) (K : sK) {b e : Nat} (hb : b = 3 ∨ b = 23 ∨ b = 44 ∨ b = 64 ∨ b = 84) (he : e < 5) : shp ad K (b + 14 + e) = .inl (1, 14, aF (rP (fun _ _ => True))) := by
  rcases (by omega : e = 0 ∨ e = 1 ∨ e = 2 ∨ e = 3 ∨ e = 4) with rfl | rfl | rfl | rfl | rfl <;> rcases hb with rfl | rfl | rfl | rfl | rfl <;> rfl
theorem shW_0 (ad : Nat → Nat) (K : sK) {w : Nat} (hw : w = 114 ∨ w = 116) : shp ad K w = .inr (10, [.inl (-2147483648, 2147483647), .inl (-2147483648, 2147483647), .inl (-2147483648, 2147483647), .inr (.inl (w + 1))]) := by rcases hw with rfl | rfl <;> rfl
theorem shW_1 (ad : Nat → Nat) (K : sK) {w : Nat} (hw : w = 114 ∨ w = 116) : shp ad K (w + 1) = .inl (1, 8, aF (rP (fun _ v => -1 ≤ v ∧ v ≤ 13))) := by rcases hw with rfl | rfl <;> rfl
theorem shJ_0 (ad : Nat → Nat) (K : sK) {j : Nat} (hj : j < 4) : shp ad K (106 + 2 * j) = .inr (5, [.inr (.inl (107 + 2 * j)), .inl ((K.2.1 j).toInt, (K.2.1 j).toInt), .inl ((K.2.2.1 j).toInt, (K.2.2.1 j).toInt), .inl ((K.2.2.2.1 j).toInt, (K.2.2.2.1 j).toInt)]) := by rcases (by omega : j = 0 ∨ j = 1 ∨ j = 2 ∨ j = 3) with rfl | rfl | rfl | rfl <;> rfl
theorem shJ_1 (ad : Nat → Nat) (K : sK) {j : Nat} (hj : j < 4) : shp ad K (107 + 2 * j) = .inl (2, 60, aJ (rQ (fun _ _ => True))) := by rcases (by omega : j = 0 ∨ j = 1 ∨ j = 2 ∨ j = 3) with rfl | rfl | rfl | rfl <;> rfl
theorem shR_122 (ad : Nat → Nat) (K : sK) {e : Nat} (he : e < 8) : shp ad K (122 + e) = .inl (1, 15, aF (rP (fun _ _ => True))) := by
  rcases (by omega : e = 0 ∨ e = 1 ∨ e = 2 ∨ e = 3 ∨ e = 4 ∨ e = 5 ∨ e = 6 ∨ e = 7) with rfl | rfl | rfl | rfl | rfl | rfl | rfl | rfl <;> rfl
theorem shR_134 (ad : Nat → Nat) (K : sK) {e : Nat} (he : e < 6) : shp ad K (134 + e) = .inl (1, 16, aF (rP (fun _ _ => True))) := by
  rcases (by omega : e = 0 ∨ e = 1 ∨ e = 2 ∨ e = 3 ∨ e = 4 ∨ e = 5) with rfl | rfl | rfl | rfl | rfl | rfl <;> rfl
theorem shR_146 (ad : Nat → Nat) (K : sK) {e : Nat} (he : e < 14) : shp ad K (146 + e) = .inl (1, 5, aF (rP (fun _ _ => True))) := by
  rcases (by omega : e = 0 ∨ e = 1 ∨ e = 2 ∨ e = 3 ∨ e = 4 ∨ e = 5 ∨ e = 6 ∨ e = 7 ∨ e = 8 ∨ e = 9 ∨ e = 10 ∨ e = 11 ∨ e = 12 ∨ e = 13) with rfl | rfl | rfl | rfl | rfl | rfl | rfl | rfl | rfl | rfl | rfl | rfl | rfl | rfl <;> rfl
theorem shR_161 (ad : Nat → Nat) (K : sK) {e : Nat} (he : e < 14) : shp ad K (161 + e) = .inl (1, 5, aF (rP (fun _ _ => True))) := by
  rcases (by omega : e = 0 ∨ e = 1 ∨ e = 2 ∨ e = 3 ∨ e = 4 ∨ e = 5 ∨ e = 6 ∨ e = 7 ∨ e = 8 ∨ e = 9 ∨ e = 10 ∨ e = 11 ∨ e = 12 ∨ e = 13) with rfl | rfl | rfl | rfl | rfl | rfl | rfl | rfl | rfl | rfl | rfl | rfl | rfl | rfl <;> rfl
theorem shR_176 (ad : Nat → Nat) (K : sK) {e : Nat} (he : e < 14) : shp ad K (176 + e) = .inl (1, 5, aF (rP (fun _ _ => True))) := by
  rcases (by omega : e = 0 ∨ e = 1 ∨ e = 2 ∨ e = 3 ∨ e = 4 ∨ e = 5 ∨ e = 6 ∨ e = 7 ∨ e = 8 ∨ e = 9 ∨ e = 10 ∨ e = 11 ∨ e = 12 ∨ e = 13) with rfl | rfl | rfl | rfl | rfl | rfl | rfl | rfl | rfl | rfl | rfl | rfl | rfl | rfl <;> rfl
theorem shR_192 (ad : Nat → Nat) (K : sK) {e : Nat} (he : e < 5) : shp ad K (192 + e) = .inl (1, 5, aF (rP (fun _ _ => True))) := by
  rcases (by omega : e = 0 ∨ e = 1 ∨ e = 2 ∨ e = 3 ∨ e = 4) with rfl | rfl | rfl | rfl | rfl <;> rfl
