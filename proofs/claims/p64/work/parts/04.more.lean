abbrev nW : Nat := 218
theorem i_ge {x : Int32} (h : ¬ x < 0) : 0 ≤ x := Int32.not_lt.mp h
theorem i_eq {x y : Int32} (h1 : ¬ x < y) (h2 : x ≤ y) : x = y := Int32.le_antisymm h2 (Int32.not_lt.mp h1)
theorem sw_of {x : Int32} {N : Nat} (h : ¬ (x.toInt < 0 ∨ (N : Int) < x.toInt)) (hN : N < 2 ^ 31) : ∃ j : Nat, j ≤ N ∧ x = nI j := by
  have h0 : ¬ x < 0 := fun q => h (Or.inl (by have := Int32.lt_iff_toInt_lt.mp q; simpa using this))
  obtain ⟨j, hj, rfl⟩ := nI_of h0
  refine ⟨j, ?_, rfl⟩
  rw [nI_toInt hj] at h
  omega
theorem in_of {x : Int32} {N : Nat} (h0 : ¬ x < 0) (h : x < nI N) (hN : N < 2 ^ 31) : ∃ j : Nat, j < N ∧ x = nI j := by
  obtain ⟨j, hj, rfl⟩ := nI_of h0
  exact ⟨j, (nI_ltI hj hN).mp h, rfl⟩
def inS (x : Int32) : Prop := ¬ x < 0 ∧ x < 4
theorem inS_4 {x : Int32} (h : inS x) : x = 0 ∨ x = 1 ∨ x = 2 ∨ x = 3 := by
  obtain ⟨j, hj, rfl⟩ := in_of (N := 4) h.1 h.2 (by decide)
  rcases (by omega : j = 0 ∨ j = 1 ∨ j = 2 ∨ j = 3) with rfl | rfl | rfl | rfl <;> simp [nI]
theorem in3 {x : Int32} (h0 : ¬ x < 0) (h : x < 3) : x = 0 ∨ x = 1 ∨ x = 2 := by
  obtain ⟨j, hj, rfl⟩ := in_of (N := 3) h0 h (by decide)
  rcases (by omega : j = 0 ∨ j = 1 ∨ j = 2) with rfl | rfl | rfl <;> simp [nI]
noncomputable def aBack (k : Int32) : Int32 := if k < 0 then -2 else if k < 3 then -6 else -2
noncomputable def aImg (k : Int32) : Int32 := if k < 0 then -2 else if k < 3 then 0 else -2
noncomputable def aEnd (n : Int32) : Int32 := if n = 0 then 0 else -1
noncomputable def aWr (s : Int32) : Int32 := if s < 0 then -2 else if s < 4 then -6 else -2
noncomputable def aPst (s t : Int32) : Int32 := if s < 0 then -2 else if s < 4 then aWr t else -2
noncomputable def aRow (s w n : Int32) : Int32 := if s < 0 then -2 else if s < 4 then if w < 0 then -2 else if w < 4 then if n ≤ 60 then if 0 ≤ n then 0 else -3 else -2 else -2 else -2
noncomputable def aCnt (w : Int32) : Int32 := if w.toInt < 0 ∨ 10 < w.toInt then -1 else 0
theorem aWr_in {s : Int32} (h : inS s) : aWr s = -6 := by unfold aWr; rw [if_neg h.1, if_pos h.2]
theorem aWr_out {s : Int32} (h : ¬ inS s) : aWr s = -2 := by
  unfold aWr
  by_cases h1 : s < 0
  · rw [if_pos h1]
  · rw [if_neg h1, if_neg (fun h2 => h ⟨h1, h2⟩)]
theorem aPst_in {s t : Int32} (h : inS s) : aPst s t = aWr t := by unfold aPst; rw [if_neg h.1, if_pos h.2]
theorem aPst_out {s t : Int32} (h : ¬ inS s) : aPst s t = -2 := by
  unfold aPst
  by_cases h1 : s < 0
  · rw [if_pos h1]
  · rw [if_neg h1, if_neg (fun h2 => h ⟨h1, h2⟩)]
theorem aEnd_ne {n : Int32} (h : ¬ n = 0) : -1 = aEnd n := (if_neg h).symm
section MORE
variable {p : Program} {l : Launch} {e : Env} {R : Room} {s : State} {m : MethodId} {args : Array Value} {below : List Frame} {meth : Method} {c : Code} {H H0 : Heap} {locs : List Loc} {cells slots : Nat} {Q : State → Prop}
variable {cc : ByteArray} {pc nL n : Nat} {ls : Array Slot} {rest : List Value} {D : va_G} {cs : Nat → ClassId} {A : Nat → Prop} {ad : Nat → Nat} {g : Nat → va_E} {rt : Option FieldType} {Ts : List Cond} {own : String}
theorem q_aald (X : Cx p s m args meth c cc nL rt Ts own D cs) (hP : va_P D vwCl (wL ad g n) H) (t0 : Nat) {C : String} (ht : (tyL cs)[t0]? = some (cs t0, .object C)) {i N : Nat} {f : Nat → Option Nat} (hi : i < n) (hg : g i = .inl (cs t0, N, .inr (.inr (.inr (.inr f))))) {k : Int32} (hin : vp_in k N) {v : Nat} (hv : f k.toNatClampNeg = some v) (hdg : decode cc pc = .ok (.aaload, 1))
    (kk : W p l e R s m args below meth c H locs cells slots Q (F0 m (pc + 1) ls (.ref v :: rest))) : W p l e R s m args below meth c H locs cells slots Q (F0 m pc ls (.int k :: .ref (ad i) :: rest)) :=
  va_aldq X.1 X.2.1 X.2.2.2.2.2.2.1 hP i t0 (wL_at hi hg) ht hin hdg (by rw [hv]; exact kk)
end MORE
