-- words that are good, list by list
def Gd (ws : List Cond) : Prop := ∀ w ∈ ws, (w.onTables && w.keeps) = true ∨ ∃ ty, w = .arrayClass ty
theorem Gd.r {ws : List Cond} (h : ws.all goodWord = true) : Gd ws := fun w hw => good_of_word (List.all_eq_true.mp h w hw)
theorem Gd.app {a b : List Cond} (ha : Gd a) (hb : Gd b) : Gd (a ++ b) := fun w h => (List.mem_append.mp h).elim (ha w) (hb w)
theorem Gd.cons {c : Cond} {a : List Cond} (h : goodWord c = true) (ha : Gd a) : Gd (c :: a) := fun w hw => (List.mem_cons.mp hw).elim (fun e => by rw [e]; exact good_of_word h) (ha w)
/-- words that stand in a list -/
def wIn (big ws : List Cond) : Prop := ∀ w ∈ ws, w ∈ big
theorem wIn.r {big : List Cond} (ws : List Cond) (ps : List Nat) (hp : ws = ps.filterMap (fun i => big[i]?)) : wIn big ws := fun w hw => by
  rw [hp] at hw
  obtain ⟨i, -, hi⟩ := List.mem_filterMap.mp hw
  first | exact List.mem_of_getElem? hi | exact List.getElem?_mem hi
theorem wIn.app {big a b : List Cond} (ha : wIn big a) (hb : wIn big b) : wIn big (a ++ b) := fun w h => (List.mem_append.mp h).elim (ha w) (hb w)
theorem wIn.cons {big a : List Cond} {c : Cond} (h : c ∈ big) (ha : wIn big a) : wIn big (c :: a) := fun w hw => (List.mem_cons.mp hw).elim (fun e => by rw [e]; exact h) (ha w)
theorem gwX_0 : Gd wsX00 := Gd.r (by decide +kernel)
theorem gwX_1 : Gd wsX10 := Gd.r (by decide +kernel)
theorem gwX_2 : Gd wsX20 := Gd.r (by decide +kernel)
theorem gwX_3 : Gd wsX30 := Gd.r (by decide +kernel)
theorem gwX_4 : Gd wsX40 := Gd.r (by decide +kernel)
theorem gwX_5 : Gd wsX50 := Gd.r (by decide +kernel)
theorem gwX_6 : Gd wsX60 := Gd.r (by decide +kernel)
theorem gwX_7 : Gd wsX70 := Gd.r (by decide +kernel)
theorem gwX_8 : Gd wsX80 := Gd.r (by decide +kernel)
theorem gwX_9 : Gd wsX90 := Gd.r (by decide +kernel)
theorem gwX_10 : Gd wsX100 := Gd.r (by decide +kernel)
theorem gwX_11 : Gd wsX110 := Gd.r (by decide +kernel)
theorem gwX_12 : Gd wsX120 := Gd.r (by decide +kernel)
