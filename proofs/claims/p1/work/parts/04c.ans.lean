theorem aRow_s {s w n : Int32} (h : ¬ inS s) : -2 = aRow s w n := by
  unfold aRow
  by_cases h1 : s < 0
  · rw [if_pos h1]
  · rw [if_neg h1, if_neg (fun h2 => h ⟨h1, h2⟩)]
theorem aRow_w {s w n : Int32} (h : inS s) (hw : ¬ inS w) : -2 = aRow s w n := by
  unfold aRow
  rw [if_neg h.1, if_pos h.2]
  by_cases h1 : w < 0
  · rw [if_pos h1]
  · rw [if_neg h1, if_neg (fun h2 => hw ⟨h1, h2⟩)]
theorem aRow_n {s w n : Int32} (h : inS s) (hw : inS w) (hn : ¬ n ≤ 60) : -2 = aRow s w n := by
  unfold aRow
  rw [if_neg h.1, if_pos h.2, if_neg hw.1, if_pos hw.2, if_neg hn]
theorem aRow_neg {s w n : Int32} (h : inS s) (hw : inS w) (hn : n ≤ 60) (hp : ¬ 0 ≤ n) : -3 = aRow s w n := by
  unfold aRow
  rw [if_neg h.1, if_pos h.2, if_neg hw.1, if_pos hw.2, if_pos hn, if_neg hp]
theorem aRow_ok {s w n : Int32} (h : inS s) (hw : inS w) (hn : n ≤ 60) (hp : 0 ≤ n) : 0 = aRow s w n := by
  unfold aRow
  rw [if_neg h.1, if_pos h.2, if_neg hw.1, if_pos hw.2, if_pos hn, if_pos hp]
