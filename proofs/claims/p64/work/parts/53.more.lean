/-- what the slots hold, within bounds -/
def KO (K : sK) : Prop := ∀ j, (0 ≤ (K.1 j).toInt ∧ (K.1 j).toInt ≤ 1) ∧ (0 ≤ (K.2.1 j).toInt ∧ (K.2.1 j).toInt ≤ 1) ∧ (0 ≤ (K.2.2.2.1 j).toInt ∧ (K.2.2.2.1 j).toInt ≤ 60) ∧ (-1 ≤ (K.2.2.2.2.1 j).toInt ∧ (K.2.2.2.2.1 j).toInt ≤ 60) ∧ (0 ≤ (K.2.2.2.2.2.1 j).toInt ∧ (K.2.2.2.2.2.1 j).toInt ≤ 3) ∧ (0 ≤ (K.2.2.2.2.2.2 j).toInt ∧ (K.2.2.2.2.2.2 j).toInt ≤ 1)
theorem n_abs {x z : Int32} {a : Int} (hx : x.toInt = a) (h : z = if 0 ≤ x then x else 0 - x) (h1 : -2147483647 ≤ a) : 0 ≤ z.toInt ∧ a ≤ z.toInt ∧ -a ≤ z.toInt ∧ (z.toInt = a ∨ z.toInt = -a) := by
  subst h
  have e0 : (0 : Int32).toInt = 0 := by decide
  have hh := n_hi x
  by_cases q : 0 ≤ x
  · rw [if_pos q]; have := n_le e0 hx q; omega
  · rw [if_neg q]; have := n_nle e0 hx q; have h2 := n_sub e0 hx (z := 0 - x) rfl (by omega) (by omega); omega
theorem j_cgeP {x y : Int64} {a b : Int} (hx : x.toInt = a) (hy : y.toInt = b) (h : 0 ≤ lg_cmp x y) : b ≤ a := by rw [← hx, ← hy]; exact Int64.le_iff_toInt_le.mp ((lg_cmp_ge x y).mp h)
theorem j_cltN {x y : Int64} {a b : Int} (hx : x.toInt = a) (hy : y.toInt = b) (h : ¬ 0 ≤ lg_cmp x y) : a < b := by rw [← hx, ← hy]; exact Int.not_le.mp (fun q => h ((lg_cmp_ge x y).mpr (Int64.le_iff_toInt_le.mpr q)))
theorem j_cleP {x y : Int64} {a b : Int} (hx : x.toInt = a) (hy : y.toInt = b) (h : lg_cmp x y ≤ 0) : a ≤ b := by rw [← hx, ← hy]; exact Int64.le_iff_toInt_le.mp ((lg_cmp_le x y).mp h)
theorem j_cgtN {x y : Int64} {a b : Int} (hx : x.toInt = a) (hy : y.toInt = b) (h : ¬ lg_cmp x y ≤ 0) : b < a := by rw [← hx, ← hy]; exact Int.not_le.mp (fun q => h ((lg_cmp_le x y).mpr (Int64.le_iff_toInt_le.mpr q)))
theorem c_nn {x : Int32} {a : Int} (hx : x.toInt = a) (h : 0 ≤ a) : ¬ x < 0 := fun q => by have := n_lt hx (by decide : (0 : Int32).toInt = 0) q; omega
theorem c_le {x y : Int32} {a b : Int} {N : Nat} (hx : x.toInt = a) (hy : y.toInt = b) (h1 : 0 ≤ a) (h2 : 0 ≤ b) (h : a + b ≤ N) : x.toNatClampNeg + y.toNatClampNeg ≤ N := by
  have := n_cl hx h1
  have := n_cl hy h2
  omega
theorem rP.cpy {q q0 : Nat → Int → Prop} {f0 f1 : Nat → Int32} (h0 : rP q0 f0) (h1 : rP q f1) {sp dp k : Nat} (hq : ∀ j v, q0 (sp + (j - dp)) v → q j v) : rP q (va_cpy f0 f1 sp dp k) := fun j => by
  unfold va_cpy
  by_cases e : dp ≤ j ∧ j < dp + k
  · rw [if_pos e]; exact hq j _ (h0 _)
  · rw [if_neg e]; exact h1 j
theorem rQ.cpy {q q0 : Nat → Int → Prop} {f0 f1 : Nat → Int64} (h0 : rQ q0 f0) (h1 : rQ q f1) {sp dp k : Nat} (hq : ∀ j v, q0 (sp + (j - dp)) v → q j v) : rQ q (va_cpy f0 f1 sp dp k) := fun j => by
  unfold va_cpy
  by_cases e : dp ≤ j ∧ j < dp + k
  · rw [if_pos e]; exact hq j _ (h0 _)
  · rw [if_neg e]; exact h1 j
section SCOPY
variable {p : Program} {l : Launch} {e : Env} {R : Room} {s : State} {m : MethodId} {args : Array Value} {below : List Frame} {meth : Method} {c : Code} {H H0 : Heap} {locs : List Loc} {cells slots : Nat} {Q : State → Prop}
variable {cc : ByteArray} {pc nL n : Nat} {ls : Array Slot} {rest : List Value} {D : va_G} {cs : Nat → ClassId} {A : Nat → Prop} {ad : Nat → Nat} {g : Nat → va_E} {rt : Option FieldType} {Ts : List Cond} {own : String} {Sh : Nat → sS}
theorem s_copyi (X : Cx p s m args meth c cc nL rt Ts own D cs) (hsz : ls.size = nL) {index : Nat} (hlink : Cond.methodLink own index arraycopyName ∈ Ts) (hnat : Cond.native arraycopyName ∈ Ts) (hstat : Cond.static arraycopyName ∈ Ts) (hini : Cond.initialized "java/lang/System" ∈ Ts) (hP : va_P D vwCl (wL ad g 218) H) (hj : wJ ad 218) (hA : ∀ i, i < 218 → A (ad i)) (hS : va_S A H0 H locs) (t0 : Nat) {ty : FieldType} (ht : (tyL cs)[t0]? = some (cs t0, ty)) (hprim : refKind ty = false) {i0 i1 n0 n1 : Nat} {f0 f1 : Nat → Int32} (hi0 : i0 < 218) (hi1 : i1 < 218) (hg0 : g i0 = .inl (cs t0, n0, .inl f0)) (hg1 : g i1 = .inl (cs t0, n1, .inl f1)) {sp dp k : Int32} (h1 : ¬ sp < 0) (h2 : ¬ dp < 0) (h3 : ¬ k < 0) (h4 : sp.toNatClampNeg + k.toNatClampNeg ≤ n0) (h5 : dp.toNatClampNeg + k.toNatClampNeg ≤ n1) (hfit : ∀ i, i < k.toNatClampNeg → fits ty (.int (f0 (sp.toNatClampNeg + i))) = true) (hframes : 1 ≤ R.frames) (hlocals : (rest.map fun v => v.category).sum + (nativeFrameWords "java/lang/System" "arraycopy" 5 + 11) ≤ R.locals) (hdg : decode cc pc = .ok (.invokestatic index, 3)) (hW : WF Sh ad cs g) {F : (Nat → Int32) → Prop} (hs : Sh i1 = .inl (t0, n1, aF F)) (hF : F (va_cpy f0 f1 sp.toNatClampNeg dp.toNatClampNeg k.toNatClampNeg))
    (kk : ∀ (f2 : Nat → Int32) (g1 : Nat → va_E) (H1 : Heap) (locs1 : List Loc), F f2 → g1 i1 = .inl (cs t0, n1, .inl f2) → (∀ j, j ≠ i1 → g1 j = g j) → WF Sh ad cs g1 → va_P D vwCl (wL ad g1 218) H1 → va_S A H0 H1 locs1 → W p l e R s m args below meth c H1 locs1 cells slots Q (F0 m (pc + 3) ls rest)) : W p l e R s m args below meth c H locs cells slots Q (F0 m pc ls (.int k :: .int dp :: .ref (ad i1) :: .int sp :: .ref (ad i0) :: rest)) :=
  q_copyi X hsz hlink hnat hstat hini hP hj hA hS t0 ht hprim hi0 hi1 hg0 hg1 h1 h2 h3 h4 h5 hfit hframes hlocals hdg (fun H1 locs1 hP1 hS1 => kk _ _ H1 locs1 hF (va_up_self _ _ _) (fun j h => va_up_ne _ _ h) (hW.up (by rw [hs]; exact ⟨_, rfl, _, rfl, hF⟩)) hP1 hS1)
theorem s_copyj (X : Cx p s m args meth c cc nL rt Ts own D cs) (hsz : ls.size = nL) {index : Nat} (hlink : Cond.methodLink own index arraycopyName ∈ Ts) (hnat : Cond.native arraycopyName ∈ Ts) (hstat : Cond.static arraycopyName ∈ Ts) (hini : Cond.initialized "java/lang/System" ∈ Ts) (hP : va_P D vwCl (wL ad g 218) H) (hj : wJ ad 218) (hA : ∀ i, i < 218 → A (ad i)) (hS : va_S A H0 H locs) (t0 : Nat) {ty : FieldType} (ht : (tyL cs)[t0]? = some (cs t0, ty)) (hprim : refKind ty = false) {i0 i1 n0 n1 : Nat} {f0 f1 : Nat → Int64} (hi0 : i0 < 218) (hi1 : i1 < 218) (hg0 : g i0 = .inl (cs t0, n0, .inr (.inl f0))) (hg1 : g i1 = .inl (cs t0, n1, .inr (.inl f1))) {sp dp k : Int32} (h1 : ¬ sp < 0) (h2 : ¬ dp < 0) (h3 : ¬ k < 0) (h4 : sp.toNatClampNeg + k.toNatClampNeg ≤ n0) (h5 : dp.toNatClampNeg + k.toNatClampNeg ≤ n1) (hfit : ∀ i, i < k.toNatClampNeg → fits ty (.long (f0 (sp.toNatClampNeg + i))) = true) (hframes : 1 ≤ R.frames) (hlocals : (rest.map fun v => v.category).sum + (nativeFrameWords "java/lang/System" "arraycopy" 5 + 11) ≤ R.locals) (hdg : decode cc pc = .ok (.invokestatic index, 3)) (hW : WF Sh ad cs g) {F : (Nat → Int64) → Prop} (hs : Sh i1 = .inl (t0, n1, aJ F)) (hF : F (va_cpy f0 f1 sp.toNatClampNeg dp.toNatClampNeg k.toNatClampNeg))
    (kk : ∀ (f2 : Nat → Int64) (g1 : Nat → va_E) (H1 : Heap) (locs1 : List Loc), F f2 → g1 i1 = .inl (cs t0, n1, .inr (.inl f2)) → (∀ j, j ≠ i1 → g1 j = g j) → WF Sh ad cs g1 → va_P D vwCl (wL ad g1 218) H1 → va_S A H0 H1 locs1 → W p l e R s m args below meth c H1 locs1 cells slots Q (F0 m (pc + 3) ls rest)) : W p l e R s m args below meth c H locs cells slots Q (F0 m pc ls (.int k :: .int dp :: .ref (ad i1) :: .int sp :: .ref (ad i0) :: rest)) :=
  va_copyl X.1 X.2.1 (X.2.2.2.1.trans hsz.symm) X.2.2.2.2.2.1 (X.2.2.2.2.1 _ hlink) (X.2.2.2.2.1 _ hnat) (X.2.2.2.2.1 _ hstat) (X.2.2.2.2.1 _ hini) X.2.2.2.2.2.2.1 hP (wL_D hj hA) hS i0 i1 t0 t0 (wL_at hi0 hg0) (wL_at hi1 hg1) ht ht hprim h1 h2 h3 h4 h5 hfit hframes hlocals hdg (fun H1 locs1 hP1 _ hS1 => kk _ _ H1 locs1 hF (va_up_self _ _ _) (fun j h => va_up_ne _ _ h) (hW.up (by rw [hs]; exact ⟨_, rfl, _, rfl, hF⟩)) (by rw [← wL_set]; exact hP1) hS1)
theorem q_nret {ty : FieldType} (X : Cx p s m args meth c cc nL (some ty) Ts own D cs) {post : Int32 → (Nat → va_E) → Prop} (hP : va_P D vwCl (wL ad g n) H) (hS : va_S (wA ad n) s.heap H locs) {v : Int32} (hn : narrow ty (.int v) = .int v) (hpost : post v g) (hdg : decode cc pc = .ok (.ireturn, 1)) : W p l e R s m args below meth c H locs 0 0 (MQ below (qI D ad n post) args s 0 0 (wA ad n)) (F0 m pc ls [.int v]) :=
  W.zret X.1 X.2.1 X.2.2.1 hn (fun t ht _ => ⟨⟨v, g, rfl, hpost, (by show va_P D vwCl (wL ad g n) t.heap; rw [ht]; exact hP)⟩, hS.F ht⟩) hS.2.2 hdg X.2.2.2.2.2.2.2
end SCOPY
