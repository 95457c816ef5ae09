-- WHAT image AND row CHANGE
def kKept (K : sK) (j : Nat) (v : Int32) : sK := (upd K.1 j v, K.2)
def kLaid (K : sK) (j : Nat) (v : Int32) : sK := (K.1, upd K.2.1 j v, K.2.2)
def kWid (K : sK) (j : Nat) (v : Int32) : sK := (K.1, K.2.1, upd K.2.2.1 j v, K.2.2.2)
def kHeld (K : sK) (j : Nat) (v : Int32) : sK := (K.1, K.2.1, K.2.2.1, upd K.2.2.2.1 j v, K.2.2.2.2)
def kMany (K : sK) (j : Nat) (v : Int32) : sK := (K.1, K.2.1, K.2.2.1, K.2.2.2.1, upd K.2.2.2.2.1 j v, K.2.2.2.2.2)
def kWidR (K : sK) (j : Nat) (v : Int32) : sK := (K.1, K.2.1, K.2.2.1, K.2.2.2.1, K.2.2.2.2.1, upd K.2.2.2.2.2.1 j v, K.2.2.2.2.2.2)
def kHas (K : sK) (j : Nat) (v : Int32) : sK := (K.1, K.2.1, K.2.2.1, K.2.2.2.1, K.2.2.2.2.1, K.2.2.2.2.2.1, upd K.2.2.2.2.2.2 j v)
theorem upd_r {f : Nat → Int32} {k : Nat} {x : Int32} {P : Int32 → Prop} (h : ∀ j, P (f j)) (hx : P x) (j : Nat) : P (upd f k x j) := by
  unfold upd
  by_cases e : j = k
  · rw [if_pos e]; exact hx
  · rw [if_neg e]; exact h j
section
variable {K : sK} {j : Nat} {v : Int32}
theorem KO.kept (h : KO K) (h0 : 0 ≤ v.toInt) (h1 : v.toInt ≤ 1) : KO (kKept K j v) := fun i => ⟨upd_r (P := fun x => 0 ≤ x.toInt ∧ x.toInt ≤ 1) (fun j => (h j).1) ⟨h0, h1⟩ i, (h i).2⟩
theorem KO.laid (h : KO K) (h0 : 0 ≤ v.toInt) (h1 : v.toInt ≤ 1) : KO (kLaid K j v) := fun i => ⟨(h i).1, upd_r (P := fun x => 0 ≤ x.toInt ∧ x.toInt ≤ 1) (fun j => (h j).2.1) ⟨h0, h1⟩ i, (h i).2.2⟩
theorem KO.wid (h : KO K) : KO (kWid K j v) := fun i => h i
theorem KO.held (h : KO K) (h0 : 0 ≤ v.toInt) (h1 : v.toInt ≤ 60) : KO (kHeld K j v) := fun i => ⟨(h i).1, (h i).2.1, upd_r (P := fun x => 0 ≤ x.toInt ∧ x.toInt ≤ 60) (fun j => (h j).2.2.1) ⟨h0, h1⟩ i, (h i).2.2.2⟩
theorem KO.many (h : KO K) (h0 : -1 ≤ v.toInt) (h1 : v.toInt ≤ 60) : KO (kMany K j v) := fun i => ⟨(h i).1, (h i).2.1, (h i).2.2.1, upd_r (P := fun x => -1 ≤ x.toInt ∧ x.toInt ≤ 60) (fun j => (h j).2.2.2.1) ⟨h0, h1⟩ i, (h i).2.2.2.2⟩
theorem KO.widR (h : KO K) (h0 : 0 ≤ v.toInt) (h1 : v.toInt ≤ 3) : KO (kWidR K j v) := fun i => ⟨(h i).1, (h i).2.1, (h i).2.2.1, (h i).2.2.2.1, upd_r (P := fun x => 0 ≤ x.toInt ∧ x.toInt ≤ 3) (fun j => (h j).2.2.2.2.1) ⟨h0, h1⟩ i, (h i).2.2.2.2.2⟩
theorem KO.has (h : KO K) (h0 : 0 ≤ v.toInt) (h1 : v.toInt ≤ 1) : KO (kHas K j v) := fun i => ⟨(h i).1, (h i).2.1, (h i).2.2.1, (h i).2.2.2.1, (h i).2.2.2.2.1, upd_r (P := fun x => 0 ≤ x.toInt ∧ x.toInt ≤ 1) (fun j => (h j).2.2.2.2.2) ⟨h0, h1⟩ i⟩
end
theorem shp_gen {ad : Nat → Nat} {K : sK} {i : Nat} (h1 : i ≠ 104) (h2 : i ≠ 106) (h3 : i ≠ 108) (h4 : i ≠ 110) (h5 : i ≠ 112) (h6 : i ≠ 200) (h7 : i ≠ 214) (h8 : i ≠ 215) : shp ad K i = (shL ad).getD i (.inl (0, 0, fun _ => False)) := by
  unfold shp
  rw [if_neg h1, if_neg h2, if_neg h3, if_neg h4, if_neg h5, if_neg h6, if_neg h7, if_neg h8]
/-- two shapes are one but at a cell, where what they name is one but there -/
theorem shp_ext {ad : Nat → Nat} {K K' : sK} (x : Nat) (h104 : 104 ≠ x → K'.1 = K.1) (hs : ∀ j, j < 4 → 106 + 2 * j ≠ x → K'.2.1 j = K.2.1 j ∧ K'.2.2.1 j = K.2.2.1 j ∧ K'.2.2.2.1 j = K.2.2.2.1 j) (h214 : 214 ≠ x → K'.2.2.2.2.1 = K.2.2.2.2.1) (h215 : 215 ≠ x → K'.2.2.2.2.2.1 = K.2.2.2.2.2.1) (h200 : 200 ≠ x → K'.2.2.2.2.2.2 = K.2.2.2.2.2.2) : ∀ i, i < 218 → i ≠ x → shp ad K' i = shp ad K i := by
  intro i hi hx
  by_cases q1 : i = 104
  · subst q1; rw [sh_104 ad K', sh_104 ad K, h104 hx]
  by_cases q2 : ∃ j, j < 4 ∧ i = 106 + 2 * j
  · obtain ⟨j, hj, rfl⟩ := q2
    have h := hs j hj hx
    rw [shJ_0 ad K' hj, shJ_0 ad K hj, h.1, h.2.1, h.2.2]
  have n2 : i ≠ 106 := fun e => q2 ⟨0, by omega, by omega⟩
  have n3 : i ≠ 108 := fun e => q2 ⟨1, by omega, by omega⟩
  have n4 : i ≠ 110 := fun e => q2 ⟨2, by omega, by omega⟩
  have n5 : i ≠ 112 := fun e => q2 ⟨3, by omega, by omega⟩
  by_cases q6 : i = 200
  · subst q6; rw [sh_200 ad K', sh_200 ad K, h200 hx]
  by_cases q7 : i = 214
  · subst q7; rw [sh_214 ad K', sh_214 ad K, h214 hx]
  by_cases q8 : i = 215
  · subst q8; rw [sh_215 ad K', sh_215 ad K, h215 hx]
  rw [shp_gen q1 n2 n3 n4 n5 q6 q7 q8, shp_gen q1 n2 n3 n4 n5 q6 q7 q8]
theorem upd_ne' {f : Nat → Int32} {k j : Nat} {x : Int32} (h : j ≠ k) : upd f k x j = f j := by unfold upd; rw [if_neg h]
theorem upd_eq' {f : Nat → Int32} {k : Nat} {x : Int32} : upd f k x k = x := by unfold upd; rw [if_pos rfl]
section
variable {ad : Nat → Nat} {K : sK} {j : Nat} {v : Int32}
theorem sx_kept : ∀ i, i < 218 → i ≠ 104 → shp ad (kKept K j v) i = shp ad K i := shp_ext 104 (fun h => absurd rfl h) (fun _ _ _ => ⟨rfl, rfl, rfl⟩) (fun _ => rfl) (fun _ => rfl) (fun _ => rfl)
theorem sx_laid (hj : j < 4) : ∀ i, i < 218 → i ≠ 106 + 2 * j → shp ad (kLaid K j v) i = shp ad K i := shp_ext _ (fun _ => rfl) (fun i _ h => ⟨upd_ne' (by omega), rfl, rfl⟩) (fun _ => rfl) (fun _ => rfl) (fun _ => rfl)
theorem sx_wid (hj : j < 4) : ∀ i, i < 218 → i ≠ 106 + 2 * j → shp ad (kWid K j v) i = shp ad K i := shp_ext _ (fun _ => rfl) (fun i _ h => ⟨rfl, upd_ne' (by omega), rfl⟩) (fun _ => rfl) (fun _ => rfl) (fun _ => rfl)
theorem sx_held (hj : j < 4) : ∀ i, i < 218 → i ≠ 106 + 2 * j → shp ad (kHeld K j v) i = shp ad K i := shp_ext _ (fun _ => rfl) (fun i _ h => ⟨rfl, rfl, upd_ne' (by omega)⟩) (fun _ => rfl) (fun _ => rfl) (fun _ => rfl)
theorem sx_many : ∀ i, i < 218 → i ≠ 214 → shp ad (kMany K j v) i = shp ad K i := shp_ext 214 (fun _ => rfl) (fun _ _ _ => ⟨rfl, rfl, rfl⟩) (fun h => absurd rfl h) (fun _ => rfl) (fun _ => rfl)
theorem sx_widR : ∀ i, i < 218 → i ≠ 215 → shp ad (kWidR K j v) i = shp ad K i := shp_ext 215 (fun _ => rfl) (fun _ _ _ => ⟨rfl, rfl, rfl⟩) (fun _ => rfl) (fun h => absurd rfl h) (fun _ => rfl)
theorem sx_has : ∀ i, i < 218 → i ≠ 200 → shp ad (kHas K j v) i = shp ad K i := shp_ext 200 (fun _ => rfl) (fun _ _ _ => ⟨rfl, rfl, rfl⟩) (fun _ => rfl) (fun _ => rfl) (fun h => absurd rfl h)
end
/-- a row that tells a function, changed at a place -/
theorem rP.upK {c f : Nat → Int32} {k : Nat} {x : Int32} (h : rP (fun j v => v = (c j).toInt) f) : rP (fun j v => v = (upd c k x j).toInt) (upd f k x) := fun j => by
  show (upd f k x j).toInt = (upd c k x j).toInt
  unfold upd
  by_cases e : j = k
  · rw [if_pos e, if_pos e]
  · rw [if_neg e, if_neg e]; exact h j
theorem WF.upK {S S' : Nat → sS} {ad : Nat → Nat} {cs : Nat → ClassId} {g : Nat → va_E} {i : Nat} (hW : WF S ad cs g) (hk : ∀ j, j < 218 → j ≠ i → S' j = S j) {e : va_E} (he : okE ad cs (S' i) e) : WF S' ad cs (va_up g i e) := fun j hj => by
  by_cases q : j = i
  · subst q
    rw [va_up_self]
    exact he
  · rw [va_up_ne _ _ q, hk j hj q]
    exact hW j hj
theorem okO.setK {ad : Nat → Nat} {ts ts' : List sT} {fs : List Value} (h : okO ad ts fs) (k : Nat) (hlen : ts'.length = ts.length) {t : sT} (hk : ts'[k]? = some t) (hne : ∀ j, k ≠ j → ts'[j]? = ts[j]?) {v : Value} (hv : okV ad t v) : okO ad ts' (fs.set k v) := by
  refine ⟨by rw [List.length_set, h.1, hlen], fun j u hj => ?_⟩
  by_cases e : k = j
  · subst e
    rw [hk] at hj
    cases hj
    have hl : k < fs.length := by rw [h.1, ← hlen]; exact (List.getElem?_eq_some_iff.mp hk).1
    exact ⟨v, by rw [List.getElem?_set_self hl], hv⟩
  · obtain ⟨w, h1, h2⟩ := h.2 j u (by rw [← hne j e]; exact hj)
    exact ⟨w, by rw [List.getElem?_set_ne e]; exact h1, h2⟩
theorem l4_1 {a b b' c d : sT} : ∀ j : Nat, 1 ≠ j → [a, b', c, d][j]? = [a, b, c, d][j]? := fun j h => by
  rcases j with _ | _ | j
  · rfl
  · exact absurd rfl h
  · rfl
theorem l4_2 {a b c c' d : sT} : ∀ j : Nat, 2 ≠ j → [a, b, c', d][j]? = [a, b, c, d][j]? := fun j h => by
  rcases j with _ | _ | _ | j
  · rfl
  · rfl
  · exact absurd rfl h
  · rfl
theorem l4_3 {a b c d d' : sT} : ∀ j : Nat, 3 ≠ j → [a, b, c, d'][j]? = [a, b, c, d][j]? := fun j h => by
  rcases j with _ | _ | _ | _ | j
  · rfl
  · rfl
  · rfl
  · exact absurd rfl h
  · rfl
section KROWS
variable {p : Program} {l : Launch} {e : Env} {R : Room} {s : State} {m : MethodId} {args : Array Value} {below : List Frame} {meth : Method} {c : Code} {H H0 : Heap} {locs : List Loc} {cells slots : Nat} {Q : State → Prop}
variable {cc : ByteArray} {pc nL n : Nat} {ls : Array Slot} {rest : List Value} {D : va_G} {cs : Nat → ClassId} {A : Nat → Prop} {ad : Nat → Nat} {g : Nat → va_E} {rt : Option FieldType} {Ts : List Cond} {own : String} {Sh Sh' : Nat → sS} {ts ts' : List sT}
theorem s_putK (X : Cx p s m args meth c cc nL rt Ts own D cs) {C : String} {T : u_T} {N ci index : Nat} (hin : ∀ w ∈ u_ws C T N, w ∈ Ts) (ty0 : Nat → FieldType) (hty : ∀ k, k < N → parseFieldDescriptor (T k).2.2.1 = some (ty0 k)) (hnm : ∀ a, a < N → ∀ b, b < N → a ≠ b → (T a).2.1 ≠ (T b).2.1) (hP : va_P D vwCl (wL ad g 218) H) (hj : wJ ad 218) (hA : ∀ i, i < 218 → A (ad i)) (hS : va_S A H0 H locs) {i : Nat} {fs : List Value} (hi : i < 218) (hg : g i = .inr (ci, fs)) (hc : vwCl[ci]? = some (C, T, N)) (k : Nat) (hk : k < N) (hlink : Cond.fieldLink own index (T k).1 (T k).2.1 (T k).2.2.1 ∈ Ts) (hfin : (T k).2.2.2 = false) {ty : FieldType} {v : Value} (hd : parseFieldDescriptor (T k).2.2.1 = some ty) (hn : narrow ty v = v) (hfit : fits ty v = true) (hdg : decode cc pc = .ok (.putfield index, 3))
    (hW : WF Sh ad cs g) (hO : okO ad ts fs) (hsx : ∀ j, j < 218 → j ≠ i → Sh' j = Sh j) (hs' : Sh' i = .inr (ci, ts')) (hlen : ts'.length = ts.length) {t : sT} (ht : ts'[k]? = some t) (hne : ∀ j, k ≠ j → ts'[j]? = ts[j]?) (hv : okV ad t v)
    (kk : ∀ (fs1 : List Value) (g1 : Nat → va_E) (H1 : Heap) (locs1 : List Loc), okO ad ts' fs1 → fs1[k]? = some v → (∀ j, k ≠ j → fs1[j]? = fs[j]?) → g1 i = .inr (ci, fs1) → (∀ j, j ≠ i → g1 j = g j) → WF Sh' ad cs g1 → va_P D vwCl (wL ad g1 218) H1 → va_S A H0 H1 locs1 → W p l e R s m args below meth c H1 locs1 cells slots Q (F0 m (pc + 3) ls rest)) : W p l e R s m args below meth c H locs cells slots Q (F0 m pc ls (v :: .ref (ad i) :: rest)) := by
  have hl : k < fs.length := by rw [hO.1, ← hlen]; exact (List.getElem?_eq_some_iff.mp ht).1
  have hO1 := hO.setK k hlen ht hne hv
  exact q_put X hin ty0 hty hnm hP hj hA hS hi hg hc k hk hlink hfin hd hn hfit hl hdg (fun H1 locs1 hP1 hS1 => kk _ _ H1 locs1 hO1 (List.getElem?_set_self hl) (fun j h => List.getElem?_set_ne h) (va_up_self _ _ _) (fun j h => va_up_ne _ _ h) (hW.upK hsx (by rw [hs']; exact ⟨_, rfl, hO1⟩)) hP1 hS1)
theorem s_iastK (X : Cx p s m args meth c cc nL rt Ts own D cs) (hP : va_P D vwCl (wL ad g 218) H) (hj : wJ ad 218) (hA : ∀ i, i < 218 → A (ad i)) (hS : va_S A H0 H locs) {i N : Nat} {f : Nat → Int32} (hi : i < 218) (hg : g i = .inl (cs 1, N, .inl f)) {k x : Int32} (hin : vp_in k N) (hdg : decode cc pc = .ok (.iastore, 1)) (hW : WF Sh ad cs g) (hsx : ∀ j, j < 218 → j ≠ i → Sh' j = Sh j) {F : (Nat → Int32) → Prop} (hs : Sh' i = .inl (1, N, aF F)) (hF : F (upd f k.toNatClampNeg x))
    (kk : ∀ (f1 : Nat → Int32) (g1 : Nat → va_E) (H1 : Heap) (locs1 : List Loc), f1 = upd f k.toNatClampNeg x → F f1 → g1 i = .inl (cs 1, N, .inl f1) → (∀ j, j ≠ i → g1 j = g j) → WF Sh' ad cs g1 → va_P D vwCl (wL ad g1 218) H1 → va_S A H0 H1 locs1 → W p l e R s m args below meth c H1 locs1 cells slots Q (F0 m (pc + 1) ls rest)) : W p l e R s m args below meth c H locs cells slots Q (F0 m pc ls (.int x :: .int k :: .ref (ad i) :: rest)) :=
  q_iast X hP hj hA hS hi hg hin hdg (fun H1 locs1 hP1 hS1 => kk _ _ H1 locs1 rfl hF (va_up_self _ _ _) (fun j h => va_up_ne _ _ h) (hW.upK hsx (by rw [hs]; exact ⟨_, rfl, _, rfl, hF⟩)) hP1 hS1)
theorem s_zastK (X : Cx p s m args meth c cc nL rt Ts own D cs) (hP : va_P D vwCl (wL ad g 218) H) (hj : wJ ad 218) (hA : ∀ i, i < 218 → A (ad i)) (hS : va_S A H0 H locs) {i N : Nat} {f : Nat → Int32} (hi : i < 218) (hg : g i = .inl (cs 3, N, .inl f)) {k x : Int32} (hin : vp_in k N) (hdg : decode cc pc = .ok (.bastore, 1)) (hW : WF Sh ad cs g) (hsx : ∀ j, j < 218 → j ≠ i → Sh' j = Sh j) {F : (Nat → Int32) → Prop} (hs : Sh' i = .inl (3, N, aF F)) (hF : F (upd f k.toNatClampNeg (vp_nar .boolean x)))
    (kk : ∀ (f1 : Nat → Int32) (g1 : Nat → va_E) (H1 : Heap) (locs1 : List Loc), f1 = upd f k.toNatClampNeg (vp_nar .boolean x) → F f1 → g1 i = .inl (cs 3, N, .inl f1) → (∀ j, j ≠ i → g1 j = g j) → WF Sh' ad cs g1 → va_P D vwCl (wL ad g1 218) H1 → va_S A H0 H1 locs1 → W p l e R s m args below meth c H1 locs1 cells slots Q (F0 m (pc + 1) ls rest)) : W p l e R s m args below meth c H locs cells slots Q (F0 m pc ls (.int x :: .int k :: .ref (ad i) :: rest)) :=
  q_zast X hP hj hA hS hi hg hin hdg (fun H1 locs1 hP1 hS1 => kk _ _ H1 locs1 rfl hF (va_up_self _ _ _) (fun j h => va_up_ne _ _ h) (hW.upK hsx (by rw [hs]; exact ⟨_, rfl, _, rfl, hF⟩)) hP1 hS1)
end KROWS
