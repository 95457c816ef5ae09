-- THE WORLD BY NUMBERS: cell i of n lies at the address ad i and holds g i
def wL (ad : Nat → Nat) (g : Nat → va_E) (n : Nat) : va_W := (List.range n).map (fun i => (ad i, g i))
def wA (ad : Nat → Nat) (n : Nat) : Nat → Prop := fun q => ∃ i, i < n ∧ q = ad i
def wJ (ad : Nat → Nat) (n : Nat) : Prop := ∀ i j, i < n → j < n → ad i = ad j → i = j
theorem wL_at {ad : Nat → Nat} {g : Nat → va_E} {n i : Nat} {e : va_E} (h : i < n) (he : g i = e) : (wL ad g n)[i]? = some (ad i, e) := by
  unfold wL
  rw [List.getElem?_map, List.getElem?_range h]
  simp [he]
theorem wL_inv {ad : Nat → Nat} {g : Nat → va_E} {n k : Nat} {q : Nat × va_E} (h : (wL ad g n)[k]? = some q) : k < n ∧ q = (ad k, g k) := by
  unfold wL at h
  rw [List.getElem?_map] at h
  by_cases hk : k < n
  · rw [List.getElem?_range hk] at h
    exact ⟨hk, (Option.some.inj h).symm⟩
  · have h0 : (List.range n)[k]? = none := List.getElem?_eq_none (by rw [List.length_range]; omega)
    rw [h0] at h
    cases h
theorem wL_length (ad : Nat → Nat) (g : Nat → va_E) (n : Nat) : (wL ad g n).length = n := by simp [wL]
theorem wL_no {ad : Nat → Nat} {g : Nat → va_E} {n k : Nat} (h : ¬ k < n) : (wL ad g n)[k]? = none := List.getElem?_eq_none (by rw [wL_length]; omega)
theorem wL_set {ad : Nat → Nat} {g : Nat → va_E} {n i : Nat} {e : va_E} : (wL ad g n).set i (ad i, e) = wL ad (va_up g i e) n := by
  apply List.ext_getElem?
  intro k
  rw [List.getElem?_set]
  by_cases hk : k < n
  · rw [wL_at (g := va_up g i e) hk rfl]
    by_cases hi : i = k
    · subst hi
      rw [if_pos rfl, if_pos (by rw [wL_length]; exact hk), va_up_self]
    · rw [if_neg hi, wL_at hk rfl, va_up_ne g e (fun h => hi h.symm)]
  · rw [wL_no (g := va_up g i e) hk]
    by_cases hi : i = k
    · subst hi
      rw [if_pos rfl, if_neg (by rw [wL_length]; exact hk)]
    · rw [if_neg hi, wL_no hk]
theorem wL_D {ad : Nat → Nat} {g : Nat → va_E} {n : Nat} {A : Nat → Prop} (hj : wJ ad n) (hA : ∀ i, i < n → A (ad i)) : va_D A (wL ad g n) :=
  ⟨fun i j p q h1 h2 h => by
    obtain ⟨a1, rfl⟩ := wL_inv h1
    obtain ⟨a2, rfl⟩ := wL_inv h2
    exact hj i j a1 a2 h, fun k q h => by
    obtain ⟨a1, rfl⟩ := wL_inv h
    exact hA k a1⟩
/-- the array classes: bytes, ints, longs, booleans, Slots, Streets, rows of rows -/
def tyL (cs : Nat → ClassId) : List (ClassId × FieldType) := [(cs 0, .byte), (cs 1, .int), (cs 2, .long), (cs 3, .boolean), (cs 4, .object "IcicleClock$Slot"), (cs 5, .object "IcicleClock$Street"), (cs 6, .array .int)]
/-- what stands still in a method -/
def Cx (p : Program) (s : State) (m : MethodId) (args : Array Value) (meth : Method) (c : Code) (cc : ByteArray) (nL : Nat) (rt : Option FieldType) (Ts : List Cond) (own : String) (D : va_G) (cs : Nat → ClassId) : Prop :=
  p.tables.exec = Jvm.exec ∧ c.code = cc ∧ meth.sig.returnType = rt ∧ c.maxLocals = nL ∧ (∀ w ∈ Ts, w.before args s = true) ∧ s.vm.findClass own = some m.cls ∧ va_K D vwCl (tyL cs) s ∧ meth.locks = false
/-- a contract's start and its ends -/
abbrev pC (D : va_G) (cs : Nat → ClassId) (ad : Nat → Nat) (n : Nat) (as : List Value) (g : Nat → va_E) : Array Value → State → Prop := va_Pc as (fun U => va_P D vwCl (wL ad g n) U.heap ∧ va_K D vwCl (tyL cs) U)
abbrev qI (D : va_G) (ad : Nat → Nat) (n : Nat) (post : Int32 → (Nat → va_E) → Prop) : Array Value → State → Outcome → State → Prop := va_Qi post (fun g' t => va_P D vwCl (wL ad g' n) t.heap) (wA ad n)
abbrev qJ (D : va_G) (ad : Nat → Nat) (n : Nat) (post : Int64 → (Nat → va_E) → Prop) : Array Value → State → Outcome → State → Prop := va_Ql post (fun g' t => va_P D vwCl (wL ad g' n) t.heap) (wA ad n)
abbrev qV (D : va_G) (ad : Nat → Nat) (n : Nat) (post : (Nat → va_E) → Prop) : Array Value → State → Outcome → State → Prop := va_Qv post (fun g' t => va_P D vwCl (wL ad g' n) t.heap) (wA ad n)
def cI (l : Launch) (y : MethodName) (ws : List Cond) (rm : Room) (D : va_G) (cs : Nat → ClassId) (ad : Nat → Nat) (n : Nat) (as : List Value) (g : Nat → va_E) (post : Int32 → (Nat → va_E) → Prop) : Prop := Met l y ws rm (pC D cs ad n as g) (qI D ad n post) 0 0 (wA ad n)
def cJ (l : Launch) (y : MethodName) (ws : List Cond) (rm : Room) (D : va_G) (cs : Nat → ClassId) (ad : Nat → Nat) (n : Nat) (as : List Value) (g : Nat → va_E) (post : Int64 → (Nat → va_E) → Prop) : Prop := Met l y ws rm (pC D cs ad n as g) (qJ D ad n post) 0 0 (wA ad n)
def cV (l : Launch) (y : MethodName) (ws : List Cond) (rm : Room) (D : va_G) (cs : Nat → ClassId) (ad : Nat → Nat) (n : Nat) (as : List Value) (g : Nat → va_E) (post : (Nat → va_E) → Prop) : Prop := Met l y ws rm (pC D cs ad n as g) (qV D ad n post) 0 0 (wA ad n)
theorem pC_blind {D : va_G} {cs : Nat → ClassId} {ad : Nat → Nat} {n : Nat} {as : List Value} {g : Nat → va_E} : FrameBlind (pC D cs ad n as g) := fun a U f mk q => by
  obtain ⟨q0, qP, qK⟩ := q
  exact ⟨q0, qP, va_K.moved (u := U) (U := U.calling f mk a) (Vm.Alike.refl U.vm) qK⟩
theorem Met.start {l : Launch} {y : MethodName} {ws ws' : List Cond} {rm : Room} {D : va_G} {cs : Nat → ClassId} {ad : Nat → Nat} {n : Nat} {as : List Value} {g : Nat → va_E} {Qc : Array Value → State → Outcome → State → Prop} {cc : ByteArray} {maxL : Nat} {ret : Option FieldType} {mc ms : Nat} {free : Addr → Prop} (own : String) (ho : y.cls = own) (hy : plainName y.cls = true) (hw : ws = Cond.code y cc maxL ret :: ws') (hlen : (lg_sl as).length ≤ maxL)
    (body : ∀ (p : Program) (e : Env) (s : State) (m : MethodId) (below : List Frame) (meth : Method) (c : Code) (ls : Array Slot), Cx p s m as.toArray meth c cc maxL ret ws own D cs → va_P D vwCl (wL ad g n) s.heap → lv_has ls maxL (lv_args 0 as) → W p l e rm s m as.toArray below meth c s.heap [] 0 0 (MQ below Qc as.toArray s mc ms free) (F0 m 0 ls [])) : Met l y ws rm (pC D cs ad n as g) Qc mc ms free := by
  refine Met.ofW (cc := cc) (maxL := maxL) (ret := ret) hy hw ?_
  intro p e s m args below meth c s₁ B hml hv
  obtain ⟨rfl, hP, hK⟩ := hv
  subst ho
  rw [lg_entry_eq]
  exact body p e s m below meth c _ ⟨B.exec, B.bytes, B.returns, hml, atoms_spec (ws := ws) B.pre, findClass_of_methodNamed B.named, hK, B.notSynchronized⟩ hP (lv_entry as hlen)
section BASE
variable {p : Program} {l : Launch} {e : Env} {R : Room} {s : State} {m : MethodId} {args : Array Value} {below : List Frame} {meth : Method} {c : Code} {H H0 : Heap} {locs : List Loc} {cells slots : Nat} {Q : State → Prop}
variable {cc : ByteArray} {pc nL n : Nat} {ls : Array Slot} {rest : List Value} {D : va_G} {cs : Nat → ClassId} {A : Nat → Prop} {ad : Nat → Nat} {g : Nat → va_E} {rt : Option FieldType} {Ts : List Cond} {own : String}
theorem q_get (X : Cx p s m args meth c cc nL rt Ts own D cs) {C : String} {T : u_T} {N ci index : Nat} (hin : ∀ w ∈ u_ws C T N, w ∈ Ts) (hP : va_P D vwCl (wL ad g n) H) {i : Nat} {fs : List Value} (hi : i < n) (hg : g i = .inr (ci, fs)) (hc : vwCl[ci]? = some (C, T, N)) (k : Nat) (hk : k < N) (hlink : Cond.fieldLink own index (T k).1 (T k).2.1 (T k).2.2.1 ∈ Ts) {v : Value} (hv : fs[k]? = some v) (hdg : decode cc pc = .ok (.getfield index, 3))
    (kk : W p l e R s m args below meth c H locs cells slots Q (F0 m (pc + 3) ls (v :: rest))) : W p l e R s m args below meth c H locs cells slots Q (F0 m pc ls (.ref (ad i) :: rest)) :=
  va_get X.1 X.2.1 X.2.2.2.2.1 hin X.2.2.2.2.2.1 X.2.2.2.2.2.2.1 hP i (wL_at hi hg) hc k hk (X.2.2.2.2.1 _ hlink) (fun _ h => h) hv hdg kk
theorem q_put (X : Cx p s m args meth c cc nL rt Ts own D cs) {C : String} {T : u_T} {N ci index : Nat} (hin : ∀ w ∈ u_ws C T N, w ∈ Ts) (ty0 : Nat → FieldType) (hty : ∀ k, k < N → parseFieldDescriptor (T k).2.2.1 = some (ty0 k)) (hnm : ∀ a, a < N → ∀ b, b < N → a ≠ b → (T a).2.1 ≠ (T b).2.1) (hP : va_P D vwCl (wL ad g n) H) (hj : wJ ad n) (hA : ∀ i, i < n → A (ad i)) (hS : va_S A H0 H locs) {i : Nat} {fs : List Value} (hi : i < n) (hg : g i = .inr (ci, fs)) (hc : vwCl[ci]? = some (C, T, N)) (k : Nat) (hk : k < N) (hlink : Cond.fieldLink own index (T k).1 (T k).2.1 (T k).2.2.1 ∈ Ts) (hfin : (T k).2.2.2 = false) {ty : FieldType} {v : Value} (hd : parseFieldDescriptor (T k).2.2.1 = some ty) (hn : narrow ty v = v) (hfit : fits ty v = true) (hl : k < fs.length) (hdg : decode cc pc = .ok (.putfield index, 3))
    (kk : ∀ (H1 : Heap) (locs1 : List Loc), va_P D vwCl (wL ad (va_up g i (.inr (ci, fs.set k v))) n) H1 → va_S A H0 H1 locs1 → W p l e R s m args below meth c H1 locs1 cells slots Q (F0 m (pc + 3) ls rest)) : W p l e R s m args below meth c H locs cells slots Q (F0 m pc ls (v :: .ref (ad i) :: rest)) :=
  va_put X.1 X.2.1 X.2.2.2.2.1 hin ty0 hty hnm X.2.2.2.2.2.1 X.2.2.2.2.2.2.1 hP (wL_D hj hA) hS i (wL_at hi hg) hc k hk (X.2.2.2.2.1 _ hlink) (fun _ h => h) hfin hd hn hfit hl hdg (fun H1 locs1 hP1 _ hS1 => kk H1 locs1 (by rw [← wL_set]; exact hP1) hS1)
theorem q_iald (X : Cx p s m args meth c cc nL rt Ts own D cs) (hP : va_P D vwCl (wL ad g n) H) {i N : Nat} {f : Nat → Int32} (hi : i < n) (hg : g i = .inl (cs 1, N, .inl f)) {k : Int32} (hin : vp_in k N) (hdg : decode cc pc = .ok (.iaload, 1))
    (kk : W p l e R s m args below meth c H locs cells slots Q (F0 m (pc + 1) ls (.int (f k.toNatClampNeg) :: rest))) : W p l e R s m args below meth c H locs cells slots Q (F0 m pc ls (.int k :: .ref (ad i) :: rest)) :=
  va_iald X.1 X.2.1 X.2.2.2.2.2.2.1 hP i 1 (wL_at hi hg) rfl hin hdg kk
theorem q_bald (X : Cx p s m args meth c cc nL rt Ts own D cs) (hP : va_P D vwCl (wL ad g n) H) {i N : Nat} {f : Nat → Int32} (hi : i < n) (hg : g i = .inl (cs 0, N, .inl f)) {k : Int32} (hin : vp_in k N) (hdg : decode cc pc = .ok (.baload, 1))
    (kk : W p l e R s m args below meth c H locs cells slots Q (F0 m (pc + 1) ls (.int (f k.toNatClampNeg) :: rest))) : W p l e R s m args below meth c H locs cells slots Q (F0 m pc ls (.int k :: .ref (ad i) :: rest)) :=
  va_bald X.1 X.2.1 X.2.2.2.2.2.2.1 hP i 0 (wL_at hi hg) rfl hin hdg kk
theorem q_zald (X : Cx p s m args meth c cc nL rt Ts own D cs) (hP : va_P D vwCl (wL ad g n) H) {i N : Nat} {f : Nat → Int32} (hi : i < n) (hg : g i = .inl (cs 3, N, .inl f)) {k : Int32} (hin : vp_in k N) (hdg : decode cc pc = .ok (.baload, 1))
    (kk : W p l e R s m args below meth c H locs cells slots Q (F0 m (pc + 1) ls (.int (f k.toNatClampNeg) :: rest))) : W p l e R s m args below meth c H locs cells slots Q (F0 m pc ls (.int k :: .ref (ad i) :: rest)) :=
  va_zald X.1 X.2.1 X.2.2.2.2.2.2.1 hP i 3 (wL_at hi hg) rfl hin hdg kk
theorem q_lald (X : Cx p s m args meth c cc nL rt Ts own D cs) (hP : va_P D vwCl (wL ad g n) H) {i N : Nat} {f : Nat → Int64} (hi : i < n) (hg : g i = .inl (cs 2, N, .inr (.inl f))) {k : Int32} (hin : vp_in k N) (hdg : decode cc pc = .ok (.laload, 1))
    (kk : W p l e R s m args below meth c H locs cells slots Q (F0 m (pc + 1) ls (.long (f k.toNatClampNeg) :: rest))) : W p l e R s m args below meth c H locs cells slots Q (F0 m pc ls (.int k :: .ref (ad i) :: rest)) :=
  va_lald X.1 X.2.1 X.2.2.2.2.2.2.1 hP i 2 (wL_at hi hg) rfl hin hdg kk
theorem q_iast (X : Cx p s m args meth c cc nL rt Ts own D cs) (hP : va_P D vwCl (wL ad g n) H) (hj : wJ ad n) (hA : ∀ i, i < n → A (ad i)) (hS : va_S A H0 H locs) {i N : Nat} {f : Nat → Int32} (hi : i < n) (hg : g i = .inl (cs 1, N, .inl f)) {k x : Int32} (hin : vp_in k N) (hdg : decode cc pc = .ok (.iastore, 1))
    (kk : ∀ (H1 : Heap) (locs1 : List Loc), va_P D vwCl (wL ad (va_up g i (.inl (cs 1, N, .inl (upd f k.toNatClampNeg x)))) n) H1 → va_S A H0 H1 locs1 → W p l e R s m args below meth c H1 locs1 cells slots Q (F0 m (pc + 1) ls rest)) : W p l e R s m args below meth c H locs cells slots Q (F0 m pc ls (.int x :: .int k :: .ref (ad i) :: rest)) :=
  va_iast X.1 X.2.1 X.2.2.2.2.2.2.1 hP (wL_D hj hA) hS i 1 (wL_at hi hg) rfl hin hdg (fun H1 locs1 hP1 _ hS1 => kk H1 locs1 (by rw [← wL_set]; exact hP1) hS1)
theorem q_bast (X : Cx p s m args meth c cc nL rt Ts own D cs) (hP : va_P D vwCl (wL ad g n) H) (hj : wJ ad n) (hA : ∀ i, i < n → A (ad i)) (hS : va_S A H0 H locs) {i N : Nat} {f : Nat → Int32} (hi : i < n) (hg : g i = .inl (cs 0, N, .inl f)) {k x : Int32} (hin : vp_in k N) (hdg : decode cc pc = .ok (.bastore, 1))
    (kk : ∀ (H1 : Heap) (locs1 : List Loc), va_P D vwCl (wL ad (va_up g i (.inl (cs 0, N, .inl (upd f k.toNatClampNeg (vp_nar .byte x))))) n) H1 → va_S A H0 H1 locs1 → W p l e R s m args below meth c H1 locs1 cells slots Q (F0 m (pc + 1) ls rest)) : W p l e R s m args below meth c H locs cells slots Q (F0 m pc ls (.int x :: .int k :: .ref (ad i) :: rest)) :=
  va_bast X.1 X.2.1 X.2.2.2.2.2.2.1 hP (wL_D hj hA) hS i 0 (wL_at hi hg) rfl hin hdg (fun H1 locs1 hP1 _ hS1 => kk H1 locs1 (by rw [← wL_set]; exact hP1) hS1)
theorem q_zast (X : Cx p s m args meth c cc nL rt Ts own D cs) (hP : va_P D vwCl (wL ad g n) H) (hj : wJ ad n) (hA : ∀ i, i < n → A (ad i)) (hS : va_S A H0 H locs) {i N : Nat} {f : Nat → Int32} (hi : i < n) (hg : g i = .inl (cs 3, N, .inl f)) {k x : Int32} (hin : vp_in k N) (hdg : decode cc pc = .ok (.bastore, 1))
    (kk : ∀ (H1 : Heap) (locs1 : List Loc), va_P D vwCl (wL ad (va_up g i (.inl (cs 3, N, .inl (upd f k.toNatClampNeg (vp_nar .boolean x))))) n) H1 → va_S A H0 H1 locs1 → W p l e R s m args below meth c H1 locs1 cells slots Q (F0 m (pc + 1) ls rest)) : W p l e R s m args below meth c H locs cells slots Q (F0 m pc ls (.int x :: .int k :: .ref (ad i) :: rest)) :=
  va_zast X.1 X.2.1 X.2.2.2.2.2.2.1 hP (wL_D hj hA) hS i 3 (wL_at hi hg) rfl hin hdg (fun H1 locs1 hP1 _ hS1 => kk H1 locs1 (by rw [← wL_set]; exact hP1) hS1)
theorem q_last (X : Cx p s m args meth c cc nL rt Ts own D cs) (hP : va_P D vwCl (wL ad g n) H) (hj : wJ ad n) (hA : ∀ i, i < n → A (ad i)) (hS : va_S A H0 H locs) {i N : Nat} {f : Nat → Int64} (hi : i < n) (hg : g i = .inl (cs 2, N, .inr (.inl f))) {k : Int32} {x : Int64} (hin : vp_in k N) (hdg : decode cc pc = .ok (.lastore, 1))
    (kk : ∀ (H1 : Heap) (locs1 : List Loc), va_P D vwCl (wL ad (va_up g i (.inl (cs 2, N, .inr (.inl (vp_updL f k.toNatClampNeg x))))) n) H1 → va_S A H0 H1 locs1 → W p l e R s m args below meth c H1 locs1 cells slots Q (F0 m (pc + 1) ls rest)) : W p l e R s m args below meth c H locs cells slots Q (F0 m pc ls (.long x :: .int k :: .ref (ad i) :: rest)) :=
  va_last X.1 X.2.1 X.2.2.2.2.2.2.1 hP (wL_D hj hA) hS i 2 (wL_at hi hg) rfl hin hdg (fun H1 locs1 hP1 _ hS1 => kk H1 locs1 (by rw [← wL_set]; exact hP1) hS1)
theorem q_iret (X : Cx p s m args meth c cc nL (some .int) Ts own D cs) {post : Int32 → (Nat → va_E) → Prop} (hP : va_P D vwCl (wL ad g n) H) (hS : va_S (wA ad n) s.heap H locs) {v : Int32} (hpost : post v g) (hdg : decode cc pc = .ok (.ireturn, 1)) : W p l e R s m args below meth c H locs 0 0 (MQ below (qI D ad n post) args s 0 0 (wA ad n)) (F0 m pc ls [.int v]) :=
  W.iret X.1 X.2.1 X.2.2.1 (fun t ht _ => ⟨⟨v, g, rfl, hpost, (by show va_P D vwCl (wL ad g n) t.heap; rw [ht]; exact hP)⟩, hS.F ht⟩) hS.2.2 hdg X.2.2.2.2.2.2.2
theorem q_zret (X : Cx p s m args meth c cc nL (some .boolean) Ts own D cs) {post : Int32 → (Nat → va_E) → Prop} (hP : va_P D vwCl (wL ad g n) H) (hS : va_S (wA ad n) s.heap H locs) {v : Int32} (hn : narrow .boolean (.int v) = .int v) (hpost : post v g) (hdg : decode cc pc = .ok (.ireturn, 1)) : W p l e R s m args below meth c H locs 0 0 (MQ below (qI D ad n post) args s 0 0 (wA ad n)) (F0 m pc ls [.int v]) :=
  W.zret X.1 X.2.1 X.2.2.1 hn (fun t ht _ => ⟨⟨v, g, rfl, hpost, (by show va_P D vwCl (wL ad g n) t.heap; rw [ht]; exact hP)⟩, hS.F ht⟩) hS.2.2 hdg X.2.2.2.2.2.2.2
theorem q_lret (X : Cx p s m args meth c cc nL (some .long) Ts own D cs) {post : Int64 → (Nat → va_E) → Prop} (hP : va_P D vwCl (wL ad g n) H) (hS : va_S (wA ad n) s.heap H locs) {v : Int64} (hpost : post v g) (hdg : decode cc pc = .ok (.lreturn, 1)) : W p l e R s m args below meth c H locs 0 0 (MQ below (qJ D ad n post) args s 0 0 (wA ad n)) (F0 m pc ls [.long v]) :=
  W.lret X.1 X.2.1 X.2.2.1 (fun t ht _ => ⟨⟨v, g, rfl, hpost, (by show va_P D vwCl (wL ad g n) t.heap; rw [ht]; exact hP)⟩, hS.F ht⟩) hS.2.2 hdg X.2.2.2.2.2.2.2
theorem q_vret (X : Cx p s m args meth c cc nL none Ts own D cs) {post : (Nat → va_E) → Prop} (hP : va_P D vwCl (wL ad g n) H) (hS : va_S (wA ad n) s.heap H locs) (hpost : post g) (hdg : decode cc pc = .ok (.return_, 1)) : W p l e R s m args below meth c H locs 0 0 (MQ below (qV D ad n post) args s 0 0 (wA ad n)) (F0 m pc ls []) :=
  W.vret X.1 X.2.1 X.2.2.1 (fun t ht _ => ⟨⟨g, rfl, hpost, (by show va_P D vwCl (wL ad g n) t.heap; rw [ht]; exact hP)⟩, hS.F ht⟩) hS.2.2 hdg X.2.2.2.2.2.2.2
variable {y : MethodName} {ws ws' : List Cond} {rm : Room} {bytes : ByteArray} {maxL index k : Nat} {ret : Option FieldType} {C : String} {As : List Value} {st : List Value}
theorem wA_in (hA : ∀ i, i < n → A (ad i)) : ∀ q, wA ad n q → A q := fun q h => by
  obtain ⟨i, hi, rfl⟩ := h
  exact hA i hi
theorem q_preV (X : Cx p s m args meth c cc nL rt Ts own D cs) (hP : va_P D vwCl (wL ad g n) H) {i ci : Nat} {fs : List Value} {q : vw_C} (hi : i < n) (hg : g i = .inr (ci, fs)) (hc : vwCl[ci]? = some q) : PreV s H q.1 (ad i) (pC D cs ad n (.ref (ad i) :: As) g) As :=
  ⟨pC_blind, va_recv X.2.2.2.2.2.2.1 hP hc (wL_at hi hg), fun U hU hW => ⟨rfl, by rw [hU]; exact hP, va_K.moved hW.alike X.2.2.2.2.2.2.1⟩⟩
theorem q_preS (X : Cx p s m args meth c cc nL rt Ts own D cs) (hP : va_P D vwCl (wL ad g n) H) : PreS s H (pC D cs ad n As g) As :=
  ⟨pC_blind, fun U hU hW => ⟨rfl, by rw [hU]; exact hP, va_K.moved hW.alike X.2.2.2.2.2.2.1⟩⟩
theorem q_calli (X : Cx p s m args meth c cc nL rt Ts own D cs) {i ci : Nat} {fs : List Value} {q : vw_C} {post : Int32 → (Nat → va_E) → Prop} (hM : cI l y ws rm D cs ad n (.ref (ad i) :: As) g post) (cw : CallW R s args own q.1 index y bytes maxL ret ws rm 0 0 k) (hi : i < n) (hg : g i = .inr (ci, fs)) (hc : vwCl[ci]? = some q) (hP : va_P D vwCl (wL ad g n) H) (hA : ∀ i, i < n → A (ad i)) (hS : va_S A H0 H locs) (hn : As.length = k) (hsz : ls.size = nL) (hst : st = As.reverse ++ .ref (ad i) :: rest) (hcat : (rest.map fun v => v.category).sum ≤ 8) (hdg : decode cc pc = .ok (.invokevirtual index, 3)) (hf : cells + 0 ≤ R.cells ∧ slots + 0 ≤ R.slots)
    (kk : ∀ (r : Int32) (g' : Nat → va_E) (H1 : Heap) (locs1 : List Loc), post r g' → va_P D vwCl (wL ad g' n) H1 → va_S A H0 H1 locs1 → W p l e R s m args below meth c H1 locs1 cells slots Q (F0 m (pc + 3) ls (.int r :: rest))) : W p l e R s m args below meth c H locs cells slots Q (F0 m pc ls st) :=
  va_calli (va_runV (nL := nL) (b := ad i) (As := As) (rest := rest) ⟨X.1, X.2.1, X.2.2.2.1, X.2.2.2.2.2.1, X.2.2.2.2.1⟩ hM cw (q_preV X hP hi hg hc) rfl hn hsz hst (lv_room hcat) hdg hf) hS (fun q _ h => wA_in hA q h) (wA_in hA) (fun r u t H1 locs1 ht _ hw hB _ _ hS1 => kk r u H1 locs1 hw (by rw [← ht]; exact hB) hS1)
theorem q_callj (X : Cx p s m args meth c cc nL rt Ts own D cs) {i ci : Nat} {fs : List Value} {q : vw_C} {post : Int64 → (Nat → va_E) → Prop} (hM : cJ l y ws rm D cs ad n (.ref (ad i) :: As) g post) (cw : CallW R s args own q.1 index y bytes maxL ret ws rm 0 0 k) (hi : i < n) (hg : g i = .inr (ci, fs)) (hc : vwCl[ci]? = some q) (hP : va_P D vwCl (wL ad g n) H) (hA : ∀ i, i < n → A (ad i)) (hS : va_S A H0 H locs) (hn : As.length = k) (hsz : ls.size = nL) (hst : st = As.reverse ++ .ref (ad i) :: rest) (hcat : (rest.map fun v => v.category).sum ≤ 8) (hdg : decode cc pc = .ok (.invokevirtual index, 3)) (hf : cells + 0 ≤ R.cells ∧ slots + 0 ≤ R.slots)
    (kk : ∀ (r : Int64) (g' : Nat → va_E) (H1 : Heap) (locs1 : List Loc), post r g' → va_P D vwCl (wL ad g' n) H1 → va_S A H0 H1 locs1 → W p l e R s m args below meth c H1 locs1 cells slots Q (F0 m (pc + 3) ls (.long r :: rest))) : W p l e R s m args below meth c H locs cells slots Q (F0 m pc ls st) :=
  va_calll (va_runV (nL := nL) (b := ad i) (As := As) (rest := rest) ⟨X.1, X.2.1, X.2.2.2.1, X.2.2.2.2.2.1, X.2.2.2.2.1⟩ hM cw (q_preV X hP hi hg hc) rfl hn hsz hst (lv_room hcat) hdg hf) hS (fun q _ h => wA_in hA q h) (wA_in hA) (fun r u t H1 locs1 ht _ hw hB _ _ hS1 => kk r u H1 locs1 hw (by rw [← ht]; exact hB) hS1)
theorem q_callv (X : Cx p s m args meth c cc nL rt Ts own D cs) {i ci : Nat} {fs : List Value} {q : vw_C} {post : (Nat → va_E) → Prop} (hM : cV l y ws rm D cs ad n (.ref (ad i) :: As) g post) (cw : CallW R s args own q.1 index y bytes maxL ret ws rm 0 0 k) (hi : i < n) (hg : g i = .inr (ci, fs)) (hc : vwCl[ci]? = some q) (hP : va_P D vwCl (wL ad g n) H) (hA : ∀ i, i < n → A (ad i)) (hS : va_S A H0 H locs) (hn : As.length = k) (hsz : ls.size = nL) (hst : st = As.reverse ++ .ref (ad i) :: rest) (hcat : (rest.map fun v => v.category).sum ≤ 8) (hdg : decode cc pc = .ok (.invokevirtual index, 3)) (hf : cells + 0 ≤ R.cells ∧ slots + 0 ≤ R.slots)
    (kk : ∀ (g' : Nat → va_E) (H1 : Heap) (locs1 : List Loc), post g' → va_P D vwCl (wL ad g' n) H1 → va_S A H0 H1 locs1 → W p l e R s m args below meth c H1 locs1 cells slots Q (F0 m (pc + 3) ls rest)) : W p l e R s m args below meth c H locs cells slots Q (F0 m pc ls st) :=
  va_callv (va_runV (nL := nL) (b := ad i) (As := As) (rest := rest) ⟨X.1, X.2.1, X.2.2.2.1, X.2.2.2.2.2.1, X.2.2.2.2.1⟩ hM cw (q_preV X hP hi hg hc) rfl hn hsz hst (lv_room hcat) hdg hf) hS (fun q _ h => wA_in hA q h) (wA_in hA) (fun u t H1 locs1 ht _ hw hB _ _ hS1 => kk u H1 locs1 hw (by rw [← ht]; exact hB) hS1)
theorem q_callSi (X : Cx p s m args meth c cc nL rt Ts own D cs) {post : Int32 → (Nat → va_E) → Prop} (hM : cI l y ws rm D cs ad n As g post) (cw : CallB R s args own index y bytes maxL ret ws rm 0 0 k ∧ (Cond.static y).before args s = true) (hP : va_P D vwCl (wL ad g n) H) (hA : ∀ i, i < n → A (ad i)) (hS : va_S A H0 H locs) (hn : As.length = k) (hsz : ls.size = nL) (hst : st = As.reverse ++ rest) (hcat : (rest.map fun v => v.category).sum ≤ 8) (hdg : decode cc pc = .ok (.invokestatic index, 3)) (hf : cells + 0 ≤ R.cells ∧ slots + 0 ≤ R.slots)
    (kk : ∀ (r : Int32) (g' : Nat → va_E) (H1 : Heap) (locs1 : List Loc), post r g' → va_P D vwCl (wL ad g' n) H1 → va_S A H0 H1 locs1 → W p l e R s m args below meth c H1 locs1 cells slots Q (F0 m (pc + 3) ls (.int r :: rest))) : W p l e R s m args below meth c H locs cells slots Q (F0 m pc ls st) :=
  va_calli (va_runS (nL := nL) (As := As) (rest := rest) ⟨X.1, X.2.1, X.2.2.2.1, X.2.2.2.2.2.1, X.2.2.2.2.1⟩ hM cw (q_preS X hP) rfl hn hsz hst (lv_room hcat) hdg hf) hS (fun q _ h => wA_in hA q h) (wA_in hA) (fun r u t H1 locs1 ht _ hw hB _ _ hS1 => kk r u H1 locs1 hw (by rw [← ht]; exact hB) hS1)
theorem q_callSj (X : Cx p s m args meth c cc nL rt Ts own D cs) {post : Int64 → (Nat → va_E) → Prop} (hM : cJ l y ws rm D cs ad n As g post) (cw : CallB R s args own index y bytes maxL ret ws rm 0 0 k ∧ (Cond.static y).before args s = true) (hP : va_P D vwCl (wL ad g n) H) (hA : ∀ i, i < n → A (ad i)) (hS : va_S A H0 H locs) (hn : As.length = k) (hsz : ls.size = nL) (hst : st = As.reverse ++ rest) (hcat : (rest.map fun v => v.category).sum ≤ 8) (hdg : decode cc pc = .ok (.invokestatic index, 3)) (hf : cells + 0 ≤ R.cells ∧ slots + 0 ≤ R.slots)
    (kk : ∀ (r : Int64) (g' : Nat → va_E) (H1 : Heap) (locs1 : List Loc), post r g' → va_P D vwCl (wL ad g' n) H1 → va_S A H0 H1 locs1 → W p l e R s m args below meth c H1 locs1 cells slots Q (F0 m (pc + 3) ls (.long r :: rest))) : W p l e R s m args below meth c H locs cells slots Q (F0 m pc ls st) :=
  va_calll (va_runS (nL := nL) (As := As) (rest := rest) ⟨X.1, X.2.1, X.2.2.2.1, X.2.2.2.2.2.1, X.2.2.2.2.1⟩ hM cw (q_preS X hP) rfl hn hsz hst (lv_room hcat) hdg hf) hS (fun q _ h => wA_in hA q h) (wA_in hA) (fun r u t H1 locs1 ht _ hw hB _ _ hS1 => kk r u H1 locs1 hw (by rw [← ht]; exact hB) hS1)
end BASE
