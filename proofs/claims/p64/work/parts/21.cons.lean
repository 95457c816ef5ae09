-- two rows of numbered cells, one behind the other
def ct {α : Type} (f : Nat → α) (n : Nat) (h : Nat → α) : Nat → α := fun i => if i < n then f i else h (i - n)
theorem wL_app (a a' : Nat → Nat) (g g' : Nat → va_E) (n n' : Nat) : wL a g n ++ wL a' g' n' = wL (ct a n a') (ct g n g') (n + n') := by
  apply List.ext_getElem?
  intro k
  by_cases hk : k < n
  · rw [List.getElem?_append_left (by rw [wL_length]; exact hk), wL_at hk rfl, wL_at (g := ct g n g') (i := k) (by omega) rfl]
    simp [ct, hk]
  · rw [List.getElem?_append_right (by rw [wL_length]; omega), wL_length]
    by_cases h2 : k - n < n'
    · rw [wL_at h2 rfl, wL_at (g := ct g n g') (i := k) (by omega) rfl]
      simp [ct, hk]
    · rw [wL_no h2, wL_no (by omega)]
theorem wL_push (a : Nat → Nat) (g : Nat → va_E) (n q : Nat) (e : va_E) : wL a g n ++ [(q, e)] = wL (ct a n (fun _ => q)) (ct g n (fun _ => e)) (n + 1) := wL_app a (fun _ => q) g (fun _ => e) n 1
theorem wL_cons (a : Nat → Nat) (g : Nat → va_E) (n q : Nat) (e : va_E) : (q, e) :: wL a g n = wL (ct (fun _ => q) 1 a) (ct (fun _ => e) 1 g) (1 + n) := wL_app (fun _ => q) a (fun _ => e) g 1 n
theorem wL_eq {a a' : Nat → Nat} {g g' : Nat → va_E} {n n' : Nat} (hn : n = n') (ha : a = a') (hg : g = g') : wL a g n = wL a' g' n' := by rw [hn, ha, hg]
theorem wJ_of {A : Nat → Prop} {a : Nat → Nat} {g : Nat → va_E} {n : Nat} (h : va_D A (wL a g n)) : wJ a n := fun i j hi hj e => h.1 i j _ _ (wL_at hi rfl) (wL_at hj rfl) e
theorem wA_of {A : Nat → Prop} {a : Nat → Nat} {g : Nat → va_E} {n : Nat} (h : va_D A (wL a g n)) : ∀ i, i < n → A (a i) := fun i hi => h.2 i _ (wL_at hi rfl)
theorem join_last {A0 : Nat → Prop} {D : va_G} {ws w1 : va_W} {q : Nat} {e : va_E} {H H1 : Heap} (hP : va_P D vwCl (ws ++ [(q, e)]) H) (hD : va_D A0 (ws ++ [(q, e)])) (hk : ∀ x : Nat, x < H.size → ¬ va_A [(q, e)] H.size x → H1[x]? = H[x]?) (hF : ∀ x, va_A [(q, e)] H.size x → A0 x) (hP1 : va_P D vwCl w1 H1) (hD1 : va_D (va_A [(q, e)] H.size) w1) : va_P D vwCl (ws ++ w1) H1 ∧ va_D A0 (ws ++ w1) := by
  have hlast : (ws ++ [(q, e)])[ws.length]? = some (q, e) := by simp
  have hin : ∀ (k : Nat) (x : Nat × va_E), ws[k]? = some x → (ws ++ [(q, e)])[k]? = some x := fun k x hx => by
    rw [List.getElem?_append_left (List.getElem?_eq_some_iff.mp hx).1]; exact hx
  have apart : ∀ (k : Nat) (x : Nat × va_E), ws[k]? = some x → x.1 < H.size ∧ ¬ va_A [(q, e)] H.size x.1 := fun k x hx => by
    have hl := (hP k x (hin k x hx)).lt
    refine ⟨hl, fun h => ?_⟩
    rcases h with ⟨k2, e2, h⟩ | h
    · have h0 : k2 < 1 := (List.getElem?_eq_some_iff.mp h).1
      rw [show k2 = 0 by omega] at h
      have hq : x.1 = q := by cases h; rfl
      have := hD.1 k ws.length x (q, e) (hin k x hx) hlast hq
      have h3 := (List.getElem?_eq_some_iff.mp hx).1
      omega
    · omega
  refine ⟨va_P.app (fun k x hx => (hP k x (hin k x hx)).kept (hk x.1 (apart k x hx).1 (apart k x hx).2)) hP1, va_D.app ⟨fun i j x y hi hj h => hD.1 i j x y (hin i x hi) (hin j y hj) h, fun k x hx => hD.2 k x (hin k x hx)⟩ (hD1.weaken (fun k x _ h => hF x.1 h)) (fun i j x y hx hy hxy => ?_)⟩
  exact (apart i x hx).2 (by rw [hxy]; exact hD1.2 j y hy)
-- what of the tables no word list carries: links to private constructors of nest mates, rows of objects, rows of rows
def nstW : List (String × Nat × MethodName × String) := [(RX11, 11, yX7_init, RX11), (RX11, 18, yX6_init, RX11), (RX6, 42, yX0_init, RX11), (RX11, 40, yX5_init, RX11), (RX11, 43, yX10_init, RX11), (RX11, 53, yX3_init, RX11), (RX11, 60, yX4_init, RX11), (RX11, 67, yX9_init, RX11), (RX11, 74, yX1_init, RX11), (RX11, 81, yX8_init, RX11), (RX11, 88, yX2_init, RX11)]
def Ax (U : State) : Prop := (∀ q ∈ nstW, va_Nw (.methodLinkNest q.1 q.2.1 q.2.2.1 q.2.2.2) U) ∧ va_AOA .int U ∧ va_AO "IcicleClock$Slot" U ∧ va_AO "IcicleClock$Street" U
theorem Ax.warm {s U : State} (hW : s.WarmedH U.vm) (h : Ax s) : Ax U := ⟨fun q hq => va_Nw.warmM hW (h.1 q hq), h.2.1.moved hW.alike, h.2.2.1.moved hW.alike, h.2.2.2.moved hW.alike⟩
theorem Ax.calls {U : State} (f : JFrame) (mk : MethodId) (a : Array Value) (h : Ax U) : Ax (U.calling f mk a) := ⟨fun q hq => va_Nw.same rfl rfl (h.1 q hq), h.2.1.moved (u := U) (U := U.calling f mk a) (Vm.Alike.refl U.vm), h.2.2.1.moved (u := U) (U := U.calling f mk a) (Vm.Alike.refl U.vm), h.2.2.2.moved (u := U) (U := U.calling f mk a) (Vm.Alike.refl U.vm)⟩
abbrev pN (D : va_G) (cs : Nat → ClassId) (h0 sz : Nat) (d : va_E) : Array Value → State → Prop := va_Pc [.ref h0] (fun U => U.heap.size = sz ∧ va_P D vwCl [(h0, d)] U.heap ∧ va_K D vwCl (tyL cs) U ∧ Ax U)
abbrev qN (D : va_G) (h0 sz : Nat) (d : va_E) (k : Nat) (post : (Nat → Nat) → (Nat → va_E) → Prop) : Array Value → State → Outcome → State → Prop := va_Qv (fun u : (Nat → Nat) × (Nat → va_E) => u.1 0 = h0 ∧ post u.1 u.2) (fun u t => va_P D vwCl (wL u.1 u.2 k) t.heap ∧ va_D (va_A [(h0, d)] sz) (wL u.1 u.2 k)) (va_A [(h0, d)] sz)
/-- a constructor's contract: the object at h0 with the defaults d; behind it k cells, the object first -/
def cN (l : Launch) (y : MethodName) (ws : List Cond) (rm : Room) (D : va_G) (cs : Nat → ClassId) (h0 sz : Nat) (d : va_E) (k : Nat) (post : (Nat → Nat) → (Nat → va_E) → Prop) (mc ms : Nat) : Prop := Met l y ws rm (pN D cs h0 sz d) (qN D h0 sz d k post) mc ms (va_A [(h0, d)] sz)
theorem pN_blind {D : va_G} {cs : Nat → ClassId} {h0 sz : Nat} {d : va_E} : FrameBlind (pN D cs h0 sz d) := fun a U f mk q => by
  obtain ⟨q0, qs, qP, qK, qA⟩ := q
  exact ⟨q0, qs, qP, va_K.moved (u := U) (U := U.calling f mk a) (Vm.Alike.refl U.vm) qK, qA.calls f mk a⟩
theorem cN.start {l : Launch} {y : MethodName} {ws ws' : List Cond} {rm : Room} {D : va_G} {cs : Nat → ClassId} {h0 sz : Nat} {d : va_E} {k : Nat} {post : (Nat → Nat) → (Nat → va_E) → Prop} {cc : ByteArray} {maxL mc ms : Nat} (own : String) (ho : y.cls = own) (hy : plainName y.cls = true) (hw : ws = Cond.code y cc maxL none :: ws') (hi : y.name = "<init>") (hlen : 1 ≤ maxL)
    (body : ∀ (p : Program) (e : Env) (s : State) (m : MethodId) (below : List Frame) (meth : Method) (c : Code) (ls : Array Slot) (A : Nat → Prop), Cx p s m [Value.ref h0].toArray meth c cc maxL none ws own D cs → meth.name = "<init>" → Ax s → (∀ q, s.heap.size ≤ q → A q) → va_P D vwCl [(h0, d)] s.heap → va_D A [(h0, d)] → lv_has ls maxL [(0, .ref h0)] → (∀ (H : Heap) (locs : List Loc) (pc : Nat) (ls : Array Slot) (a : Nat → Nat) (g : Nat → va_E), va_P D vwCl (wL a g k) H → va_D A (wL a g k) → va_S A s.heap H locs → a 0 = h0 → post a g → decode cc pc = .ok (.return_, 1) → W p l e rm s m [Value.ref h0].toArray below meth c H locs mc ms (MQ below (qN D h0 sz d k post) [Value.ref h0].toArray s mc ms (va_A [(h0, d)] sz)) (F0 m pc ls [])) → W p l e rm s m [Value.ref h0].toArray below meth c s.heap [] 0 0 (MQ below (qN D h0 sz d k post) [Value.ref h0].toArray s mc ms (va_A [(h0, d)] sz)) (F0 m 0 ls [])) : cN l y ws rm D cs h0 sz d k post mc ms := by
  refine Met.ofW (cc := cc) (maxL := maxL) (ret := none) hy hw ?_
  intro p e s m args below meth c s₁ B hml hv
  obtain ⟨rfl, hsz, hP, hK, hax⟩ := hv
  subst ho
  subst hsz
  rw [lg_entry_eq]
  have hD1 : va_D (va_A [(h0, d)] s.heap.size) [(h0, d)] := ⟨fun i j x z hi hj _ => by
    have h1 : i < 1 := (List.getElem?_eq_some_iff.mp hi).1
    have h2 : j < 1 := (List.getElem?_eq_some_iff.mp hj).1
    omega, fun k2 q hq => va_A.in hq⟩
  have X : Cx p s m [Value.ref h0].toArray meth c cc maxL none ws y.cls D cs := ⟨B.exec, B.bytes, B.returns, hml, atoms_spec (ws := ws) B.pre, findClass_of_methodNamed B.named, hK, B.notSynchronized⟩
  refine body p e s m below meth c _ (va_A [(h0, d)] s.heap.size) X ((name_of_methodNamed B.named B.method).1.trans hi) hax (fun q h => Or.inr h) hP hD1 (lv_entry [.ref h0] hlen) ?_
  intro H locs pc ls a g h1 h2 h3 h4 h5 h6
  exact W.vret X.1 X.2.1 X.2.2.1 (fun t ht _ => ⟨⟨(a, g), rfl, ⟨h4, h5⟩, (by show va_P D vwCl (wL a g k) t.heap; rw [ht]; exact h1), h2⟩, h3.F ht⟩) h3.2.2 h6 X.2.2.2.2.2.2.2
section CONS
variable {p : Program} {l : Launch} {e : Env} {R : Room} {s : State} {m : MethodId} {args : Array Value} {below : List Frame} {meth : Method} {c : Code} {H H0 : Heap} {locs : List Loc} {cells slots : Nat} {Q : State → Prop}
variable {cc : ByteArray} {pc nL n : Nat} {ls : Array Slot} {rest : List Value} {D : va_G} {cs : Nat → ClassId} {A : Nat → Prop} {ad : Nat → Nat} {g : Nat → va_E} {rt : Option FieldType} {Ts : List Cond} {own : String} {h0 : Nat} {d : va_E}
theorem r_obj (X : Cx p s m args meth c cc nL rt Ts own D cs) {idx a : Nat} (hl : ls.size = nL) (h1 : Cond.methodLink own idx objectInit ∈ Ts) (h2 : Cond.instanceMethod objectInit ∈ Ts) (h3 : Cond.code objectInit ⟨#[0xb1]⟩ 1 none ∈ Ts) (hd : decode cc pc = .ok (.invokespecial idx, 3)) (hfr : 1 ≤ R.frames) (hlo : 2 * (F0 m pc ls (.ref a :: rest)).monitorRoom + (rest.map fun v => v.category).sum + 12 ≤ R.locals)
    (kk : W p l e R s m args below meth c H locs cells slots Q (F0 m (pc + 3) ls rest)) : W p l e R s m args below meth c H locs cells slots Q (F0 m pc ls (.ref a :: rest)) :=
  W.objInit X.1 X.2.1 X.2.2.2.2.2.1 (X.2.2.2.2.1 _ h1) (X.2.2.2.2.1 _ h2) (X.2.2.2.2.1 _ h3) rfl (hl.trans X.2.2.2.1.symm) rfl hd hfr hlo kk
/-- a row of numbers comes behind the world -/
theorem r_newa (X : Cx p s m args meth c cc nL rt Ts own D cs) {atype : ArrayType} (t0 : Nat) {ty : FieldType} (hty : newarray.typeOf atype = ty) (ht : (tyL cs)[t0]? = some (cs t0, ty)) (hra : ∀ k, va_RA s k ty → s.vm.findClass ("[" ++ ty.toString) = some k) (harr : Cond.arrayClass (newarray.typeOf atype) ∈ Ts) (hP : va_P D vwCl ((h0, d) :: wL ad g n) H) (hD : va_D A ((h0, d) :: wL ad g n)) (hS : va_S A H0 H locs) (hA : ∀ q, H0.size ≤ q → A q) {k : Int32} {N' : Nat} {a0 : vp_A} (ha : ∀ cA : ClassId, vp_cell cA a0 = arrV cA N' (fun _ => defaultValue ty)) (hn : ¬ k < 0) (hN : k.toNatClampNeg = N') (hbytes : N' * componentBytes ty ≤ 536870912) (hcells : cells + 1 ≤ R.cells) (hslots : slots + N' ≤ R.slots) (hdg : decode cc pc = .ok (.newarray atype, 2))
    (kk : ∀ (q : Nat) (ad1 : Nat → Nat) (g1 : Nat → va_E) (H1 : Heap), ad1 = ct ad n (fun _ => q) → g1 = ct g n (fun _ => .inl (cs t0, a0)) → va_P D vwCl ((h0, d) :: wL ad1 g1 (n + 1)) H1 → va_D A ((h0, d) :: wL ad1 g1 (n + 1)) → va_S A H0 H1 locs → W p l e R s m args below meth c H1 locs (cells + 1) (slots + N') Q (F0 m (pc + 2) ls (.ref q :: rest))) : W p l e R s m args below meth c H locs cells slots Q (F0 m pc ls (.int k :: rest)) := by
  refine va_newa X.1 X.2.1 (X.2.2.2.2.1 _ harr) hty X.2.2.2.2.2.2.1 hP hD hS hA ha hn hN hbytes hcells hslots hdg (fun q cA H1 hK1 hP1 hD1 hS1 => ?_)
  have e1 := hra _ (X.2.2.2.2.2.2.1.2 t0 _ ht).2
  have e2 := hra _ (hK1.2 (tyL cs).length (cA, ty) (by simp)).2
  have e3 : cA = cs t0 := Option.some.inj (e2.symm.trans e1)
  subst e3
  exact kk q _ _ H1 rfl rfl (by rw [← wL_push]; exact hP1) (by rw [← wL_push]; exact hD1) hS1
theorem r_newq (X : Cx p s m args meth c cc nL rt Ts own D cs) {C : String} {index : Nat} (t0 : Nat) (ht : (tyL cs)[t0]? = some (cs t0, .object C)) (hcl : Cond.classLink own index C ∈ Ts) (hover : va_AO C s) (hP : va_P D vwCl ((h0, d) :: wL ad g n) H) (hD : va_D A ((h0, d) :: wL ad g n)) (hS : va_S A H0 H locs) (hA : ∀ q, H0.size ≤ q → A q) {k : Int32} {N' : Nat} (hn : ¬ k < 0) (hN : k.toNatClampNeg = N') (hbytes : N' * 4 ≤ 536870912) (hcells : cells + 1 ≤ R.cells) (hslots : slots + N' ≤ R.slots) (hdg : decode cc pc = .ok (.anewarray index, 3))
    (kk : ∀ (q : Nat) (ad1 : Nat → Nat) (g1 : Nat → va_E) (H1 : Heap), ad1 = ct ad n (fun _ => q) → g1 = ct g n (fun _ => .inl (cs t0, N', .inr (.inr (.inr (.inr (fun _ => none)))))) → va_P D vwCl ((h0, d) :: wL ad1 g1 (n + 1)) H1 → va_D A ((h0, d) :: wL ad1 g1 (n + 1)) → va_S A H0 H1 locs → W p l e R s m args below meth c H1 locs (cells + 1) (slots + N') Q (F0 m (pc + 3) ls (.ref q :: rest))) : W p l e R s m args below meth c H locs cells slots Q (F0 m pc ls (.int k :: rest)) := by
  refine va_newq X.1 X.2.1 X.2.2.2.2.2.1 (X.2.2.2.2.1 _ hcl) hover X.2.2.2.2.2.2.1 hP hD hS hA hn hN hbytes hcells hslots hdg (fun q cA H1 hK1 hP1 hD1 hS1 => ?_)
  obtain ⟨-, -, -, -, -, e1⟩ := (X.2.2.2.2.2.2.1.2 t0 _ ht).2
  obtain ⟨-, -, -, -, -, e2⟩ := (hK1.2 (tyL cs).length (cA, .object C) (by simp)).2
  have e3 : cA = cs t0 := Option.some.inj (e2.symm.trans e1)
  subst e3
  exact kk q _ _ H1 rfl rfl (by rw [← wL_push]; exact hP1) (by rw [← wL_push]; exact hD1) hS1
/-- rows of rows of ints -/
theorem r_mna (X : Cx p s m args meth c cc nL rt Ts own D cs) {index : Nat} (hcl : Cond.classLink own index "[[I" ∈ Ts) (hover : va_AOA .int s) (harr : Cond.arrayClass .int ∈ Ts) (hP : va_P D vwCl ((h0, d) :: wL ad g n) H) (hD : va_D A ((h0, d) :: wL ad g n)) (hS : va_S A H0 H locs) (hA : ∀ q, H0.size ≤ q → A q) {n1 k1 : Int32} {N' K' : Nat} (hn : ¬ n1 < 0) (hk : ¬ k1 < 0) (hN : n1.toNatClampNeg = N') (hM : k1.toNatClampNeg = K') (hb1 : N' * 4 ≤ 536870912) (hb2 : K' * componentBytes .int ≤ 536870912) (hb3 : K' ≤ 536870912) (hcells : cells + (1 + N') ≤ R.cells) (hslots : slots + (N' + N' * K') ≤ R.slots) (hdg : decode cc pc = .ok (.multianewarray index 2, 4))
    (kk : ∀ (q : Nat) (r : Nat → Nat) (ad1 : Nat → Nat) (g1 : Nat → va_E) (H1 : Heap), ad1 = ct ad n (ct (fun _ => q) 1 r) → g1 = ct g n (ct (fun _ => .inl (cs 6, N', .inr (.inr (.inr (.inr (fun i => if i < N' then some (r i) else none)))))) 1 (fun _ => .inl (cs 1, K', .inl (fun _ => 0)))) → va_P D vwCl ((h0, d) :: wL ad1 g1 (n + (1 + N'))) H1 → va_D A ((h0, d) :: wL ad1 g1 (n + (1 + N'))) → va_S A H0 H1 locs → W p l e R s m args below meth c H1 locs (cells + 1 + N') (slots + N' + N' * K') Q (F0 m (pc + 4) ls (.ref q :: rest))) : W p l e R s m args below meth c H locs cells slots Q (F0 m pc ls (.int k1 :: .int n1 :: rest)) := by
  have f1 : s.vm.findClass ("[" ++ FieldType.int.toString) = some (cs 1) := (X.2.2.2.2.2.2.1.2 1 (cs 1, .int) rfl).2
  refine va_mna (X := (h0, d) :: wL ad g n) (L := []) (f := fun _ => .inr (0, [])) (cy := cs 1) (ty := .int) (z := (K', .inl (fun _ => 0))) X.1 X.2.1 X.2.2.2.2.2.1 (X.2.2.2.2.1 _ hcl) hover (X.2.2.2.2.1 _ harr) f1 X.2.2.2.2.2.2.1 (by simpa [va_pl] using hP) (by simpa [va_pl] using hD) hS hA hn hk hN hM hb1 hb2 hb3 rfl rfl hcells hslots (fun c => by
    show ({ cls := c, slots := Array.replicate K' (.int 0), vm := .none } : Cell) = _
    rw [arrV_new]
    rfl) hdg (fun q r cA H1 _ _ hK1 hP1 hD1 hS1 => ?_)
  have e1 : s.vm.findClass ("[" ++ (FieldType.array .int).toString) = some (cs 6) := (X.2.2.2.2.2.2.1.2 6 (cs 6, .array .int) rfl).2
  have e2 : s.vm.findClass ("[" ++ (FieldType.array .int).toString) = some cA := (hK1.2 (tyL cs).length (cA, .array .int) (by simp)).2
  have e3 : cA = cs 6 := Option.some.inj (e2.symm.trans e1)
  subst e3
  have hw : ∀ f : Nat → va_E, va_pl ([] ++ (List.range N').map r) (vr_up f ((List.range N').map r) (.inl (cs 1, (K', .inl (fun _ => 0))))) = wL r (fun _ => .inl (cs 1, K', .inl (fun _ => 0))) N' := fun f => by
    unfold va_pl wL
    rw [List.nil_append, List.map_map]
    apply List.map_congr_left
    intro i hi
    show (r i, vr_up _ _ _ (r i)) = _
    rw [vr_up_in (List.mem_map.mpr ⟨i, hi, rfl⟩)]
  rw [hw] at hP1 hD1
  have hq : ∀ e : va_E, ((h0, d) :: wL ad g n ++ [(q, e)]) ++ wL r (fun _ => .inl (cs 1, K', .inl (fun _ => 0))) N' = (h0, d) :: wL (ct ad n (ct (fun _ => q) 1 r)) (ct g n (ct (fun _ => e) 1 (fun _ => .inl (cs 1, K', .inl (fun _ => 0))))) (n + (1 + N')) := fun e => by
    rw [← wL_app, ← wL_app, List.append_assoc]
    rfl
  rw [hq] at hP1 hD1
  exact kk q r _ _ H1 rfl rfl hP1 hD1 hS1
theorem r_new (X : Cx p s m args meth c cc nL rt Ts own D cs) {C : String} {T : u_T} {N ci index : Nat} (hin : ∀ w ∈ u_ws C T N, w ∈ Ts) (ty : Nat → FieldType) (hty : ∀ k, k < N → parseFieldDescriptor (T k).2.2.1 = some (ty k)) (hcl : Cond.classLink own index C ∈ Ts) (hinst : Cond.instantiable C N ∈ Ts) (hini : Cond.initialized C ∈ Ts) {ws : va_W} (hP : va_P D vwCl ws H) (hD : va_D A ws) (hS : va_S A H0 H locs) (hA : ∀ q, H0.size ≤ q → A q) (hc : vwCl[ci]? = some (C, T, N)) {fs : List Value} (hfs : ∀ j, j < N → defaultValue (ty j) = vp_V fs j) (hcells : cells + 1 ≤ R.cells) (hslots : slots + N ≤ R.slots) (hdg : decode cc pc = .ok (.new index, 3))
    (kk : ∀ (q : Nat) (H1 : Heap), va_P D vwCl (ws ++ [(q, .inr (ci, fs))]) H1 → va_D A (ws ++ [(q, .inr (ci, fs))]) → va_S A H0 H1 locs → W p l e R s m args below meth c H1 locs (cells + 1) (slots + N) Q (F0 m (pc + 3) ls (.ref q :: rest))) : W p l e R s m args below meth c H locs cells slots Q (F0 m pc ls rest) :=
  va_new X.1 X.2.1 X.2.2.2.2.1 hin ty hty X.2.2.2.2.2.1 (X.2.2.2.2.1 _ hcl) (X.2.2.2.2.1 _ hinst) (X.2.2.2.2.1 _ hini) X.2.2.2.2.2.2.1 hP hD hS hA hc hfs hcells hslots hdg kk
theorem r_putF (X : Cx p s m args meth c cc nL rt Ts own D cs) (hnm0 : meth.name = "<init>") {C : String} {T : u_T} {N ci index : Nat} (hin : ∀ w ∈ u_ws C T N, w ∈ Ts) (ty0 : Nat → FieldType) (hty : ∀ k, k < N → parseFieldDescriptor (T k).2.2.1 = some (ty0 k)) (hnm : ∀ a, a < N → ∀ b, b < N → a ≠ b → (T a).2.1 ≠ (T b).2.1) {fs : List Value} {T1 : va_W} (hP : va_P D vwCl ((h0, .inr (ci, fs)) :: T1) H) (hD : va_D A ((h0, .inr (ci, fs)) :: T1)) (hS : va_S A H0 H locs) (hc : vwCl[ci]? = some (C, T, N)) (k : Nat) (hk : k < N) (hlink : Cond.fieldLink own index (T k).1 (T k).2.1 (T k).2.2.1 ∈ Ts) (hfin : (T k).2.2.2 = true) (hdecl : (T k).1 = own) {ty : FieldType} {v : Value} (hd : parseFieldDescriptor (T k).2.2.1 = some ty) (hn : narrow ty v = v) (hfit : fits ty v = true) (hl : k < fs.length) (hdg : decode cc pc = .ok (.putfield index, 3))
    (kk : ∀ (H1 : Heap) (locs1 : List Loc), va_P D vwCl ((h0, .inr (ci, fs.set k v)) :: T1) H1 → va_D A ((h0, .inr (ci, fs.set k v)) :: T1) → va_S A H0 H1 locs1 → W p l e R s m args below meth c H1 locs1 cells slots Q (F0 m (pc + 3) ls rest)) : W p l e R s m args below meth c H locs cells slots Q (F0 m pc ls (v :: .ref h0 :: rest)) :=
  va_putF X.1 X.2.1 X.2.2.2.2.1 hin ty0 hty hnm X.2.2.2.2.2.1 X.2.2.2.2.2.2.1 hP hD hS 0 rfl hc k hk (X.2.2.2.2.1 _ hlink) (fun _ h => h) hfin hnm0 hdecl hd hn hfit hl hdg (fun H1 locs1 hP1 hD1 hS1 => kk H1 locs1 hP1 hD1 hS1)
theorem r_put (X : Cx p s m args meth c cc nL rt Ts own D cs) {C : String} {T : u_T} {N ci index : Nat} (hin : ∀ w ∈ u_ws C T N, w ∈ Ts) (ty0 : Nat → FieldType) (hty : ∀ k, k < N → parseFieldDescriptor (T k).2.2.1 = some (ty0 k)) (hnm : ∀ a, a < N → ∀ b, b < N → a ≠ b → (T a).2.1 ≠ (T b).2.1) {fs : List Value} {T1 : va_W} (hP : va_P D vwCl ((h0, .inr (ci, fs)) :: T1) H) (hD : va_D A ((h0, .inr (ci, fs)) :: T1)) (hS : va_S A H0 H locs) (hc : vwCl[ci]? = some (C, T, N)) (k : Nat) (hk : k < N) (hlink : Cond.fieldLink own index (T k).1 (T k).2.1 (T k).2.2.1 ∈ Ts) (hfin : (T k).2.2.2 = false) {ty : FieldType} {v : Value} (hd : parseFieldDescriptor (T k).2.2.1 = some ty) (hn : narrow ty v = v) (hfit : fits ty v = true) (hl : k < fs.length) (hdg : decode cc pc = .ok (.putfield index, 3))
    (kk : ∀ (H1 : Heap) (locs1 : List Loc), va_P D vwCl ((h0, .inr (ci, fs.set k v)) :: T1) H1 → va_D A ((h0, .inr (ci, fs.set k v)) :: T1) → va_S A H0 H1 locs1 → W p l e R s m args below meth c H1 locs1 cells slots Q (F0 m (pc + 3) ls rest)) : W p l e R s m args below meth c H locs cells slots Q (F0 m pc ls (v :: .ref h0 :: rest)) :=
  va_put X.1 X.2.1 X.2.2.2.2.1 hin ty0 hty hnm X.2.2.2.2.2.1 X.2.2.2.2.2.2.1 hP hD hS 0 rfl hc k hk (X.2.2.2.2.1 _ hlink) (fun _ h => h) hfin hd hn hfit hl hdg (fun H1 locs1 hP1 hD1 hS1 => kk H1 locs1 hP1 hD1 hS1)
variable {y : MethodName} {wy wy' : List Cond} {rm : Room} {bytes : ByteArray} {maxL index mc ms : Nat}
theorem r_init (X : Cx p s m args meth c cc nL rt Ts own D cs) (hax : Ax s) {T1 : va_W} {q k : Nat} {d1 : va_E} {post : (Nat → Nat) → (Nat → va_E) → Prop} (hP : va_P D vwCl (T1 ++ [(q, d1)]) H) (hD : va_D A (T1 ++ [(q, d1)])) (hS : va_S A H0 H locs) (hA : ∀ q, H0.size ≤ q → A q) (hM : cN l y wy rm D cs q H.size d1 k post mc ms) (cw : va_CN R s args own index y RX11 bytes maxL none wy rm mc ms 0 ∧ y.name = "<init>" ∧ (Cond.instanceMethod y).before args s = true) (hsz : ls.size = nL) (hcat : (rest.map fun v => v.category).sum ≤ 8) (hdg : decode cc pc = .ok (.invokespecial index, 3)) (hf : cells + mc ≤ R.cells ∧ slots + ms ≤ R.slots)
    (kk : ∀ (a1 : Nat → Nat) (g1 : Nat → va_E) (H1 : Heap) (locs1 : List Loc), a1 0 = q → post a1 g1 → va_P D vwCl (T1 ++ wL a1 g1 k) H1 → va_D A (T1 ++ wL a1 g1 k) → va_S A H0 H1 locs1 → W p l e R s m args below meth c H1 locs1 (cells + mc) (slots + ms) Q (F0 m (pc + 3) ls rest)) : W p l e R s m args below meth c H locs cells slots Q (F0 m pc ls (.ref q :: rest)) := by
  have hl : (T1 ++ [(q, d1)])[T1.length]? = some (q, d1) := by simp
  have hPc : va_P D vwCl [(q, d1)] H := fun i x hx => by
    have h0 : i < 1 := (List.getElem?_eq_some_iff.mp hx).1
    rw [show i = 0 by omega] at hx
    cases hx
    exact hP _ _ hl
  have hFc : ∀ x, va_A [(q, d1)] H.size x → A x := fun x h => by
    rcases h with ⟨i, e1, h⟩ | h
    · have h0 : i < 1 := (List.getElem?_eq_some_iff.mp h).1
      rw [show i = 0 by omega] at h
      cases h
      exact hD.2 _ _ hl
    · exact hA x (Nat.le_trans hS.1 h)
  refine va_callv (va_runIN (nL := nL) (b := q) (As := []) (rest := rest) ⟨X.1, X.2.1, X.2.2.2.1, X.2.2.2.2.2.1, X.2.2.2.2.1⟩ hM cw ⟨pN_blind, fun U hU hW => ⟨rfl, by rw [hU], by rw [hU]; exact hPc, va_K.moved hW.alike X.2.2.2.2.2.2.1, hax.warm hW⟩⟩ rfl rfl hsz rfl (lv_room hcat) hdg hf) hS (fun x _ h => hFc x h) hFc (fun u t H1 locs1 ht _ hw hB _ hk1 hS1 => ?_)
  obtain ⟨hB1, hB2⟩ := hB
  have hB1 : va_P D vwCl (wL u.1 u.2 k) H1 := by rw [← ht]; exact hB1
  obtain ⟨hP2, hD2⟩ := join_last hP hD hk1 hFc hB1 hB2
  exact kk u.1 u.2 H1 locs1 hw.1 hw.2 hP2 hD2 hS1
end CONS
