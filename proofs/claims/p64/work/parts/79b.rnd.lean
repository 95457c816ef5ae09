-- ROUNDS: bits of a set of eaves
def bitI (s k : Int32) : Int32 := (s >>> (k &&& 31)) &&& 1
def clI (s t : Int32) : Int32 := s &&& (((1 : Int32) <<< (t &&& 31)) ^^^ (-1))
def ixI (t s : Int32) : Int32 := (t <<< ((5 : Int32) &&& 31)) ||| clI s t
def ixE (e p : Int32) : Int32 := (e <<< ((5 : Int32) &&& 31)) ||| p
def pcI (s : Int32) : Int := (bitI s 0).toInt + (bitI s 1).toInt + (bitI s 2).toInt + (bitI s 3).toInt + (bitI s 4).toInt
def bI (s : Int32) : Nat → Int
  | 0 => 0
  | k + 1 => bI s k + (bitI s (Int32.ofNat k)).toInt
def p2 (n : Int) : Int := 2 ^ n.toNat
theorem fin_of {x : Int32} {N : Nat} (h0 : 0 ≤ x.toInt) (h1 : x.toInt < N) : ∃ n : Fin N, x = Int32.ofNat n.val := by
  have h2 := n_hi x
  refine ⟨⟨x.toInt.toNat, by omega⟩, Int32.toInt_inj.mp ?_⟩
  rw [show Int32.ofNat x.toInt.toNat = nI x.toInt.toNat from rfl, nI_toInt (by omega)]
  omega
theorem bit01 (s k : Int32) : 0 ≤ (bitI s k).toInt ∧ (bitI s k).toInt ≤ 1 := n_and 1 (by decide) (by decide) (by decide) rfl
theorem bI_le (s : Int32) : ∀ k : Nat, 0 ≤ bI s k ∧ bI s k ≤ k
  | 0 => ⟨Int.le_refl 0, Int.le_refl 0⟩
  | k + 1 => by
    have h1 := bI_le s k
    have h2 := bit01 s (Int32.ofNat k)
    show 0 ≤ bI s k + _ ∧ bI s k + _ ≤ _
    omega
theorem bI_step {s k k' : Int32} (h0 : 0 ≤ k.toInt) (h1 : k.toInt ≤ 31) (h : k'.toInt = k.toInt + 1) : bI s k'.toNatClampNeg = bI s k.toNatClampNeg + (bitI s k).toInt := by
  have e1 := n_cl (rfl : k.toInt = k.toInt) h0
  have e2 := n_cl h (by omega)
  rw [show k'.toNatClampNeg = k.toNatClampNeg + 1 by omega]
  show bI s k.toNatClampNeg + _ = _
  have e3 : Int32.ofNat k.toNatClampNeg = k := Int32.toInt_inj.mp (by rw [show Int32.ofNat k.toNatClampNeg = nI k.toNatClampNeg from rfl, nI_toInt (by omega)]; omega)
  rw [e3]
set_option maxRecDepth 100000 in
theorem fin_ix : ∀ (t : Fin 5) (s : Fin 32), (ixI (Int32.ofNat t.val) (Int32.ofNat s.val)).toInt = 32 * (Int32.ofNat t.val).toInt + (clI (Int32.ofNat s.val) (Int32.ofNat t.val)).toInt ∧ (ixE (Int32.ofNat t.val) (Int32.ofNat s.val)).toInt = 32 * (Int32.ofNat t.val).toInt + (Int32.ofNat s.val).toInt ∧ 0 ≤ (clI (Int32.ofNat s.val) (Int32.ofNat t.val)).toInt ∧ (clI (Int32.ofNat s.val) (Int32.ofNat t.val)).toInt ≤ (Int32.ofNat s.val).toInt ∧ (bitI (Int32.ofNat s.val) (Int32.ofNat t.val) = 1 → (clI (Int32.ofNat s.val) (Int32.ofNat t.val)).toInt < (Int32.ofNat s.val).toInt ∧ pcI (clI (Int32.ofNat s.val) (Int32.ofNat t.val)) = pcI (Int32.ofNat s.val) - 1) := by decide +kernel
set_option maxRecDepth 100000 in
theorem fin_pc : ∀ (s : Fin 32), bI (Int32.ofNat s.val) 14 = pcI (Int32.ofNat s.val) ∧ (1 ≤ pcI (Int32.ofNat s.val) → 0 < (Int32.ofNat s.val).toInt) := by decide +kernel
set_option maxRecDepth 100000 in
theorem fin_all : ∀ (n : Fin 6) (s : Fin 32), (s.val : Int) < p2 (n.val : Int) → (∀ t : Fin 5, t.val < n.val → bitI (Int32.ofNat s.val) (Int32.ofNat t.val) ≠ 1) → s.val = 0 := by decide +kernel
set_option maxRecDepth 100000 in
theorem fin_shl : ∀ (n : Fin 6), ((1 : Int32) <<< (Int32.ofNat n.val &&& 31)).toInt = p2 (n.val : Int) ∧ 1 ≤ p2 (n.val : Int) ∧ p2 (n.val : Int) ≤ 32 := by decide +kernel
section
variable {t s e p : Int32}
theorem rr_ix (h0 : 0 ≤ t.toInt) (h1 : t.toInt ≤ 4) (h2 : 0 ≤ s.toInt) (h3 : s.toInt ≤ 31) : (ixI t s).toInt = 32 * t.toInt + (clI s t).toInt ∧ 0 ≤ (clI s t).toInt ∧ (clI s t).toInt ≤ s.toInt := by
  obtain ⟨a, rfl⟩ := fin_of (N := 5) h0 (by omega)
  obtain ⟨b, rfl⟩ := fin_of (N := 32) h2 (by omega)
  have h := fin_ix a b
  exact ⟨h.1, h.2.2.1, h.2.2.2.1⟩
theorem rr_e (h0 : 0 ≤ t.toInt) (h1 : t.toInt ≤ 4) (h2 : 0 ≤ s.toInt) (h3 : s.toInt ≤ 31) : (ixE t s).toInt = 32 * t.toInt + s.toInt := by
  obtain ⟨a, rfl⟩ := fin_of (N := 5) h0 (by omega)
  obtain ⟨b, rfl⟩ := fin_of (N := 32) h2 (by omega)
  exact (fin_ix a b).2.1
theorem rr_bit (h0 : 0 ≤ t.toInt) (h1 : t.toInt ≤ 4) (h2 : 0 ≤ s.toInt) (h3 : s.toInt ≤ 31) (hb : bitI s t = 1) : 0 ≤ (clI s t).toInt ∧ (clI s t).toInt < s.toInt ∧ pcI (clI s t) = pcI s - 1 := by
  obtain ⟨a, rfl⟩ := fin_of (N := 5) h0 (by omega)
  obtain ⟨b, rfl⟩ := fin_of (N := 32) h2 (by omega)
  have h := fin_ix a b
  exact ⟨h.2.2.1, h.2.2.2.2 hb⟩
theorem rr_pc (h2 : 0 ≤ s.toInt) (h3 : s.toInt ≤ 31) : bI s 14 = pcI s ∧ (1 ≤ pcI s → 0 < s.toInt) := by
  obtain ⟨b, rfl⟩ := fin_of (N := 32) h2 (by omega)
  exact fin_pc b
theorem rr_all {n : Int} (h0 : 0 ≤ n) (h1 : n ≤ 5) (h2 : 0 ≤ s.toInt) (h3 : s.toInt ≤ 31) (hp : s.toInt < p2 n) (hb : ∀ t : Int32, 0 ≤ t.toInt → t.toInt < n → t.toInt ≤ 4 → bitI s t ≠ 1) : s.toInt = 0 := by
  obtain ⟨b, rfl⟩ := fin_of (N := 32) h2 (by omega)
  have e1 : (Int32.ofNat b.val).toInt = (b.val : Int) := by rw [show Int32.ofNat b.val = nI b.val from rfl, nI_toInt (by have := b.isLt; omega)]
  have h := fin_all ⟨n.toNat, by omega⟩ b (by rw [e1] at hp; show (b.val : Int) < p2 (n.toNat : Int); rw [show ((n.toNat : Nat) : Int) = n by omega]; exact hp) (fun t ht => by
    have e2 : (Int32.ofNat t.val).toInt = (t.val : Int) := by rw [show Int32.ofNat t.val = nI t.val from rfl, nI_toInt (by have := t.isLt; omega)]
    have h4 : t.val < n.toNat := ht
    have h5 := t.isLt
    exact hb _ (by omega) (by omega) (by omega))
  rw [e1, h]; rfl
theorem rr_shl {n : Int32} (h0 : 0 ≤ n.toInt) (h1 : n.toInt ≤ 5) : ((1 : Int32) <<< (n &&& 31)).toInt = p2 n.toInt ∧ 1 ≤ p2 n.toInt ∧ p2 n.toInt ≤ 32 := by
  obtain ⟨a, rfl⟩ := fin_of (N := 6) h0 (by omega)
  have e1 : (Int32.ofNat a.val).toInt = (a.val : Int) := by rw [show Int32.ofNat a.val = nI a.val from rfl, nI_toInt (by have := a.isLt; omega)]
  rw [e1]; exact fin_shl a
theorem sub_self (s : Int32) : s &&& (s ^^^ (-1)) = 0 := by
  apply Int32.toBitVec_inj.mp
  show s.toBitVec &&& (s.toBitVec ^^^ BitVec.allOnes 32) = 0#32
  rw [BitVec.xor_allOnes, BitVec.and_not_self]; rfl
theorem sub_cl (h : p &&& (s ^^^ (-1)) = 0) : clI p t &&& (s ^^^ (-1)) = 0 := by
  unfold clI
  rw [Int32.and_assoc, Int32.and_comm (((1 : Int32) <<< (t &&& 31)) ^^^ (-1)) _, ← Int32.and_assoc, h]
  exact Int32.zero_and
end
/-- an order's first step is as good as told -/
def rdOK (g : Nat → va_E) (nE : Int) (p ev : Int32) : Prop := ∃ t : Int32, 0 ≤ t.toInt ∧ t.toInt < nE ∧ t.toInt ≤ 4 ∧ bitI p t = 1 ∧ gA g 206 (32 * ev.toInt + p.toInt).toNat = ((ev.toInt - t.toInt).natAbs : Int) + gA g 206 (32 * t.toInt + (clI p t).toInt).toNat
def rdA (g : Nat → va_E) (nE : Int) (st : Int32) (top : Int) : Prop := ∀ p ev : Int32, 0 < p.toInt → p.toInt < top → p.toInt ≤ 31 → p &&& (st ^^^ (-1)) = 0 → 0 ≤ ev.toInt → ev.toInt < nE → rdOK g nE p ev
def rdB (g : Nat → va_E) (nE : Int) (st pt : Int32) (e : Int) : Prop := ∀ ev : Int32, 0 < pt.toInt → pt &&& (st ^^^ (-1)) = 0 → 0 ≤ ev.toInt → ev.toInt < e → ev.toInt < nE → rdOK g nE pt ev
def rbP (g : Nat → va_E) (pt ev : Int32) (best to : Int) : Prop := (pt.toInt = 0 ∧ best = 0) ∨ (pt.toInt ≠ 0 ∧ best = 1000000000 ∧ ∀ t : Int32, 0 ≤ t.toInt → t.toInt < to → t.toInt ≤ 4 → bitI pt t ≠ 1) ∨ (0 ≤ best ∧ best ≤ 4 * pt.toInt ∧ ∃ t : Int32, 0 ≤ t.toInt ∧ t.toInt < to ∧ t.toInt ≤ 4 ∧ bitI pt t = 1 ∧ best = ((ev.toInt - t.toInt).natAbs : Int) + gA g 206 (32 * t.toInt + (clI pt t).toInt).toNat)
section
variable {g g1 : Nat → va_E} {pt ev st tt : Int32} {best best' to to' v nE e : Int}
theorem rbP.skip (h : rbP g pt ev best to) (ht : tt.toInt = to) (hb : bitI pt tt ≠ 1) (ht' : to' = to + 1) : rbP g pt ev best to' := by
  rcases h with h | ⟨h0, h1, h2⟩ | ⟨h1, h2, t, h3, h4, h5⟩
  · exact Or.inl h
  · refine Or.inr (Or.inl ⟨h0, h1, fun t a b c => ?_⟩)
    by_cases q : t.toInt < to
    · exact h2 t a q c
    · rw [show t = tt from Int32.toInt_inj.mp (by omega)]; exact hb
  · exact Or.inr (Or.inr ⟨h1, h2, t, h3, by omega, h5⟩)
theorem rbP.take (h : rbP g pt ev best to) (ht : tt.toInt = to) (h0 : 0 ≤ tt.toInt) (h1 : tt.toInt ≤ 4) (hp0 : 0 ≤ pt.toInt) (hp1 : pt.toInt ≤ 31) (hb : bitI pt tt = 1) (hv : v = ((ev.toInt - tt.toInt).natAbs : Int) + gA g 206 (32 * tt.toInt + (clI pt tt).toInt).toNat) (hv0 : 0 ≤ v) (hv1 : v ≤ 4 + 4 * (clI pt tt).toInt) (hm : best' ≤ best ∧ best' ≤ v ∧ (best' = best ∨ best' = v)) (ht' : to' = to + 1) : rbP g pt ev best' to' := by
  have hc := rr_bit h0 h1 hp0 hp1 hb
  by_cases q : best' = v
  · exact Or.inr (Or.inr ⟨by omega, by omega, tt, h0, by omega, h1, hb, by rw [q]; exact hv⟩)
  · have q2 : best' = best := by omega
    rcases h with h | ⟨-, h2, -⟩ | ⟨h2, h3, t, h4, h5, h6, h7, h8⟩
    · exfalso; omega
    · exfalso; omega
    · exact Or.inr (Or.inr ⟨by omega, by omega, t, h4, by omega, h6, h7, by rw [q2]; exact h8⟩)
theorem rbP.done (h : rbP g pt ev best to) (h1 : nE ≤ to) (h0 : 0 ≤ nE) (h5 : nE ≤ 5) (h2 : to ≤ nE) (hp0 : 0 ≤ pt.toInt) (hp1 : pt.toInt ≤ 31) (hp : pt.toInt < p2 nE) : 0 ≤ best ∧ best ≤ 4 * pt.toInt ∧ (0 < pt.toInt → ∃ t : Int32, 0 ≤ t.toInt ∧ t.toInt < nE ∧ t.toInt ≤ 4 ∧ bitI pt t = 1 ∧ best = ((ev.toInt - t.toInt).natAbs : Int) + gA g 206 (32 * t.toInt + (clI pt t).toInt).toNat) := by
  rcases h with h | ⟨w, -, b⟩ | ⟨a, b, t, c, d, f⟩
  · exact ⟨by omega, by omega, fun q => by exfalso; omega⟩
  · have hz := rr_all h0 h5 hp0 hp1 hp (fun t x y z => b t x (by omega) z)
    exact absurd hz w
  · exact ⟨a, b, fun _ => ⟨t, c, by omega, f⟩⟩
theorem rbP.z0 (h : pt.toInt = 0) (hb : best = 0) : rbP g pt ev best to := Or.inl ⟨h, hb⟩
theorem rbP.z1 (h : pt.toInt ≠ 0) (hb : best = 1000000000) (ht : to = 0) : rbP g pt ev best to := Or.inr (Or.inl ⟨h, hb, fun t a b _ => by exfalso; omega⟩)
theorem rdOK.keep {k : Nat} {p ev : Int32} {b : Int} (h : rdOK g nE p ev) (hk : ∀ j, j ≠ k → gA g1 206 j = gA g 206 j) (hkv : (k : Int) = 32 * e + b) (he : 0 ≤ e) (hb0 : 0 ≤ b) (hb1 : b ≤ 31) (hp0 : 0 < p.toInt) (hp1 : p.toInt ≤ 31) (hev : 0 ≤ ev.toInt) (hlt : p.toInt < b ∨ (p.toInt = b ∧ ev.toInt < e)) : rdOK g1 nE p ev := by
  obtain ⟨t, x, y, z, w, f⟩ := h
  have hc := rr_bit x z (by omega) hp1 w
  exact ⟨t, x, y, z, w, by rw [hk _ (by omega), hk _ (by omega)]; exact f⟩
theorem rdOK.new {k : Nat} {pt ev : Int32} (h : ∃ t : Int32, 0 ≤ t.toInt ∧ t.toInt < nE ∧ t.toInt ≤ 4 ∧ bitI pt t = 1 ∧ best = ((ev.toInt - t.toInt).natAbs : Int) + gA g 206 (32 * t.toInt + (clI pt t).toInt).toNat) (hk : ∀ j, j ≠ k → gA g1 206 j = gA g 206 j) (ha : gA g1 206 k = best) (hkv : (k : Int) = 32 * ev.toInt + pt.toInt) (hp0 : 0 < pt.toInt) (hp1 : pt.toInt ≤ 31) : rdOK g1 nE pt ev := by
  obtain ⟨t, x, y, z, w, f⟩ := h
  have hc := rr_bit x z (by omega) hp1 w
  exact ⟨t, x, y, z, w, by rw [show (32 * ev.toInt + pt.toInt).toNat = k by omega, ha, hk _ (by omega)]; exact f⟩
theorem rdA.keep {k : Nat} {b : Int} (h : rdA g nE st b) (hk : ∀ j, j ≠ k → gA g1 206 j = gA g 206 j) (hkv : (k : Int) = 32 * e + b) (he : 0 ≤ e) (hb0 : 0 ≤ b) (hb1 : b ≤ 31) : rdA g1 nE st b := fun p ev a c d f x y => (h p ev a c d f x y).keep hk hkv he hb0 hb1 a d x (Or.inl c)
theorem rdB.next {k : Nat} {pt ev : Int32} (h : rdB g nE st pt ev.toInt) (hx : 0 < pt.toInt → ∃ t : Int32, 0 ≤ t.toInt ∧ t.toInt < nE ∧ t.toInt ≤ 4 ∧ bitI pt t = 1 ∧ best = ((ev.toInt - t.toInt).natAbs : Int) + gA g 206 (32 * t.toInt + (clI pt t).toInt).toNat) (hk : ∀ j, j ≠ k → gA g1 206 j = gA g 206 j) (ha : gA g1 206 k = best) (hkv : (k : Int) = 32 * ev.toInt + pt.toInt) (hp1 : pt.toInt ≤ 31) (hev : 0 ≤ ev.toInt) (he : e = ev.toInt + 1) : rdB g1 nE st pt e := fun u a b c d f => by
  by_cases q : u.toInt < ev.toInt
  · exact (h u a b c q f).keep hk hkv hev (by omega) hp1 a hp1 c (Or.inr ⟨rfl, q⟩)
  · obtain rfl : u = ev := Int32.toInt_inj.mp (by omega)
    exact rdOK.new (hx a) hk ha hkv a hp1
theorem rdA.next {pt : Int32} (h : rdA g nE st pt.toInt) (hB : pt &&& (st ^^^ (-1)) = 0 → rdB g nE st pt e) (he : pt &&& (st ^^^ (-1)) = 0 → nE ≤ e) {b : Int} (hb : b = pt.toInt + 1) : rdA g nE st b := fun p ev a c d f x y => by
  by_cases q : p.toInt < pt.toInt
  · exact h p ev a q d f x y
  · obtain rfl : p = pt := Int32.toInt_inj.mp (by omega)
    exact hB f ev a f x (by have := he f; omega) y
end
theorem gB_ne {g g1 : Nat → va_E} {i N k : Nat} {c : ClassId} {f f1 : Nat → Int32} {x : Int32} (hg : g i = .inl (c, N, .inl f)) (hg1 : g1 i = .inl (c, N, .inl f1)) (e : f1 = upd f k x) {j : Nat} (q : j ≠ k) : gA g1 i j = gA g i j := by
  rw [gA_of hg1, gA_of hg, e]; unfold upd; rw [if_neg q]
theorem gB_at {g g1 : Nat → va_E} {i N k : Nat} {c : ClassId} {f f1 : Nat → Int32} {x : Int32} (hg1 : g1 i = .inl (c, N, .inl f1)) (e : f1 = upd f k x) {j : Nat} (q : j = k) : gA g1 i j = x.toInt := by
  rw [gA_of hg1, e]; unfold upd; rw [if_pos q]
