-- blocks of the world
def bk (ad : Nat → Nat) (g : Nat → va_E) (o : Nat) (a : Nat → Nat) (c : Nat → va_E) (n : Nat) : Prop := ∀ k, k < n → ad (o + k) = a k ∧ g (o + k) = c k
theorem bk_new {ad ad' a : Nat → Nat} {g g' c : Nat → va_E} {N n : Nat} (h1 : ad' = ct ad N a) (h2 : g' = ct g N c) : bk ad' g' N a c n := fun k _ => by
  subst h1
  subst h2
  show (if N + k < N then ad (N + k) else a (N + k - N)) = a k ∧ (if N + k < N then g (N + k) else c (N + k - N)) = c k
  rw [if_neg (by omega), if_neg (by omega), show N + k - N = k by omega]
  exact ⟨rfl, rfl⟩
theorem bk_old {ad ad' a a' : Nat → Nat} {g g' c c' : Nat → va_E} {N n o : Nat} (h1 : ad' = ct ad N a') (h2 : g' = ct g N c') (b : bk ad g o a c n) (h : o + n ≤ N) : bk ad' g' o a c n := fun k hk => by
  subst h1
  subst h2
  show (if o + k < N then ad (o + k) else a' (o + k - N)) = a k ∧ (if o + k < N then g (o + k) else c' (o + k - N)) = c k
  rw [if_pos (by omega), if_pos (by omega)]
  exact b k hk
theorem bk_up {ad a : Nat → Nat} {g g' c : Nat → va_E} {n o x : Nat} {v : va_E} (h2 : g' = va_up g x v) (b : bk ad g o a c n) (h : x < o ∨ o + n ≤ x) : bk ad g' o a c n := fun k hk => by
  subst h2
  exact ⟨(b k hk).1, (va_up_ne _ _ (by omega)).trans (b k hk).2⟩
theorem bk_at {ad a : Nat → Nat} {g g' c : Nat → va_E} {x : Nat} {v : va_E} (h2 : g' = va_up g x v) (b : bk ad g x a c 1) : bk ad g' x a (fun _ => v) 1 := fun k hk => by
  subst h2
  obtain rfl : k = 0 := by omega
  exact ⟨(b 0 hk).1, va_up_self _ _ _⟩
theorem bk_fin {AD ad a : Nat → Nat} {G g c : Nat → va_E} {n o h0 : Nat} {d : va_E} (h1 : AD = ct (fun _ => h0) 1 ad) (h2 : G = ct (fun _ => d) 1 g) (b : bk ad g o a c n) : bk AD G (o + 1) a c n := fun k hk => by
  subst h1
  subst h2
  show (if o + 1 + k < 1 then h0 else ad (o + 1 + k - 1)) = a k ∧ (if o + 1 + k < 1 then d else g (o + 1 + k - 1)) = c k
  rw [if_neg (by omega), if_neg (by omega), show o + 1 + k - 1 = o + k by omega]
  exact b k hk
def FrX_0 (cs : Nat → ClassId) (ad : Nat → Nat) (g : Nat → va_E) : Prop := g 0 = .inr (11, [.ref (ad 1), .ref (ad 3), .ref (ad 23), .ref (ad 43), .ref (ad 104), .ref (ad 105), .ref (ad 114), .ref (ad 116), .ref (ad 118), .ref (ad 120), .ref (ad 130), .ref (ad 140), .ref (ad 144), .ref (ad 190)]) ∧ g 1 = .inr (7, [.ref (ad 2), .int 0, .int 0, .int (-1), .int 0, .int 0, .int 0]) ∧ g 2 = .inl (cs 0, 1000, .inl (fun _ => 0)) ∧ g 3 = .inr (6, [.int 0, .int 0, .int 0, .int 0, .int 0, .int 0, .int 0, .int 0, .ref (ad 4), .ref (ad 5), .ref (ad 6), .ref (ad 7), .ref (ad 8), .ref (ad 9), .ref (ad 10), .ref (ad 11), .ref (ad 12), .ref (ad 13)]) ∧ g 4 = .inl (cs 1, 14, .inl (fun _ => 0)) ∧ g 5 = .inl (cs 3, 14, .inl (fun _ => 0)) ∧ g 6 = .inl (cs 1, 5, .inl (fun _ => 0)) ∧ g 7 = .inl (cs 1, 8, .inl (fun _ => 0)) ∧ g 8 = .inl (cs 1, 8, .inl (fun _ => 0)) ∧ g 9 = .inl (cs 1, 8, .inl (fun _ => 0)) ∧ g 10 = .inl (cs 1, 8, .inl (fun _ => 0)) ∧ g 11 = .inl (cs 1, 6, .inl (fun _ => 0)) ∧ g 12 = .inl (cs 1, 6, .inl (fun _ => 0)) ∧ g 13 = .inr (0, [.int 0, .ref (ad 14), .ref (ad 15), .ref (ad 16), .ref (ad 22)]) ∧ g 14 = .inl (cs 1, 40, .inl (fun _ => 0)) ∧ g 15 = .inl (cs 1, 40, .inl (fun _ => 0)) ∧ (∃ f, g 16 = .inl (cs 6, 5, .inr (.inr (.inr (.inr f)))) ∧ f 0 = some (ad 17) ∧ f 1 = some (ad 18) ∧ f 2 = some (ad 19) ∧ f 3 = some (ad 20) ∧ f 4 = some (ad 21)) ∧ g 17 = .inl (cs 1, 14, .inl (fun _ => 0)) ∧ g 18 = .inl (cs 1, 14, .inl (fun _ => 0)) ∧ g 19 = .inl (cs 1, 14, .inl (fun _ => 0))
def FrX_1 (cs : Nat → ClassId) (ad : Nat → Nat) (g : Nat → va_E) : Prop := g 20 = .inl (cs 1, 14, .inl (fun _ => 0)) ∧ g 21 = .inl (cs 1, 14, .inl (fun _ => 0)) ∧ g 22 = .inl (cs 1, 14, .inl (fun _ => 0)) ∧ g 23 = .inr (6, [.int 0, .int 0, .int 0, .int 0, .int 0, .int 0, .int 0, .int 0, .ref (ad 24), .ref (ad 25), .ref (ad 26), .ref (ad 27), .ref (ad 28), .ref (ad 29), .ref (ad 30), .ref (ad 31), .ref (ad 32), .ref (ad 33)]) ∧ g 24 = .inl (cs 1, 14, .inl (fun _ => 0)) ∧ g 25 = .inl (cs 3, 14, .inl (fun _ => 0)) ∧ g 26 = .inl (cs 1, 5, .inl (fun _ => 0)) ∧ g 27 = .inl (cs 1, 8, .inl (fun _ => 0)) ∧ g 28 = .inl (cs 1, 8, .inl (fun _ => 0)) ∧ g 29 = .inl (cs 1, 8, .inl (fun _ => 0)) ∧ g 30 = .inl (cs 1, 8, .inl (fun _ => 0)) ∧ g 31 = .inl (cs 1, 6, .inl (fun _ => 0)) ∧ g 32 = .inl (cs 1, 6, .inl (fun _ => 0)) ∧ g 33 = .inr (0, [.int 0, .ref (ad 34), .ref (ad 35), .ref (ad 36), .ref (ad 42)]) ∧ g 34 = .inl (cs 1, 40, .inl (fun _ => 0)) ∧ g 35 = .inl (cs 1, 40, .inl (fun _ => 0)) ∧ (∃ f, g 36 = .inl (cs 6, 5, .inr (.inr (.inr (.inr f)))) ∧ f 0 = some (ad 37) ∧ f 1 = some (ad 38) ∧ f 2 = some (ad 39) ∧ f 3 = some (ad 40) ∧ f 4 = some (ad 41)) ∧ g 37 = .inl (cs 1, 14, .inl (fun _ => 0)) ∧ g 38 = .inl (cs 1, 14, .inl (fun _ => 0)) ∧ g 39 = .inl (cs 1, 14, .inl (fun _ => 0))
def FrX_2 (cs : Nat → ClassId) (ad : Nat → Nat) (g : Nat → va_E) : Prop := g 40 = .inl (cs 1, 14, .inl (fun _ => 0)) ∧ g 41 = .inl (cs 1, 14, .inl (fun _ => 0)) ∧ g 42 = .inl (cs 1, 14, .inl (fun _ => 0)) ∧ g 43 = .inl (cs 5, 3, .inr (.inr (.inr (.inr (va_up (va_up (va_up (fun _ => none) 0 (some (ad 44))) 1 (some (ad 64))) 2 (some (ad 84))))))) ∧ g 44 = .inr (6, [.int 0, .int 0, .int 0, .int 0, .int 0, .int 0, .int 0, .int 0, .ref (ad 45), .ref (ad 46), .ref (ad 47), .ref (ad 48), .ref (ad 49), .ref (ad 50), .ref (ad 51), .ref (ad 52), .ref (ad 53), .ref (ad 54)]) ∧ g 45 = .inl (cs 1, 14, .inl (fun _ => 0)) ∧ g 46 = .inl (cs 3, 14, .inl (fun _ => 0)) ∧ g 47 = .inl (cs 1, 5, .inl (fun _ => 0)) ∧ g 48 = .inl (cs 1, 8, .inl (fun _ => 0)) ∧ g 49 = .inl (cs 1, 8, .inl (fun _ => 0)) ∧ g 50 = .inl (cs 1, 8, .inl (fun _ => 0)) ∧ g 51 = .inl (cs 1, 8, .inl (fun _ => 0)) ∧ g 52 = .inl (cs 1, 6, .inl (fun _ => 0)) ∧ g 53 = .inl (cs 1, 6, .inl (fun _ => 0)) ∧ g 54 = .inr (0, [.int 0, .ref (ad 55), .ref (ad 56), .ref (ad 57), .ref (ad 63)]) ∧ g 55 = .inl (cs 1, 40, .inl (fun _ => 0)) ∧ g 56 = .inl (cs 1, 40, .inl (fun _ => 0)) ∧ (∃ f, g 57 = .inl (cs 6, 5, .inr (.inr (.inr (.inr f)))) ∧ f 0 = some (ad 58) ∧ f 1 = some (ad 59) ∧ f 2 = some (ad 60) ∧ f 3 = some (ad 61) ∧ f 4 = some (ad 62)) ∧ g 58 = .inl (cs 1, 14, .inl (fun _ => 0)) ∧ g 59 = .inl (cs 1, 14, .inl (fun _ => 0))
def FrX_3 (cs : Nat → ClassId) (ad : Nat → Nat) (g : Nat → va_E) : Prop := g 60 = .inl (cs 1, 14, .inl (fun _ => 0)) ∧ g 61 = .inl (cs 1, 14, .inl (fun _ => 0)) ∧ g 62 = .inl (cs 1, 14, .inl (fun _ => 0)) ∧ g 63 = .inl (cs 1, 14, .inl (fun _ => 0)) ∧ g 64 = .inr (6, [.int 0, .int 0, .int 0, .int 0, .int 0, .int 0, .int 0, .int 0, .ref (ad 65), .ref (ad 66), .ref (ad 67), .ref (ad 68), .ref (ad 69), .ref (ad 70), .ref (ad 71), .ref (ad 72), .ref (ad 73), .ref (ad 74)]) ∧ g 65 = .inl (cs 1, 14, .inl (fun _ => 0)) ∧ g 66 = .inl (cs 3, 14, .inl (fun _ => 0)) ∧ g 67 = .inl (cs 1, 5, .inl (fun _ => 0)) ∧ g 68 = .inl (cs 1, 8, .inl (fun _ => 0)) ∧ g 69 = .inl (cs 1, 8, .inl (fun _ => 0)) ∧ g 70 = .inl (cs 1, 8, .inl (fun _ => 0)) ∧ g 71 = .inl (cs 1, 8, .inl (fun _ => 0)) ∧ g 72 = .inl (cs 1, 6, .inl (fun _ => 0)) ∧ g 73 = .inl (cs 1, 6, .inl (fun _ => 0)) ∧ g 74 = .inr (0, [.int 0, .ref (ad 75), .ref (ad 76), .ref (ad 77), .ref (ad 83)]) ∧ g 75 = .inl (cs 1, 40, .inl (fun _ => 0)) ∧ g 76 = .inl (cs 1, 40, .inl (fun _ => 0)) ∧ (∃ f, g 77 = .inl (cs 6, 5, .inr (.inr (.inr (.inr f)))) ∧ f 0 = some (ad 78) ∧ f 1 = some (ad 79) ∧ f 2 = some (ad 80) ∧ f 3 = some (ad 81) ∧ f 4 = some (ad 82)) ∧ g 78 = .inl (cs 1, 14, .inl (fun _ => 0)) ∧ g 79 = .inl (cs 1, 14, .inl (fun _ => 0))
def FrX_4 (cs : Nat → ClassId) (ad : Nat → Nat) (g : Nat → va_E) : Prop := g 80 = .inl (cs 1, 14, .inl (fun _ => 0)) ∧ g 81 = .inl (cs 1, 14, .inl (fun _ => 0)) ∧ g 82 = .inl (cs 1, 14, .inl (fun _ => 0)) ∧ g 83 = .inl (cs 1, 14, .inl (fun _ => 0)) ∧ g 84 = .inr (6, [.int 0, .int 0, .int 0, .int 0, .int 0, .int 0, .int 0, .int 0, .ref (ad 85), .ref (ad 86), .ref (ad 87), .ref (ad 88), .ref (ad 89), .ref (ad 90), .ref (ad 91), .ref (ad 92), .ref (ad 93), .ref (ad 94)]) ∧ g 85 = .inl (cs 1, 14, .inl (fun _ => 0)) ∧ g 86 = .inl (cs 3, 14, .inl (fun _ => 0)) ∧ g 87 = .inl (cs 1, 5, .inl (fun _ => 0)) ∧ g 88 = .inl (cs 1, 8, .inl (fun _ => 0)) ∧ g 89 = .inl (cs 1, 8, .inl (fun _ => 0)) ∧ g 90 = .inl (cs 1, 8, .inl (fun _ => 0)) ∧ g 91 = .inl (cs 1, 8, .inl (fun _ => 0)) ∧ g 92 = .inl (cs 1, 6, .inl (fun _ => 0)) ∧ g 93 = .inl (cs 1, 6, .inl (fun _ => 0)) ∧ g 94 = .inr (0, [.int 0, .ref (ad 95), .ref (ad 96), .ref (ad 97), .ref (ad 103)]) ∧ g 95 = .inl (cs 1, 40, .inl (fun _ => 0)) ∧ g 96 = .inl (cs 1, 40, .inl (fun _ => 0)) ∧ (∃ f, g 97 = .inl (cs 6, 5, .inr (.inr (.inr (.inr f)))) ∧ f 0 = some (ad 98) ∧ f 1 = some (ad 99) ∧ f 2 = some (ad 100) ∧ f 3 = some (ad 101) ∧ f 4 = some (ad 102)) ∧ g 98 = .inl (cs 1, 14, .inl (fun _ => 0)) ∧ g 99 = .inl (cs 1, 14, .inl (fun _ => 0))
def FrX_5 (cs : Nat → ClassId) (ad : Nat → Nat) (g : Nat → va_E) : Prop := g 100 = .inl (cs 1, 14, .inl (fun _ => 0)) ∧ g 101 = .inl (cs 1, 14, .inl (fun _ => 0)) ∧ g 102 = .inl (cs 1, 14, .inl (fun _ => 0)) ∧ g 103 = .inl (cs 1, 14, .inl (fun _ => 0)) ∧ g 104 = .inl (cs 3, 3, .inl (fun _ => 0)) ∧ g 105 = .inl (cs 4, 4, .inr (.inr (.inr (.inr (va_up (va_up (va_up (va_up (fun _ => none) 0 (some (ad 106))) 1 (some (ad 108))) 2 (some (ad 110))) 3 (some (ad 112))))))) ∧ g 106 = .inr (5, [.ref (ad 107), .int 0, .int 0, .int 0]) ∧ g 107 = .inl (cs 2, 60, .inr (.inl (fun _ => 0))) ∧ g 108 = .inr (5, [.ref (ad 109), .int 0, .int 0, .int 0]) ∧ g 109 = .inl (cs 2, 60, .inr (.inl (fun _ => 0))) ∧ g 110 = .inr (5, [.ref (ad 111), .int 0, .int 0, .int 0]) ∧ g 111 = .inl (cs 2, 60, .inr (.inl (fun _ => 0))) ∧ g 112 = .inr (5, [.ref (ad 113), .int 0, .int 0, .int 0]) ∧ g 113 = .inl (cs 2, 60, .inr (.inl (fun _ => 0))) ∧ g 114 = .inr (10, [.int 0, .int (-1), .int (-1), .ref (ad 115)]) ∧ g 115 = .inl (cs 1, 8, .inl (fun _ => 0)) ∧ g 116 = .inr (10, [.int 0, .int (-1), .int (-1), .ref (ad 117)]) ∧ g 117 = .inl (cs 1, 8, .inl (fun _ => 0)) ∧ g 118 = .inr (3, [.ref (ad 119), .int 0]) ∧ g 119 = .inl (cs 1, 8, .inl (fun _ => 0))
def FrX_6 (cs : Nat → ClassId) (ad : Nat → Nat) (g : Nat → va_E) : Prop := g 120 = .inr (4, [.int 0, .int 0, .ref (ad 121)]) ∧ (∃ f, g 121 = .inl (cs 6, 8, .inr (.inr (.inr (.inr f)))) ∧ f 0 = some (ad 122) ∧ f 1 = some (ad 123) ∧ f 2 = some (ad 124) ∧ f 3 = some (ad 125) ∧ f 4 = some (ad 126) ∧ f 5 = some (ad 127) ∧ f 6 = some (ad 128) ∧ f 7 = some (ad 129)) ∧ g 122 = .inl (cs 1, 15, .inl (fun _ => 0)) ∧ g 123 = .inl (cs 1, 15, .inl (fun _ => 0)) ∧ g 124 = .inl (cs 1, 15, .inl (fun _ => 0)) ∧ g 125 = .inl (cs 1, 15, .inl (fun _ => 0)) ∧ g 126 = .inl (cs 1, 15, .inl (fun _ => 0)) ∧ g 127 = .inl (cs 1, 15, .inl (fun _ => 0)) ∧ g 128 = .inl (cs 1, 15, .inl (fun _ => 0)) ∧ g 129 = .inl (cs 1, 15, .inl (fun _ => 0)) ∧ g 130 = .inr (9, [.ref (ad 131), .ref (ad 132), .ref (ad 133), .int 0]) ∧ g 131 = .inl (cs 1, 5, .inl (fun _ => 0)) ∧ g 132 = .inl (cs 1, 5, .inl (fun _ => 0)) ∧ (∃ f, g 133 = .inl (cs 6, 6, .inr (.inr (.inr (.inr f)))) ∧ f 0 = some (ad 134) ∧ f 1 = some (ad 135) ∧ f 2 = some (ad 136) ∧ f 3 = some (ad 137) ∧ f 4 = some (ad 138) ∧ f 5 = some (ad 139)) ∧ g 134 = .inl (cs 1, 16, .inl (fun _ => 0)) ∧ g 135 = .inl (cs 1, 16, .inl (fun _ => 0)) ∧ g 136 = .inl (cs 1, 16, .inl (fun _ => 0)) ∧ g 137 = .inl (cs 1, 16, .inl (fun _ => 0)) ∧ g 138 = .inl (cs 1, 16, .inl (fun _ => 0)) ∧ g 139 = .inl (cs 1, 16, .inl (fun _ => 0))
def FrX_7 (cs : Nat → ClassId) (ad : Nat → Nat) (g : Nat → va_E) : Prop := g 140 = .inr (1, [.ref (ad 141), .ref (ad 142), .ref (ad 143), .int 0]) ∧ g 141 = .inl (cs 2, 15, .inr (.inl (fun _ => 0))) ∧ g 142 = .inl (cs 2, 14, .inr (.inl (fun _ => 0))) ∧ g 143 = .inl (cs 2, 14, .inr (.inl (fun _ => 0))) ∧ g 144 = .inr (8, [.int 0, .ref (ad 145), .ref (ad 160), .ref (ad 175), .int 0, .int 0]) ∧ (∃ f, g 145 = .inl (cs 6, 14, .inr (.inr (.inr (.inr f)))) ∧ f 0 = some (ad 146) ∧ f 1 = some (ad 147) ∧ f 2 = some (ad 148) ∧ f 3 = some (ad 149) ∧ f 4 = some (ad 150) ∧ f 5 = some (ad 151) ∧ f 6 = some (ad 152) ∧ f 7 = some (ad 153) ∧ f 8 = some (ad 154) ∧ f 9 = some (ad 155) ∧ f 10 = some (ad 156) ∧ f 11 = some (ad 157) ∧ f 12 = some (ad 158) ∧ f 13 = some (ad 159)) ∧ g 146 = .inl (cs 1, 5, .inl (fun _ => 0)) ∧ g 147 = .inl (cs 1, 5, .inl (fun _ => 0)) ∧ g 148 = .inl (cs 1, 5, .inl (fun _ => 0)) ∧ g 149 = .inl (cs 1, 5, .inl (fun _ => 0)) ∧ g 150 = .inl (cs 1, 5, .inl (fun _ => 0)) ∧ g 151 = .inl (cs 1, 5, .inl (fun _ => 0)) ∧ g 152 = .inl (cs 1, 5, .inl (fun _ => 0)) ∧ g 153 = .inl (cs 1, 5, .inl (fun _ => 0)) ∧ g 154 = .inl (cs 1, 5, .inl (fun _ => 0)) ∧ g 155 = .inl (cs 1, 5, .inl (fun _ => 0)) ∧ g 156 = .inl (cs 1, 5, .inl (fun _ => 0)) ∧ g 157 = .inl (cs 1, 5, .inl (fun _ => 0)) ∧ g 158 = .inl (cs 1, 5, .inl (fun _ => 0)) ∧ g 159 = .inl (cs 1, 5, .inl (fun _ => 0))
def FrX_8 (cs : Nat → ClassId) (ad : Nat → Nat) (g : Nat → va_E) : Prop := (∃ f, g 160 = .inl (cs 6, 14, .inr (.inr (.inr (.inr f)))) ∧ f 0 = some (ad 161) ∧ f 1 = some (ad 162) ∧ f 2 = some (ad 163) ∧ f 3 = some (ad 164) ∧ f 4 = some (ad 165) ∧ f 5 = some (ad 166) ∧ f 6 = some (ad 167) ∧ f 7 = some (ad 168) ∧ f 8 = some (ad 169) ∧ f 9 = some (ad 170) ∧ f 10 = some (ad 171) ∧ f 11 = some (ad 172) ∧ f 12 = some (ad 173) ∧ f 13 = some (ad 174)) ∧ g 161 = .inl (cs 1, 5, .inl (fun _ => 0)) ∧ g 162 = .inl (cs 1, 5, .inl (fun _ => 0)) ∧ g 163 = .inl (cs 1, 5, .inl (fun _ => 0)) ∧ g 164 = .inl (cs 1, 5, .inl (fun _ => 0)) ∧ g 165 = .inl (cs 1, 5, .inl (fun _ => 0)) ∧ g 166 = .inl (cs 1, 5, .inl (fun _ => 0)) ∧ g 167 = .inl (cs 1, 5, .inl (fun _ => 0)) ∧ g 168 = .inl (cs 1, 5, .inl (fun _ => 0)) ∧ g 169 = .inl (cs 1, 5, .inl (fun _ => 0)) ∧ g 170 = .inl (cs 1, 5, .inl (fun _ => 0)) ∧ g 171 = .inl (cs 1, 5, .inl (fun _ => 0)) ∧ g 172 = .inl (cs 1, 5, .inl (fun _ => 0)) ∧ g 173 = .inl (cs 1, 5, .inl (fun _ => 0)) ∧ g 174 = .inl (cs 1, 5, .inl (fun _ => 0)) ∧ (∃ f, g 175 = .inl (cs 6, 14, .inr (.inr (.inr (.inr f)))) ∧ f 0 = some (ad 176) ∧ f 1 = some (ad 177) ∧ f 2 = some (ad 178) ∧ f 3 = some (ad 179) ∧ f 4 = some (ad 180) ∧ f 5 = some (ad 181) ∧ f 6 = some (ad 182) ∧ f 7 = some (ad 183) ∧ f 8 = some (ad 184) ∧ f 9 = some (ad 185) ∧ f 10 = some (ad 186) ∧ f 11 = some (ad 187) ∧ f 12 = some (ad 188) ∧ f 13 = some (ad 189)) ∧ g 176 = .inl (cs 1, 5, .inl (fun _ => 0)) ∧ g 177 = .inl (cs 1, 5, .inl (fun _ => 0)) ∧ g 178 = .inl (cs 1, 5, .inl (fun _ => 0)) ∧ g 179 = .inl (cs 1, 5, .inl (fun _ => 0))
def FrX_9 (cs : Nat → ClassId) (ad : Nat → Nat) (g : Nat → va_E) : Prop := g 180 = .inl (cs 1, 5, .inl (fun _ => 0)) ∧ g 181 = .inl (cs 1, 5, .inl (fun _ => 0)) ∧ g 182 = .inl (cs 1, 5, .inl (fun _ => 0)) ∧ g 183 = .inl (cs 1, 5, .inl (fun _ => 0)) ∧ g 184 = .inl (cs 1, 5, .inl (fun _ => 0)) ∧ g 185 = .inl (cs 1, 5, .inl (fun _ => 0)) ∧ g 186 = .inl (cs 1, 5, .inl (fun _ => 0)) ∧ g 187 = .inl (cs 1, 5, .inl (fun _ => 0)) ∧ g 188 = .inl (cs 1, 5, .inl (fun _ => 0)) ∧ g 189 = .inl (cs 1, 5, .inl (fun _ => 0)) ∧ g 190 = .inr (2, [.int 0, .int 0, .ref (ad 191)]) ∧ (∃ f, g 191 = .inl (cs 6, 5, .inr (.inr (.inr (.inr f)))) ∧ f 0 = some (ad 192) ∧ f 1 = some (ad 193) ∧ f 2 = some (ad 194) ∧ f 3 = some (ad 195) ∧ f 4 = some (ad 196)) ∧ g 192 = .inl (cs 1, 5, .inl (fun _ => 0)) ∧ g 193 = .inl (cs 1, 5, .inl (fun _ => 0)) ∧ g 194 = .inl (cs 1, 5, .inl (fun _ => 0)) ∧ g 195 = .inl (cs 1, 5, .inl (fun _ => 0)) ∧ g 196 = .inl (cs 1, 5, .inl (fun _ => 0))
def FrX (cs : Nat → ClassId) (ad : Nat → Nat) (g : Nat → va_E) : Prop := FrX_0 cs ad g ∧ FrX_1 cs ad g ∧ FrX_2 cs ad g ∧ FrX_3 cs ad g ∧ FrX_4 cs ad g ∧ FrX_5 cs ad g ∧ FrX_6 cs ad g ∧ FrX_7 cs ad g ∧ FrX_8 cs ad g ∧ FrX_9 cs ad g
theorem dX11_init_0 : decode cX11_init 0 = .ok (.aload_n 0, 1) := by decide +kernel
theorem dX11_init_1 : decode cX11_init 1 = .ok (.invokespecial 3, 3) := by decide +kernel
theorem dX11_init_4 : decode cX11_init 4 = .ok (.aload_n 0, 1) := by decide +kernel
theorem dX11_init_5 : decode cX11_init 5 = .ok (.new 9, 3) := by decide +kernel
theorem dX11_init_8 : decode cX11_init 8 = .ok (.dup, 1) := by decide +kernel
theorem dX11_init_9 : decode cX11_init 9 = .ok (.invokespecial 11, 3) := by decide +kernel
theorem dX11_init_12 : decode cX11_init 12 = .ok (.putfield 12, 3) := by decide +kernel
theorem dX11_init_15 : decode cX11_init 15 = .ok (.aload_n 0, 1) := by decide +kernel
theorem dX11_init_16 : decode cX11_init 16 = .ok (.new 16, 3) := by decide +kernel
theorem dX11_init_19 : decode cX11_init 19 = .ok (.dup, 1) := by decide +kernel
theorem dX11_init_20 : decode cX11_init 20 = .ok (.invokespecial 18, 3) := by decide +kernel
theorem dX11_init_23 : decode cX11_init 23 = .ok (.putfield 19, 3) := by decide +kernel
theorem dX11_init_26 : decode cX11_init 26 = .ok (.aload_n 0, 1) := by decide +kernel
theorem dX11_init_27 : decode cX11_init 27 = .ok (.new 16, 3) := by decide +kernel
theorem dX11_init_30 : decode cX11_init 30 = .ok (.dup, 1) := by decide +kernel
theorem dX11_init_31 : decode cX11_init 31 = .ok (.invokespecial 18, 3) := by decide +kernel
theorem dX11_init_34 : decode cX11_init 34 = .ok (.putfield 23, 3) := by decide +kernel
theorem dX11_init_37 : decode cX11_init 37 = .ok (.aload_n 0, 1) := by decide +kernel
theorem dX11_init_38 : decode cX11_init 38 = .ok (.iconst 3, 1) := by decide +kernel
theorem dX11_init_39 : decode cX11_init 39 = .ok (.anewarray 16, 3) := by decide +kernel
theorem dX11_init_42 : decode cX11_init 42 = .ok (.putfield 26, 3) := by decide +kernel
theorem dX11_init_45 : decode cX11_init 45 = .ok (.iconst 0, 1) := by decide +kernel
theorem dX11_init_46 : decode cX11_init 46 = .ok (.istore_n 1, 1) := by decide +kernel
theorem dX11_init_47 : decode cX11_init 47 = .ok (.iload_n 1, 1) := by decide +kernel
theorem dX11_init_48 : decode cX11_init 48 = .ok (.iconst 3, 1) := by decide +kernel
theorem dX11_init_49 : decode cX11_init 49 = .ok (.if_icmp .ge 22, 3) := by decide +kernel
theorem dX11_init_52 : decode cX11_init 52 = .ok (.aload_n 0, 1) := by decide +kernel
theorem dX11_init_53 : decode cX11_init 53 = .ok (.getfield 26, 3) := by decide +kernel
theorem dX11_init_56 : decode cX11_init 56 = .ok (.iload_n 1, 1) := by decide +kernel
theorem dX11_init_57 : decode cX11_init 57 = .ok (.new 16, 3) := by decide +kernel
theorem dX11_init_60 : decode cX11_init 60 = .ok (.dup, 1) := by decide +kernel
theorem dX11_init_61 : decode cX11_init 61 = .ok (.invokespecial 18, 3) := by decide +kernel
theorem dX11_init_64 : decode cX11_init 64 = .ok (.aastore, 1) := by decide +kernel
theorem dX11_init_65 : decode cX11_init 65 = .ok (.iinc 1 1, 3) := by decide +kernel
theorem dX11_init_68 : decode cX11_init 68 = .ok (.goto (-21), 3) := by decide +kernel
theorem dX11_init_71 : decode cX11_init 71 = .ok (.aload_n 0, 1) := by decide +kernel
theorem dX11_init_72 : decode cX11_init 72 = .ok (.iconst 3, 1) := by decide +kernel
theorem dX11_init_73 : decode cX11_init 73 = .ok (.newarray .boolean, 2) := by decide +kernel
theorem dX11_init_75 : decode cX11_init 75 = .ok (.putfield 30, 3) := by decide +kernel
theorem dX11_init_78 : decode cX11_init 78 = .ok (.aload_n 0, 1) := by decide +kernel
theorem dX11_init_79 : decode cX11_init 79 = .ok (.iconst 4, 1) := by decide +kernel
theorem dX11_init_80 : decode cX11_init 80 = .ok (.anewarray 34, 3) := by decide +kernel
theorem dX11_init_83 : decode cX11_init 83 = .ok (.putfield 36, 3) := by decide +kernel
theorem dX11_init_86 : decode cX11_init 86 = .ok (.iconst 0, 1) := by decide +kernel
theorem dX11_init_87 : decode cX11_init 87 = .ok (.istore_n 1, 1) := by decide +kernel
theorem dX11_init_88 : decode cX11_init 88 = .ok (.iload_n 1, 1) := by decide +kernel
theorem dX11_init_89 : decode cX11_init 89 = .ok (.iconst 4, 1) := by decide +kernel
theorem dX11_init_90 : decode cX11_init 90 = .ok (.if_icmp .ge 22, 3) := by decide +kernel
theorem dX11_init_93 : decode cX11_init 93 = .ok (.aload_n 0, 1) := by decide +kernel
theorem dX11_init_94 : decode cX11_init 94 = .ok (.getfield 36, 3) := by decide +kernel
theorem dX11_init_97 : decode cX11_init 97 = .ok (.iload_n 1, 1) := by decide +kernel
theorem dX11_init_98 : decode cX11_init 98 = .ok (.new 34, 3) := by decide +kernel
theorem dX11_init_101 : decode cX11_init 101 = .ok (.dup, 1) := by decide +kernel
theorem dX11_init_102 : decode cX11_init 102 = .ok (.invokespecial 40, 3) := by decide +kernel
theorem dX11_init_105 : decode cX11_init 105 = .ok (.aastore, 1) := by decide +kernel
theorem dX11_init_106 : decode cX11_init 106 = .ok (.iinc 1 1, 3) := by decide +kernel
theorem dX11_init_109 : decode cX11_init 109 = .ok (.goto (-21), 3) := by decide +kernel
theorem dX11_init_112 : decode cX11_init 112 = .ok (.aload_n 0, 1) := by decide +kernel
theorem dX11_init_113 : decode cX11_init 113 = .ok (.new 41, 3) := by decide +kernel
theorem dX11_init_116 : decode cX11_init 116 = .ok (.dup, 1) := by decide +kernel
theorem dX11_init_117 : decode cX11_init 117 = .ok (.invokespecial 43, 3) := by decide +kernel
theorem dX11_init_120 : decode cX11_init 120 = .ok (.putfield 44, 3) := by decide +kernel
theorem dX11_init_123 : decode cX11_init 123 = .ok (.aload_n 0, 1) := by decide +kernel
theorem dX11_init_124 : decode cX11_init 124 = .ok (.new 41, 3) := by decide +kernel
theorem dX11_init_127 : decode cX11_init 127 = .ok (.dup, 1) := by decide +kernel
theorem dX11_init_128 : decode cX11_init 128 = .ok (.invokespecial 43, 3) := by decide +kernel
theorem dX11_init_131 : decode cX11_init 131 = .ok (.putfield 48, 3) := by decide +kernel
theorem dX11_init_134 : decode cX11_init 134 = .ok (.aload_n 0, 1) := by decide +kernel
theorem dX11_init_135 : decode cX11_init 135 = .ok (.new 51, 3) := by decide +kernel
theorem dX11_init_138 : decode cX11_init 138 = .ok (.dup, 1) := by decide +kernel
theorem dX11_init_139 : decode cX11_init 139 = .ok (.invokespecial 53, 3) := by decide +kernel
theorem dX11_init_142 : decode cX11_init 142 = .ok (.putfield 54, 3) := by decide +kernel
theorem dX11_init_145 : decode cX11_init 145 = .ok (.aload_n 0, 1) := by decide +kernel
theorem dX11_init_146 : decode cX11_init 146 = .ok (.new 58, 3) := by decide +kernel
theorem dX11_init_149 : decode cX11_init 149 = .ok (.dup, 1) := by decide +kernel
theorem dX11_init_150 : decode cX11_init 150 = .ok (.invokespecial 60, 3) := by decide +kernel
theorem dX11_init_153 : decode cX11_init 153 = .ok (.putfield 61, 3) := by decide +kernel
theorem dX11_init_156 : decode cX11_init 156 = .ok (.aload_n 0, 1) := by decide +kernel
theorem dX11_init_157 : decode cX11_init 157 = .ok (.new 65, 3) := by decide +kernel
theorem dX11_init_160 : decode cX11_init 160 = .ok (.dup, 1) := by decide +kernel
theorem dX11_init_161 : decode cX11_init 161 = .ok (.invokespecial 67, 3) := by decide +kernel
theorem dX11_init_164 : decode cX11_init 164 = .ok (.putfield 68, 3) := by decide +kernel
theorem dX11_init_167 : decode cX11_init 167 = .ok (.aload_n 0, 1) := by decide +kernel
theorem dX11_init_168 : decode cX11_init 168 = .ok (.new 72, 3) := by decide +kernel
theorem dX11_init_171 : decode cX11_init 171 = .ok (.dup, 1) := by decide +kernel
theorem dX11_init_172 : decode cX11_init 172 = .ok (.invokespecial 74, 3) := by decide +kernel
theorem dX11_init_175 : decode cX11_init 175 = .ok (.putfield 75, 3) := by decide +kernel
theorem dX11_init_178 : decode cX11_init 178 = .ok (.aload_n 0, 1) := by decide +kernel
theorem dX11_init_179 : decode cX11_init 179 = .ok (.new 79, 3) := by decide +kernel
theorem dX11_init_182 : decode cX11_init 182 = .ok (.dup, 1) := by decide +kernel
theorem dX11_init_183 : decode cX11_init 183 = .ok (.invokespecial 81, 3) := by decide +kernel
theorem dX11_init_186 : decode cX11_init 186 = .ok (.putfield 82, 3) := by decide +kernel
theorem dX11_init_189 : decode cX11_init 189 = .ok (.aload_n 0, 1) := by decide +kernel
theorem dX11_init_190 : decode cX11_init 190 = .ok (.new 86, 3) := by decide +kernel
theorem dX11_init_193 : decode cX11_init 193 = .ok (.dup, 1) := by decide +kernel
theorem dX11_init_194 : decode cX11_init 194 = .ok (.invokespecial 88, 3) := by decide +kernel
theorem dX11_init_197 : decode cX11_init 197 = .ok (.putfield 89, 3) := by decide +kernel
theorem dX11_init_200 : decode cX11_init 200 = .ok (.return_, 1) := by decide +kernel
noncomputable def vX11_init : List Cond := .code yX11_init cX11_init 2 none :: (([.methodLink RX11 3 objectInit, .instanceMethod objectInit, .code objectInit ⟨#[0xb1]⟩ 1 none, .classLink RX11 9 RX7, .instantiable RX7 7, .initialized RX7, .code yX7_init cX7_init 1 none, .methodLink RX7 3 objectInit, .arrayClass .byte, .fieldLink RX7 9 "IcicleClock$Tape" "bytes" "[B", .fieldLink RX7 15 "IcicleClock$Tape" "faultPlace" "I", .instanceMethod yX7_init, .fieldLink RX11 12 "IcicleClock" "tape" "LIcicleClock$Tape;", .classLink RX11 16 RX6, .instantiable RX6 18, .initialized RX6, .code yX6_init cX6_init 1 none, .methodLink RX6 3 objectInit, .arrayClass .int, .fieldLink RX6 9 "IcicleClock$Street" "thaw" "[I", .arrayClass .boolean, .fieldLink RX6 15 "IcicleClock$Street" "isThaw" "[Z", .fieldLink RX6 19 "IcicleClock$Street" "sun" "[I", .fieldLink RX6 22 "IcicleClock$Street" "eaveOf" "[I", .fieldLink RX6 25 "IcicleClock$Street" "lengthTold" "[I", .fieldLink RX6 28 "IcicleClock$Street" "lengthHung" "[I", .fieldLink RX6 31 "IcicleClock$Street" "hourOf" "[I", .fieldLink RX6 34 "IcicleClock$Street" "dueHour" "[I", .fieldLink RX6 37 "IcicleClock$Street" "dueDay" "[I", .classLink RX6 40 RX0, .instantiable RX0 5, .initialized RX0, .code yX0_init cX0_init 1 none, .methodLink RX0 3 objectInit, .fieldLink RX0 9 "IcicleClock$Acts" "eaves" "[I", .fieldLink RX0 15 "IcicleClock$Acts" "days" "[I", .classLink RX0 18 "[[I", .fieldLink RX0 20 "IcicleClock$Acts" "slammed" "[[I", .fieldLink RX0 23 "IcicleClock$Acts" "rung" "[I", .instanceMethod yX0_init, .fieldLink RX6 43 "IcicleClock$Street" "acts" "LIcicleClock$Acts;", .instanceMethod yX6_init, .fieldLink RX11 19 "IcicleClock" "now" "LIcicleClock$Street;", .fieldLink RX11 23 "IcicleClock" "draft" "LIcicleClock$Street;", .fieldLink RX11 26 "IcicleClock" "images" "[LIcicleClock$Street;", .fieldLink RX11 30 "IcicleClock" "kept" "[Z", .classLink RX11 34 RX5, .fieldLink RX11 36 "IcicleClock" "slots" "[LIcicleClock$Slot;", .instantiable RX5 4, .initialized RX5, .code yX5_init cX5_init 1 none, .methodLink RX5 3 objectInit, .arrayClass .long, .fieldLink RX5 9 "IcicleClock$Slot" "numbers" "[J", .instanceMethod yX5_init, .classLink RX11 41 RX10, .instantiable RX10 4, .initialized RX10, .code yX10_init cX10_init 1 none, .methodLink RX10 3 objectInit, .fieldLink RX10 9 "IcicleClock$Winter" "doorEave" "I", .fieldLink RX10 15 "IcicleClock$Winter" "doorDay" "I", .fieldLink RX10 18 "IcicleClock$Winter" "fall" "[I", .instanceMethod yX10_init, .fieldLink RX11 44 "IcicleClock" "winter" "LIcicleClock$Winter;", .fieldLink RX11 48 "IcicleClock" "whatIf" "LIcicleClock$Winter;", .classLink RX11 51 RX3, .instantiable RX3 2, .initialized RX3, .code yX3_init cX3_init 1 none, .methodLink RX3 3 objectInit, .fieldLink RX3 9 "IcicleClock$Seen" "fall" "[I", .instanceMethod yX3_init, .fieldLink RX11 54 "IcicleClock" "seen" "LIcicleClock$Seen;", .classLink RX11 58 RX4, .instantiable RX4 3, .initialized RX4, .code yX4_init cX4_init 1 none, .methodLink RX4 3 objectInit, .classLink RX4 9 "[[I", .fieldLink RX4 11 "IcicleClock$Slams" "tally" "[[I", .instanceMethod yX4_init, .fieldLink RX11 61 "IcicleClock" "slammings" "LIcicleClock$Slams;", .classLink RX11 65 RX9, .instantiable RX9 4, .initialized RX9, .code yX9_init cX9_init 1 none, .methodLink RX9 3 objectInit, .fieldLink RX9 9 "IcicleClock$Weathers" "least" "[I", .fieldLink RX9 15 "IcicleClock$Weathers" "most" "[I", .classLink RX9 18 "[[I", .fieldLink RX9 20 "IcicleClock$Weathers" "goings" "[[I", .instanceMethod yX9_init, .fieldLink RX11 68 "IcicleClock" "skies" "LIcicleClock$Weathers;", .classLink RX11 72 RX1, .instantiable RX1 4, .initialized RX1, .code yX1_init cX1_init 1 none, .methodLink RX1 3 objectInit, .fieldLink RX1 9 "IcicleClock$Chances" "hanging" "[J", .fieldLink RX1 15 "IcicleClock$Chances" "weight" "[J", .fieldLink RX1 18 "IcicleClock$Chances" "whole" "[J", .instanceMethod yX1_init, .fieldLink RX11 75 "IcicleClock" "chances" "LIcicleClock$Chances;", .classLink RX11 79 RX8, .instantiable RX8 6, .initialized RX8, .code yX8_init cX8_init 1 none, .methodLink RX8 3 objectInit, .classLink RX8 9 "[[I", .fieldLink RX8 11 "IcicleClock$Walker" "struck" "[[I", .fieldLink RX8 16 "IcicleClock$Walker" "least" "[[I", .fieldLink RX8 19 "IcicleClock$Walker" "many" "[[I", .instanceMethod yX8_init, .fieldLink RX11 82 "IcicleClock" "walker" "LIcicleClock$Walker;", .classLink RX11 86 RX2, .instantiable RX2 3, .initialized RX2, .code yX2_init cX2_init 1 none, .methodLink RX2 3 objectInit, .classLink RX2 9 "[[I", .fieldLink RX2 11 "IcicleClock$Clerks" "shared" "[[I", .instanceMethod yX2_init, .fieldLink RX11 89 "IcicleClock" "clerks" "LIcicleClock$Clerks;"] : List Cond) ++ wsX70 ++ wsX110 ++ wsX60 ++ wsX00 ++ wsX50 ++ wsX100 ++ wsX30 ++ wsX40 ++ wsX90 ++ wsX10 ++ wsX80 ++ wsX20)
theorem iX11_init_7 : ∀ w ∈ wsX70, w ∈ vX11_init := fun _ h => List.mem_cons_of_mem _ (List.mem_append_left _ (List.mem_append_left _ (List.mem_append_left _ (List.mem_append_left _ (List.mem_append_left _ (List.mem_append_left _ (List.mem_append_left _ (List.mem_append_left _ (List.mem_append_left _ (List.mem_append_left _ (List.mem_append_left _ (List.mem_append_right _ h))))))))))))
theorem iX11_init_11 : ∀ w ∈ wsX110, w ∈ vX11_init := fun _ h => List.mem_cons_of_mem _ (List.mem_append_left _ (List.mem_append_left _ (List.mem_append_left _ (List.mem_append_left _ (List.mem_append_left _ (List.mem_append_left _ (List.mem_append_left _ (List.mem_append_left _ (List.mem_append_left _ (List.mem_append_left _ (List.mem_append_right _ h)))))))))))
theorem iX11_init_6 : ∀ w ∈ wsX60, w ∈ vX11_init := fun _ h => List.mem_cons_of_mem _ (List.mem_append_left _ (List.mem_append_left _ (List.mem_append_left _ (List.mem_append_left _ (List.mem_append_left _ (List.mem_append_left _ (List.mem_append_left _ (List.mem_append_left _ (List.mem_append_left _ (List.mem_append_right _ h))))))))))
theorem iX11_init_0 : ∀ w ∈ wsX00, w ∈ vX11_init := fun _ h => List.mem_cons_of_mem _ (List.mem_append_left _ (List.mem_append_left _ (List.mem_append_left _ (List.mem_append_left _ (List.mem_append_left _ (List.mem_append_left _ (List.mem_append_left _ (List.mem_append_left _ (List.mem_append_right _ h)))))))))
theorem iX11_init_5 : ∀ w ∈ wsX50, w ∈ vX11_init := fun _ h => List.mem_cons_of_mem _ (List.mem_append_left _ (List.mem_append_left _ (List.mem_append_left _ (List.mem_append_left _ (List.mem_append_left _ (List.mem_append_left _ (List.mem_append_left _ (List.mem_append_right _ h))))))))
theorem iX11_init_10 : ∀ w ∈ wsX100, w ∈ vX11_init := fun _ h => List.mem_cons_of_mem _ (List.mem_append_left _ (List.mem_append_left _ (List.mem_append_left _ (List.mem_append_left _ (List.mem_append_left _ (List.mem_append_left _ (List.mem_append_right _ h)))))))
theorem iX11_init_3 : ∀ w ∈ wsX30, w ∈ vX11_init := fun _ h => List.mem_cons_of_mem _ (List.mem_append_left _ (List.mem_append_left _ (List.mem_append_left _ (List.mem_append_left _ (List.mem_append_left _ (List.mem_append_right _ h))))))
theorem iX11_init_4 : ∀ w ∈ wsX40, w ∈ vX11_init := fun _ h => List.mem_cons_of_mem _ (List.mem_append_left _ (List.mem_append_left _ (List.mem_append_left _ (List.mem_append_left _ (List.mem_append_right _ h)))))
theorem iX11_init_9 : ∀ w ∈ wsX90, w ∈ vX11_init := fun _ h => List.mem_cons_of_mem _ (List.mem_append_left _ (List.mem_append_left _ (List.mem_append_left _ (List.mem_append_right _ h))))
theorem iX11_init_1 : ∀ w ∈ wsX10, w ∈ vX11_init := fun _ h => List.mem_cons_of_mem _ (List.mem_append_left _ (List.mem_append_left _ (List.mem_append_right _ h)))
theorem iX11_init_8 : ∀ w ∈ wsX80, w ∈ vX11_init := fun _ h => List.mem_cons_of_mem _ (List.mem_append_left _ (List.mem_append_right _ h))
theorem iX11_init_2 : ∀ w ∈ wsX20, w ∈ vX11_init := fun _ h => List.mem_cons_of_mem _ (List.mem_append_right _ h)
set_option maxRecDepth 20000 in
theorem gg_X11_init_X7_init : GoodIn vX11_init vX7_init := goodIn_r _ [7, 8, 2, 3, 9, 10, 11, 125, 126, 127, 128, 129, 130, 131] (by decide +kernel) (by decide +kernel)
set_option maxRecDepth 20000 in
theorem gg_X11_init_X6_init : GoodIn vX11_init vX6_init := goodIn_r _ [17, 18, 2, 3, 19, 20, 21, 22, 23, 24, 25, 26, 27, 28, 29, 30, 31, 32, 33, 34, 35, 36, 37, 38, 39, 40, 41, 146, 147, 148, 149, 150, 151, 152, 153, 154, 155, 156, 157, 158, 159, 160, 161, 162, 163, 164, 165, 166, 167, 168] (by decide +kernel) (by decide +kernel)
set_option maxRecDepth 20000 in
theorem gg_X11_init_X5_init : GoodIn vX11_init vX5_init := goodIn_r _ [51, 52, 2, 3, 53, 54, 169, 170, 171, 172] (by decide +kernel) (by decide +kernel)
set_option maxRecDepth 20000 in
theorem gg_X11_init_X10_init : GoodIn vX11_init vX10_init := goodIn_r _ [59, 60, 2, 3, 61, 62, 19, 63, 173, 174, 175, 176] (by decide +kernel) (by decide +kernel)
set_option maxRecDepth 20000 in
theorem gg_X11_init_X3_init : GoodIn vX11_init vX3_init := goodIn_r _ [70, 71, 2, 3, 19, 72, 177, 178] (by decide +kernel) (by decide +kernel)
set_option maxRecDepth 20000 in
theorem gg_X11_init_X4_init : GoodIn vX11_init vX4_init := goodIn_r _ [78, 79, 2, 3, 80, 19, 81, 179, 180, 181] (by decide +kernel) (by decide +kernel)
set_option maxRecDepth 20000 in
theorem gg_X11_init_X9_init : GoodIn vX11_init vX9_init := goodIn_r _ [87, 88, 2, 3, 19, 89, 90, 91, 92, 182, 183, 184, 185] (by decide +kernel) (by decide +kernel)
set_option maxRecDepth 20000 in
theorem gg_X11_init_X1_init : GoodIn vX11_init vX1_init := goodIn_r _ [98, 99, 2, 3, 53, 100, 101, 102, 186, 187, 188, 189] (by decide +kernel) (by decide +kernel)
set_option maxRecDepth 20000 in
theorem gg_X11_init_X8_init : GoodIn vX11_init vX8_init := goodIn_r _ [108, 109, 2, 3, 110, 19, 111, 112, 113, 190, 191, 192, 193, 194, 195] (by decide +kernel) (by decide +kernel)
set_option maxRecDepth 20000 in
theorem gg_X11_init_X2_init : GoodIn vX11_init vX2_init := goodIn_r _ [119, 120, 2, 3, 121, 19, 122, 196, 197, 198] (by decide +kernel) (by decide +kernel)
set_option maxHeartbeats 8000000 in
set_option maxRecDepth 100000 in
theorem f_n_X11 (cs : Nat → ClassId) (h0 : Nat) (ad_0 : Nat → Nat) (g_0 : Nat → va_E) (q_1 : Nat) (a_2 : Nat → Nat) (c_3 : Nat → va_E) (ad_6 : Nat → Nat) (g_7 : Nat → va_E) (q_8 : Nat) (a_9 : Nat → Nat) (c_10 : Nat → va_E) (ad_13 : Nat → Nat) (g_14 : Nat → va_E) (q_15 : Nat) (a_16 : Nat → Nat) (c_17 : Nat → va_E) (ad_20 : Nat → Nat) (g_21 : Nat → va_E) (q_22 : Nat) (ad_23 : Nat → Nat) (g_24 : Nat → va_E) (q_27 : Nat) (a_28 : Nat → Nat) (c_29 : Nat → va_E) (ad_32 : Nat → Nat) (g_33 : Nat → va_E) (g_36 : Nat → va_E) (q_40 : Nat) (a_41 : Nat → Nat) (c_42 : Nat → va_E) (ad_45 : Nat → Nat) (g_46 : Nat → va_E) (g_49 : Nat → va_E) (q_53 : Nat) (a_54 : Nat → Nat) (c_55 : Nat → va_E) (ad_58 : Nat → Nat) (g_59 : Nat → va_E) (g_62 : Nat → va_E) (q_66 : Nat) (ad_67 : Nat → Nat) (g_68 : Nat → va_E) (q_71 : Nat) (ad_72 : Nat → Nat) (g_73 : Nat → va_E) (q_78 : Nat) (a_79 : Nat → Nat) (c_80 : Nat → va_E) (ad_83 : Nat → Nat) (g_84 : Nat → va_E) (g_89 : Nat → va_E) (q_94 : Nat) (a_95 : Nat → Nat) (c_96 : Nat → va_E) (ad_99 : Nat → Nat) (g_100 : Nat → va_E) (g_105 : Nat → va_E) (q_110 : Nat) (a_111 : Nat → Nat) (c_112 : Nat → va_E) (ad_115 : Nat → Nat) (g_116 : Nat → va_E) (g_121 : Nat → va_E) (q_126 : Nat) (a_127 : Nat → Nat) (c_128 : Nat → va_E) (ad_131 : Nat → Nat) (g_132 : Nat → va_E) (g_137 : Nat → va_E) (q_142 : Nat) (a_143 : Nat → Nat) (c_144 : Nat → va_E) (ad_147 : Nat → Nat) (g_148 : Nat → va_E) (q_153 : Nat) (a_154 : Nat → Nat) (c_155 : Nat → va_E) (ad_158 : Nat → Nat) (g_159 : Nat → va_E) (q_164 : Nat) (a_165 : Nat → Nat) (c_166 : Nat → va_E) (ad_169 : Nat → Nat) (g_170 : Nat → va_E) (q_175 : Nat) (a_176 : Nat → Nat) (c_177 : Nat → va_E) (ad_180 : Nat → Nat) (g_181 : Nat → va_E) (q_186 : Nat) (a_187 : Nat → Nat) (c_188 : Nat → va_E) (ad_191 : Nat → Nat) (g_192 : Nat → va_E) (q_197 : Nat) (a_198 : Nat → Nat) (c_199 : Nat → va_E) (ad_202 : Nat → Nat) (g_203 : Nat → va_E) (q_208 : Nat) (a_209 : Nat → Nat) (c_210 : Nat → va_E) (ad_213 : Nat → Nat) (g_214 : Nat → va_E) (q_219 : Nat) (a_220 : Nat → Nat) (c_221 : Nat → va_E) (ad_224 : Nat → Nat) (g_225 : Nat → va_E) (h_4 : a_2 0 = q_1) (h_5 : c_3 0 = .inr (7, [.ref (a_2 1), .int 0, .int 0, .int (-1), .int 0, .int 0, .int 0]) ∧ c_3 1 = .inl (cs 0, 1000, .inl (fun _ => 0))) (ead_6 : ad_6 = ct ad_0 0 a_2) (eg_7 : g_7 = ct g_0 0 c_3) (h_11 : a_9 0 = q_8) (h_12 : c_10 0 = .inr (6, [.int 0, .int 0, .int 0, .int 0, .int 0, .int 0, .int 0, .int 0, .ref (a_9 1), .ref (a_9 2), .ref (a_9 3), .ref (a_9 4), .ref (a_9 5), .ref (a_9 6), .ref (a_9 7), .ref (a_9 8), .ref (a_9 9), .ref (a_9 10)]) ∧ c_10 1 = .inl (cs 1, 14, .inl (fun _ => 0)) ∧ c_10 2 = .inl (cs 3, 14, .inl (fun _ => 0)) ∧ c_10 3 = .inl (cs 1, 5, .inl (fun _ => 0)) ∧ c_10 4 = .inl (cs 1, 8, .inl (fun _ => 0)) ∧ c_10 5 = .inl (cs 1, 8, .inl (fun _ => 0)) ∧ c_10 6 = .inl (cs 1, 8, .inl (fun _ => 0)) ∧ c_10 7 = .inl (cs 1, 8, .inl (fun _ => 0)) ∧ c_10 8 = .inl (cs 1, 6, .inl (fun _ => 0)) ∧ c_10 9 = .inl (cs 1, 6, .inl (fun _ => 0)) ∧ c_10 10 = .inr (0, [.int 0, .ref (a_9 11), .ref (a_9 12), .ref (a_9 13), .ref (a_9 19)]) ∧ c_10 11 = .inl (cs 1, 40, .inl (fun _ => 0)) ∧ c_10 12 = .inl (cs 1, 40, .inl (fun _ => 0)) ∧ (∃ f, c_10 13 = .inl (cs 6, 5, .inr (.inr (.inr (.inr f)))) ∧ f 0 = some (a_9 14) ∧ f 1 = some (a_9 15) ∧ f 2 = some (a_9 16) ∧ f 3 = some (a_9 17) ∧ f 4 = some (a_9 18)) ∧ c_10 14 = .inl (cs 1, 14, .inl (fun _ => 0)) ∧ c_10 15 = .inl (cs 1, 14, .inl (fun _ => 0)) ∧ c_10 16 = .inl (cs 1, 14, .inl (fun _ => 0)) ∧ c_10 17 = .inl (cs 1, 14, .inl (fun _ => 0)) ∧ c_10 18 = .inl (cs 1, 14, .inl (fun _ => 0)) ∧ c_10 19 = .inl (cs 1, 14, .inl (fun _ => 0))) (ead_13 : ad_13 = ct ad_6 2 a_9) (eg_14 : g_14 = ct g_7 2 c_10) (h_18 : a_16 0 = q_15) (h_19 : c_17 0 = .inr (6, [.int 0, .int 0, .int 0, .int 0, .int 0, .int 0, .int 0, .int 0, .ref (a_16 1), .ref (a_16 2), .ref (a_16 3), .ref (a_16 4), .ref (a_16 5), .ref (a_16 6), .ref (a_16 7), .ref (a_16 8), .ref (a_16 9), .ref (a_16 10)]) ∧ c_17 1 = .inl (cs 1, 14, .inl (fun _ => 0)) ∧ c_17 2 = .inl (cs 3, 14, .inl (fun _ => 0)) ∧ c_17 3 = .inl (cs 1, 5, .inl (fun _ => 0)) ∧ c_17 4 = .inl (cs 1, 8, .inl (fun _ => 0)) ∧ c_17 5 = .inl (cs 1, 8, .inl (fun _ => 0)) ∧ c_17 6 = .inl (cs 1, 8, .inl (fun _ => 0)) ∧ c_17 7 = .inl (cs 1, 8, .inl (fun _ => 0)) ∧ c_17 8 = .inl (cs 1, 6, .inl (fun _ => 0)) ∧ c_17 9 = .inl (cs 1, 6, .inl (fun _ => 0)) ∧ c_17 10 = .inr (0, [.int 0, .ref (a_16 11), .ref (a_16 12), .ref (a_16 13), .ref (a_16 19)]) ∧ c_17 11 = .inl (cs 1, 40, .inl (fun _ => 0)) ∧ c_17 12 = .inl (cs 1, 40, .inl (fun _ => 0)) ∧ (∃ f, c_17 13 = .inl (cs 6, 5, .inr (.inr (.inr (.inr f)))) ∧ f 0 = some (a_16 14) ∧ f 1 = some (a_16 15) ∧ f 2 = some (a_16 16) ∧ f 3 = some (a_16 17) ∧ f 4 = some (a_16 18)) ∧ c_17 14 = .inl (cs 1, 14, .inl (fun _ => 0)) ∧ c_17 15 = .inl (cs 1, 14, .inl (fun _ => 0)) ∧ c_17 16 = .inl (cs 1, 14, .inl (fun _ => 0)) ∧ c_17 17 = .inl (cs 1, 14, .inl (fun _ => 0)) ∧ c_17 18 = .inl (cs 1, 14, .inl (fun _ => 0)) ∧ c_17 19 = .inl (cs 1, 14, .inl (fun _ => 0))) (ead_20 : ad_20 = ct ad_13 22 a_16) (eg_21 : g_21 = ct g_14 22 c_17) (ead_23 : ad_23 = ct ad_20 42 (fun _ => q_22)) (eg_24 : g_24 = ct g_21 42 (fun _ => .inl (cs 5, 3, .inr (.inr (.inr (.inr (fun _ => none))))))) (h_30 : a_28 0 = q_27) (h_31 : c_29 0 = .inr (6, [.int 0, .int 0, .int 0, .int 0, .int 0, .int 0, .int 0, .int 0, .ref (a_28 1), .ref (a_28 2), .ref (a_28 3), .ref (a_28 4), .ref (a_28 5), .ref (a_28 6), .ref (a_28 7), .ref (a_28 8), .ref (a_28 9), .ref (a_28 10)]) ∧ c_29 1 = .inl (cs 1, 14, .inl (fun _ => 0)) ∧ c_29 2 = .inl (cs 3, 14, .inl (fun _ => 0)) ∧ c_29 3 = .inl (cs 1, 5, .inl (fun _ => 0)) ∧ c_29 4 = .inl (cs 1, 8, .inl (fun _ => 0)) ∧ c_29 5 = .inl (cs 1, 8, .inl (fun _ => 0)) ∧ c_29 6 = .inl (cs 1, 8, .inl (fun _ => 0)) ∧ c_29 7 = .inl (cs 1, 8, .inl (fun _ => 0)) ∧ c_29 8 = .inl (cs 1, 6, .inl (fun _ => 0)) ∧ c_29 9 = .inl (cs 1, 6, .inl (fun _ => 0)) ∧ c_29 10 = .inr (0, [.int 0, .ref (a_28 11), .ref (a_28 12), .ref (a_28 13), .ref (a_28 19)]) ∧ c_29 11 = .inl (cs 1, 40, .inl (fun _ => 0)) ∧ c_29 12 = .inl (cs 1, 40, .inl (fun _ => 0)) ∧ (∃ f, c_29 13 = .inl (cs 6, 5, .inr (.inr (.inr (.inr f)))) ∧ f 0 = some (a_28 14) ∧ f 1 = some (a_28 15) ∧ f 2 = some (a_28 16) ∧ f 3 = some (a_28 17) ∧ f 4 = some (a_28 18)) ∧ c_29 14 = .inl (cs 1, 14, .inl (fun _ => 0)) ∧ c_29 15 = .inl (cs 1, 14, .inl (fun _ => 0)) ∧ c_29 16 = .inl (cs 1, 14, .inl (fun _ => 0)) ∧ c_29 17 = .inl (cs 1, 14, .inl (fun _ => 0)) ∧ c_29 18 = .inl (cs 1, 14, .inl (fun _ => 0)) ∧ c_29 19 = .inl (cs 1, 14, .inl (fun _ => 0))) (ead_32 : ad_32 = ct ad_23 43 a_28) (eg_33 : g_33 = ct g_24 43 c_29) (eg_36 : g_36 = va_up g_33 42 (.inl (cs 5, 3, .inr (.inr (.inr (.inr (va_up (fun _ => none) (Int32.toNatClampNeg 0) (some q_27)))))))) (h_43 : a_41 0 = q_40) (h_44 : c_42 0 = .inr (6, [.int 0, .int 0, .int 0, .int 0, .int 0, .int 0, .int 0, .int 0, .ref (a_41 1), .ref (a_41 2), .ref (a_41 3), .ref (a_41 4), .ref (a_41 5), .ref (a_41 6), .ref (a_41 7), .ref (a_41 8), .ref (a_41 9), .ref (a_41 10)]) ∧ c_42 1 = .inl (cs 1, 14, .inl (fun _ => 0)) ∧ c_42 2 = .inl (cs 3, 14, .inl (fun _ => 0)) ∧ c_42 3 = .inl (cs 1, 5, .inl (fun _ => 0)) ∧ c_42 4 = .inl (cs 1, 8, .inl (fun _ => 0)) ∧ c_42 5 = .inl (cs 1, 8, .inl (fun _ => 0)) ∧ c_42 6 = .inl (cs 1, 8, .inl (fun _ => 0)) ∧ c_42 7 = .inl (cs 1, 8, .inl (fun _ => 0)) ∧ c_42 8 = .inl (cs 1, 6, .inl (fun _ => 0)) ∧ c_42 9 = .inl (cs 1, 6, .inl (fun _ => 0)) ∧ c_42 10 = .inr (0, [.int 0, .ref (a_41 11), .ref (a_41 12), .ref (a_41 13), .ref (a_41 19)]) ∧ c_42 11 = .inl (cs 1, 40, .inl (fun _ => 0)) ∧ c_42 12 = .inl (cs 1, 40, .inl (fun _ => 0)) ∧ (∃ f, c_42 13 = .inl (cs 6, 5, .inr (.inr (.inr (.inr f)))) ∧ f 0 = some (a_41 14) ∧ f 1 = some (a_41 15) ∧ f 2 = some (a_41 16) ∧ f 3 = some (a_41 17) ∧ f 4 = some (a_41 18)) ∧ c_42 14 = .inl (cs 1, 14, .inl (fun _ => 0)) ∧ c_42 15 = .inl (cs 1, 14, .inl (fun _ => 0)) ∧ c_42 16 = .inl (cs 1, 14, .inl (fun _ => 0)) ∧ c_42 17 = .inl (cs 1, 14, .inl (fun _ => 0)) ∧ c_42 18 = .inl (cs 1, 14, .inl (fun _ => 0)) ∧ c_42 19 = .inl (cs 1, 14, .inl (fun _ => 0))) (ead_45 : ad_45 = ct ad_32 63 a_41) (eg_46 : g_46 = ct g_36 63 c_42) (eg_49 : g_49 = va_up g_46 42 (.inl (cs 5, 3, .inr (.inr (.inr (.inr (va_up (va_up (fun _ => none) (Int32.toNatClampNeg 0) (some q_27)) (Int32.toNatClampNeg 1) (some q_40)))))))) (h_56 : a_54 0 = q_53) (h_57 : c_55 0 = .inr (6, [.int 0, .int 0, .int 0, .int 0, .int 0, .int 0, .int 0, .int 0, .ref (a_54 1), .ref (a_54 2), .ref (a_54 3), .ref (a_54 4), .ref (a_54 5), .ref (a_54 6), .ref (a_54 7), .ref (a_54 8), .ref (a_54 9), .ref (a_54 10)]) ∧ c_55 1 = .inl (cs 1, 14, .inl (fun _ => 0)) ∧ c_55 2 = .inl (cs 3, 14, .inl (fun _ => 0)) ∧ c_55 3 = .inl (cs 1, 5, .inl (fun _ => 0)) ∧ c_55 4 = .inl (cs 1, 8, .inl (fun _ => 0)) ∧ c_55 5 = .inl (cs 1, 8, .inl (fun _ => 0)) ∧ c_55 6 = .inl (cs 1, 8, .inl (fun _ => 0)) ∧ c_55 7 = .inl (cs 1, 8, .inl (fun _ => 0)) ∧ c_55 8 = .inl (cs 1, 6, .inl (fun _ => 0)) ∧ c_55 9 = .inl (cs 1, 6, .inl (fun _ => 0)) ∧ c_55 10 = .inr (0, [.int 0, .ref (a_54 11), .ref (a_54 12), .ref (a_54 13), .ref (a_54 19)]) ∧ c_55 11 = .inl (cs 1, 40, .inl (fun _ => 0)) ∧ c_55 12 = .inl (cs 1, 40, .inl (fun _ => 0)) ∧ (∃ f, c_55 13 = .inl (cs 6, 5, .inr (.inr (.inr (.inr f)))) ∧ f 0 = some (a_54 14) ∧ f 1 = some (a_54 15) ∧ f 2 = some (a_54 16) ∧ f 3 = some (a_54 17) ∧ f 4 = some (a_54 18)) ∧ c_55 14 = .inl (cs 1, 14, .inl (fun _ => 0)) ∧ c_55 15 = .inl (cs 1, 14, .inl (fun _ => 0)) ∧ c_55 16 = .inl (cs 1, 14, .inl (fun _ => 0)) ∧ c_55 17 = .inl (cs 1, 14, .inl (fun _ => 0)) ∧ c_55 18 = .inl (cs 1, 14, .inl (fun _ => 0)) ∧ c_55 19 = .inl (cs 1, 14, .inl (fun _ => 0))) (ead_58 : ad_58 = ct ad_45 83 a_54) (eg_59 : g_59 = ct g_49 83 c_55) (eg_62 : g_62 = va_up g_59 42 (.inl (cs 5, 3, .inr (.inr (.inr (.inr (va_up (va_up (va_up (fun _ => none) (Int32.toNatClampNeg 0) (some q_27)) (Int32.toNatClampNeg 1) (some q_40)) (Int32.toNatClampNeg 2) (some q_53)))))))) (ead_67 : ad_67 = ct ad_58 103 (fun _ => q_66)) (eg_68 : g_68 = ct g_62 103 (fun _ => .inl (cs 3, 3, .inl (fun _ => 0)))) (ead_72 : ad_72 = ct ad_67 104 (fun _ => q_71)) (eg_73 : g_73 = ct g_68 104 (fun _ => .inl (cs 4, 4, .inr (.inr (.inr (.inr (fun _ => none))))))) (h_81 : a_79 0 = q_78) (h_82 : c_80 0 = .inr (5, [.ref (a_79 1), .int 0, .int 0, .int 0]) ∧ c_80 1 = .inl (cs 2, 60, .inr (.inl (fun _ => 0)))) (ead_83 : ad_83 = ct ad_72 105 a_79) (eg_84 : g_84 = ct g_73 105 c_80) (eg_89 : g_89 = va_up g_84 104 (.inl (cs 4, 4, .inr (.inr (.inr (.inr (va_up (fun _ => none) (Int32.toNatClampNeg 0) (some q_78)))))))) (h_97 : a_95 0 = q_94) (h_98 : c_96 0 = .inr (5, [.ref (a_95 1), .int 0, .int 0, .int 0]) ∧ c_96 1 = .inl (cs 2, 60, .inr (.inl (fun _ => 0)))) (ead_99 : ad_99 = ct ad_83 107 a_95) (eg_100 : g_100 = ct g_89 107 c_96) (eg_105 : g_105 = va_up g_100 104 (.inl (cs 4, 4, .inr (.inr (.inr (.inr (va_up (va_up (fun _ => none) (Int32.toNatClampNeg 0) (some q_78)) (Int32.toNatClampNeg 1) (some q_94)))))))) (h_113 : a_111 0 = q_110) (h_114 : c_112 0 = .inr (5, [.ref (a_111 1), .int 0, .int 0, .int 0]) ∧ c_112 1 = .inl (cs 2, 60, .inr (.inl (fun _ => 0)))) (ead_115 : ad_115 = ct ad_99 109 a_111) (eg_116 : g_116 = ct g_105 109 c_112) (eg_121 : g_121 = va_up g_116 104 (.inl (cs 4, 4, .inr (.inr (.inr (.inr (va_up (va_up (va_up (fun _ => none) (Int32.toNatClampNeg 0) (some q_78)) (Int32.toNatClampNeg 1) (some q_94)) (Int32.toNatClampNeg 2) (some q_110)))))))) (h_129 : a_127 0 = q_126) (h_130 : c_128 0 = .inr (5, [.ref (a_127 1), .int 0, .int 0, .int 0]) ∧ c_128 1 = .inl (cs 2, 60, .inr (.inl (fun _ => 0)))) (ead_131 : ad_131 = ct ad_115 111 a_127) (eg_132 : g_132 = ct g_121 111 c_128) (eg_137 : g_137 = va_up g_132 104 (.inl (cs 4, 4, .inr (.inr (.inr (.inr (va_up (va_up (va_up (va_up (fun _ => none) (Int32.toNatClampNeg 0) (some q_78)) (Int32.toNatClampNeg 1) (some q_94)) (Int32.toNatClampNeg 2) (some q_110)) (Int32.toNatClampNeg 3) (some q_126)))))))) (h_145 : a_143 0 = q_142) (h_146 : c_144 0 = .inr (10, [.int 0, .int (-1), .int (-1), .ref (a_143 1)]) ∧ c_144 1 = .inl (cs 1, 8, .inl (fun _ => 0))) (ead_147 : ad_147 = ct ad_131 113 a_143) (eg_148 : g_148 = ct g_137 113 c_144) (h_156 : a_154 0 = q_153) (h_157 : c_155 0 = .inr (10, [.int 0, .int (-1), .int (-1), .ref (a_154 1)]) ∧ c_155 1 = .inl (cs 1, 8, .inl (fun _ => 0))) (ead_158 : ad_158 = ct ad_147 115 a_154) (eg_159 : g_159 = ct g_148 115 c_155) (h_167 : a_165 0 = q_164) (h_168 : c_166 0 = .inr (3, [.ref (a_165 1), .int 0]) ∧ c_166 1 = .inl (cs 1, 8, .inl (fun _ => 0))) (ead_169 : ad_169 = ct ad_158 117 a_165) (eg_170 : g_170 = ct g_159 117 c_166) (h_178 : a_176 0 = q_175) (h_179 : c_177 0 = .inr (4, [.int 0, .int 0, .ref (a_176 1)]) ∧ (∃ f, c_177 1 = .inl (cs 6, 8, .inr (.inr (.inr (.inr f)))) ∧ f 0 = some (a_176 2) ∧ f 1 = some (a_176 3) ∧ f 2 = some (a_176 4) ∧ f 3 = some (a_176 5) ∧ f 4 = some (a_176 6) ∧ f 5 = some (a_176 7) ∧ f 6 = some (a_176 8) ∧ f 7 = some (a_176 9)) ∧ c_177 2 = .inl (cs 1, 15, .inl (fun _ => 0)) ∧ c_177 3 = .inl (cs 1, 15, .inl (fun _ => 0)) ∧ c_177 4 = .inl (cs 1, 15, .inl (fun _ => 0)) ∧ c_177 5 = .inl (cs 1, 15, .inl (fun _ => 0)) ∧ c_177 6 = .inl (cs 1, 15, .inl (fun _ => 0)) ∧ c_177 7 = .inl (cs 1, 15, .inl (fun _ => 0)) ∧ c_177 8 = .inl (cs 1, 15, .inl (fun _ => 0)) ∧ c_177 9 = .inl (cs 1, 15, .inl (fun _ => 0))) (ead_180 : ad_180 = ct ad_169 119 a_176) (eg_181 : g_181 = ct g_170 119 c_177) (h_189 : a_187 0 = q_186) (h_190 : c_188 0 = .inr (9, [.ref (a_187 1), .ref (a_187 2), .ref (a_187 3), .int 0]) ∧ c_188 1 = .inl (cs 1, 5, .inl (fun _ => 0)) ∧ c_188 2 = .inl (cs 1, 5, .inl (fun _ => 0)) ∧ (∃ f, c_188 3 = .inl (cs 6, 6, .inr (.inr (.inr (.inr f)))) ∧ f 0 = some (a_187 4) ∧ f 1 = some (a_187 5) ∧ f 2 = some (a_187 6) ∧ f 3 = some (a_187 7) ∧ f 4 = some (a_187 8) ∧ f 5 = some (a_187 9)) ∧ c_188 4 = .inl (cs 1, 16, .inl (fun _ => 0)) ∧ c_188 5 = .inl (cs 1, 16, .inl (fun _ => 0)) ∧ c_188 6 = .inl (cs 1, 16, .inl (fun _ => 0)) ∧ c_188 7 = .inl (cs 1, 16, .inl (fun _ => 0)) ∧ c_188 8 = .inl (cs 1, 16, .inl (fun _ => 0)) ∧ c_188 9 = .inl (cs 1, 16, .inl (fun _ => 0))) (ead_191 : ad_191 = ct ad_180 129 a_187) (eg_192 : g_192 = ct g_181 129 c_188) (h_200 : a_198 0 = q_197) (h_201 : c_199 0 = .inr (1, [.ref (a_198 1), .ref (a_198 2), .ref (a_198 3), .int 0]) ∧ c_199 1 = .inl (cs 2, 15, .inr (.inl (fun _ => 0))) ∧ c_199 2 = .inl (cs 2, 14, .inr (.inl (fun _ => 0))) ∧ c_199 3 = .inl (cs 2, 14, .inr (.inl (fun _ => 0)))) (ead_202 : ad_202 = ct ad_191 139 a_198) (eg_203 : g_203 = ct g_192 139 c_199) (h_211 : a_209 0 = q_208) (h_212 : c_210 0 = .inr (8, [.int 0, .ref (a_209 1), .ref (a_209 16), .ref (a_209 31), .int 0, .int 0]) ∧ (∃ f, c_210 1 = .inl (cs 6, 14, .inr (.inr (.inr (.inr f)))) ∧ f 0 = some (a_209 2) ∧ f 1 = some (a_209 3) ∧ f 2 = some (a_209 4) ∧ f 3 = some (a_209 5) ∧ f 4 = some (a_209 6) ∧ f 5 = some (a_209 7) ∧ f 6 = some (a_209 8) ∧ f 7 = some (a_209 9) ∧ f 8 = some (a_209 10) ∧ f 9 = some (a_209 11) ∧ f 10 = some (a_209 12) ∧ f 11 = some (a_209 13) ∧ f 12 = some (a_209 14) ∧ f 13 = some (a_209 15)) ∧ c_210 2 = .inl (cs 1, 5, .inl (fun _ => 0)) ∧ c_210 3 = .inl (cs 1, 5, .inl (fun _ => 0)) ∧ c_210 4 = .inl (cs 1, 5, .inl (fun _ => 0)) ∧ c_210 5 = .inl (cs 1, 5, .inl (fun _ => 0)) ∧ c_210 6 = .inl (cs 1, 5, .inl (fun _ => 0)) ∧ c_210 7 = .inl (cs 1, 5, .inl (fun _ => 0)) ∧ c_210 8 = .inl (cs 1, 5, .inl (fun _ => 0)) ∧ c_210 9 = .inl (cs 1, 5, .inl (fun _ => 0)) ∧ c_210 10 = .inl (cs 1, 5, .inl (fun _ => 0)) ∧ c_210 11 = .inl (cs 1, 5, .inl (fun _ => 0)) ∧ c_210 12 = .inl (cs 1, 5, .inl (fun _ => 0)) ∧ c_210 13 = .inl (cs 1, 5, .inl (fun _ => 0)) ∧ c_210 14 = .inl (cs 1, 5, .inl (fun _ => 0)) ∧ c_210 15 = .inl (cs 1, 5, .inl (fun _ => 0)) ∧ (∃ f, c_210 16 = .inl (cs 6, 14, .inr (.inr (.inr (.inr f)))) ∧ f 0 = some (a_209 17) ∧ f 1 = some (a_209 18) ∧ f 2 = some (a_209 19) ∧ f 3 = some (a_209 20) ∧ f 4 = some (a_209 21) ∧ f 5 = some (a_209 22) ∧ f 6 = some (a_209 23) ∧ f 7 = some (a_209 24) ∧ f 8 = some (a_209 25) ∧ f 9 = some (a_209 26) ∧ f 10 = some (a_209 27) ∧ f 11 = some (a_209 28) ∧ f 12 = some (a_209 29) ∧ f 13 = some (a_209 30)) ∧ c_210 17 = .inl (cs 1, 5, .inl (fun _ => 0)) ∧ c_210 18 = .inl (cs 1, 5, .inl (fun _ => 0)) ∧ c_210 19 = .inl (cs 1, 5, .inl (fun _ => 0)) ∧ c_210 20 = .inl (cs 1, 5, .inl (fun _ => 0)) ∧ c_210 21 = .inl (cs 1, 5, .inl (fun _ => 0)) ∧ c_210 22 = .inl (cs 1, 5, .inl (fun _ => 0)) ∧ c_210 23 = .inl (cs 1, 5, .inl (fun _ => 0)) ∧ c_210 24 = .inl (cs 1, 5, .inl (fun _ => 0)) ∧ c_210 25 = .inl (cs 1, 5, .inl (fun _ => 0)) ∧ c_210 26 = .inl (cs 1, 5, .inl (fun _ => 0)) ∧ c_210 27 = .inl (cs 1, 5, .inl (fun _ => 0)) ∧ c_210 28 = .inl (cs 1, 5, .inl (fun _ => 0)) ∧ c_210 29 = .inl (cs 1, 5, .inl (fun _ => 0)) ∧ c_210 30 = .inl (cs 1, 5, .inl (fun _ => 0)) ∧ (∃ f, c_210 31 = .inl (cs 6, 14, .inr (.inr (.inr (.inr f)))) ∧ f 0 = some (a_209 32) ∧ f 1 = some (a_209 33) ∧ f 2 = some (a_209 34) ∧ f 3 = some (a_209 35) ∧ f 4 = some (a_209 36) ∧ f 5 = some (a_209 37) ∧ f 6 = some (a_209 38) ∧ f 7 = some (a_209 39) ∧ f 8 = some (a_209 40) ∧ f 9 = some (a_209 41) ∧ f 10 = some (a_209 42) ∧ f 11 = some (a_209 43) ∧ f 12 = some (a_209 44) ∧ f 13 = some (a_209 45)) ∧ c_210 32 = .inl (cs 1, 5, .inl (fun _ => 0)) ∧ c_210 33 = .inl (cs 1, 5, .inl (fun _ => 0)) ∧ c_210 34 = .inl (cs 1, 5, .inl (fun _ => 0)) ∧ c_210 35 = .inl (cs 1, 5, .inl (fun _ => 0)) ∧ c_210 36 = .inl (cs 1, 5, .inl (fun _ => 0)) ∧ c_210 37 = .inl (cs 1, 5, .inl (fun _ => 0)) ∧ c_210 38 = .inl (cs 1, 5, .inl (fun _ => 0)) ∧ c_210 39 = .inl (cs 1, 5, .inl (fun _ => 0)) ∧ c_210 40 = .inl (cs 1, 5, .inl (fun _ => 0)) ∧ c_210 41 = .inl (cs 1, 5, .inl (fun _ => 0)) ∧ c_210 42 = .inl (cs 1, 5, .inl (fun _ => 0)) ∧ c_210 43 = .inl (cs 1, 5, .inl (fun _ => 0)) ∧ c_210 44 = .inl (cs 1, 5, .inl (fun _ => 0)) ∧ c_210 45 = .inl (cs 1, 5, .inl (fun _ => 0))) (ead_213 : ad_213 = ct ad_202 143 a_209) (eg_214 : g_214 = ct g_203 143 c_210) (h_222 : a_220 0 = q_219) (h_223 : c_221 0 = .inr (2, [.int 0, .int 0, .ref (a_220 1)]) ∧ (∃ f, c_221 1 = .inl (cs 6, 5, .inr (.inr (.inr (.inr f)))) ∧ f 0 = some (a_220 2) ∧ f 1 = some (a_220 3) ∧ f 2 = some (a_220 4) ∧ f 3 = some (a_220 5) ∧ f 4 = some (a_220 6)) ∧ c_221 2 = .inl (cs 1, 5, .inl (fun _ => 0)) ∧ c_221 3 = .inl (cs 1, 5, .inl (fun _ => 0)) ∧ c_221 4 = .inl (cs 1, 5, .inl (fun _ => 0)) ∧ c_221 5 = .inl (cs 1, 5, .inl (fun _ => 0)) ∧ c_221 6 = .inl (cs 1, 5, .inl (fun _ => 0))) (ead_224 : ad_224 = ct ad_213 189 a_220) (eg_225 : g_225 = ct g_214 189 c_221) : FrX cs (ct (fun _ => h0) 1 ad_224) (ct (fun _ => .inr (11, [.ref q_1, .ref q_8, .ref q_15, .ref q_22, .ref q_66, .ref q_71, .ref q_142, .ref q_153, .ref q_164, .ref q_175, .ref q_186, .ref q_197, .ref q_208, .ref q_219])) 1 g_225) := by
  have B1 : bk ad_6 g_7 0 a_2 c_3 2 := bk_new ead_6 eg_7
  replace B1 : bk ad_13 g_14 0 a_2 c_3 2 := bk_old ead_13 eg_14 B1 (by decide)
  have B3 : bk ad_13 g_14 2 a_9 c_10 20 := bk_new ead_13 eg_14
  replace B1 : bk ad_20 g_21 0 a_2 c_3 2 := bk_old ead_20 eg_21 B1 (by decide)
  replace B3 : bk ad_20 g_21 2 a_9 c_10 20 := bk_old ead_20 eg_21 B3 (by decide)
  have B23 : bk ad_20 g_21 22 a_16 c_17 20 := bk_new ead_20 eg_21
  replace B1 : bk ad_23 g_24 0 a_2 c_3 2 := bk_old ead_23 eg_24 B1 (by decide)
  replace B3 : bk ad_23 g_24 2 a_9 c_10 20 := bk_old ead_23 eg_24 B3 (by decide)
  replace B23 : bk ad_23 g_24 22 a_16 c_17 20 := bk_old ead_23 eg_24 B23 (by decide)
  have B43 : bk ad_23 g_24 42 (fun _ => q_22) (fun _ => .inl (cs 5, 3, .inr (.inr (.inr (.inr (fun _ => none)))))) 1 := bk_new ead_23 eg_24
  replace B1 : bk ad_32 g_33 0 a_2 c_3 2 := bk_old ead_32 eg_33 B1 (by decide)
  replace B3 : bk ad_32 g_33 2 a_9 c_10 20 := bk_old ead_32 eg_33 B3 (by decide)
  replace B23 : bk ad_32 g_33 22 a_16 c_17 20 := bk_old ead_32 eg_33 B23 (by decide)
  replace B43 : bk ad_32 g_33 42 (fun _ => q_22) (fun _ => .inl (cs 5, 3, .inr (.inr (.inr (.inr (fun _ => none)))))) 1 := bk_old ead_32 eg_33 B43 (by decide)
  have B44 : bk ad_32 g_33 43 a_28 c_29 20 := bk_new ead_32 eg_33
  replace B1 : bk ad_32 g_36 0 a_2 c_3 2 := bk_up eg_36 B1 (by decide)
  replace B3 : bk ad_32 g_36 2 a_9 c_10 20 := bk_up eg_36 B3 (by decide)
  replace B23 : bk ad_32 g_36 22 a_16 c_17 20 := bk_up eg_36 B23 (by decide)
  replace B43 : bk ad_32 g_36 42 (fun _ => q_22) (fun _ => (.inl (cs 5, 3, .inr (.inr (.inr (.inr (va_up (fun _ => none) (Int32.toNatClampNeg 0) (some q_27)))))))) 1 := bk_at eg_36 B43
  replace B44 : bk ad_32 g_36 43 a_28 c_29 20 := bk_up eg_36 B44 (by decide)
  replace B1 : bk ad_45 g_46 0 a_2 c_3 2 := bk_old ead_45 eg_46 B1 (by decide)
  replace B3 : bk ad_45 g_46 2 a_9 c_10 20 := bk_old ead_45 eg_46 B3 (by decide)
  replace B23 : bk ad_45 g_46 22 a_16 c_17 20 := bk_old ead_45 eg_46 B23 (by decide)
  replace B43 : bk ad_45 g_46 42 (fun _ => q_22) (fun _ => (.inl (cs 5, 3, .inr (.inr (.inr (.inr (va_up (fun _ => none) (Int32.toNatClampNeg 0) (some q_27)))))))) 1 := bk_old ead_45 eg_46 B43 (by decide)
  replace B44 : bk ad_45 g_46 43 a_28 c_29 20 := bk_old ead_45 eg_46 B44 (by decide)
  have B64 : bk ad_45 g_46 63 a_41 c_42 20 := bk_new ead_45 eg_46
  replace B1 : bk ad_45 g_49 0 a_2 c_3 2 := bk_up eg_49 B1 (by decide)
  replace B3 : bk ad_45 g_49 2 a_9 c_10 20 := bk_up eg_49 B3 (by decide)
  replace B23 : bk ad_45 g_49 22 a_16 c_17 20 := bk_up eg_49 B23 (by decide)
  replace B43 : bk ad_45 g_49 42 (fun _ => q_22) (fun _ => (.inl (cs 5, 3, .inr (.inr (.inr (.inr (va_up (va_up (fun _ => none) (Int32.toNatClampNeg 0) (some q_27)) (Int32.toNatClampNeg 1) (some q_40)))))))) 1 := bk_at eg_49 B43
  replace B44 : bk ad_45 g_49 43 a_28 c_29 20 := bk_up eg_49 B44 (by decide)
  replace B64 : bk ad_45 g_49 63 a_41 c_42 20 := bk_up eg_49 B64 (by decide)
  replace B1 : bk ad_58 g_59 0 a_2 c_3 2 := bk_old ead_58 eg_59 B1 (by decide)
  replace B3 : bk ad_58 g_59 2 a_9 c_10 20 := bk_old ead_58 eg_59 B3 (by decide)
  replace B23 : bk ad_58 g_59 22 a_16 c_17 20 := bk_old ead_58 eg_59 B23 (by decide)
  replace B43 : bk ad_58 g_59 42 (fun _ => q_22) (fun _ => (.inl (cs 5, 3, .inr (.inr (.inr (.inr (va_up (va_up (fun _ => none) (Int32.toNatClampNeg 0) (some q_27)) (Int32.toNatClampNeg 1) (some q_40)))))))) 1 := bk_old ead_58 eg_59 B43 (by decide)
  replace B44 : bk ad_58 g_59 43 a_28 c_29 20 := bk_old ead_58 eg_59 B44 (by decide)
  replace B64 : bk ad_58 g_59 63 a_41 c_42 20 := bk_old ead_58 eg_59 B64 (by decide)
  have B84 : bk ad_58 g_59 83 a_54 c_55 20 := bk_new ead_58 eg_59
  replace B1 : bk ad_58 g_62 0 a_2 c_3 2 := bk_up eg_62 B1 (by decide)
  replace B3 : bk ad_58 g_62 2 a_9 c_10 20 := bk_up eg_62 B3 (by decide)
  replace B23 : bk ad_58 g_62 22 a_16 c_17 20 := bk_up eg_62 B23 (by decide)
  replace B43 : bk ad_58 g_62 42 (fun _ => q_22) (fun _ => (.inl (cs 5, 3, .inr (.inr (.inr (.inr (va_up (va_up (va_up (fun _ => none) (Int32.toNatClampNeg 0) (some q_27)) (Int32.toNatClampNeg 1) (some q_40)) (Int32.toNatClampNeg 2) (some q_53)))))))) 1 := bk_at eg_62 B43
  replace B44 : bk ad_58 g_62 43 a_28 c_29 20 := bk_up eg_62 B44 (by decide)
  replace B64 : bk ad_58 g_62 63 a_41 c_42 20 := bk_up eg_62 B64 (by decide)
  replace B84 : bk ad_58 g_62 83 a_54 c_55 20 := bk_up eg_62 B84 (by decide)
  replace B1 : bk ad_67 g_68 0 a_2 c_3 2 := bk_old ead_67 eg_68 B1 (by decide)
  replace B3 : bk ad_67 g_68 2 a_9 c_10 20 := bk_old ead_67 eg_68 B3 (by decide)
  replace B23 : bk ad_67 g_68 22 a_16 c_17 20 := bk_old ead_67 eg_68 B23 (by decide)
  replace B43 : bk ad_67 g_68 42 (fun _ => q_22) (fun _ => (.inl (cs 5, 3, .inr (.inr (.inr (.inr (va_up (va_up (va_up (fun _ => none) (Int32.toNatClampNeg 0) (some q_27)) (Int32.toNatClampNeg 1) (some q_40)) (Int32.toNatClampNeg 2) (some q_53)))))))) 1 := bk_old ead_67 eg_68 B43 (by decide)
  replace B44 : bk ad_67 g_68 43 a_28 c_29 20 := bk_old ead_67 eg_68 B44 (by decide)
  replace B64 : bk ad_67 g_68 63 a_41 c_42 20 := bk_old ead_67 eg_68 B64 (by decide)
  replace B84 : bk ad_67 g_68 83 a_54 c_55 20 := bk_old ead_67 eg_68 B84 (by decide)
  have B104 : bk ad_67 g_68 103 (fun _ => q_66) (fun _ => .inl (cs 3, 3, .inl (fun _ => 0))) 1 := bk_new ead_67 eg_68
  replace B1 : bk ad_72 g_73 0 a_2 c_3 2 := bk_old ead_72 eg_73 B1 (by decide)
  replace B3 : bk ad_72 g_73 2 a_9 c_10 20 := bk_old ead_72 eg_73 B3 (by decide)
  replace B23 : bk ad_72 g_73 22 a_16 c_17 20 := bk_old ead_72 eg_73 B23 (by decide)
  replace B43 : bk ad_72 g_73 42 (fun _ => q_22) (fun _ => (.inl (cs 5, 3, .inr (.inr (.inr (.inr (va_up (va_up (va_up (fun _ => none) (Int32.toNatClampNeg 0) (some q_27)) (Int32.toNatClampNeg 1) (some q_40)) (Int32.toNatClampNeg 2) (some q_53)))))))) 1 := bk_old ead_72 eg_73 B43 (by decide)
  replace B44 : bk ad_72 g_73 43 a_28 c_29 20 := bk_old ead_72 eg_73 B44 (by decide)
  replace B64 : bk ad_72 g_73 63 a_41 c_42 20 := bk_old ead_72 eg_73 B64 (by decide)
  replace B84 : bk ad_72 g_73 83 a_54 c_55 20 := bk_old ead_72 eg_73 B84 (by decide)
  replace B104 : bk ad_72 g_73 103 (fun _ => q_66) (fun _ => .inl (cs 3, 3, .inl (fun _ => 0))) 1 := bk_old ead_72 eg_73 B104 (by decide)
  have B105 : bk ad_72 g_73 104 (fun _ => q_71) (fun _ => .inl (cs 4, 4, .inr (.inr (.inr (.inr (fun _ => none)))))) 1 := bk_new ead_72 eg_73
  replace B1 : bk ad_83 g_84 0 a_2 c_3 2 := bk_old ead_83 eg_84 B1 (by decide)
  replace B3 : bk ad_83 g_84 2 a_9 c_10 20 := bk_old ead_83 eg_84 B3 (by decide)
  replace B23 : bk ad_83 g_84 22 a_16 c_17 20 := bk_old ead_83 eg_84 B23 (by decide)
  replace B43 : bk ad_83 g_84 42 (fun _ => q_22) (fun _ => (.inl (cs 5, 3, .inr (.inr (.inr (.inr (va_up (va_up (va_up (fun _ => none) (Int32.toNatClampNeg 0) (some q_27)) (Int32.toNatClampNeg 1) (some q_40)) (Int32.toNatClampNeg 2) (some q_53)))))))) 1 := bk_old ead_83 eg_84 B43 (by decide)
  replace B44 : bk ad_83 g_84 43 a_28 c_29 20 := bk_old ead_83 eg_84 B44 (by decide)
  replace B64 : bk ad_83 g_84 63 a_41 c_42 20 := bk_old ead_83 eg_84 B64 (by decide)
  replace B84 : bk ad_83 g_84 83 a_54 c_55 20 := bk_old ead_83 eg_84 B84 (by decide)
  replace B104 : bk ad_83 g_84 103 (fun _ => q_66) (fun _ => .inl (cs 3, 3, .inl (fun _ => 0))) 1 := bk_old ead_83 eg_84 B104 (by decide)
  replace B105 : bk ad_83 g_84 104 (fun _ => q_71) (fun _ => .inl (cs 4, 4, .inr (.inr (.inr (.inr (fun _ => none)))))) 1 := bk_old ead_83 eg_84 B105 (by decide)
  have B106 : bk ad_83 g_84 105 a_79 c_80 2 := bk_new ead_83 eg_84
  replace B1 : bk ad_83 g_89 0 a_2 c_3 2 := bk_up eg_89 B1 (by decide)
  replace B3 : bk ad_83 g_89 2 a_9 c_10 20 := bk_up eg_89 B3 (by decide)
  replace B23 : bk ad_83 g_89 22 a_16 c_17 20 := bk_up eg_89 B23 (by decide)
  replace B43 : bk ad_83 g_89 42 (fun _ => q_22) (fun _ => (.inl (cs 5, 3, .inr (.inr (.inr (.inr (va_up (va_up (va_up (fun _ => none) (Int32.toNatClampNeg 0) (some q_27)) (Int32.toNatClampNeg 1) (some q_40)) (Int32.toNatClampNeg 2) (some q_53)))))))) 1 := bk_up eg_89 B43 (by decide)
  replace B44 : bk ad_83 g_89 43 a_28 c_29 20 := bk_up eg_89 B44 (by decide)
  replace B64 : bk ad_83 g_89 63 a_41 c_42 20 := bk_up eg_89 B64 (by decide)
  replace B84 : bk ad_83 g_89 83 a_54 c_55 20 := bk_up eg_89 B84 (by decide)
  replace B104 : bk ad_83 g_89 103 (fun _ => q_66) (fun _ => .inl (cs 3, 3, .inl (fun _ => 0))) 1 := bk_up eg_89 B104 (by decide)
  replace B105 : bk ad_83 g_89 104 (fun _ => q_71) (fun _ => (.inl (cs 4, 4, .inr (.inr (.inr (.inr (va_up (fun _ => none) (Int32.toNatClampNeg 0) (some q_78)))))))) 1 := bk_at eg_89 B105
  replace B106 : bk ad_83 g_89 105 a_79 c_80 2 := bk_up eg_89 B106 (by decide)
  replace B1 : bk ad_99 g_100 0 a_2 c_3 2 := bk_old ead_99 eg_100 B1 (by decide)
  replace B3 : bk ad_99 g_100 2 a_9 c_10 20 := bk_old ead_99 eg_100 B3 (by decide)
  replace B23 : bk ad_99 g_100 22 a_16 c_17 20 := bk_old ead_99 eg_100 B23 (by decide)
  replace B43 : bk ad_99 g_100 42 (fun _ => q_22) (fun _ => (.inl (cs 5, 3, .inr (.inr (.inr (.inr (va_up (va_up (va_up (fun _ => none) (Int32.toNatClampNeg 0) (some q_27)) (Int32.toNatClampNeg 1) (some q_40)) (Int32.toNatClampNeg 2) (some q_53)))))))) 1 := bk_old ead_99 eg_100 B43 (by decide)
  replace B44 : bk ad_99 g_100 43 a_28 c_29 20 := bk_old ead_99 eg_100 B44 (by decide)
  replace B64 : bk ad_99 g_100 63 a_41 c_42 20 := bk_old ead_99 eg_100 B64 (by decide)
  replace B84 : bk ad_99 g_100 83 a_54 c_55 20 := bk_old ead_99 eg_100 B84 (by decide)
  replace B104 : bk ad_99 g_100 103 (fun _ => q_66) (fun _ => .inl (cs 3, 3, .inl (fun _ => 0))) 1 := bk_old ead_99 eg_100 B104 (by decide)
  replace B105 : bk ad_99 g_100 104 (fun _ => q_71) (fun _ => (.inl (cs 4, 4, .inr (.inr (.inr (.inr (va_up (fun _ => none) (Int32.toNatClampNeg 0) (some q_78)))))))) 1 := bk_old ead_99 eg_100 B105 (by decide)
  replace B106 : bk ad_99 g_100 105 a_79 c_80 2 := bk_old ead_99 eg_100 B106 (by decide)
  have B108 : bk ad_99 g_100 107 a_95 c_96 2 := bk_new ead_99 eg_100
  replace B1 : bk ad_99 g_105 0 a_2 c_3 2 := bk_up eg_105 B1 (by decide)
  replace B3 : bk ad_99 g_105 2 a_9 c_10 20 := bk_up eg_105 B3 (by decide)
  replace B23 : bk ad_99 g_105 22 a_16 c_17 20 := bk_up eg_105 B23 (by decide)
  replace B43 : bk ad_99 g_105 42 (fun _ => q_22) (fun _ => (.inl (cs 5, 3, .inr (.inr (.inr (.inr (va_up (va_up (va_up (fun _ => none) (Int32.toNatClampNeg 0) (some q_27)) (Int32.toNatClampNeg 1) (some q_40)) (Int32.toNatClampNeg 2) (some q_53)))))))) 1 := bk_up eg_105 B43 (by decide)
  replace B44 : bk ad_99 g_105 43 a_28 c_29 20 := bk_up eg_105 B44 (by decide)
  replace B64 : bk ad_99 g_105 63 a_41 c_42 20 := bk_up eg_105 B64 (by decide)
  replace B84 : bk ad_99 g_105 83 a_54 c_55 20 := bk_up eg_105 B84 (by decide)
  replace B104 : bk ad_99 g_105 103 (fun _ => q_66) (fun _ => .inl (cs 3, 3, .inl (fun _ => 0))) 1 := bk_up eg_105 B104 (by decide)
  replace B105 : bk ad_99 g_105 104 (fun _ => q_71) (fun _ => (.inl (cs 4, 4, .inr (.inr (.inr (.inr (va_up (va_up (fun _ => none) (Int32.toNatClampNeg 0) (some q_78)) (Int32.toNatClampNeg 1) (some q_94)))))))) 1 := bk_at eg_105 B105
  replace B106 : bk ad_99 g_105 105 a_79 c_80 2 := bk_up eg_105 B106 (by decide)
  replace B108 : bk ad_99 g_105 107 a_95 c_96 2 := bk_up eg_105 B108 (by decide)
  replace B1 : bk ad_115 g_116 0 a_2 c_3 2 := bk_old ead_115 eg_116 B1 (by decide)
  replace B3 : bk ad_115 g_116 2 a_9 c_10 20 := bk_old ead_115 eg_116 B3 (by decide)
  replace B23 : bk ad_115 g_116 22 a_16 c_17 20 := bk_old ead_115 eg_116 B23 (by decide)
  replace B43 : bk ad_115 g_116 42 (fun _ => q_22) (fun _ => (.inl (cs 5, 3, .inr (.inr (.inr (.inr (va_up (va_up (va_up (fun _ => none) (Int32.toNatClampNeg 0) (some q_27)) (Int32.toNatClampNeg 1) (some q_40)) (Int32.toNatClampNeg 2) (some q_53)))))))) 1 := bk_old ead_115 eg_116 B43 (by decide)
  replace B44 : bk ad_115 g_116 43 a_28 c_29 20 := bk_old ead_115 eg_116 B44 (by decide)
  replace B64 : bk ad_115 g_116 63 a_41 c_42 20 := bk_old ead_115 eg_116 B64 (by decide)
  replace B84 : bk ad_115 g_116 83 a_54 c_55 20 := bk_old ead_115 eg_116 B84 (by decide)
  replace B104 : bk ad_115 g_116 103 (fun _ => q_66) (fun _ => .inl (cs 3, 3, .inl (fun _ => 0))) 1 := bk_old ead_115 eg_116 B104 (by decide)
  replace B105 : bk ad_115 g_116 104 (fun _ => q_71) (fun _ => (.inl (cs 4, 4, .inr (.inr (.inr (.inr (va_up (va_up (fun _ => none) (Int32.toNatClampNeg 0) (some q_78)) (Int32.toNatClampNeg 1) (some q_94)))))))) 1 := bk_old ead_115 eg_116 B105 (by decide)
  replace B106 : bk ad_115 g_116 105 a_79 c_80 2 := bk_old ead_115 eg_116 B106 (by decide)
  replace B108 : bk ad_115 g_116 107 a_95 c_96 2 := bk_old ead_115 eg_116 B108 (by decide)
  have B110 : bk ad_115 g_116 109 a_111 c_112 2 := bk_new ead_115 eg_116
  replace B1 : bk ad_115 g_121 0 a_2 c_3 2 := bk_up eg_121 B1 (by decide)
  replace B3 : bk ad_115 g_121 2 a_9 c_10 20 := bk_up eg_121 B3 (by decide)
  replace B23 : bk ad_115 g_121 22 a_16 c_17 20 := bk_up eg_121 B23 (by decide)
  replace B43 : bk ad_115 g_121 42 (fun _ => q_22) (fun _ => (.inl (cs 5, 3, .inr (.inr (.inr (.inr (va_up (va_up (va_up (fun _ => none) (Int32.toNatClampNeg 0) (some q_27)) (Int32.toNatClampNeg 1) (some q_40)) (Int32.toNatClampNeg 2) (some q_53)))))))) 1 := bk_up eg_121 B43 (by decide)
  replace B44 : bk ad_115 g_121 43 a_28 c_29 20 := bk_up eg_121 B44 (by decide)
  replace B64 : bk ad_115 g_121 63 a_41 c_42 20 := bk_up eg_121 B64 (by decide)
  replace B84 : bk ad_115 g_121 83 a_54 c_55 20 := bk_up eg_121 B84 (by decide)
  replace B104 : bk ad_115 g_121 103 (fun _ => q_66) (fun _ => .inl (cs 3, 3, .inl (fun _ => 0))) 1 := bk_up eg_121 B104 (by decide)
  replace B105 : bk ad_115 g_121 104 (fun _ => q_71) (fun _ => (.inl (cs 4, 4, .inr (.inr (.inr (.inr (va_up (va_up (va_up (fun _ => none) (Int32.toNatClampNeg 0) (some q_78)) (Int32.toNatClampNeg 1) (some q_94)) (Int32.toNatClampNeg 2) (some q_110)))))))) 1 := bk_at eg_121 B105
  replace B106 : bk ad_115 g_121 105 a_79 c_80 2 := bk_up eg_121 B106 (by decide)
  replace B108 : bk ad_115 g_121 107 a_95 c_96 2 := bk_up eg_121 B108 (by decide)
  replace B110 : bk ad_115 g_121 109 a_111 c_112 2 := bk_up eg_121 B110 (by decide)
  replace B1 : bk ad_131 g_132 0 a_2 c_3 2 := bk_old ead_131 eg_132 B1 (by decide)
  replace B3 : bk ad_131 g_132 2 a_9 c_10 20 := bk_old ead_131 eg_132 B3 (by decide)
  replace B23 : bk ad_131 g_132 22 a_16 c_17 20 := bk_old ead_131 eg_132 B23 (by decide)
  replace B43 : bk ad_131 g_132 42 (fun _ => q_22) (fun _ => (.inl (cs 5, 3, .inr (.inr (.inr (.inr (va_up (va_up (va_up (fun _ => none) (Int32.toNatClampNeg 0) (some q_27)) (Int32.toNatClampNeg 1) (some q_40)) (Int32.toNatClampNeg 2) (some q_53)))))))) 1 := bk_old ead_131 eg_132 B43 (by decide)
  replace B44 : bk ad_131 g_132 43 a_28 c_29 20 := bk_old ead_131 eg_132 B44 (by decide)
  replace B64 : bk ad_131 g_132 63 a_41 c_42 20 := bk_old ead_131 eg_132 B64 (by decide)
  replace B84 : bk ad_131 g_132 83 a_54 c_55 20 := bk_old ead_131 eg_132 B84 (by decide)
  replace B104 : bk ad_131 g_132 103 (fun _ => q_66) (fun _ => .inl (cs 3, 3, .inl (fun _ => 0))) 1 := bk_old ead_131 eg_132 B104 (by decide)
  replace B105 : bk ad_131 g_132 104 (fun _ => q_71) (fun _ => (.inl (cs 4, 4, .inr (.inr (.inr (.inr (va_up (va_up (va_up (fun _ => none) (Int32.toNatClampNeg 0) (some q_78)) (Int32.toNatClampNeg 1) (some q_94)) (Int32.toNatClampNeg 2) (some q_110)))))))) 1 := bk_old ead_131 eg_132 B105 (by decide)
  replace B106 : bk ad_131 g_132 105 a_79 c_80 2 := bk_old ead_131 eg_132 B106 (by decide)
  replace B108 : bk ad_131 g_132 107 a_95 c_96 2 := bk_old ead_131 eg_132 B108 (by decide)
  replace B110 : bk ad_131 g_132 109 a_111 c_112 2 := bk_old ead_131 eg_132 B110 (by decide)
  have B112 : bk ad_131 g_132 111 a_127 c_128 2 := bk_new ead_131 eg_132
  replace B1 : bk ad_131 g_137 0 a_2 c_3 2 := bk_up eg_137 B1 (by decide)
  replace B3 : bk ad_131 g_137 2 a_9 c_10 20 := bk_up eg_137 B3 (by decide)
  replace B23 : bk ad_131 g_137 22 a_16 c_17 20 := bk_up eg_137 B23 (by decide)
  replace B43 : bk ad_131 g_137 42 (fun _ => q_22) (fun _ => (.inl (cs 5, 3, .inr (.inr (.inr (.inr (va_up (va_up (va_up (fun _ => none) (Int32.toNatClampNeg 0) (some q_27)) (Int32.toNatClampNeg 1) (some q_40)) (Int32.toNatClampNeg 2) (some q_53)))))))) 1 := bk_up eg_137 B43 (by decide)
  replace B44 : bk ad_131 g_137 43 a_28 c_29 20 := bk_up eg_137 B44 (by decide)
  replace B64 : bk ad_131 g_137 63 a_41 c_42 20 := bk_up eg_137 B64 (by decide)
  replace B84 : bk ad_131 g_137 83 a_54 c_55 20 := bk_up eg_137 B84 (by decide)
  replace B104 : bk ad_131 g_137 103 (fun _ => q_66) (fun _ => .inl (cs 3, 3, .inl (fun _ => 0))) 1 := bk_up eg_137 B104 (by decide)
  replace B105 : bk ad_131 g_137 104 (fun _ => q_71) (fun _ => (.inl (cs 4, 4, .inr (.inr (.inr (.inr (va_up (va_up (va_up (va_up (fun _ => none) (Int32.toNatClampNeg 0) (some q_78)) (Int32.toNatClampNeg 1) (some q_94)) (Int32.toNatClampNeg 2) (some q_110)) (Int32.toNatClampNeg 3) (some q_126)))))))) 1 := bk_at eg_137 B105
  replace B106 : bk ad_131 g_137 105 a_79 c_80 2 := bk_up eg_137 B106 (by decide)
  replace B108 : bk ad_131 g_137 107 a_95 c_96 2 := bk_up eg_137 B108 (by decide)
  replace B110 : bk ad_131 g_137 109 a_111 c_112 2 := bk_up eg_137 B110 (by decide)
  replace B112 : bk ad_131 g_137 111 a_127 c_128 2 := bk_up eg_137 B112 (by decide)
  replace B1 : bk ad_147 g_148 0 a_2 c_3 2 := bk_old ead_147 eg_148 B1 (by decide)
  replace B3 : bk ad_147 g_148 2 a_9 c_10 20 := bk_old ead_147 eg_148 B3 (by decide)
  replace B23 : bk ad_147 g_148 22 a_16 c_17 20 := bk_old ead_147 eg_148 B23 (by decide)
  replace B43 : bk ad_147 g_148 42 (fun _ => q_22) (fun _ => (.inl (cs 5, 3, .inr (.inr (.inr (.inr (va_up (va_up (va_up (fun _ => none) (Int32.toNatClampNeg 0) (some q_27)) (Int32.toNatClampNeg 1) (some q_40)) (Int32.toNatClampNeg 2) (some q_53)))))))) 1 := bk_old ead_147 eg_148 B43 (by decide)
  replace B44 : bk ad_147 g_148 43 a_28 c_29 20 := bk_old ead_147 eg_148 B44 (by decide)
  replace B64 : bk ad_147 g_148 63 a_41 c_42 20 := bk_old ead_147 eg_148 B64 (by decide)
  replace B84 : bk ad_147 g_148 83 a_54 c_55 20 := bk_old ead_147 eg_148 B84 (by decide)
  replace B104 : bk ad_147 g_148 103 (fun _ => q_66) (fun _ => .inl (cs 3, 3, .inl (fun _ => 0))) 1 := bk_old ead_147 eg_148 B104 (by decide)
  replace B105 : bk ad_147 g_148 104 (fun _ => q_71) (fun _ => (.inl (cs 4, 4, .inr (.inr (.inr (.inr (va_up (va_up (va_up (va_up (fun _ => none) (Int32.toNatClampNeg 0) (some q_78)) (Int32.toNatClampNeg 1) (some q_94)) (Int32.toNatClampNeg 2) (some q_110)) (Int32.toNatClampNeg 3) (some q_126)))))))) 1 := bk_old ead_147 eg_148 B105 (by decide)
  replace B106 : bk ad_147 g_148 105 a_79 c_80 2 := bk_old ead_147 eg_148 B106 (by decide)
  replace B108 : bk ad_147 g_148 107 a_95 c_96 2 := bk_old ead_147 eg_148 B108 (by decide)
  replace B110 : bk ad_147 g_148 109 a_111 c_112 2 := bk_old ead_147 eg_148 B110 (by decide)
  replace B112 : bk ad_147 g_148 111 a_127 c_128 2 := bk_old ead_147 eg_148 B112 (by decide)
  have B114 : bk ad_147 g_148 113 a_143 c_144 2 := bk_new ead_147 eg_148
  replace B1 : bk ad_158 g_159 0 a_2 c_3 2 := bk_old ead_158 eg_159 B1 (by decide)
  replace B3 : bk ad_158 g_159 2 a_9 c_10 20 := bk_old ead_158 eg_159 B3 (by decide)
  replace B23 : bk ad_158 g_159 22 a_16 c_17 20 := bk_old ead_158 eg_159 B23 (by decide)
  replace B43 : bk ad_158 g_159 42 (fun _ => q_22) (fun _ => (.inl (cs 5, 3, .inr (.inr (.inr (.inr (va_up (va_up (va_up (fun _ => none) (Int32.toNatClampNeg 0) (some q_27)) (Int32.toNatClampNeg 1) (some q_40)) (Int32.toNatClampNeg 2) (some q_53)))))))) 1 := bk_old ead_158 eg_159 B43 (by decide)
  replace B44 : bk ad_158 g_159 43 a_28 c_29 20 := bk_old ead_158 eg_159 B44 (by decide)
  replace B64 : bk ad_158 g_159 63 a_41 c_42 20 := bk_old ead_158 eg_159 B64 (by decide)
  replace B84 : bk ad_158 g_159 83 a_54 c_55 20 := bk_old ead_158 eg_159 B84 (by decide)
  replace B104 : bk ad_158 g_159 103 (fun _ => q_66) (fun _ => .inl (cs 3, 3, .inl (fun _ => 0))) 1 := bk_old ead_158 eg_159 B104 (by decide)
  replace B105 : bk ad_158 g_159 104 (fun _ => q_71) (fun _ => (.inl (cs 4, 4, .inr (.inr (.inr (.inr (va_up (va_up (va_up (va_up (fun _ => none) (Int32.toNatClampNeg 0) (some q_78)) (Int32.toNatClampNeg 1) (some q_94)) (Int32.toNatClampNeg 2) (some q_110)) (Int32.toNatClampNeg 3) (some q_126)))))))) 1 := bk_old ead_158 eg_159 B105 (by decide)
  replace B106 : bk ad_158 g_159 105 a_79 c_80 2 := bk_old ead_158 eg_159 B106 (by decide)
  replace B108 : bk ad_158 g_159 107 a_95 c_96 2 := bk_old ead_158 eg_159 B108 (by decide)
  replace B110 : bk ad_158 g_159 109 a_111 c_112 2 := bk_old ead_158 eg_159 B110 (by decide)
  replace B112 : bk ad_158 g_159 111 a_127 c_128 2 := bk_old ead_158 eg_159 B112 (by decide)
  replace B114 : bk ad_158 g_159 113 a_143 c_144 2 := bk_old ead_158 eg_159 B114 (by decide)
  have B116 : bk ad_158 g_159 115 a_154 c_155 2 := bk_new ead_158 eg_159
  replace B1 : bk ad_169 g_170 0 a_2 c_3 2 := bk_old ead_169 eg_170 B1 (by decide)
  replace B3 : bk ad_169 g_170 2 a_9 c_10 20 := bk_old ead_169 eg_170 B3 (by decide)
  replace B23 : bk ad_169 g_170 22 a_16 c_17 20 := bk_old ead_169 eg_170 B23 (by decide)
  replace B43 : bk ad_169 g_170 42 (fun _ => q_22) (fun _ => (.inl (cs 5, 3, .inr (.inr (.inr (.inr (va_up (va_up (va_up (fun _ => none) (Int32.toNatClampNeg 0) (some q_27)) (Int32.toNatClampNeg 1) (some q_40)) (Int32.toNatClampNeg 2) (some q_53)))))))) 1 := bk_old ead_169 eg_170 B43 (by decide)
  replace B44 : bk ad_169 g_170 43 a_28 c_29 20 := bk_old ead_169 eg_170 B44 (by decide)
  replace B64 : bk ad_169 g_170 63 a_41 c_42 20 := bk_old ead_169 eg_170 B64 (by decide)
  replace B84 : bk ad_169 g_170 83 a_54 c_55 20 := bk_old ead_169 eg_170 B84 (by decide)
  replace B104 : bk ad_169 g_170 103 (fun _ => q_66) (fun _ => .inl (cs 3, 3, .inl (fun _ => 0))) 1 := bk_old ead_169 eg_170 B104 (by decide)
  replace B105 : bk ad_169 g_170 104 (fun _ => q_71) (fun _ => (.inl (cs 4, 4, .inr (.inr (.inr (.inr (va_up (va_up (va_up (va_up (fun _ => none) (Int32.toNatClampNeg 0) (some q_78)) (Int32.toNatClampNeg 1) (some q_94)) (Int32.toNatClampNeg 2) (some q_110)) (Int32.toNatClampNeg 3) (some q_126)))))))) 1 := bk_old ead_169 eg_170 B105 (by decide)
  replace B106 : bk ad_169 g_170 105 a_79 c_80 2 := bk_old ead_169 eg_170 B106 (by decide)
  replace B108 : bk ad_169 g_170 107 a_95 c_96 2 := bk_old ead_169 eg_170 B108 (by decide)
  replace B110 : bk ad_169 g_170 109 a_111 c_112 2 := bk_old ead_169 eg_170 B110 (by decide)
  replace B112 : bk ad_169 g_170 111 a_127 c_128 2 := bk_old ead_169 eg_170 B112 (by decide)
  replace B114 : bk ad_169 g_170 113 a_143 c_144 2 := bk_old ead_169 eg_170 B114 (by decide)
  replace B116 : bk ad_169 g_170 115 a_154 c_155 2 := bk_old ead_169 eg_170 B116 (by decide)
  have B118 : bk ad_169 g_170 117 a_165 c_166 2 := bk_new ead_169 eg_170
  replace B1 : bk ad_180 g_181 0 a_2 c_3 2 := bk_old ead_180 eg_181 B1 (by decide)
  replace B3 : bk ad_180 g_181 2 a_9 c_10 20 := bk_old ead_180 eg_181 B3 (by decide)
  replace B23 : bk ad_180 g_181 22 a_16 c_17 20 := bk_old ead_180 eg_181 B23 (by decide)
  replace B43 : bk ad_180 g_181 42 (fun _ => q_22) (fun _ => (.inl (cs 5, 3, .inr (.inr (.inr (.inr (va_up (va_up (va_up (fun _ => none) (Int32.toNatClampNeg 0) (some q_27)) (Int32.toNatClampNeg 1) (some q_40)) (Int32.toNatClampNeg 2) (some q_53)))))))) 1 := bk_old ead_180 eg_181 B43 (by decide)
  replace B44 : bk ad_180 g_181 43 a_28 c_29 20 := bk_old ead_180 eg_181 B44 (by decide)
  replace B64 : bk ad_180 g_181 63 a_41 c_42 20 := bk_old ead_180 eg_181 B64 (by decide)
  replace B84 : bk ad_180 g_181 83 a_54 c_55 20 := bk_old ead_180 eg_181 B84 (by decide)
  replace B104 : bk ad_180 g_181 103 (fun _ => q_66) (fun _ => .inl (cs 3, 3, .inl (fun _ => 0))) 1 := bk_old ead_180 eg_181 B104 (by decide)
  replace B105 : bk ad_180 g_181 104 (fun _ => q_71) (fun _ => (.inl (cs 4, 4, .inr (.inr (.inr (.inr (va_up (va_up (va_up (va_up (fun _ => none) (Int32.toNatClampNeg 0) (some q_78)) (Int32.toNatClampNeg 1) (some q_94)) (Int32.toNatClampNeg 2) (some q_110)) (Int32.toNatClampNeg 3) (some q_126)))))))) 1 := bk_old ead_180 eg_181 B105 (by decide)
  replace B106 : bk ad_180 g_181 105 a_79 c_80 2 := bk_old ead_180 eg_181 B106 (by decide)
  replace B108 : bk ad_180 g_181 107 a_95 c_96 2 := bk_old ead_180 eg_181 B108 (by decide)
  replace B110 : bk ad_180 g_181 109 a_111 c_112 2 := bk_old ead_180 eg_181 B110 (by decide)
  replace B112 : bk ad_180 g_181 111 a_127 c_128 2 := bk_old ead_180 eg_181 B112 (by decide)
  replace B114 : bk ad_180 g_181 113 a_143 c_144 2 := bk_old ead_180 eg_181 B114 (by decide)
  replace B116 : bk ad_180 g_181 115 a_154 c_155 2 := bk_old ead_180 eg_181 B116 (by decide)
  replace B118 : bk ad_180 g_181 117 a_165 c_166 2 := bk_old ead_180 eg_181 B118 (by decide)
  have B120 : bk ad_180 g_181 119 a_176 c_177 10 := bk_new ead_180 eg_181
  replace B1 : bk ad_191 g_192 0 a_2 c_3 2 := bk_old ead_191 eg_192 B1 (by decide)
  replace B3 : bk ad_191 g_192 2 a_9 c_10 20 := bk_old ead_191 eg_192 B3 (by decide)
  replace B23 : bk ad_191 g_192 22 a_16 c_17 20 := bk_old ead_191 eg_192 B23 (by decide)
  replace B43 : bk ad_191 g_192 42 (fun _ => q_22) (fun _ => (.inl (cs 5, 3, .inr (.inr (.inr (.inr (va_up (va_up (va_up (fun _ => none) (Int32.toNatClampNeg 0) (some q_27)) (Int32.toNatClampNeg 1) (some q_40)) (Int32.toNatClampNeg 2) (some q_53)))))))) 1 := bk_old ead_191 eg_192 B43 (by decide)
  replace B44 : bk ad_191 g_192 43 a_28 c_29 20 := bk_old ead_191 eg_192 B44 (by decide)
  replace B64 : bk ad_191 g_192 63 a_41 c_42 20 := bk_old ead_191 eg_192 B64 (by decide)
  replace B84 : bk ad_191 g_192 83 a_54 c_55 20 := bk_old ead_191 eg_192 B84 (by decide)
  replace B104 : bk ad_191 g_192 103 (fun _ => q_66) (fun _ => .inl (cs 3, 3, .inl (fun _ => 0))) 1 := bk_old ead_191 eg_192 B104 (by decide)
  replace B105 : bk ad_191 g_192 104 (fun _ => q_71) (fun _ => (.inl (cs 4, 4, .inr (.inr (.inr (.inr (va_up (va_up (va_up (va_up (fun _ => none) (Int32.toNatClampNeg 0) (some q_78)) (Int32.toNatClampNeg 1) (some q_94)) (Int32.toNatClampNeg 2) (some q_110)) (Int32.toNatClampNeg 3) (some q_126)))))))) 1 := bk_old ead_191 eg_192 B105 (by decide)
  replace B106 : bk ad_191 g_192 105 a_79 c_80 2 := bk_old ead_191 eg_192 B106 (by decide)
  replace B108 : bk ad_191 g_192 107 a_95 c_96 2 := bk_old ead_191 eg_192 B108 (by decide)
  replace B110 : bk ad_191 g_192 109 a_111 c_112 2 := bk_old ead_191 eg_192 B110 (by decide)
  replace B112 : bk ad_191 g_192 111 a_127 c_128 2 := bk_old ead_191 eg_192 B112 (by decide)
  replace B114 : bk ad_191 g_192 113 a_143 c_144 2 := bk_old ead_191 eg_192 B114 (by decide)
  replace B116 : bk ad_191 g_192 115 a_154 c_155 2 := bk_old ead_191 eg_192 B116 (by decide)
  replace B118 : bk ad_191 g_192 117 a_165 c_166 2 := bk_old ead_191 eg_192 B118 (by decide)
  replace B120 : bk ad_191 g_192 119 a_176 c_177 10 := bk_old ead_191 eg_192 B120 (by decide)
  have B130 : bk ad_191 g_192 129 a_187 c_188 10 := bk_new ead_191 eg_192
  replace B1 : bk ad_202 g_203 0 a_2 c_3 2 := bk_old ead_202 eg_203 B1 (by decide)
  replace B3 : bk ad_202 g_203 2 a_9 c_10 20 := bk_old ead_202 eg_203 B3 (by decide)
  replace B23 : bk ad_202 g_203 22 a_16 c_17 20 := bk_old ead_202 eg_203 B23 (by decide)
  replace B43 : bk ad_202 g_203 42 (fun _ => q_22) (fun _ => (.inl (cs 5, 3, .inr (.inr (.inr (.inr (va_up (va_up (va_up (fun _ => none) (Int32.toNatClampNeg 0) (some q_27)) (Int32.toNatClampNeg 1) (some q_40)) (Int32.toNatClampNeg 2) (some q_53)))))))) 1 := bk_old ead_202 eg_203 B43 (by decide)
  replace B44 : bk ad_202 g_203 43 a_28 c_29 20 := bk_old ead_202 eg_203 B44 (by decide)
  replace B64 : bk ad_202 g_203 63 a_41 c_42 20 := bk_old ead_202 eg_203 B64 (by decide)
  replace B84 : bk ad_202 g_203 83 a_54 c_55 20 := bk_old ead_202 eg_203 B84 (by decide)
  replace B104 : bk ad_202 g_203 103 (fun _ => q_66) (fun _ => .inl (cs 3, 3, .inl (fun _ => 0))) 1 := bk_old ead_202 eg_203 B104 (by decide)
  replace B105 : bk ad_202 g_203 104 (fun _ => q_71) (fun _ => (.inl (cs 4, 4, .inr (.inr (.inr (.inr (va_up (va_up (va_up (va_up (fun _ => none) (Int32.toNatClampNeg 0) (some q_78)) (Int32.toNatClampNeg 1) (some q_94)) (Int32.toNatClampNeg 2) (some q_110)) (Int32.toNatClampNeg 3) (some q_126)))))))) 1 := bk_old ead_202 eg_203 B105 (by decide)
  replace B106 : bk ad_202 g_203 105 a_79 c_80 2 := bk_old ead_202 eg_203 B106 (by decide)
  replace B108 : bk ad_202 g_203 107 a_95 c_96 2 := bk_old ead_202 eg_203 B108 (by decide)
  replace B110 : bk ad_202 g_203 109 a_111 c_112 2 := bk_old ead_202 eg_203 B110 (by decide)
  replace B112 : bk ad_202 g_203 111 a_127 c_128 2 := bk_old ead_202 eg_203 B112 (by decide)
  replace B114 : bk ad_202 g_203 113 a_143 c_144 2 := bk_old ead_202 eg_203 B114 (by decide)
  replace B116 : bk ad_202 g_203 115 a_154 c_155 2 := bk_old ead_202 eg_203 B116 (by decide)
  replace B118 : bk ad_202 g_203 117 a_165 c_166 2 := bk_old ead_202 eg_203 B118 (by decide)
  replace B120 : bk ad_202 g_203 119 a_176 c_177 10 := bk_old ead_202 eg_203 B120 (by decide)
  replace B130 : bk ad_202 g_203 129 a_187 c_188 10 := bk_old ead_202 eg_203 B130 (by decide)
  have B140 : bk ad_202 g_203 139 a_198 c_199 4 := bk_new ead_202 eg_203
  replace B1 : bk ad_213 g_214 0 a_2 c_3 2 := bk_old ead_213 eg_214 B1 (by decide)
  replace B3 : bk ad_213 g_214 2 a_9 c_10 20 := bk_old ead_213 eg_214 B3 (by decide)
  replace B23 : bk ad_213 g_214 22 a_16 c_17 20 := bk_old ead_213 eg_214 B23 (by decide)
  replace B43 : bk ad_213 g_214 42 (fun _ => q_22) (fun _ => (.inl (cs 5, 3, .inr (.inr (.inr (.inr (va_up (va_up (va_up (fun _ => none) (Int32.toNatClampNeg 0) (some q_27)) (Int32.toNatClampNeg 1) (some q_40)) (Int32.toNatClampNeg 2) (some q_53)))))))) 1 := bk_old ead_213 eg_214 B43 (by decide)
  replace B44 : bk ad_213 g_214 43 a_28 c_29 20 := bk_old ead_213 eg_214 B44 (by decide)
  replace B64 : bk ad_213 g_214 63 a_41 c_42 20 := bk_old ead_213 eg_214 B64 (by decide)
  replace B84 : bk ad_213 g_214 83 a_54 c_55 20 := bk_old ead_213 eg_214 B84 (by decide)
  replace B104 : bk ad_213 g_214 103 (fun _ => q_66) (fun _ => .inl (cs 3, 3, .inl (fun _ => 0))) 1 := bk_old ead_213 eg_214 B104 (by decide)
  replace B105 : bk ad_213 g_214 104 (fun _ => q_71) (fun _ => (.inl (cs 4, 4, .inr (.inr (.inr (.inr (va_up (va_up (va_up (va_up (fun _ => none) (Int32.toNatClampNeg 0) (some q_78)) (Int32.toNatClampNeg 1) (some q_94)) (Int32.toNatClampNeg 2) (some q_110)) (Int32.toNatClampNeg 3) (some q_126)))))))) 1 := bk_old ead_213 eg_214 B105 (by decide)
  replace B106 : bk ad_213 g_214 105 a_79 c_80 2 := bk_old ead_213 eg_214 B106 (by decide)
  replace B108 : bk ad_213 g_214 107 a_95 c_96 2 := bk_old ead_213 eg_214 B108 (by decide)
  replace B110 : bk ad_213 g_214 109 a_111 c_112 2 := bk_old ead_213 eg_214 B110 (by decide)
  replace B112 : bk ad_213 g_214 111 a_127 c_128 2 := bk_old ead_213 eg_214 B112 (by decide)
  replace B114 : bk ad_213 g_214 113 a_143 c_144 2 := bk_old ead_213 eg_214 B114 (by decide)
  replace B116 : bk ad_213 g_214 115 a_154 c_155 2 := bk_old ead_213 eg_214 B116 (by decide)
  replace B118 : bk ad_213 g_214 117 a_165 c_166 2 := bk_old ead_213 eg_214 B118 (by decide)
  replace B120 : bk ad_213 g_214 119 a_176 c_177 10 := bk_old ead_213 eg_214 B120 (by decide)
  replace B130 : bk ad_213 g_214 129 a_187 c_188 10 := bk_old ead_213 eg_214 B130 (by decide)
  replace B140 : bk ad_213 g_214 139 a_198 c_199 4 := bk_old ead_213 eg_214 B140 (by decide)
  have B144 : bk ad_213 g_214 143 a_209 c_210 46 := bk_new ead_213 eg_214
  replace B1 : bk ad_224 g_225 0 a_2 c_3 2 := bk_old ead_224 eg_225 B1 (by decide)
  replace B3 : bk ad_224 g_225 2 a_9 c_10 20 := bk_old ead_224 eg_225 B3 (by decide)
  replace B23 : bk ad_224 g_225 22 a_16 c_17 20 := bk_old ead_224 eg_225 B23 (by decide)
  replace B43 : bk ad_224 g_225 42 (fun _ => q_22) (fun _ => (.inl (cs 5, 3, .inr (.inr (.inr (.inr (va_up (va_up (va_up (fun _ => none) (Int32.toNatClampNeg 0) (some q_27)) (Int32.toNatClampNeg 1) (some q_40)) (Int32.toNatClampNeg 2) (some q_53)))))))) 1 := bk_old ead_224 eg_225 B43 (by decide)
  replace B44 : bk ad_224 g_225 43 a_28 c_29 20 := bk_old ead_224 eg_225 B44 (by decide)
  replace B64 : bk ad_224 g_225 63 a_41 c_42 20 := bk_old ead_224 eg_225 B64 (by decide)
  replace B84 : bk ad_224 g_225 83 a_54 c_55 20 := bk_old ead_224 eg_225 B84 (by decide)
  replace B104 : bk ad_224 g_225 103 (fun _ => q_66) (fun _ => .inl (cs 3, 3, .inl (fun _ => 0))) 1 := bk_old ead_224 eg_225 B104 (by decide)
  replace B105 : bk ad_224 g_225 104 (fun _ => q_71) (fun _ => (.inl (cs 4, 4, .inr (.inr (.inr (.inr (va_up (va_up (va_up (va_up (fun _ => none) (Int32.toNatClampNeg 0) (some q_78)) (Int32.toNatClampNeg 1) (some q_94)) (Int32.toNatClampNeg 2) (some q_110)) (Int32.toNatClampNeg 3) (some q_126)))))))) 1 := bk_old ead_224 eg_225 B105 (by decide)
  replace B106 : bk ad_224 g_225 105 a_79 c_80 2 := bk_old ead_224 eg_225 B106 (by decide)
  replace B108 : bk ad_224 g_225 107 a_95 c_96 2 := bk_old ead_224 eg_225 B108 (by decide)
  replace B110 : bk ad_224 g_225 109 a_111 c_112 2 := bk_old ead_224 eg_225 B110 (by decide)
  replace B112 : bk ad_224 g_225 111 a_127 c_128 2 := bk_old ead_224 eg_225 B112 (by decide)
  replace B114 : bk ad_224 g_225 113 a_143 c_144 2 := bk_old ead_224 eg_225 B114 (by decide)
  replace B116 : bk ad_224 g_225 115 a_154 c_155 2 := bk_old ead_224 eg_225 B116 (by decide)
  replace B118 : bk ad_224 g_225 117 a_165 c_166 2 := bk_old ead_224 eg_225 B118 (by decide)
  replace B120 : bk ad_224 g_225 119 a_176 c_177 10 := bk_old ead_224 eg_225 B120 (by decide)
  replace B130 : bk ad_224 g_225 129 a_187 c_188 10 := bk_old ead_224 eg_225 B130 (by decide)
  replace B140 : bk ad_224 g_225 139 a_198 c_199 4 := bk_old ead_224 eg_225 B140 (by decide)
  replace B144 : bk ad_224 g_225 143 a_209 c_210 46 := bk_old ead_224 eg_225 B144 (by decide)
  have B190 : bk ad_224 g_225 189 a_220 c_221 7 := bk_new ead_224 eg_225
  obtain ⟨AD, hAD⟩ : ∃ x : Nat → Nat, x = ct (fun _ => h0) 1 ad_224 := ⟨_, rfl⟩
  obtain ⟨G, hG⟩ : ∃ x : Nat → va_E, x = ct (fun _ => .inr (11, [.ref q_1, .ref q_8, .ref q_15, .ref q_22, .ref q_66, .ref q_71, .ref q_142, .ref q_153, .ref q_164, .ref q_175, .ref q_186, .ref q_197, .ref q_208, .ref q_219])) 1 g_225 := ⟨_, rfl⟩
  rw [← hAD, ← hG]
  unfold FrX
  have G0 : G 0 = .inr (11, [.ref q_1, .ref q_8, .ref q_15, .ref q_22, .ref q_66, .ref q_71, .ref q_142, .ref q_153, .ref q_164, .ref q_175, .ref q_186, .ref q_197, .ref q_208, .ref q_219]) := by rw [hG]; rfl
  have F1 : bk AD G 1 a_2 c_3 2 := bk_fin hAD hG B1
  have F3 : bk AD G 3 a_9 c_10 20 := bk_fin hAD hG B3
  have F23 : bk AD G 23 a_16 c_17 20 := bk_fin hAD hG B23
  have F43 : bk AD G 43 (fun _ => q_22) (fun _ => (.inl (cs 5, 3, .inr (.inr (.inr (.inr (va_up (va_up (va_up (fun _ => none) (Int32.toNatClampNeg 0) (some q_27)) (Int32.toNatClampNeg 1) (some q_40)) (Int32.toNatClampNeg 2) (some q_53)))))))) 1 := bk_fin hAD hG B43
  have F44 : bk AD G 44 a_28 c_29 20 := bk_fin hAD hG B44
  have F64 : bk AD G 64 a_41 c_42 20 := bk_fin hAD hG B64
  have F84 : bk AD G 84 a_54 c_55 20 := bk_fin hAD hG B84
  have F104 : bk AD G 104 (fun _ => q_66) (fun _ => .inl (cs 3, 3, .inl (fun _ => 0))) 1 := bk_fin hAD hG B104
  have F105 : bk AD G 105 (fun _ => q_71) (fun _ => (.inl (cs 4, 4, .inr (.inr (.inr (.inr (va_up (va_up (va_up (va_up (fun _ => none) (Int32.toNatClampNeg 0) (some q_78)) (Int32.toNatClampNeg 1) (some q_94)) (Int32.toNatClampNeg 2) (some q_110)) (Int32.toNatClampNeg 3) (some q_126)))))))) 1 := bk_fin hAD hG B105
  have F106 : bk AD G 106 a_79 c_80 2 := bk_fin hAD hG B106
  have F108 : bk AD G 108 a_95 c_96 2 := bk_fin hAD hG B108
  have F110 : bk AD G 110 a_111 c_112 2 := bk_fin hAD hG B110
  have F112 : bk AD G 112 a_127 c_128 2 := bk_fin hAD hG B112
  have F114 : bk AD G 114 a_143 c_144 2 := bk_fin hAD hG B114
  have F116 : bk AD G 116 a_154 c_155 2 := bk_fin hAD hG B116
  have F118 : bk AD G 118 a_165 c_166 2 := bk_fin hAD hG B118
  have F120 : bk AD G 120 a_176 c_177 10 := bk_fin hAD hG B120
  have F130 : bk AD G 130 a_187 c_188 10 := bk_fin hAD hG B130
  have F140 : bk AD G 140 a_198 c_199 4 := bk_fin hAD hG B140
  have F144 : bk AD G 144 a_209 c_210 46 := bk_fin hAD hG B144
  have F190 : bk AD G 190 a_220 c_221 7 := bk_fin hAD hG B190
  have e1 : AD 1 = a_2 0 := (F1 0 (by decide)).1
  have e2 : AD 2 = a_2 1 := (F1 1 (by decide)).1
  have e3 : AD 3 = a_9 0 := (F3 0 (by decide)).1
  have e4 : AD 4 = a_9 1 := (F3 1 (by decide)).1
  have e5 : AD 5 = a_9 2 := (F3 2 (by decide)).1
  have e6 : AD 6 = a_9 3 := (F3 3 (by decide)).1
  have e7 : AD 7 = a_9 4 := (F3 4 (by decide)).1
  have e8 : AD 8 = a_9 5 := (F3 5 (by decide)).1
  have e9 : AD 9 = a_9 6 := (F3 6 (by decide)).1
  have e10 : AD 10 = a_9 7 := (F3 7 (by decide)).1
  have e11 : AD 11 = a_9 8 := (F3 8 (by decide)).1
  have e12 : AD 12 = a_9 9 := (F3 9 (by decide)).1
  have e13 : AD 13 = a_9 10 := (F3 10 (by decide)).1
  have e14 : AD 14 = a_9 11 := (F3 11 (by decide)).1
  have e15 : AD 15 = a_9 12 := (F3 12 (by decide)).1
  have e16 : AD 16 = a_9 13 := (F3 13 (by decide)).1
  have e17 : AD 17 = a_9 14 := (F3 14 (by decide)).1
  have e18 : AD 18 = a_9 15 := (F3 15 (by decide)).1
  have e19 : AD 19 = a_9 16 := (F3 16 (by decide)).1
  have e20 : AD 20 = a_9 17 := (F3 17 (by decide)).1
  have e21 : AD 21 = a_9 18 := (F3 18 (by decide)).1
  have e22 : AD 22 = a_9 19 := (F3 19 (by decide)).1
  have e23 : AD 23 = a_16 0 := (F23 0 (by decide)).1
  have e24 : AD 24 = a_16 1 := (F23 1 (by decide)).1
  have e25 : AD 25 = a_16 2 := (F23 2 (by decide)).1
  have e26 : AD 26 = a_16 3 := (F23 3 (by decide)).1
  have e27 : AD 27 = a_16 4 := (F23 4 (by decide)).1
  have e28 : AD 28 = a_16 5 := (F23 5 (by decide)).1
  have e29 : AD 29 = a_16 6 := (F23 6 (by decide)).1
  have e30 : AD 30 = a_16 7 := (F23 7 (by decide)).1
  have e31 : AD 31 = a_16 8 := (F23 8 (by decide)).1
  have e32 : AD 32 = a_16 9 := (F23 9 (by decide)).1
  have e33 : AD 33 = a_16 10 := (F23 10 (by decide)).1
  have e34 : AD 34 = a_16 11 := (F23 11 (by decide)).1
  have e35 : AD 35 = a_16 12 := (F23 12 (by decide)).1
  have e36 : AD 36 = a_16 13 := (F23 13 (by decide)).1
  have e37 : AD 37 = a_16 14 := (F23 14 (by decide)).1
  have e38 : AD 38 = a_16 15 := (F23 15 (by decide)).1
  have e39 : AD 39 = a_16 16 := (F23 16 (by decide)).1
  have e40 : AD 40 = a_16 17 := (F23 17 (by decide)).1
  have e41 : AD 41 = a_16 18 := (F23 18 (by decide)).1
  have e42 : AD 42 = a_16 19 := (F23 19 (by decide)).1
  have e43 : AD 43 = q_22 := (F43 0 (by decide)).1
  have e44 : AD 44 = a_28 0 := (F44 0 (by decide)).1
  have e45 : AD 45 = a_28 1 := (F44 1 (by decide)).1
  have e46 : AD 46 = a_28 2 := (F44 2 (by decide)).1
  have e47 : AD 47 = a_28 3 := (F44 3 (by decide)).1
  have e48 : AD 48 = a_28 4 := (F44 4 (by decide)).1
  have e49 : AD 49 = a_28 5 := (F44 5 (by decide)).1
  have e50 : AD 50 = a_28 6 := (F44 6 (by decide)).1
  have e51 : AD 51 = a_28 7 := (F44 7 (by decide)).1
  have e52 : AD 52 = a_28 8 := (F44 8 (by decide)).1
  have e53 : AD 53 = a_28 9 := (F44 9 (by decide)).1
  have e54 : AD 54 = a_28 10 := (F44 10 (by decide)).1
  have e55 : AD 55 = a_28 11 := (F44 11 (by decide)).1
  have e56 : AD 56 = a_28 12 := (F44 12 (by decide)).1
  have e57 : AD 57 = a_28 13 := (F44 13 (by decide)).1
  have e58 : AD 58 = a_28 14 := (F44 14 (by decide)).1
  have e59 : AD 59 = a_28 15 := (F44 15 (by decide)).1
  have e60 : AD 60 = a_28 16 := (F44 16 (by decide)).1
  have e61 : AD 61 = a_28 17 := (F44 17 (by decide)).1
  have e62 : AD 62 = a_28 18 := (F44 18 (by decide)).1
  have e63 : AD 63 = a_28 19 := (F44 19 (by decide)).1
  have e64 : AD 64 = a_41 0 := (F64 0 (by decide)).1
  have e65 : AD 65 = a_41 1 := (F64 1 (by decide)).1
  have e66 : AD 66 = a_41 2 := (F64 2 (by decide)).1
  have e67 : AD 67 = a_41 3 := (F64 3 (by decide)).1
  have e68 : AD 68 = a_41 4 := (F64 4 (by decide)).1
  have e69 : AD 69 = a_41 5 := (F64 5 (by decide)).1
  have e70 : AD 70 = a_41 6 := (F64 6 (by decide)).1
  have e71 : AD 71 = a_41 7 := (F64 7 (by decide)).1
  have e72 : AD 72 = a_41 8 := (F64 8 (by decide)).1
  have e73 : AD 73 = a_41 9 := (F64 9 (by decide)).1
  have e74 : AD 74 = a_41 10 := (F64 10 (by decide)).1
  have e75 : AD 75 = a_41 11 := (F64 11 (by decide)).1
  have e76 : AD 76 = a_41 12 := (F64 12 (by decide)).1
  have e77 : AD 77 = a_41 13 := (F64 13 (by decide)).1
  have e78 : AD 78 = a_41 14 := (F64 14 (by decide)).1
  have e79 : AD 79 = a_41 15 := (F64 15 (by decide)).1
  have e80 : AD 80 = a_41 16 := (F64 16 (by decide)).1
  have e81 : AD 81 = a_41 17 := (F64 17 (by decide)).1
  have e82 : AD 82 = a_41 18 := (F64 18 (by decide)).1
  have e83 : AD 83 = a_41 19 := (F64 19 (by decide)).1
  have e84 : AD 84 = a_54 0 := (F84 0 (by decide)).1
  have e85 : AD 85 = a_54 1 := (F84 1 (by decide)).1
  have e86 : AD 86 = a_54 2 := (F84 2 (by decide)).1
  have e87 : AD 87 = a_54 3 := (F84 3 (by decide)).1
  have e88 : AD 88 = a_54 4 := (F84 4 (by decide)).1
  have e89 : AD 89 = a_54 5 := (F84 5 (by decide)).1
  have e90 : AD 90 = a_54 6 := (F84 6 (by decide)).1
  have e91 : AD 91 = a_54 7 := (F84 7 (by decide)).1
  have e92 : AD 92 = a_54 8 := (F84 8 (by decide)).1
  have e93 : AD 93 = a_54 9 := (F84 9 (by decide)).1
  have e94 : AD 94 = a_54 10 := (F84 10 (by decide)).1
  have e95 : AD 95 = a_54 11 := (F84 11 (by decide)).1
  have e96 : AD 96 = a_54 12 := (F84 12 (by decide)).1
  have e97 : AD 97 = a_54 13 := (F84 13 (by decide)).1
  have e98 : AD 98 = a_54 14 := (F84 14 (by decide)).1
  have e99 : AD 99 = a_54 15 := (F84 15 (by decide)).1
  have e100 : AD 100 = a_54 16 := (F84 16 (by decide)).1
  have e101 : AD 101 = a_54 17 := (F84 17 (by decide)).1
  have e102 : AD 102 = a_54 18 := (F84 18 (by decide)).1
  have e103 : AD 103 = a_54 19 := (F84 19 (by decide)).1
  have e104 : AD 104 = q_66 := (F104 0 (by decide)).1
  have e105 : AD 105 = q_71 := (F105 0 (by decide)).1
  have e106 : AD 106 = a_79 0 := (F106 0 (by decide)).1
  have e107 : AD 107 = a_79 1 := (F106 1 (by decide)).1
  have e108 : AD 108 = a_95 0 := (F108 0 (by decide)).1
  have e109 : AD 109 = a_95 1 := (F108 1 (by decide)).1
  have e110 : AD 110 = a_111 0 := (F110 0 (by decide)).1
  have e111 : AD 111 = a_111 1 := (F110 1 (by decide)).1
  have e112 : AD 112 = a_127 0 := (F112 0 (by decide)).1
  have e113 : AD 113 = a_127 1 := (F112 1 (by decide)).1
  have e114 : AD 114 = a_143 0 := (F114 0 (by decide)).1
  have e115 : AD 115 = a_143 1 := (F114 1 (by decide)).1
  have e116 : AD 116 = a_154 0 := (F116 0 (by decide)).1
  have e117 : AD 117 = a_154 1 := (F116 1 (by decide)).1
  have e118 : AD 118 = a_165 0 := (F118 0 (by decide)).1
  have e119 : AD 119 = a_165 1 := (F118 1 (by decide)).1
  have e120 : AD 120 = a_176 0 := (F120 0 (by decide)).1
  have e121 : AD 121 = a_176 1 := (F120 1 (by decide)).1
  have e122 : AD 122 = a_176 2 := (F120 2 (by decide)).1
  have e123 : AD 123 = a_176 3 := (F120 3 (by decide)).1
  have e124 : AD 124 = a_176 4 := (F120 4 (by decide)).1
  have e125 : AD 125 = a_176 5 := (F120 5 (by decide)).1
  have e126 : AD 126 = a_176 6 := (F120 6 (by decide)).1
  have e127 : AD 127 = a_176 7 := (F120 7 (by decide)).1
  have e128 : AD 128 = a_176 8 := (F120 8 (by decide)).1
  have e129 : AD 129 = a_176 9 := (F120 9 (by decide)).1
  have e130 : AD 130 = a_187 0 := (F130 0 (by decide)).1
  have e131 : AD 131 = a_187 1 := (F130 1 (by decide)).1
  have e132 : AD 132 = a_187 2 := (F130 2 (by decide)).1
  have e133 : AD 133 = a_187 3 := (F130 3 (by decide)).1
  have e134 : AD 134 = a_187 4 := (F130 4 (by decide)).1
  have e135 : AD 135 = a_187 5 := (F130 5 (by decide)).1
  have e136 : AD 136 = a_187 6 := (F130 6 (by decide)).1
  have e137 : AD 137 = a_187 7 := (F130 7 (by decide)).1
  have e138 : AD 138 = a_187 8 := (F130 8 (by decide)).1
  have e139 : AD 139 = a_187 9 := (F130 9 (by decide)).1
  have e140 : AD 140 = a_198 0 := (F140 0 (by decide)).1
  have e141 : AD 141 = a_198 1 := (F140 1 (by decide)).1
  have e142 : AD 142 = a_198 2 := (F140 2 (by decide)).1
  have e143 : AD 143 = a_198 3 := (F140 3 (by decide)).1
  have e144 : AD 144 = a_209 0 := (F144 0 (by decide)).1
  have e145 : AD 145 = a_209 1 := (F144 1 (by decide)).1
  have e146 : AD 146 = a_209 2 := (F144 2 (by decide)).1
  have e147 : AD 147 = a_209 3 := (F144 3 (by decide)).1
  have e148 : AD 148 = a_209 4 := (F144 4 (by decide)).1
  have e149 : AD 149 = a_209 5 := (F144 5 (by decide)).1
  have e150 : AD 150 = a_209 6 := (F144 6 (by decide)).1
  have e151 : AD 151 = a_209 7 := (F144 7 (by decide)).1
  have e152 : AD 152 = a_209 8 := (F144 8 (by decide)).1
  have e153 : AD 153 = a_209 9 := (F144 9 (by decide)).1
  have e154 : AD 154 = a_209 10 := (F144 10 (by decide)).1
  have e155 : AD 155 = a_209 11 := (F144 11 (by decide)).1
  have e156 : AD 156 = a_209 12 := (F144 12 (by decide)).1
  have e157 : AD 157 = a_209 13 := (F144 13 (by decide)).1
  have e158 : AD 158 = a_209 14 := (F144 14 (by decide)).1
  have e159 : AD 159 = a_209 15 := (F144 15 (by decide)).1
  have e160 : AD 160 = a_209 16 := (F144 16 (by decide)).1
  have e161 : AD 161 = a_209 17 := (F144 17 (by decide)).1
  have e162 : AD 162 = a_209 18 := (F144 18 (by decide)).1
  have e163 : AD 163 = a_209 19 := (F144 19 (by decide)).1
  have e164 : AD 164 = a_209 20 := (F144 20 (by decide)).1
  have e165 : AD 165 = a_209 21 := (F144 21 (by decide)).1
  have e166 : AD 166 = a_209 22 := (F144 22 (by decide)).1
  have e167 : AD 167 = a_209 23 := (F144 23 (by decide)).1
  have e168 : AD 168 = a_209 24 := (F144 24 (by decide)).1
  have e169 : AD 169 = a_209 25 := (F144 25 (by decide)).1
  have e170 : AD 170 = a_209 26 := (F144 26 (by decide)).1
  have e171 : AD 171 = a_209 27 := (F144 27 (by decide)).1
  have e172 : AD 172 = a_209 28 := (F144 28 (by decide)).1
  have e173 : AD 173 = a_209 29 := (F144 29 (by decide)).1
  have e174 : AD 174 = a_209 30 := (F144 30 (by decide)).1
  have e175 : AD 175 = a_209 31 := (F144 31 (by decide)).1
  have e176 : AD 176 = a_209 32 := (F144 32 (by decide)).1
  have e177 : AD 177 = a_209 33 := (F144 33 (by decide)).1
  have e178 : AD 178 = a_209 34 := (F144 34 (by decide)).1
  have e179 : AD 179 = a_209 35 := (F144 35 (by decide)).1
  have e180 : AD 180 = a_209 36 := (F144 36 (by decide)).1
  have e181 : AD 181 = a_209 37 := (F144 37 (by decide)).1
  have e182 : AD 182 = a_209 38 := (F144 38 (by decide)).1
  have e183 : AD 183 = a_209 39 := (F144 39 (by decide)).1
  have e184 : AD 184 = a_209 40 := (F144 40 (by decide)).1
  have e185 : AD 185 = a_209 41 := (F144 41 (by decide)).1
  have e186 : AD 186 = a_209 42 := (F144 42 (by decide)).1
  have e187 : AD 187 = a_209 43 := (F144 43 (by decide)).1
  have e188 : AD 188 = a_209 44 := (F144 44 (by decide)).1
  have e189 : AD 189 = a_209 45 := (F144 45 (by decide)).1
  have e190 : AD 190 = a_220 0 := (F190 0 (by decide)).1
  have e191 : AD 191 = a_220 1 := (F190 1 (by decide)).1
  have e192 : AD 192 = a_220 2 := (F190 2 (by decide)).1
  have e193 : AD 193 = a_220 3 := (F190 3 (by decide)).1
  have e194 : AD 194 = a_220 4 := (F190 4 (by decide)).1
  have e195 : AD 195 = a_220 5 := (F190 5 (by decide)).1
  have e196 : AD 196 = a_220 6 := (F190 6 (by decide)).1
  refine ⟨?_, ?_⟩
  · unfold FrX_0
    refine ⟨(G0.trans (by rw [e1, h_4, e3, h_11, e23, h_18, e43, e104, e105, e114, h_145, e116, h_156, e118, h_167, e120, h_178, e130, h_189, e140, h_200, e144, h_211, e190, h_222])), ?_⟩
    refine ⟨((F1 0 (by decide)).2.trans (h_5.1.trans (by rw [e2]))), ?_⟩
    refine ⟨((F1 1 (by decide)).2.trans h_5.2), ?_⟩
    refine ⟨((F3 0 (by decide)).2.trans (h_12.1.trans (by rw [e4, e5, e6, e7, e8, e9, e10, e11, e12, e13]))), ?_⟩
    refine ⟨((F3 1 (by decide)).2.trans h_12.2.1), ?_⟩
    refine ⟨((F3 2 (by decide)).2.trans h_12.2.2.1), ?_⟩
    refine ⟨((F3 3 (by decide)).2.trans h_12.2.2.2.1), ?_⟩
    refine ⟨((F3 4 (by decide)).2.trans h_12.2.2.2.2.1), ?_⟩
    refine ⟨((F3 5 (by decide)).2.trans h_12.2.2.2.2.2.1), ?_⟩
    refine ⟨((F3 6 (by decide)).2.trans h_12.2.2.2.2.2.2.1), ?_⟩
    refine ⟨((F3 7 (by decide)).2.trans h_12.2.2.2.2.2.2.2.1), ?_⟩
    refine ⟨((F3 8 (by decide)).2.trans h_12.2.2.2.2.2.2.2.2.1), ?_⟩
    refine ⟨((F3 9 (by decide)).2.trans h_12.2.2.2.2.2.2.2.2.2.1), ?_⟩
    refine ⟨((F3 10 (by decide)).2.trans (h_12.2.2.2.2.2.2.2.2.2.2.1.trans (by rw [e14, e15, e16, e22]))), ?_⟩
    refine ⟨((F3 11 (by decide)).2.trans h_12.2.2.2.2.2.2.2.2.2.2.2.1), ?_⟩
    refine ⟨((F3 12 (by decide)).2.trans h_12.2.2.2.2.2.2.2.2.2.2.2.2.1), ?_⟩
    refine ⟨(by obtain ⟨f, e, r0, r1, r2, r3, r4⟩ := h_12.2.2.2.2.2.2.2.2.2.2.2.2.2.1; exact ⟨f, (F3 13 (by decide)).2.trans e, by rw [e17]; exact r0, by rw [e18]; exact r1, by rw [e19]; exact r2, by rw [e20]; exact r3, by rw [e21]; exact r4⟩), ?_⟩
    refine ⟨((F3 14 (by decide)).2.trans h_12.2.2.2.2.2.2.2.2.2.2.2.2.2.2.1), ?_⟩
    refine ⟨((F3 15 (by decide)).2.trans h_12.2.2.2.2.2.2.2.2.2.2.2.2.2.2.2.1), ?_⟩
    exact ((F3 16 (by decide)).2.trans h_12.2.2.2.2.2.2.2.2.2.2.2.2.2.2.2.2.1)
  refine ⟨?_, ?_⟩
  · unfold FrX_1
    refine ⟨((F3 17 (by decide)).2.trans h_12.2.2.2.2.2.2.2.2.2.2.2.2.2.2.2.2.2.1), ?_⟩
    refine ⟨((F3 18 (by decide)).2.trans h_12.2.2.2.2.2.2.2.2.2.2.2.2.2.2.2.2.2.2.1), ?_⟩
    refine ⟨((F3 19 (by decide)).2.trans h_12.2.2.2.2.2.2.2.2.2.2.2.2.2.2.2.2.2.2.2), ?_⟩
    refine ⟨((F23 0 (by decide)).2.trans (h_19.1.trans (by rw [e24, e25, e26, e27, e28, e29, e30, e31, e32, e33]))), ?_⟩
    refine ⟨((F23 1 (by decide)).2.trans h_19.2.1), ?_⟩
    refine ⟨((F23 2 (by decide)).2.trans h_19.2.2.1), ?_⟩
    refine ⟨((F23 3 (by decide)).2.trans h_19.2.2.2.1), ?_⟩
    refine ⟨((F23 4 (by decide)).2.trans h_19.2.2.2.2.1), ?_⟩
    refine ⟨((F23 5 (by decide)).2.trans h_19.2.2.2.2.2.1), ?_⟩
    refine ⟨((F23 6 (by decide)).2.trans h_19.2.2.2.2.2.2.1), ?_⟩
    refine ⟨((F23 7 (by decide)).2.trans h_19.2.2.2.2.2.2.2.1), ?_⟩
    refine ⟨((F23 8 (by decide)).2.trans h_19.2.2.2.2.2.2.2.2.1), ?_⟩
    refine ⟨((F23 9 (by decide)).2.trans h_19.2.2.2.2.2.2.2.2.2.1), ?_⟩
    refine ⟨((F23 10 (by decide)).2.trans (h_19.2.2.2.2.2.2.2.2.2.2.1.trans (by rw [e34, e35, e36, e42]))), ?_⟩
    refine ⟨((F23 11 (by decide)).2.trans h_19.2.2.2.2.2.2.2.2.2.2.2.1), ?_⟩
    refine ⟨((F23 12 (by decide)).2.trans h_19.2.2.2.2.2.2.2.2.2.2.2.2.1), ?_⟩
    refine ⟨(by obtain ⟨f, e, r0, r1, r2, r3, r4⟩ := h_19.2.2.2.2.2.2.2.2.2.2.2.2.2.1; exact ⟨f, (F23 13 (by decide)).2.trans e, by rw [e37]; exact r0, by rw [e38]; exact r1, by rw [e39]; exact r2, by rw [e40]; exact r3, by rw [e41]; exact r4⟩), ?_⟩
    refine ⟨((F23 14 (by decide)).2.trans h_19.2.2.2.2.2.2.2.2.2.2.2.2.2.2.1), ?_⟩
    refine ⟨((F23 15 (by decide)).2.trans h_19.2.2.2.2.2.2.2.2.2.2.2.2.2.2.2.1), ?_⟩
    exact ((F23 16 (by decide)).2.trans h_19.2.2.2.2.2.2.2.2.2.2.2.2.2.2.2.2.1)
  refine ⟨?_, ?_⟩
  · unfold FrX_2
    refine ⟨((F23 17 (by decide)).2.trans h_19.2.2.2.2.2.2.2.2.2.2.2.2.2.2.2.2.2.1), ?_⟩
    refine ⟨((F23 18 (by decide)).2.trans h_19.2.2.2.2.2.2.2.2.2.2.2.2.2.2.2.2.2.2.1), ?_⟩
    refine ⟨((F23 19 (by decide)).2.trans h_19.2.2.2.2.2.2.2.2.2.2.2.2.2.2.2.2.2.2.2), ?_⟩
    refine ⟨((F43 0 (by decide)).2.trans (by rw [e44, h_30, e64, h_43, e84, h_56]; rfl)), ?_⟩
    refine ⟨((F44 0 (by decide)).2.trans (h_31.1.trans (by rw [e45, e46, e47, e48, e49, e50, e51, e52, e53, e54]))), ?_⟩
    refine ⟨((F44 1 (by decide)).2.trans h_31.2.1), ?_⟩
    refine ⟨((F44 2 (by decide)).2.trans h_31.2.2.1), ?_⟩
    refine ⟨((F44 3 (by decide)).2.trans h_31.2.2.2.1), ?_⟩
    refine ⟨((F44 4 (by decide)).2.trans h_31.2.2.2.2.1), ?_⟩
    refine ⟨((F44 5 (by decide)).2.trans h_31.2.2.2.2.2.1), ?_⟩
    refine ⟨((F44 6 (by decide)).2.trans h_31.2.2.2.2.2.2.1), ?_⟩
    refine ⟨((F44 7 (by decide)).2.trans h_31.2.2.2.2.2.2.2.1), ?_⟩
    refine ⟨((F44 8 (by decide)).2.trans h_31.2.2.2.2.2.2.2.2.1), ?_⟩
    refine ⟨((F44 9 (by decide)).2.trans h_31.2.2.2.2.2.2.2.2.2.1), ?_⟩
    refine ⟨((F44 10 (by decide)).2.trans (h_31.2.2.2.2.2.2.2.2.2.2.1.trans (by rw [e55, e56, e57, e63]))), ?_⟩
    refine ⟨((F44 11 (by decide)).2.trans h_31.2.2.2.2.2.2.2.2.2.2.2.1), ?_⟩
    refine ⟨((F44 12 (by decide)).2.trans h_31.2.2.2.2.2.2.2.2.2.2.2.2.1), ?_⟩
    refine ⟨(by obtain ⟨f, e, r0, r1, r2, r3, r4⟩ := h_31.2.2.2.2.2.2.2.2.2.2.2.2.2.1; exact ⟨f, (F44 13 (by decide)).2.trans e, by rw [e58]; exact r0, by rw [e59]; exact r1, by rw [e60]; exact r2, by rw [e61]; exact r3, by rw [e62]; exact r4⟩), ?_⟩
    refine ⟨((F44 14 (by decide)).2.trans h_31.2.2.2.2.2.2.2.2.2.2.2.2.2.2.1), ?_⟩
    exact ((F44 15 (by decide)).2.trans h_31.2.2.2.2.2.2.2.2.2.2.2.2.2.2.2.1)
  refine ⟨?_, ?_⟩
  · unfold FrX_3
    refine ⟨((F44 16 (by decide)).2.trans h_31.2.2.2.2.2.2.2.2.2.2.2.2.2.2.2.2.1), ?_⟩
    refine ⟨((F44 17 (by decide)).2.trans h_31.2.2.2.2.2.2.2.2.2.2.2.2.2.2.2.2.2.1), ?_⟩
    refine ⟨((F44 18 (by decide)).2.trans h_31.2.2.2.2.2.2.2.2.2.2.2.2.2.2.2.2.2.2.1), ?_⟩
    refine ⟨((F44 19 (by decide)).2.trans h_31.2.2.2.2.2.2.2.2.2.2.2.2.2.2.2.2.2.2.2), ?_⟩
    refine ⟨((F64 0 (by decide)).2.trans (h_44.1.trans (by rw [e65, e66, e67, e68, e69, e70, e71, e72, e73, e74]))), ?_⟩
    refine ⟨((F64 1 (by decide)).2.trans h_44.2.1), ?_⟩
    refine ⟨((F64 2 (by decide)).2.trans h_44.2.2.1), ?_⟩
    refine ⟨((F64 3 (by decide)).2.trans h_44.2.2.2.1), ?_⟩
    refine ⟨((F64 4 (by decide)).2.trans h_44.2.2.2.2.1), ?_⟩
    refine ⟨((F64 5 (by decide)).2.trans h_44.2.2.2.2.2.1), ?_⟩
    refine ⟨((F64 6 (by decide)).2.trans h_44.2.2.2.2.2.2.1), ?_⟩
    refine ⟨((F64 7 (by decide)).2.trans h_44.2.2.2.2.2.2.2.1), ?_⟩
    refine ⟨((F64 8 (by decide)).2.trans h_44.2.2.2.2.2.2.2.2.1), ?_⟩
    refine ⟨((F64 9 (by decide)).2.trans h_44.2.2.2.2.2.2.2.2.2.1), ?_⟩
    refine ⟨((F64 10 (by decide)).2.trans (h_44.2.2.2.2.2.2.2.2.2.2.1.trans (by rw [e75, e76, e77, e83]))), ?_⟩
    refine ⟨((F64 11 (by decide)).2.trans h_44.2.2.2.2.2.2.2.2.2.2.2.1), ?_⟩
    refine ⟨((F64 12 (by decide)).2.trans h_44.2.2.2.2.2.2.2.2.2.2.2.2.1), ?_⟩
    refine ⟨(by obtain ⟨f, e, r0, r1, r2, r3, r4⟩ := h_44.2.2.2.2.2.2.2.2.2.2.2.2.2.1; exact ⟨f, (F64 13 (by decide)).2.trans e, by rw [e78]; exact r0, by rw [e79]; exact r1, by rw [e80]; exact r2, by rw [e81]; exact r3, by rw [e82]; exact r4⟩), ?_⟩
    refine ⟨((F64 14 (by decide)).2.trans h_44.2.2.2.2.2.2.2.2.2.2.2.2.2.2.1), ?_⟩
    exact ((F64 15 (by decide)).2.trans h_44.2.2.2.2.2.2.2.2.2.2.2.2.2.2.2.1)
  refine ⟨?_, ?_⟩
  · unfold FrX_4
    refine ⟨((F64 16 (by decide)).2.trans h_44.2.2.2.2.2.2.2.2.2.2.2.2.2.2.2.2.1), ?_⟩
    refine ⟨((F64 17 (by decide)).2.trans h_44.2.2.2.2.2.2.2.2.2.2.2.2.2.2.2.2.2.1), ?_⟩
    refine ⟨((F64 18 (by decide)).2.trans h_44.2.2.2.2.2.2.2.2.2.2.2.2.2.2.2.2.2.2.1), ?_⟩
    refine ⟨((F64 19 (by decide)).2.trans h_44.2.2.2.2.2.2.2.2.2.2.2.2.2.2.2.2.2.2.2), ?_⟩
    refine ⟨((F84 0 (by decide)).2.trans (h_57.1.trans (by rw [e85, e86, e87, e88, e89, e90, e91, e92, e93, e94]))), ?_⟩
    refine ⟨((F84 1 (by decide)).2.trans h_57.2.1), ?_⟩
    refine ⟨((F84 2 (by decide)).2.trans h_57.2.2.1), ?_⟩
    refine ⟨((F84 3 (by decide)).2.trans h_57.2.2.2.1), ?_⟩
    refine ⟨((F84 4 (by decide)).2.trans h_57.2.2.2.2.1), ?_⟩
    refine ⟨((F84 5 (by decide)).2.trans h_57.2.2.2.2.2.1), ?_⟩
    refine ⟨((F84 6 (by decide)).2.trans h_57.2.2.2.2.2.2.1), ?_⟩
    refine ⟨((F84 7 (by decide)).2.trans h_57.2.2.2.2.2.2.2.1), ?_⟩
    refine ⟨((F84 8 (by decide)).2.trans h_57.2.2.2.2.2.2.2.2.1), ?_⟩
    refine ⟨((F84 9 (by decide)).2.trans h_57.2.2.2.2.2.2.2.2.2.1), ?_⟩
    refine ⟨((F84 10 (by decide)).2.trans (h_57.2.2.2.2.2.2.2.2.2.2.1.trans (by rw [e95, e96, e97, e103]))), ?_⟩
    refine ⟨((F84 11 (by decide)).2.trans h_57.2.2.2.2.2.2.2.2.2.2.2.1), ?_⟩
    refine ⟨((F84 12 (by decide)).2.trans h_57.2.2.2.2.2.2.2.2.2.2.2.2.1), ?_⟩
    refine ⟨(by obtain ⟨f, e, r0, r1, r2, r3, r4⟩ := h_57.2.2.2.2.2.2.2.2.2.2.2.2.2.1; exact ⟨f, (F84 13 (by decide)).2.trans e, by rw [e98]; exact r0, by rw [e99]; exact r1, by rw [e100]; exact r2, by rw [e101]; exact r3, by rw [e102]; exact r4⟩), ?_⟩
    refine ⟨((F84 14 (by decide)).2.trans h_57.2.2.2.2.2.2.2.2.2.2.2.2.2.2.1), ?_⟩
    exact ((F84 15 (by decide)).2.trans h_57.2.2.2.2.2.2.2.2.2.2.2.2.2.2.2.1)
  refine ⟨?_, ?_⟩
  · unfold FrX_5
    refine ⟨((F84 16 (by decide)).2.trans h_57.2.2.2.2.2.2.2.2.2.2.2.2.2.2.2.2.1), ?_⟩
    refine ⟨((F84 17 (by decide)).2.trans h_57.2.2.2.2.2.2.2.2.2.2.2.2.2.2.2.2.2.1), ?_⟩
    refine ⟨((F84 18 (by decide)).2.trans h_57.2.2.2.2.2.2.2.2.2.2.2.2.2.2.2.2.2.2.1), ?_⟩
    refine ⟨((F84 19 (by decide)).2.trans h_57.2.2.2.2.2.2.2.2.2.2.2.2.2.2.2.2.2.2.2), ?_⟩
    refine ⟨(F104 0 (by decide)).2, ?_⟩
    refine ⟨((F105 0 (by decide)).2.trans (by rw [e106, h_81, e108, h_97, e110, h_113, e112, h_129]; rfl)), ?_⟩
    refine ⟨((F106 0 (by decide)).2.trans (h_82.1.trans (by rw [e107]))), ?_⟩
    refine ⟨((F106 1 (by decide)).2.trans h_82.2), ?_⟩
    refine ⟨((F108 0 (by decide)).2.trans (h_98.1.trans (by rw [e109]))), ?_⟩
    refine ⟨((F108 1 (by decide)).2.trans h_98.2), ?_⟩
    refine ⟨((F110 0 (by decide)).2.trans (h_114.1.trans (by rw [e111]))), ?_⟩
    refine ⟨((F110 1 (by decide)).2.trans h_114.2), ?_⟩
    refine ⟨((F112 0 (by decide)).2.trans (h_130.1.trans (by rw [e113]))), ?_⟩
    refine ⟨((F112 1 (by decide)).2.trans h_130.2), ?_⟩
    refine ⟨((F114 0 (by decide)).2.trans (h_146.1.trans (by rw [e115]))), ?_⟩
    refine ⟨((F114 1 (by decide)).2.trans h_146.2), ?_⟩
    refine ⟨((F116 0 (by decide)).2.trans (h_157.1.trans (by rw [e117]))), ?_⟩
    refine ⟨((F116 1 (by decide)).2.trans h_157.2), ?_⟩
    refine ⟨((F118 0 (by decide)).2.trans (h_168.1.trans (by rw [e119]))), ?_⟩
    exact ((F118 1 (by decide)).2.trans h_168.2)
  refine ⟨?_, ?_⟩
  · unfold FrX_6
    refine ⟨((F120 0 (by decide)).2.trans (h_179.1.trans (by rw [e121]))), ?_⟩
    refine ⟨(by obtain ⟨f, e, r0, r1, r2, r3, r4, r5, r6, r7⟩ := h_179.2.1; exact ⟨f, (F120 1 (by decide)).2.trans e, by rw [e122]; exact r0, by rw [e123]; exact r1, by rw [e124]; exact r2, by rw [e125]; exact r3, by rw [e126]; exact r4, by rw [e127]; exact r5, by rw [e128]; exact r6, by rw [e129]; exact r7⟩), ?_⟩
    refine ⟨((F120 2 (by decide)).2.trans h_179.2.2.1), ?_⟩
    refine ⟨((F120 3 (by decide)).2.trans h_179.2.2.2.1), ?_⟩
    refine ⟨((F120 4 (by decide)).2.trans h_179.2.2.2.2.1), ?_⟩
    refine ⟨((F120 5 (by decide)).2.trans h_179.2.2.2.2.2.1), ?_⟩
    refine ⟨((F120 6 (by decide)).2.trans h_179.2.2.2.2.2.2.1), ?_⟩
    refine ⟨((F120 7 (by decide)).2.trans h_179.2.2.2.2.2.2.2.1), ?_⟩
    refine ⟨((F120 8 (by decide)).2.trans h_179.2.2.2.2.2.2.2.2.1), ?_⟩
    refine ⟨((F120 9 (by decide)).2.trans h_179.2.2.2.2.2.2.2.2.2), ?_⟩
    refine ⟨((F130 0 (by decide)).2.trans (h_190.1.trans (by rw [e131, e132, e133]))), ?_⟩
    refine ⟨((F130 1 (by decide)).2.trans h_190.2.1), ?_⟩
    refine ⟨((F130 2 (by decide)).2.trans h_190.2.2.1), ?_⟩
    refine ⟨(by obtain ⟨f, e, r0, r1, r2, r3, r4, r5⟩ := h_190.2.2.2.1; exact ⟨f, (F130 3 (by decide)).2.trans e, by rw [e134]; exact r0, by rw [e135]; exact r1, by rw [e136]; exact r2, by rw [e137]; exact r3, by rw [e138]; exact r4, by rw [e139]; exact r5⟩), ?_⟩
    refine ⟨((F130 4 (by decide)).2.trans h_190.2.2.2.2.1), ?_⟩
    refine ⟨((F130 5 (by decide)).2.trans h_190.2.2.2.2.2.1), ?_⟩
    refine ⟨((F130 6 (by decide)).2.trans h_190.2.2.2.2.2.2.1), ?_⟩
    refine ⟨((F130 7 (by decide)).2.trans h_190.2.2.2.2.2.2.2.1), ?_⟩
    refine ⟨((F130 8 (by decide)).2.trans h_190.2.2.2.2.2.2.2.2.1), ?_⟩
    exact ((F130 9 (by decide)).2.trans h_190.2.2.2.2.2.2.2.2.2)
  refine ⟨?_, ?_⟩
  · unfold FrX_7
    refine ⟨((F140 0 (by decide)).2.trans (h_201.1.trans (by rw [e141, e142, e143]))), ?_⟩
    refine ⟨((F140 1 (by decide)).2.trans h_201.2.1), ?_⟩
    refine ⟨((F140 2 (by decide)).2.trans h_201.2.2.1), ?_⟩
    refine ⟨((F140 3 (by decide)).2.trans h_201.2.2.2), ?_⟩
    refine ⟨((F144 0 (by decide)).2.trans (h_212.1.trans (by rw [e145, e160, e175]))), ?_⟩
    refine ⟨(by obtain ⟨f, e, r0, r1, r2, r3, r4, r5, r6, r7, r8, r9, r10, r11, r12, r13⟩ := h_212.2.1; exact ⟨f, (F144 1 (by decide)).2.trans e, by rw [e146]; exact r0, by rw [e147]; exact r1, by rw [e148]; exact r2, by rw [e149]; exact r3, by rw [e150]; exact r4, by rw [e151]; exact r5, by rw [e152]; exact r6, by rw [e153]; exact r7, by rw [e154]; exact r8, by rw [e155]; exact r9, by rw [e156]; exact r10, by rw [e157]; exact r11, by rw [e158]; exact r12, by rw [e159]; exact r13⟩), ?_⟩
    refine ⟨((F144 2 (by decide)).2.trans h_212.2.2.1), ?_⟩
    refine ⟨((F144 3 (by decide)).2.trans h_212.2.2.2.1), ?_⟩
    refine ⟨((F144 4 (by decide)).2.trans h_212.2.2.2.2.1), ?_⟩
    refine ⟨((F144 5 (by decide)).2.trans h_212.2.2.2.2.2.1), ?_⟩
    refine ⟨((F144 6 (by decide)).2.trans h_212.2.2.2.2.2.2.1), ?_⟩
    refine ⟨((F144 7 (by decide)).2.trans h_212.2.2.2.2.2.2.2.1), ?_⟩
    refine ⟨((F144 8 (by decide)).2.trans h_212.2.2.2.2.2.2.2.2.1), ?_⟩
    refine ⟨((F144 9 (by decide)).2.trans h_212.2.2.2.2.2.2.2.2.2.1), ?_⟩
    refine ⟨((F144 10 (by decide)).2.trans h_212.2.2.2.2.2.2.2.2.2.2.1), ?_⟩
    refine ⟨((F144 11 (by decide)).2.trans h_212.2.2.2.2.2.2.2.2.2.2.2.1), ?_⟩
    refine ⟨((F144 12 (by decide)).2.trans h_212.2.2.2.2.2.2.2.2.2.2.2.2.1), ?_⟩
    refine ⟨((F144 13 (by decide)).2.trans h_212.2.2.2.2.2.2.2.2.2.2.2.2.2.1), ?_⟩
    refine ⟨((F144 14 (by decide)).2.trans h_212.2.2.2.2.2.2.2.2.2.2.2.2.2.2.1), ?_⟩
    exact ((F144 15 (by decide)).2.trans h_212.2.2.2.2.2.2.2.2.2.2.2.2.2.2.2.1)
  refine ⟨?_, ?_⟩
  · unfold FrX_8
    refine ⟨(by obtain ⟨f, e, r0, r1, r2, r3, r4, r5, r6, r7, r8, r9, r10, r11, r12, r13⟩ := h_212.2.2.2.2.2.2.2.2.2.2.2.2.2.2.2.2.1; exact ⟨f, (F144 16 (by decide)).2.trans e, by rw [e161]; exact r0, by rw [e162]; exact r1, by rw [e163]; exact r2, by rw [e164]; exact r3, by rw [e165]; exact r4, by rw [e166]; exact r5, by rw [e167]; exact r6, by rw [e168]; exact r7, by rw [e169]; exact r8, by rw [e170]; exact r9, by rw [e171]; exact r10, by rw [e172]; exact r11, by rw [e173]; exact r12, by rw [e174]; exact r13⟩), ?_⟩
    refine ⟨((F144 17 (by decide)).2.trans h_212.2.2.2.2.2.2.2.2.2.2.2.2.2.2.2.2.2.1), ?_⟩
    refine ⟨((F144 18 (by decide)).2.trans h_212.2.2.2.2.2.2.2.2.2.2.2.2.2.2.2.2.2.2.1), ?_⟩
    refine ⟨((F144 19 (by decide)).2.trans h_212.2.2.2.2.2.2.2.2.2.2.2.2.2.2.2.2.2.2.2.1), ?_⟩
    refine ⟨((F144 20 (by decide)).2.trans h_212.2.2.2.2.2.2.2.2.2.2.2.2.2.2.2.2.2.2.2.2.1), ?_⟩
    refine ⟨((F144 21 (by decide)).2.trans h_212.2.2.2.2.2.2.2.2.2.2.2.2.2.2.2.2.2.2.2.2.2.1), ?_⟩
    refine ⟨((F144 22 (by decide)).2.trans h_212.2.2.2.2.2.2.2.2.2.2.2.2.2.2.2.2.2.2.2.2.2.2.1), ?_⟩
    refine ⟨((F144 23 (by decide)).2.trans h_212.2.2.2.2.2.2.2.2.2.2.2.2.2.2.2.2.2.2.2.2.2.2.2.1), ?_⟩
    refine ⟨((F144 24 (by decide)).2.trans h_212.2.2.2.2.2.2.2.2.2.2.2.2.2.2.2.2.2.2.2.2.2.2.2.2.1), ?_⟩
    refine ⟨((F144 25 (by decide)).2.trans h_212.2.2.2.2.2.2.2.2.2.2.2.2.2.2.2.2.2.2.2.2.2.2.2.2.2.1), ?_⟩
    refine ⟨((F144 26 (by decide)).2.trans h_212.2.2.2.2.2.2.2.2.2.2.2.2.2.2.2.2.2.2.2.2.2.2.2.2.2.2.1), ?_⟩
    refine ⟨((F144 27 (by decide)).2.trans h_212.2.2.2.2.2.2.2.2.2.2.2.2.2.2.2.2.2.2.2.2.2.2.2.2.2.2.2.1), ?_⟩
    refine ⟨((F144 28 (by decide)).2.trans h_212.2.2.2.2.2.2.2.2.2.2.2.2.2.2.2.2.2.2.2.2.2.2.2.2.2.2.2.2.1), ?_⟩
    refine ⟨((F144 29 (by decide)).2.trans h_212.2.2.2.2.2.2.2.2.2.2.2.2.2.2.2.2.2.2.2.2.2.2.2.2.2.2.2.2.2.1), ?_⟩
    refine ⟨((F144 30 (by decide)).2.trans h_212.2.2.2.2.2.2.2.2.2.2.2.2.2.2.2.2.2.2.2.2.2.2.2.2.2.2.2.2.2.2.1), ?_⟩
    refine ⟨(by obtain ⟨f, e, r0, r1, r2, r3, r4, r5, r6, r7, r8, r9, r10, r11, r12, r13⟩ := h_212.2.2.2.2.2.2.2.2.2.2.2.2.2.2.2.2.2.2.2.2.2.2.2.2.2.2.2.2.2.2.2.1; exact ⟨f, (F144 31 (by decide)).2.trans e, by rw [e176]; exact r0, by rw [e177]; exact r1, by rw [e178]; exact r2, by rw [e179]; exact r3, by rw [e180]; exact r4, by rw [e181]; exact r5, by rw [e182]; exact r6, by rw [e183]; exact r7, by rw [e184]; exact r8, by rw [e185]; exact r9, by rw [e186]; exact r10, by rw [e187]; exact r11, by rw [e188]; exact r12, by rw [e189]; exact r13⟩), ?_⟩
    refine ⟨((F144 32 (by decide)).2.trans h_212.2.2.2.2.2.2.2.2.2.2.2.2.2.2.2.2.2.2.2.2.2.2.2.2.2.2.2.2.2.2.2.2.1), ?_⟩
    refine ⟨((F144 33 (by decide)).2.trans h_212.2.2.2.2.2.2.2.2.2.2.2.2.2.2.2.2.2.2.2.2.2.2.2.2.2.2.2.2.2.2.2.2.2.1), ?_⟩
    refine ⟨((F144 34 (by decide)).2.trans h_212.2.2.2.2.2.2.2.2.2.2.2.2.2.2.2.2.2.2.2.2.2.2.2.2.2.2.2.2.2.2.2.2.2.2.1), ?_⟩
    exact ((F144 35 (by decide)).2.trans h_212.2.2.2.2.2.2.2.2.2.2.2.2.2.2.2.2.2.2.2.2.2.2.2.2.2.2.2.2.2.2.2.2.2.2.2.1)
  unfold FrX_9
  refine ⟨((F144 36 (by decide)).2.trans h_212.2.2.2.2.2.2.2.2.2.2.2.2.2.2.2.2.2.2.2.2.2.2.2.2.2.2.2.2.2.2.2.2.2.2.2.2.1), ?_⟩
  refine ⟨((F144 37 (by decide)).2.trans h_212.2.2.2.2.2.2.2.2.2.2.2.2.2.2.2.2.2.2.2.2.2.2.2.2.2.2.2.2.2.2.2.2.2.2.2.2.2.1), ?_⟩
  refine ⟨((F144 38 (by decide)).2.trans h_212.2.2.2.2.2.2.2.2.2.2.2.2.2.2.2.2.2.2.2.2.2.2.2.2.2.2.2.2.2.2.2.2.2.2.2.2.2.2.1), ?_⟩
  refine ⟨((F144 39 (by decide)).2.trans h_212.2.2.2.2.2.2.2.2.2.2.2.2.2.2.2.2.2.2.2.2.2.2.2.2.2.2.2.2.2.2.2.2.2.2.2.2.2.2.2.1), ?_⟩
  refine ⟨((F144 40 (by decide)).2.trans h_212.2.2.2.2.2.2.2.2.2.2.2.2.2.2.2.2.2.2.2.2.2.2.2.2.2.2.2.2.2.2.2.2.2.2.2.2.2.2.2.2.1), ?_⟩
  refine ⟨((F144 41 (by decide)).2.trans h_212.2.2.2.2.2.2.2.2.2.2.2.2.2.2.2.2.2.2.2.2.2.2.2.2.2.2.2.2.2.2.2.2.2.2.2.2.2.2.2.2.2.1), ?_⟩
  refine ⟨((F144 42 (by decide)).2.trans h_212.2.2.2.2.2.2.2.2.2.2.2.2.2.2.2.2.2.2.2.2.2.2.2.2.2.2.2.2.2.2.2.2.2.2.2.2.2.2.2.2.2.2.1), ?_⟩
  refine ⟨((F144 43 (by decide)).2.trans h_212.2.2.2.2.2.2.2.2.2.2.2.2.2.2.2.2.2.2.2.2.2.2.2.2.2.2.2.2.2.2.2.2.2.2.2.2.2.2.2.2.2.2.2.1), ?_⟩
  refine ⟨((F144 44 (by decide)).2.trans h_212.2.2.2.2.2.2.2.2.2.2.2.2.2.2.2.2.2.2.2.2.2.2.2.2.2.2.2.2.2.2.2.2.2.2.2.2.2.2.2.2.2.2.2.2.1), ?_⟩
  refine ⟨((F144 45 (by decide)).2.trans h_212.2.2.2.2.2.2.2.2.2.2.2.2.2.2.2.2.2.2.2.2.2.2.2.2.2.2.2.2.2.2.2.2.2.2.2.2.2.2.2.2.2.2.2.2.2), ?_⟩
  refine ⟨((F190 0 (by decide)).2.trans (h_223.1.trans (by rw [e191]))), ?_⟩
  refine ⟨(by obtain ⟨f, e, r0, r1, r2, r3, r4⟩ := h_223.2.1; exact ⟨f, (F190 1 (by decide)).2.trans e, by rw [e192]; exact r0, by rw [e193]; exact r1, by rw [e194]; exact r2, by rw [e195]; exact r3, by rw [e196]; exact r4⟩), ?_⟩
  refine ⟨((F190 2 (by decide)).2.trans h_223.2.2.1), ?_⟩
  refine ⟨((F190 3 (by decide)).2.trans h_223.2.2.2.1), ?_⟩
  refine ⟨((F190 4 (by decide)).2.trans h_223.2.2.2.2.1), ?_⟩
  refine ⟨((F190 5 (by decide)).2.trans h_223.2.2.2.2.2.1), ?_⟩
  exact ((F190 6 (by decide)).2.trans h_223.2.2.2.2.2.2)
set_option maxHeartbeats 8000000 in
set_option maxRecDepth 100000 in
theorem n_X11 (l : Launch) (D : va_G) (cs : Nat → ClassId) (h0 sz : Nat) : cN l yX11_init vX11_init { frames := 3, cells := 196, slots := 3237, locals := 52 } D cs h0 sz (.inr (11, [.null, .null, .null, .null, .null, .null, .null, .null, .null, .null, .null, .null, .null, .null])) 197 (fun a g => FrX cs a g) 196 3237 := by
  refine cN.start (cc := cX11_init) (maxL := 2) RX11 rfl (by decide) rfl rfl (by decide) ?_
  intro p e s m below meth c ls A X hnm0 hax hA hP hD hl hfin
  have hx := X.1
  have hb := X.2.1
  have hS : va_S A s.heap s.heap [] := va_S.rf
  obtain ⟨ad_0, g_0⟩ : (Nat → Nat) × (Nat → va_E) := (fun _ => 0, fun _ => .inr (0, []))
  have hP : va_P D vwCl ((h0, .inr (11, [.null, .null, .null, .null, .null, .null, .null, .null, .null, .null, .null, .null, .null, .null])) :: wL ad_0 g_0 0) s.heap := hP
  have hD : va_D A ((h0, .inr (11, [.null, .null, .null, .null, .null, .null, .null, .null, .null, .null, .null, .null, .null, .null])) :: wL ad_0 g_0 0) := hD
  refine lv_aload_n hx hb dX11_init_0 rfl (lv_at hl 0 rfl) ?_
  refine r_obj X hl.1 (List.mem_of_getElem? (i := 1) rfl) (List.mem_of_getElem? (i := 2) rfl) (List.mem_of_getElem? (i := 3) rfl) dX11_init_1 (Nat.le_of_ble_eq_true rfl) (Nat.le_of_ble_eq_true rfl) ?_
  refine lv_aload_n hx hb dX11_init_4 rfl (lv_at hl 0 rfl) ?_
  refine r_new (ci := 7) (fs := [.null, .int 0, .int 0, .int 0, .int 0, .int 0, .int 0]) X iX11_init_7 tyX7 tyX7_ok (List.mem_of_getElem? (i := 4) rfl) (List.mem_of_getElem? (i := 5) rfl) (List.mem_of_getElem? (i := 6) rfl) hP hD hS hA rfl (fun j hj => by rcases (show j = 0 ∨ j = 1 ∨ j = 2 ∨ j = 3 ∨ j = 4 ∨ j = 5 ∨ j = 6 by omega) with rfl | rfl | rfl | rfl | rfl | rfl | rfl <;> rfl) (Nat.le_of_ble_eq_true rfl) (Nat.le_of_ble_eq_true rfl) dX11_init_5 (fun q_1 H hP hD hS => ?_)
  have hP : va_P D vwCl (((h0, .inr (11, [.null, .null, .null, .null, .null, .null, .null, .null, .null, .null, .null, .null, .null, .null])) :: wL ad_0 g_0 0) ++ [(q_1, .inr (7, [.null, .int 0, .int 0, .int 0, .int 0, .int 0, .int 0]))]) H := hP
  have hD : va_D A (((h0, .inr (11, [.null, .null, .null, .null, .null, .null, .null, .null, .null, .null, .null, .null, .null, .null])) :: wL ad_0 g_0 0) ++ [(q_1, .inr (7, [.null, .int 0, .int 0, .int 0, .int 0, .int 0, .int 0]))]) := hD
  refine lv_dup hx hb dX11_init_8 rfl ?_
  refine r_init X hax hP hD hS hA (n_Tape l D cs q_1 H.size) ⟨va_cnB 0 X.2.2.2.2.1 gg_X11_init_X7_init rfl rfl rfl (hax.1 _ (List.mem_of_getElem? (i := 0) rfl)) (X.2.2.2.2.1 _ (List.mem_of_getElem? (i := 6) rfl)) (by decide +kernel) ⟨Nat.le_of_ble_eq_true rfl, Nat.le_of_ble_eq_true rfl⟩, rfl, X.2.2.2.2.1 _ (List.mem_of_getElem? (i := 12) rfl)⟩ hl.1 (Nat.le_of_ble_eq_true rfl) dX11_init_9 ⟨Nat.le_of_ble_eq_true rfl, Nat.le_of_ble_eq_true rfl⟩ (fun a_2 c_3 H locs h_4 h_5 hP hD hS => ?_)
  obtain ⟨ad_6, ead_6⟩ : ∃ x, x = ct ad_0 0 a_2 := ⟨_, rfl⟩
  obtain ⟨g_7, eg_7⟩ : ∃ x, x = ct g_0 0 c_3 := ⟨_, rfl⟩
  have eT : wL ad_0 g_0 0 ++ wL a_2 c_3 2 = wL ad_6 g_7 2 := by rw [ead_6, eg_7]; exact wL_app _ _ _ _ _ _
  have hP : va_P D vwCl ((h0, .inr (11, [.null, .null, .null, .null, .null, .null, .null, .null, .null, .null, .null, .null, .null, .null])) :: wL ad_6 g_7 2) H := by rw [← eT]; exact hP
  have hD : va_D A ((h0, .inr (11, [.null, .null, .null, .null, .null, .null, .null, .null, .null, .null, .null, .null, .null, .null])) :: wL ad_6 g_7 2) := by rw [← eT]; exact hD
  refine r_putF X hnm0 iX11_init_11 tyX11 tyX11_ok nmX11 hP hD hS rfl 0 (by decide) (List.mem_of_getElem? (i := 13) rfl) rfl rfl (ty := .object "IcicleClock$Tape") (v := .ref q_1) (by decide +kernel) rfl rfl (Nat.le_of_ble_eq_true rfl) dX11_init_12 (fun H locs hP hD hS => ?_)
  have hP : va_P D vwCl ((h0, .inr (11, [.ref q_1, .null, .null, .null, .null, .null, .null, .null, .null, .null, .null, .null, .null, .null])) :: wL ad_6 g_7 2) H := hP
  have hD : va_D A ((h0, .inr (11, [.ref q_1, .null, .null, .null, .null, .null, .null, .null, .null, .null, .null, .null, .null, .null])) :: wL ad_6 g_7 2) := hD
  refine lv_aload_n hx hb dX11_init_15 rfl (lv_at hl 0 rfl) ?_
  refine r_new (ci := 6) (fs := [.int 0, .int 0, .int 0, .int 0, .int 0, .int 0, .int 0, .int 0, .null, .null, .null, .null, .null, .null, .null, .null, .null, .null]) X iX11_init_6 tyX6 tyX6_ok (List.mem_of_getElem? (i := 14) rfl) (List.mem_of_getElem? (i := 15) rfl) (List.mem_of_getElem? (i := 16) rfl) hP hD hS hA rfl (fun j hj => by rcases (show j = 0 ∨ j = 1 ∨ j = 2 ∨ j = 3 ∨ j = 4 ∨ j = 5 ∨ j = 6 ∨ j = 7 ∨ j = 8 ∨ j = 9 ∨ j = 10 ∨ j = 11 ∨ j = 12 ∨ j = 13 ∨ j = 14 ∨ j = 15 ∨ j = 16 ∨ j = 17 by omega) with rfl | rfl | rfl | rfl | rfl | rfl | rfl | rfl | rfl | rfl | rfl | rfl | rfl | rfl | rfl | rfl | rfl | rfl <;> rfl) (Nat.le_of_ble_eq_true rfl) (Nat.le_of_ble_eq_true rfl) dX11_init_16 (fun q_8 H hP hD hS => ?_)
  have hP : va_P D vwCl (((h0, .inr (11, [.ref q_1, .null, .null, .null, .null, .null, .null, .null, .null, .null, .null, .null, .null, .null])) :: wL ad_6 g_7 2) ++ [(q_8, .inr (6, [.int 0, .int 0, .int 0, .int 0, .int 0, .int 0, .int 0, .int 0, .null, .null, .null, .null, .null, .null, .null, .null, .null, .null]))]) H := hP
  have hD : va_D A (((h0, .inr (11, [.ref q_1, .null, .null, .null, .null, .null, .null, .null, .null, .null, .null, .null, .null, .null])) :: wL ad_6 g_7 2) ++ [(q_8, .inr (6, [.int 0, .int 0, .int 0, .int 0, .int 0, .int 0, .int 0, .int 0, .null, .null, .null, .null, .null, .null, .null, .null, .null, .null]))]) := hD
  refine lv_dup hx hb dX11_init_19 rfl ?_
  refine r_init X hax hP hD hS hA (n_Street l D cs q_8 H.size) ⟨va_cnB 0 X.2.2.2.2.1 gg_X11_init_X6_init rfl rfl rfl (hax.1 _ (List.mem_of_getElem? (i := 1) rfl)) (X.2.2.2.2.1 _ (List.mem_of_getElem? (i := 16) rfl)) (by decide +kernel) ⟨Nat.le_of_ble_eq_true rfl, Nat.le_of_ble_eq_true rfl⟩, rfl, X.2.2.2.2.1 _ (List.mem_of_getElem? (i := 42) rfl)⟩ hl.1 (Nat.le_of_ble_eq_true rfl) dX11_init_20 ⟨Nat.le_of_ble_eq_true rfl, Nat.le_of_ble_eq_true rfl⟩ (fun a_9 c_10 H locs h_11 h_12 hP hD hS => ?_)
  obtain ⟨ad_13, ead_13⟩ : ∃ x, x = ct ad_6 2 a_9 := ⟨_, rfl⟩
  obtain ⟨g_14, eg_14⟩ : ∃ x, x = ct g_7 2 c_10 := ⟨_, rfl⟩
  have eT : wL ad_6 g_7 2 ++ wL a_9 c_10 20 = wL ad_13 g_14 22 := by rw [ead_13, eg_14]; exact wL_app _ _ _ _ _ _
  have hP : va_P D vwCl ((h0, .inr (11, [.ref q_1, .null, .null, .null, .null, .null, .null, .null, .null, .null, .null, .null, .null, .null])) :: wL ad_13 g_14 22) H := by rw [← eT]; exact hP
  have hD : va_D A ((h0, .inr (11, [.ref q_1, .null, .null, .null, .null, .null, .null, .null, .null, .null, .null, .null, .null, .null])) :: wL ad_13 g_14 22) := by rw [← eT]; exact hD
  refine r_putF X hnm0 iX11_init_11 tyX11 tyX11_ok nmX11 hP hD hS rfl 1 (by decide) (List.mem_of_getElem? (i := 43) rfl) rfl rfl (ty := .object "IcicleClock$Street") (v := .ref q_8) (by decide +kernel) rfl rfl (Nat.le_of_ble_eq_true rfl) dX11_init_23 (fun H locs hP hD hS => ?_)
  have hP : va_P D vwCl ((h0, .inr (11, [.ref q_1, .ref q_8, .null, .null, .null, .null, .null, .null, .null, .null, .null, .null, .null, .null])) :: wL ad_13 g_14 22) H := hP
  have hD : va_D A ((h0, .inr (11, [.ref q_1, .ref q_8, .null, .null, .null, .null, .null, .null, .null, .null, .null, .null, .null, .null])) :: wL ad_13 g_14 22) := hD
  refine lv_aload_n hx hb dX11_init_26 rfl (lv_at hl 0 rfl) ?_
  refine r_new (ci := 6) (fs := [.int 0, .int 0, .int 0, .int 0, .int 0, .int 0, .int 0, .int 0, .null, .null, .null, .null, .null, .null, .null, .null, .null, .null]) X iX11_init_6 tyX6 tyX6_ok (List.mem_of_getElem? (i := 14) rfl) (List.mem_of_getElem? (i := 15) rfl) (List.mem_of_getElem? (i := 16) rfl) hP hD hS hA rfl (fun j hj => by rcases (show j = 0 ∨ j = 1 ∨ j = 2 ∨ j = 3 ∨ j = 4 ∨ j = 5 ∨ j = 6 ∨ j = 7 ∨ j = 8 ∨ j = 9 ∨ j = 10 ∨ j = 11 ∨ j = 12 ∨ j = 13 ∨ j = 14 ∨ j = 15 ∨ j = 16 ∨ j = 17 by omega) with rfl | rfl | rfl | rfl | rfl | rfl | rfl | rfl | rfl | rfl | rfl | rfl | rfl | rfl | rfl | rfl | rfl | rfl <;> rfl) (Nat.le_of_ble_eq_true rfl) (Nat.le_of_ble_eq_true rfl) dX11_init_27 (fun q_15 H hP hD hS => ?_)
  have hP : va_P D vwCl (((h0, .inr (11, [.ref q_1, .ref q_8, .null, .null, .null, .null, .null, .null, .null, .null, .null, .null, .null, .null])) :: wL ad_13 g_14 22) ++ [(q_15, .inr (6, [.int 0, .int 0, .int 0, .int 0, .int 0, .int 0, .int 0, .int 0, .null, .null, .null, .null, .null, .null, .null, .null, .null, .null]))]) H := hP
  have hD : va_D A (((h0, .inr (11, [.ref q_1, .ref q_8, .null, .null, .null, .null, .null, .null, .null, .null, .null, .null, .null, .null])) :: wL ad_13 g_14 22) ++ [(q_15, .inr (6, [.int 0, .int 0, .int 0, .int 0, .int 0, .int 0, .int 0, .int 0, .null, .null, .null, .null, .null, .null, .null, .null, .null, .null]))]) := hD
  refine lv_dup hx hb dX11_init_30 rfl ?_
  refine r_init X hax hP hD hS hA (n_Street l D cs q_15 H.size) ⟨va_cnB 0 X.2.2.2.2.1 gg_X11_init_X6_init rfl rfl rfl (hax.1 _ (List.mem_of_getElem? (i := 1) rfl)) (X.2.2.2.2.1 _ (List.mem_of_getElem? (i := 16) rfl)) (by decide +kernel) ⟨Nat.le_of_ble_eq_true rfl, Nat.le_of_ble_eq_true rfl⟩, rfl, X.2.2.2.2.1 _ (List.mem_of_getElem? (i := 42) rfl)⟩ hl.1 (Nat.le_of_ble_eq_true rfl) dX11_init_31 ⟨Nat.le_of_ble_eq_true rfl, Nat.le_of_ble_eq_true rfl⟩ (fun a_16 c_17 H locs h_18 h_19 hP hD hS => ?_)
  obtain ⟨ad_20, ead_20⟩ : ∃ x, x = ct ad_13 22 a_16 := ⟨_, rfl⟩
  obtain ⟨g_21, eg_21⟩ : ∃ x, x = ct g_14 22 c_17 := ⟨_, rfl⟩
  have eT : wL ad_13 g_14 22 ++ wL a_16 c_17 20 = wL ad_20 g_21 42 := by rw [ead_20, eg_21]; exact wL_app _ _ _ _ _ _
  have hP : va_P D vwCl ((h0, .inr (11, [.ref q_1, .ref q_8, .null, .null, .null, .null, .null, .null, .null, .null, .null, .null, .null, .null])) :: wL ad_20 g_21 42) H := by rw [← eT]; exact hP
  have hD : va_D A ((h0, .inr (11, [.ref q_1, .ref q_8, .null, .null, .null, .null, .null, .null, .null, .null, .null, .null, .null, .null])) :: wL ad_20 g_21 42) := by rw [← eT]; exact hD
  refine r_putF X hnm0 iX11_init_11 tyX11 tyX11_ok nmX11 hP hD hS rfl 2 (by decide) (List.mem_of_getElem? (i := 44) rfl) rfl rfl (ty := .object "IcicleClock$Street") (v := .ref q_15) (by decide +kernel) rfl rfl (Nat.le_of_ble_eq_true rfl) dX11_init_34 (fun H locs hP hD hS => ?_)
  have hP : va_P D vwCl ((h0, .inr (11, [.ref q_1, .ref q_8, .ref q_15, .null, .null, .null, .null, .null, .null, .null, .null, .null, .null, .null])) :: wL ad_20 g_21 42) H := hP
  have hD : va_D A ((h0, .inr (11, [.ref q_1, .ref q_8, .ref q_15, .null, .null, .null, .null, .null, .null, .null, .null, .null, .null, .null])) :: wL ad_20 g_21 42) := hD
  refine lv_aload_n hx hb dX11_init_37 rfl (lv_at hl 0 rfl) ?_
  refine lv_iconst (v := 3) hx hb dX11_init_38 (by decide) ?_
  refine r_newq (N' := 3) X 5 rfl (List.mem_of_getElem? (i := 14) rfl) hax.2.2.2 hP hD hS hA (by decide) (by decide) (Nat.le_of_ble_eq_true rfl) (Nat.le_of_ble_eq_true rfl) (Nat.le_of_ble_eq_true rfl) dX11_init_39 (fun q_22 ad_23 g_24 H ead_23 eg_24 hP hD hS => ?_)
  have hP : va_P D vwCl ((h0, .inr (11, [.ref q_1, .ref q_8, .ref q_15, .null, .null, .null, .null, .null, .null, .null, .null, .null, .null, .null])) :: wL ad_23 g_24 43) H := hP
  have hD : va_D A ((h0, .inr (11, [.ref q_1, .ref q_8, .ref q_15, .null, .null, .null, .null, .null, .null, .null, .null, .null, .null, .null])) :: wL ad_23 g_24 43) := hD
  have hq_25 : ad_23 42 = q_22 := by rw [ead_23]; rfl
  have hg_26 : g_24 42 = .inl (cs 5, 3, .inr (.inr (.inr (.inr (fun _ => none))))) := by rw [eg_24]; rfl
  refine r_putF X hnm0 iX11_init_11 tyX11 tyX11_ok nmX11 hP hD hS rfl 3 (by decide) (List.mem_of_getElem? (i := 45) rfl) rfl rfl (ty := .array (.object "IcicleClock$Street")) (v := .ref q_22) (by decide +kernel) rfl rfl (Nat.le_of_ble_eq_true rfl) dX11_init_42 (fun H locs hP hD hS => ?_)
  have hP : va_P D vwCl ((h0, .inr (11, [.ref q_1, .ref q_8, .ref q_15, .ref q_22, .null, .null, .null, .null, .null, .null, .null, .null, .null, .null])) :: wL ad_23 g_24 43) H := hP
  have hD : va_D A ((h0, .inr (11, [.ref q_1, .ref q_8, .ref q_15, .ref q_22, .null, .null, .null, .null, .null, .null, .null, .null, .null, .null])) :: wL ad_23 g_24 43) := hD
  refine lv_iconst (v := 0) hx hb dX11_init_45 (by decide) ?_
  refine lv_istore_n (lv' := [(1, .int 0), (0, .ref h0)]) hx hb dX11_init_46 rfl hl (by decide) rfl (fun ls hl => ?_)
  refine lv_iload_n hx hb dX11_init_47 rfl (lv_at hl 0 rfl) ?_
  refine lv_iconst (v := 3) hx hb dX11_init_48 (by decide) ?_
  refine lv_icmp_ge (tgt := 71) hx hb dX11_init_49 (by decide) (fun h => absurd h (by decide)) (fun _ => ?_)
  refine lv_aload_n hx hb dX11_init_52 rfl (lv_at hl 1 rfl) ?_
  refine r_get X iX11_init_11 hP rfl 3 (by decide) (List.mem_of_getElem? (i := 45) rfl) (v := .ref q_22) rfl dX11_init_53 ?_
  refine lv_iload_n hx hb dX11_init_56 rfl (lv_at hl 0 rfl) ?_
  refine r_new (ci := 6) (fs := [.int 0, .int 0, .int 0, .int 0, .int 0, .int 0, .int 0, .int 0, .null, .null, .null, .null, .null, .null, .null, .null, .null, .null]) X iX11_init_6 tyX6 tyX6_ok (List.mem_of_getElem? (i := 14) rfl) (List.mem_of_getElem? (i := 15) rfl) (List.mem_of_getElem? (i := 16) rfl) hP hD hS hA rfl (fun j hj => by rcases (show j = 0 ∨ j = 1 ∨ j = 2 ∨ j = 3 ∨ j = 4 ∨ j = 5 ∨ j = 6 ∨ j = 7 ∨ j = 8 ∨ j = 9 ∨ j = 10 ∨ j = 11 ∨ j = 12 ∨ j = 13 ∨ j = 14 ∨ j = 15 ∨ j = 16 ∨ j = 17 by omega) with rfl | rfl | rfl | rfl | rfl | rfl | rfl | rfl | rfl | rfl | rfl | rfl | rfl | rfl | rfl | rfl | rfl | rfl <;> rfl) (Nat.le_of_ble_eq_true rfl) (Nat.le_of_ble_eq_true rfl) dX11_init_57 (fun q_27 H hP hD hS => ?_)
  have hP : va_P D vwCl (((h0, .inr (11, [.ref q_1, .ref q_8, .ref q_15, .ref q_22, .null, .null, .null, .null, .null, .null, .null, .null, .null, .null])) :: wL ad_23 g_24 43) ++ [(q_27, .inr (6, [.int 0, .int 0, .int 0, .int 0, .int 0, .int 0, .int 0, .int 0, .null, .null, .null, .null, .null, .null, .null, .null, .null, .null]))]) H := hP
  have hD : va_D A (((h0, .inr (11, [.ref q_1, .ref q_8, .ref q_15, .ref q_22, .null, .null, .null, .null, .null, .null, .null, .null, .null, .null])) :: wL ad_23 g_24 43) ++ [(q_27, .inr (6, [.int 0, .int 0, .int 0, .int 0, .int 0, .int 0, .int 0, .int 0, .null, .null, .null, .null, .null, .null, .null, .null, .null, .null]))]) := hD
  refine lv_dup hx hb dX11_init_60 rfl ?_
  refine r_init X hax hP hD hS hA (n_Street l D cs q_27 H.size) ⟨va_cnB 0 X.2.2.2.2.1 gg_X11_init_X6_init rfl rfl rfl (hax.1 _ (List.mem_of_getElem? (i := 1) rfl)) (X.2.2.2.2.1 _ (List.mem_of_getElem? (i := 16) rfl)) (by decide +kernel) ⟨Nat.le_of_ble_eq_true rfl, Nat.le_of_ble_eq_true rfl⟩, rfl, X.2.2.2.2.1 _ (List.mem_of_getElem? (i := 42) rfl)⟩ hl.1 (Nat.le_of_ble_eq_true rfl) dX11_init_61 ⟨Nat.le_of_ble_eq_true rfl, Nat.le_of_ble_eq_true rfl⟩ (fun a_28 c_29 H locs h_30 h_31 hP hD hS => ?_)
  obtain ⟨ad_32, ead_32⟩ : ∃ x, x = ct ad_23 43 a_28 := ⟨_, rfl⟩
  obtain ⟨g_33, eg_33⟩ : ∃ x, x = ct g_24 43 c_29 := ⟨_, rfl⟩
  have eT : wL ad_23 g_24 43 ++ wL a_28 c_29 20 = wL ad_32 g_33 63 := by rw [ead_32, eg_33]; exact wL_app _ _ _ _ _ _
  have hP : va_P D vwCl ((h0, .inr (11, [.ref q_1, .ref q_8, .ref q_15, .ref q_22, .null, .null, .null, .null, .null, .null, .null, .null, .null, .null])) :: wL ad_32 g_33 63) H := by rw [← eT]; exact hP
  have hD : va_D A ((h0, .inr (11, [.ref q_1, .ref q_8, .ref q_15, .ref q_22, .null, .null, .null, .null, .null, .null, .null, .null, .null, .null])) :: wL ad_32 g_33 63) := by rw [← eT]; exact hD
  have hq_34 : ad_32 42 = q_22 := by rw [ead_32]; exact hq_25
  have hg_35 : g_33 42 = .inl (cs 5, 3, .inr (.inr (.inr (.inr (fun _ => none))))) := by rw [eg_33]; exact hg_26
  have hj_37 : ad_32 43 = q_27 := by rw [ead_32]; exact h_30
  have hv_38 := h_31.1
  obtain ⟨hv_38s, hv_38⟩ : ∃ fs, g_33 43 = .inr (6, fs) := ⟨_, by rw [eg_33]; exact hv_38⟩
  refine r_aast X hP hD hS (by decide) hq_34 hg_35 (r := (RX6, TX6, 18)) rfl (by decide) hj_37 hv_38 rfl (by unfold vp_in; decide) dX11_init_64 (fun g_36 H locs eg_36 hP hD hS => ?_)
  have hg_39 : g_36 42 = .inl (cs 5, 3, .inr (.inr (.inr (.inr (va_up (fun _ => none) (Int32.toNatClampNeg 0) (some q_27)))))) := by rw [eg_36]; exact va_up_self _ _ _
  have hP : va_P D vwCl ((h0, .inr (11, [.ref q_1, .ref q_8, .ref q_15, .ref q_22, .null, .null, .null, .null, .null, .null, .null, .null, .null, .null])) :: wL ad_32 g_36 63) H := hP
  have hD : va_D A ((h0, .inr (11, [.ref q_1, .ref q_8, .ref q_15, .ref q_22, .null, .null, .null, .null, .null, .null, .null, .null, .null, .null])) :: wL ad_32 g_36 63) := hD
  refine lv_iinc (v := 1) (lv' := [(1, .int 1), (0, .ref h0)]) hx hb dX11_init_65 hl (k := 0) rfl (by decide) (by decide) rfl (fun ls hl => ?_)
  refine lv_goto (tgt := 47) hx hb dX11_init_68 (by decide) ?_
  refine lv_iload_n hx hb dX11_init_47 rfl (lv_at hl 0 rfl) ?_
  refine lv_iconst (v := 3) hx hb dX11_init_48 (by decide) ?_
  refine lv_icmp_ge (tgt := 71) hx hb dX11_init_49 (by decide) (fun h => absurd h (by decide)) (fun _ => ?_)
  refine lv_aload_n hx hb dX11_init_52 rfl (lv_at hl 1 rfl) ?_
  refine r_get X iX11_init_11 hP rfl 3 (by decide) (List.mem_of_getElem? (i := 45) rfl) (v := .ref q_22) rfl dX11_init_53 ?_
  refine lv_iload_n hx hb dX11_init_56 rfl (lv_at hl 0 rfl) ?_
  refine r_new (ci := 6) (fs := [.int 0, .int 0, .int 0, .int 0, .int 0, .int 0, .int 0, .int 0, .null, .null, .null, .null, .null, .null, .null, .null, .null, .null]) X iX11_init_6 tyX6 tyX6_ok (List.mem_of_getElem? (i := 14) rfl) (List.mem_of_getElem? (i := 15) rfl) (List.mem_of_getElem? (i := 16) rfl) hP hD hS hA rfl (fun j hj => by rcases (show j = 0 ∨ j = 1 ∨ j = 2 ∨ j = 3 ∨ j = 4 ∨ j = 5 ∨ j = 6 ∨ j = 7 ∨ j = 8 ∨ j = 9 ∨ j = 10 ∨ j = 11 ∨ j = 12 ∨ j = 13 ∨ j = 14 ∨ j = 15 ∨ j = 16 ∨ j = 17 by omega) with rfl | rfl | rfl | rfl | rfl | rfl | rfl | rfl | rfl | rfl | rfl | rfl | rfl | rfl | rfl | rfl | rfl | rfl <;> rfl) (Nat.le_of_ble_eq_true rfl) (Nat.le_of_ble_eq_true rfl) dX11_init_57 (fun q_40 H hP hD hS => ?_)
  have hP : va_P D vwCl (((h0, .inr (11, [.ref q_1, .ref q_8, .ref q_15, .ref q_22, .null, .null, .null, .null, .null, .null, .null, .null, .null, .null])) :: wL ad_32 g_36 63) ++ [(q_40, .inr (6, [.int 0, .int 0, .int 0, .int 0, .int 0, .int 0, .int 0, .int 0, .null, .null, .null, .null, .null, .null, .null, .null, .null, .null]))]) H := hP
  have hD : va_D A (((h0, .inr (11, [.ref q_1, .ref q_8, .ref q_15, .ref q_22, .null, .null, .null, .null, .null, .null, .null, .null, .null, .null])) :: wL ad_32 g_36 63) ++ [(q_40, .inr (6, [.int 0, .int 0, .int 0, .int 0, .int 0, .int 0, .int 0, .int 0, .null, .null, .null, .null, .null, .null, .null, .null, .null, .null]))]) := hD
  refine lv_dup hx hb dX11_init_60 rfl ?_
  refine r_init X hax hP hD hS hA (n_Street l D cs q_40 H.size) ⟨va_cnB 0 X.2.2.2.2.1 gg_X11_init_X6_init rfl rfl rfl (hax.1 _ (List.mem_of_getElem? (i := 1) rfl)) (X.2.2.2.2.1 _ (List.mem_of_getElem? (i := 16) rfl)) (by decide +kernel) ⟨Nat.le_of_ble_eq_true rfl, Nat.le_of_ble_eq_true rfl⟩, rfl, X.2.2.2.2.1 _ (List.mem_of_getElem? (i := 42) rfl)⟩ hl.1 (Nat.le_of_ble_eq_true rfl) dX11_init_61 ⟨Nat.le_of_ble_eq_true rfl, Nat.le_of_ble_eq_true rfl⟩ (fun a_41 c_42 H locs h_43 h_44 hP hD hS => ?_)
  obtain ⟨ad_45, ead_45⟩ : ∃ x, x = ct ad_32 63 a_41 := ⟨_, rfl⟩
  obtain ⟨g_46, eg_46⟩ : ∃ x, x = ct g_36 63 c_42 := ⟨_, rfl⟩
  have eT : wL ad_32 g_36 63 ++ wL a_41 c_42 20 = wL ad_45 g_46 83 := by rw [ead_45, eg_46]; exact wL_app _ _ _ _ _ _
  have hP : va_P D vwCl ((h0, .inr (11, [.ref q_1, .ref q_8, .ref q_15, .ref q_22, .null, .null, .null, .null, .null, .null, .null, .null, .null, .null])) :: wL ad_45 g_46 83) H := by rw [← eT]; exact hP
  have hD : va_D A ((h0, .inr (11, [.ref q_1, .ref q_8, .ref q_15, .ref q_22, .null, .null, .null, .null, .null, .null, .null, .null, .null, .null])) :: wL ad_45 g_46 83) := by rw [← eT]; exact hD
  have hq_47 : ad_45 42 = q_22 := by rw [ead_45]; exact hq_34
  have hg_48 : g_46 42 = .inl (cs 5, 3, .inr (.inr (.inr (.inr (va_up (fun _ => none) (Int32.toNatClampNeg 0) (some q_27)))))) := by rw [eg_46]; exact hg_39
  have hj_50 : ad_45 63 = q_40 := by rw [ead_45]; exact h_43
  have hv_51 := h_44.1
  obtain ⟨hv_51s, hv_51⟩ : ∃ fs, g_46 63 = .inr (6, fs) := ⟨_, by rw [eg_46]; exact hv_51⟩
  refine r_aast X hP hD hS (by decide) hq_47 hg_48 (r := (RX6, TX6, 18)) rfl (by decide) hj_50 hv_51 rfl (by unfold vp_in; decide) dX11_init_64 (fun g_49 H locs eg_49 hP hD hS => ?_)
  have hg_52 : g_49 42 = .inl (cs 5, 3, .inr (.inr (.inr (.inr (va_up (va_up (fun _ => none) (Int32.toNatClampNeg 0) (some q_27)) (Int32.toNatClampNeg 1) (some q_40)))))) := by rw [eg_49]; exact va_up_self _ _ _
  have hP : va_P D vwCl ((h0, .inr (11, [.ref q_1, .ref q_8, .ref q_15, .ref q_22, .null, .null, .null, .null, .null, .null, .null, .null, .null, .null])) :: wL ad_45 g_49 83) H := hP
  have hD : va_D A ((h0, .inr (11, [.ref q_1, .ref q_8, .ref q_15, .ref q_22, .null, .null, .null, .null, .null, .null, .null, .null, .null, .null])) :: wL ad_45 g_49 83) := hD
  refine lv_iinc (v := 2) (lv' := [(1, .int 2), (0, .ref h0)]) hx hb dX11_init_65 hl (k := 0) rfl (by decide) (by decide) rfl (fun ls hl => ?_)
  refine lv_goto (tgt := 47) hx hb dX11_init_68 (by decide) ?_
  refine lv_iload_n hx hb dX11_init_47 rfl (lv_at hl 0 rfl) ?_
  refine lv_iconst (v := 3) hx hb dX11_init_48 (by decide) ?_
  refine lv_icmp_ge (tgt := 71) hx hb dX11_init_49 (by decide) (fun h => absurd h (by decide)) (fun _ => ?_)
  refine lv_aload_n hx hb dX11_init_52 rfl (lv_at hl 1 rfl) ?_
  refine r_get X iX11_init_11 hP rfl 3 (by decide) (List.mem_of_getElem? (i := 45) rfl) (v := .ref q_22) rfl dX11_init_53 ?_
  refine lv_iload_n hx hb dX11_init_56 rfl (lv_at hl 0 rfl) ?_
  refine r_new (ci := 6) (fs := [.int 0, .int 0, .int 0, .int 0, .int 0, .int 0, .int 0, .int 0, .null, .null, .null, .null, .null, .null, .null, .null, .null, .null]) X iX11_init_6 tyX6 tyX6_ok (List.mem_of_getElem? (i := 14) rfl) (List.mem_of_getElem? (i := 15) rfl) (List.mem_of_getElem? (i := 16) rfl) hP hD hS hA rfl (fun j hj => by rcases (show j = 0 ∨ j = 1 ∨ j = 2 ∨ j = 3 ∨ j = 4 ∨ j = 5 ∨ j = 6 ∨ j = 7 ∨ j = 8 ∨ j = 9 ∨ j = 10 ∨ j = 11 ∨ j = 12 ∨ j = 13 ∨ j = 14 ∨ j = 15 ∨ j = 16 ∨ j = 17 by omega) with rfl | rfl | rfl | rfl | rfl | rfl | rfl | rfl | rfl | rfl | rfl | rfl | rfl | rfl | rfl | rfl | rfl | rfl <;> rfl) (Nat.le_of_ble_eq_true rfl) (Nat.le_of_ble_eq_true rfl) dX11_init_57 (fun q_53 H hP hD hS => ?_)
  have hP : va_P D vwCl (((h0, .inr (11, [.ref q_1, .ref q_8, .ref q_15, .ref q_22, .null, .null, .null, .null, .null, .null, .null, .null, .null, .null])) :: wL ad_45 g_49 83) ++ [(q_53, .inr (6, [.int 0, .int 0, .int 0, .int 0, .int 0, .int 0, .int 0, .int 0, .null, .null, .null, .null, .null, .null, .null, .null, .null, .null]))]) H := hP
  have hD : va_D A (((h0, .inr (11, [.ref q_1, .ref q_8, .ref q_15, .ref q_22, .null, .null, .null, .null, .null, .null, .null, .null, .null, .null])) :: wL ad_45 g_49 83) ++ [(q_53, .inr (6, [.int 0, .int 0, .int 0, .int 0, .int 0, .int 0, .int 0, .int 0, .null, .null, .null, .null, .null, .null, .null, .null, .null, .null]))]) := hD
  refine lv_dup hx hb dX11_init_60 rfl ?_
  refine r_init X hax hP hD hS hA (n_Street l D cs q_53 H.size) ⟨va_cnB 0 X.2.2.2.2.1 gg_X11_init_X6_init rfl rfl rfl (hax.1 _ (List.mem_of_getElem? (i := 1) rfl)) (X.2.2.2.2.1 _ (List.mem_of_getElem? (i := 16) rfl)) (by decide +kernel) ⟨Nat.le_of_ble_eq_true rfl, Nat.le_of_ble_eq_true rfl⟩, rfl, X.2.2.2.2.1 _ (List.mem_of_getElem? (i := 42) rfl)⟩ hl.1 (Nat.le_of_ble_eq_true rfl) dX11_init_61 ⟨Nat.le_of_ble_eq_true rfl, Nat.le_of_ble_eq_true rfl⟩ (fun a_54 c_55 H locs h_56 h_57 hP hD hS => ?_)
  obtain ⟨ad_58, ead_58⟩ : ∃ x, x = ct ad_45 83 a_54 := ⟨_, rfl⟩
  obtain ⟨g_59, eg_59⟩ : ∃ x, x = ct g_49 83 c_55 := ⟨_, rfl⟩
  have eT : wL ad_45 g_49 83 ++ wL a_54 c_55 20 = wL ad_58 g_59 103 := by rw [ead_58, eg_59]; exact wL_app _ _ _ _ _ _
  have hP : va_P D vwCl ((h0, .inr (11, [.ref q_1, .ref q_8, .ref q_15, .ref q_22, .null, .null, .null, .null, .null, .null, .null, .null, .null, .null])) :: wL ad_58 g_59 103) H := by rw [← eT]; exact hP
  have hD : va_D A ((h0, .inr (11, [.ref q_1, .ref q_8, .ref q_15, .ref q_22, .null, .null, .null, .null, .null, .null, .null, .null, .null, .null])) :: wL ad_58 g_59 103) := by rw [← eT]; exact hD
  have hq_60 : ad_58 42 = q_22 := by rw [ead_58]; exact hq_47
  have hg_61 : g_59 42 = .inl (cs 5, 3, .inr (.inr (.inr (.inr (va_up (va_up (fun _ => none) (Int32.toNatClampNeg 0) (some q_27)) (Int32.toNatClampNeg 1) (some q_40)))))) := by rw [eg_59]; exact hg_52
  have hj_63 : ad_58 83 = q_53 := by rw [ead_58]; exact h_56
  have hv_64 := h_57.1
  obtain ⟨hv_64s, hv_64⟩ : ∃ fs, g_59 83 = .inr (6, fs) := ⟨_, by rw [eg_59]; exact hv_64⟩
  refine r_aast X hP hD hS (by decide) hq_60 hg_61 (r := (RX6, TX6, 18)) rfl (by decide) hj_63 hv_64 rfl (by unfold vp_in; decide) dX11_init_64 (fun g_62 H locs eg_62 hP hD hS => ?_)
  have hg_65 : g_62 42 = .inl (cs 5, 3, .inr (.inr (.inr (.inr (va_up (va_up (va_up (fun _ => none) (Int32.toNatClampNeg 0) (some q_27)) (Int32.toNatClampNeg 1) (some q_40)) (Int32.toNatClampNeg 2) (some q_53)))))) := by rw [eg_62]; exact va_up_self _ _ _
  have hP : va_P D vwCl ((h0, .inr (11, [.ref q_1, .ref q_8, .ref q_15, .ref q_22, .null, .null, .null, .null, .null, .null, .null, .null, .null, .null])) :: wL ad_58 g_62 103) H := hP
  have hD : va_D A ((h0, .inr (11, [.ref q_1, .ref q_8, .ref q_15, .ref q_22, .null, .null, .null, .null, .null, .null, .null, .null, .null, .null])) :: wL ad_58 g_62 103) := hD
  refine lv_iinc (v := 3) (lv' := [(1, .int 3), (0, .ref h0)]) hx hb dX11_init_65 hl (k := 0) rfl (by decide) (by decide) rfl (fun ls hl => ?_)
  refine lv_goto (tgt := 47) hx hb dX11_init_68 (by decide) ?_
  refine lv_iload_n hx hb dX11_init_47 rfl (lv_at hl 0 rfl) ?_
  refine lv_iconst (v := 3) hx hb dX11_init_48 (by decide) ?_
  refine lv_icmp_ge (tgt := 71) hx hb dX11_init_49 (by decide) (fun _ => ?_) (fun h => absurd h (by decide))
  refine lv_aload_n hx hb dX11_init_71 rfl (lv_at hl 1 rfl) ?_
  refine lv_iconst (v := 3) hx hb dX11_init_72 (by decide) ?_
  refine r_newa (atype := .boolean) X 3 rfl rfl (fun _ h => h) (List.mem_of_getElem? (i := 21) rfl) hP hD hS hA (a0 := (3, .inl (fun _ => 0))) (fun _ => rfl) (by decide) (by decide) (Nat.le_of_ble_eq_true rfl) (Nat.le_of_ble_eq_true rfl) (Nat.le_of_ble_eq_true rfl) dX11_init_73 (fun q_66 ad_67 g_68 H ead_67 eg_68 hP hD hS => ?_)
  have hP : va_P D vwCl ((h0, .inr (11, [.ref q_1, .ref q_8, .ref q_15, .ref q_22, .null, .null, .null, .null, .null, .null, .null, .null, .null, .null])) :: wL ad_67 g_68 104) H := hP
  have hD : va_D A ((h0, .inr (11, [.ref q_1, .ref q_8, .ref q_15, .ref q_22, .null, .null, .null, .null, .null, .null, .null, .null, .null, .null])) :: wL ad_67 g_68 104) := hD
  have hq_69 : ad_67 42 = q_22 := by rw [ead_67]; exact hq_60
  have hg_70 : g_68 42 = .inl (cs 5, 3, .inr (.inr (.inr (.inr (va_up (va_up (va_up (fun _ => none) (Int32.toNatClampNeg 0) (some q_27)) (Int32.toNatClampNeg 1) (some q_40)) (Int32.toNatClampNeg 2) (some q_53)))))) := by rw [eg_68]; exact hg_65
  refine r_putF X hnm0 iX11_init_11 tyX11 tyX11_ok nmX11 hP hD hS rfl 4 (by decide) (List.mem_of_getElem? (i := 46) rfl) rfl rfl (ty := .array .boolean) (v := .ref q_66) (by decide +kernel) rfl rfl (Nat.le_of_ble_eq_true rfl) dX11_init_75 (fun H locs hP hD hS => ?_)
  have hP : va_P D vwCl ((h0, .inr (11, [.ref q_1, .ref q_8, .ref q_15, .ref q_22, .ref q_66, .null, .null, .null, .null, .null, .null, .null, .null, .null])) :: wL ad_67 g_68 104) H := hP
  have hD : va_D A ((h0, .inr (11, [.ref q_1, .ref q_8, .ref q_15, .ref q_22, .ref q_66, .null, .null, .null, .null, .null, .null, .null, .null, .null])) :: wL ad_67 g_68 104) := hD
  refine lv_aload_n hx hb dX11_init_78 rfl (lv_at hl 1 rfl) ?_
  refine lv_iconst (v := 4) hx hb dX11_init_79 (by decide) ?_
  refine r_newq (N' := 4) X 4 rfl (List.mem_of_getElem? (i := 47) rfl) hax.2.2.1 hP hD hS hA (by decide) (by decide) (Nat.le_of_ble_eq_true rfl) (Nat.le_of_ble_eq_true rfl) (Nat.le_of_ble_eq_true rfl) dX11_init_80 (fun q_71 ad_72 g_73 H ead_72 eg_73 hP hD hS => ?_)
  have hP : va_P D vwCl ((h0, .inr (11, [.ref q_1, .ref q_8, .ref q_15, .ref q_22, .ref q_66, .null, .null, .null, .null, .null, .null, .null, .null, .null])) :: wL ad_72 g_73 105) H := hP
  have hD : va_D A ((h0, .inr (11, [.ref q_1, .ref q_8, .ref q_15, .ref q_22, .ref q_66, .null, .null, .null, .null, .null, .null, .null, .null, .null])) :: wL ad_72 g_73 105) := hD
  have hq_74 : ad_72 42 = q_22 := by rw [ead_72]; exact hq_69
  have hg_75 : g_73 42 = .inl (cs 5, 3, .inr (.inr (.inr (.inr (va_up (va_up (va_up (fun _ => none) (Int32.toNatClampNeg 0) (some q_27)) (Int32.toNatClampNeg 1) (some q_40)) (Int32.toNatClampNeg 2) (some q_53)))))) := by rw [eg_73]; exact hg_70
  have hq_76 : ad_72 104 = q_71 := by rw [ead_72]; rfl
  have hg_77 : g_73 104 = .inl (cs 4, 4, .inr (.inr (.inr (.inr (fun _ => none))))) := by rw [eg_73]; rfl
  refine r_putF X hnm0 iX11_init_11 tyX11 tyX11_ok nmX11 hP hD hS rfl 5 (by decide) (List.mem_of_getElem? (i := 48) rfl) rfl rfl (ty := .array (.object "IcicleClock$Slot")) (v := .ref q_71) (by decide +kernel) rfl rfl (Nat.le_of_ble_eq_true rfl) dX11_init_83 (fun H locs hP hD hS => ?_)
  have hP : va_P D vwCl ((h0, .inr (11, [.ref q_1, .ref q_8, .ref q_15, .ref q_22, .ref q_66, .ref q_71, .null, .null, .null, .null, .null, .null, .null, .null])) :: wL ad_72 g_73 105) H := hP
  have hD : va_D A ((h0, .inr (11, [.ref q_1, .ref q_8, .ref q_15, .ref q_22, .ref q_66, .ref q_71, .null, .null, .null, .null, .null, .null, .null, .null])) :: wL ad_72 g_73 105) := hD
  refine lv_iconst (v := 0) hx hb dX11_init_86 (by decide) ?_
  refine lv_istore_n (lv' := [(1, .int 0), (0, .ref h0)]) hx hb dX11_init_87 rfl hl (by decide) rfl (fun ls hl => ?_)
  refine lv_iload_n hx hb dX11_init_88 rfl (lv_at hl 0 rfl) ?_
  refine lv_iconst (v := 4) hx hb dX11_init_89 (by decide) ?_
  refine lv_icmp_ge (tgt := 112) hx hb dX11_init_90 (by decide) (fun h => absurd h (by decide)) (fun _ => ?_)
  refine lv_aload_n hx hb dX11_init_93 rfl (lv_at hl 1 rfl) ?_
  refine r_get X iX11_init_11 hP rfl 5 (by decide) (List.mem_of_getElem? (i := 48) rfl) (v := .ref q_71) rfl dX11_init_94 ?_
  refine lv_iload_n hx hb dX11_init_97 rfl (lv_at hl 0 rfl) ?_
  refine r_new (ci := 5) (fs := [.null, .int 0, .int 0, .int 0]) X iX11_init_5 tyX5 tyX5_ok (List.mem_of_getElem? (i := 47) rfl) (List.mem_of_getElem? (i := 49) rfl) (List.mem_of_getElem? (i := 50) rfl) hP hD hS hA rfl (fun j hj => by rcases (show j = 0 ∨ j = 1 ∨ j = 2 ∨ j = 3 by omega) with rfl | rfl | rfl | rfl <;> rfl) (Nat.le_of_ble_eq_true rfl) (Nat.le_of_ble_eq_true rfl) dX11_init_98 (fun q_78 H hP hD hS => ?_)
  have hP : va_P D vwCl (((h0, .inr (11, [.ref q_1, .ref q_8, .ref q_15, .ref q_22, .ref q_66, .ref q_71, .null, .null, .null, .null, .null, .null, .null, .null])) :: wL ad_72 g_73 105) ++ [(q_78, .inr (5, [.null, .int 0, .int 0, .int 0]))]) H := hP
  have hD : va_D A (((h0, .inr (11, [.ref q_1, .ref q_8, .ref q_15, .ref q_22, .ref q_66, .ref q_71, .null, .null, .null, .null, .null, .null, .null, .null])) :: wL ad_72 g_73 105) ++ [(q_78, .inr (5, [.null, .int 0, .int 0, .int 0]))]) := hD
  refine lv_dup hx hb dX11_init_101 rfl ?_
  refine r_init X hax hP hD hS hA (n_Slot l D cs q_78 H.size) ⟨va_cnB 0 X.2.2.2.2.1 gg_X11_init_X5_init rfl rfl rfl (hax.1 _ (List.mem_of_getElem? (i := 3) rfl)) (X.2.2.2.2.1 _ (List.mem_of_getElem? (i := 50) rfl)) (by decide +kernel) ⟨Nat.le_of_ble_eq_true rfl, Nat.le_of_ble_eq_true rfl⟩, rfl, X.2.2.2.2.1 _ (List.mem_of_getElem? (i := 55) rfl)⟩ hl.1 (Nat.le_of_ble_eq_true rfl) dX11_init_102 ⟨Nat.le_of_ble_eq_true rfl, Nat.le_of_ble_eq_true rfl⟩ (fun a_79 c_80 H locs h_81 h_82 hP hD hS => ?_)
  obtain ⟨ad_83, ead_83⟩ : ∃ x, x = ct ad_72 105 a_79 := ⟨_, rfl⟩
  obtain ⟨g_84, eg_84⟩ : ∃ x, x = ct g_73 105 c_80 := ⟨_, rfl⟩
  have eT : wL ad_72 g_73 105 ++ wL a_79 c_80 2 = wL ad_83 g_84 107 := by rw [ead_83, eg_84]; exact wL_app _ _ _ _ _ _
  have hP : va_P D vwCl ((h0, .inr (11, [.ref q_1, .ref q_8, .ref q_15, .ref q_22, .ref q_66, .ref q_71, .null, .null, .null, .null, .null, .null, .null, .null])) :: wL ad_83 g_84 107) H := by rw [← eT]; exact hP
  have hD : va_D A ((h0, .inr (11, [.ref q_1, .ref q_8, .ref q_15, .ref q_22, .ref q_66, .ref q_71, .null, .null, .null, .null, .null, .null, .null, .null])) :: wL ad_83 g_84 107) := by rw [← eT]; exact hD
  have hq_85 : ad_83 42 = q_22 := by rw [ead_83]; exact hq_74
  have hg_86 : g_84 42 = .inl (cs 5, 3, .inr (.inr (.inr (.inr (va_up (va_up (va_up (fun _ => none) (Int32.toNatClampNeg 0) (some q_27)) (Int32.toNatClampNeg 1) (some q_40)) (Int32.toNatClampNeg 2) (some q_53)))))) := by rw [eg_84]; exact hg_75
  have hq_87 : ad_83 104 = q_71 := by rw [ead_83]; exact hq_76
  have hg_88 : g_84 104 = .inl (cs 4, 4, .inr (.inr (.inr (.inr (fun _ => none))))) := by rw [eg_84]; exact hg_77
  have hj_90 : ad_83 105 = q_78 := by rw [ead_83]; exact h_81
  have hv_91 := h_82.1
  obtain ⟨hv_91s, hv_91⟩ : ∃ fs, g_84 105 = .inr (5, fs) := ⟨_, by rw [eg_84]; exact hv_91⟩
  refine r_aast X hP hD hS (by decide) hq_87 hg_88 (r := (RX5, TX5, 4)) rfl (by decide) hj_90 hv_91 rfl (by unfold vp_in; decide) dX11_init_105 (fun g_89 H locs eg_89 hP hD hS => ?_)
  have hg_92 : g_89 104 = .inl (cs 4, 4, .inr (.inr (.inr (.inr (va_up (fun _ => none) (Int32.toNatClampNeg 0) (some q_78)))))) := by rw [eg_89]; exact va_up_self _ _ _
  have hP : va_P D vwCl ((h0, .inr (11, [.ref q_1, .ref q_8, .ref q_15, .ref q_22, .ref q_66, .ref q_71, .null, .null, .null, .null, .null, .null, .null, .null])) :: wL ad_83 g_89 107) H := hP
  have hD : va_D A ((h0, .inr (11, [.ref q_1, .ref q_8, .ref q_15, .ref q_22, .ref q_66, .ref q_71, .null, .null, .null, .null, .null, .null, .null, .null])) :: wL ad_83 g_89 107) := hD
  have hg_93 : g_89 42 = .inl (cs 5, 3, .inr (.inr (.inr (.inr (va_up (va_up (va_up (fun _ => none) (Int32.toNatClampNeg 0) (some q_27)) (Int32.toNatClampNeg 1) (some q_40)) (Int32.toNatClampNeg 2) (some q_53)))))) := by rw [eg_89]; exact hg_86
  refine lv_iinc (v := 1) (lv' := [(1, .int 1), (0, .ref h0)]) hx hb dX11_init_106 hl (k := 0) rfl (by decide) (by decide) rfl (fun ls hl => ?_)
  refine lv_goto (tgt := 88) hx hb dX11_init_109 (by decide) ?_
  refine lv_iload_n hx hb dX11_init_88 rfl (lv_at hl 0 rfl) ?_
  refine lv_iconst (v := 4) hx hb dX11_init_89 (by decide) ?_
  refine lv_icmp_ge (tgt := 112) hx hb dX11_init_90 (by decide) (fun h => absurd h (by decide)) (fun _ => ?_)
  refine lv_aload_n hx hb dX11_init_93 rfl (lv_at hl 1 rfl) ?_
  refine r_get X iX11_init_11 hP rfl 5 (by decide) (List.mem_of_getElem? (i := 48) rfl) (v := .ref q_71) rfl dX11_init_94 ?_
  refine lv_iload_n hx hb dX11_init_97 rfl (lv_at hl 0 rfl) ?_
  refine r_new (ci := 5) (fs := [.null, .int 0, .int 0, .int 0]) X iX11_init_5 tyX5 tyX5_ok (List.mem_of_getElem? (i := 47) rfl) (List.mem_of_getElem? (i := 49) rfl) (List.mem_of_getElem? (i := 50) rfl) hP hD hS hA rfl (fun j hj => by rcases (show j = 0 ∨ j = 1 ∨ j = 2 ∨ j = 3 by omega) with rfl | rfl | rfl | rfl <;> rfl) (Nat.le_of_ble_eq_true rfl) (Nat.le_of_ble_eq_true rfl) dX11_init_98 (fun q_94 H hP hD hS => ?_)
  have hP : va_P D vwCl (((h0, .inr (11, [.ref q_1, .ref q_8, .ref q_15, .ref q_22, .ref q_66, .ref q_71, .null, .null, .null, .null, .null, .null, .null, .null])) :: wL ad_83 g_89 107) ++ [(q_94, .inr (5, [.null, .int 0, .int 0, .int 0]))]) H := hP
  have hD : va_D A (((h0, .inr (11, [.ref q_1, .ref q_8, .ref q_15, .ref q_22, .ref q_66, .ref q_71, .null, .null, .null, .null, .null, .null, .null, .null])) :: wL ad_83 g_89 107) ++ [(q_94, .inr (5, [.null, .int 0, .int 0, .int 0]))]) := hD
  refine lv_dup hx hb dX11_init_101 rfl ?_
  refine r_init X hax hP hD hS hA (n_Slot l D cs q_94 H.size) ⟨va_cnB 0 X.2.2.2.2.1 gg_X11_init_X5_init rfl rfl rfl (hax.1 _ (List.mem_of_getElem? (i := 3) rfl)) (X.2.2.2.2.1 _ (List.mem_of_getElem? (i := 50) rfl)) (by decide +kernel) ⟨Nat.le_of_ble_eq_true rfl, Nat.le_of_ble_eq_true rfl⟩, rfl, X.2.2.2.2.1 _ (List.mem_of_getElem? (i := 55) rfl)⟩ hl.1 (Nat.le_of_ble_eq_true rfl) dX11_init_102 ⟨Nat.le_of_ble_eq_true rfl, Nat.le_of_ble_eq_true rfl⟩ (fun a_95 c_96 H locs h_97 h_98 hP hD hS => ?_)
  obtain ⟨ad_99, ead_99⟩ : ∃ x, x = ct ad_83 107 a_95 := ⟨_, rfl⟩
  obtain ⟨g_100, eg_100⟩ : ∃ x, x = ct g_89 107 c_96 := ⟨_, rfl⟩
  have eT : wL ad_83 g_89 107 ++ wL a_95 c_96 2 = wL ad_99 g_100 109 := by rw [ead_99, eg_100]; exact wL_app _ _ _ _ _ _
  have hP : va_P D vwCl ((h0, .inr (11, [.ref q_1, .ref q_8, .ref q_15, .ref q_22, .ref q_66, .ref q_71, .null, .null, .null, .null, .null, .null, .null, .null])) :: wL ad_99 g_100 109) H := by rw [← eT]; exact hP
  have hD : va_D A ((h0, .inr (11, [.ref q_1, .ref q_8, .ref q_15, .ref q_22, .ref q_66, .ref q_71, .null, .null, .null, .null, .null, .null, .null, .null])) :: wL ad_99 g_100 109) := by rw [← eT]; exact hD
  have hq_101 : ad_99 42 = q_22 := by rw [ead_99]; exact hq_85
  have hg_102 : g_100 42 = .inl (cs 5, 3, .inr (.inr (.inr (.inr (va_up (va_up (va_up (fun _ => none) (Int32.toNatClampNeg 0) (some q_27)) (Int32.toNatClampNeg 1) (some q_40)) (Int32.toNatClampNeg 2) (some q_53)))))) := by rw [eg_100]; exact hg_93
  have hq_103 : ad_99 104 = q_71 := by rw [ead_99]; exact hq_87
  have hg_104 : g_100 104 = .inl (cs 4, 4, .inr (.inr (.inr (.inr (va_up (fun _ => none) (Int32.toNatClampNeg 0) (some q_78)))))) := by rw [eg_100]; exact hg_92
  have hj_106 : ad_99 107 = q_94 := by rw [ead_99]; exact h_97
  have hv_107 := h_98.1
  obtain ⟨hv_107s, hv_107⟩ : ∃ fs, g_100 107 = .inr (5, fs) := ⟨_, by rw [eg_100]; exact hv_107⟩
  refine r_aast X hP hD hS (by decide) hq_103 hg_104 (r := (RX5, TX5, 4)) rfl (by decide) hj_106 hv_107 rfl (by unfold vp_in; decide) dX11_init_105 (fun g_105 H locs eg_105 hP hD hS => ?_)
  have hg_108 : g_105 104 = .inl (cs 4, 4, .inr (.inr (.inr (.inr (va_up (va_up (fun _ => none) (Int32.toNatClampNeg 0) (some q_78)) (Int32.toNatClampNeg 1) (some q_94)))))) := by rw [eg_105]; exact va_up_self _ _ _
  have hP : va_P D vwCl ((h0, .inr (11, [.ref q_1, .ref q_8, .ref q_15, .ref q_22, .ref q_66, .ref q_71, .null, .null, .null, .null, .null, .null, .null, .null])) :: wL ad_99 g_105 109) H := hP
  have hD : va_D A ((h0, .inr (11, [.ref q_1, .ref q_8, .ref q_15, .ref q_22, .ref q_66, .ref q_71, .null, .null, .null, .null, .null, .null, .null, .null])) :: wL ad_99 g_105 109) := hD
  have hg_109 : g_105 42 = .inl (cs 5, 3, .inr (.inr (.inr (.inr (va_up (va_up (va_up (fun _ => none) (Int32.toNatClampNeg 0) (some q_27)) (Int32.toNatClampNeg 1) (some q_40)) (Int32.toNatClampNeg 2) (some q_53)))))) := by rw [eg_105]; exact hg_102
  refine lv_iinc (v := 2) (lv' := [(1, .int 2), (0, .ref h0)]) hx hb dX11_init_106 hl (k := 0) rfl (by decide) (by decide) rfl (fun ls hl => ?_)
  refine lv_goto (tgt := 88) hx hb dX11_init_109 (by decide) ?_
  refine lv_iload_n hx hb dX11_init_88 rfl (lv_at hl 0 rfl) ?_
  refine lv_iconst (v := 4) hx hb dX11_init_89 (by decide) ?_
  refine lv_icmp_ge (tgt := 112) hx hb dX11_init_90 (by decide) (fun h => absurd h (by decide)) (fun _ => ?_)
  refine lv_aload_n hx hb dX11_init_93 rfl (lv_at hl 1 rfl) ?_
  refine r_get X iX11_init_11 hP rfl 5 (by decide) (List.mem_of_getElem? (i := 48) rfl) (v := .ref q_71) rfl dX11_init_94 ?_
  refine lv_iload_n hx hb dX11_init_97 rfl (lv_at hl 0 rfl) ?_
  refine r_new (ci := 5) (fs := [.null, .int 0, .int 0, .int 0]) X iX11_init_5 tyX5 tyX5_ok (List.mem_of_getElem? (i := 47) rfl) (List.mem_of_getElem? (i := 49) rfl) (List.mem_of_getElem? (i := 50) rfl) hP hD hS hA rfl (fun j hj => by rcases (show j = 0 ∨ j = 1 ∨ j = 2 ∨ j = 3 by omega) with rfl | rfl | rfl | rfl <;> rfl) (Nat.le_of_ble_eq_true rfl) (Nat.le_of_ble_eq_true rfl) dX11_init_98 (fun q_110 H hP hD hS => ?_)
  have hP : va_P D vwCl (((h0, .inr (11, [.ref q_1, .ref q_8, .ref q_15, .ref q_22, .ref q_66, .ref q_71, .null, .null, .null, .null, .null, .null, .null, .null])) :: wL ad_99 g_105 109) ++ [(q_110, .inr (5, [.null, .int 0, .int 0, .int 0]))]) H := hP
  have hD : va_D A (((h0, .inr (11, [.ref q_1, .ref q_8, .ref q_15, .ref q_22, .ref q_66, .ref q_71, .null, .null, .null, .null, .null, .null, .null, .null])) :: wL ad_99 g_105 109) ++ [(q_110, .inr (5, [.null, .int 0, .int 0, .int 0]))]) := hD
  refine lv_dup hx hb dX11_init_101 rfl ?_
  refine r_init X hax hP hD hS hA (n_Slot l D cs q_110 H.size) ⟨va_cnB 0 X.2.2.2.2.1 gg_X11_init_X5_init rfl rfl rfl (hax.1 _ (List.mem_of_getElem? (i := 3) rfl)) (X.2.2.2.2.1 _ (List.mem_of_getElem? (i := 50) rfl)) (by decide +kernel) ⟨Nat.le_of_ble_eq_true rfl, Nat.le_of_ble_eq_true rfl⟩, rfl, X.2.2.2.2.1 _ (List.mem_of_getElem? (i := 55) rfl)⟩ hl.1 (Nat.le_of_ble_eq_true rfl) dX11_init_102 ⟨Nat.le_of_ble_eq_true rfl, Nat.le_of_ble_eq_true rfl⟩ (fun a_111 c_112 H locs h_113 h_114 hP hD hS => ?_)
  obtain ⟨ad_115, ead_115⟩ : ∃ x, x = ct ad_99 109 a_111 := ⟨_, rfl⟩
  obtain ⟨g_116, eg_116⟩ : ∃ x, x = ct g_105 109 c_112 := ⟨_, rfl⟩
  have eT : wL ad_99 g_105 109 ++ wL a_111 c_112 2 = wL ad_115 g_116 111 := by rw [ead_115, eg_116]; exact wL_app _ _ _ _ _ _
  have hP : va_P D vwCl ((h0, .inr (11, [.ref q_1, .ref q_8, .ref q_15, .ref q_22, .ref q_66, .ref q_71, .null, .null, .null, .null, .null, .null, .null, .null])) :: wL ad_115 g_116 111) H := by rw [← eT]; exact hP
  have hD : va_D A ((h0, .inr (11, [.ref q_1, .ref q_8, .ref q_15, .ref q_22, .ref q_66, .ref q_71, .null, .null, .null, .null, .null, .null, .null, .null])) :: wL ad_115 g_116 111) := by rw [← eT]; exact hD
  have hq_117 : ad_115 42 = q_22 := by rw [ead_115]; exact hq_101
  have hg_118 : g_116 42 = .inl (cs 5, 3, .inr (.inr (.inr (.inr (va_up (va_up (va_up (fun _ => none) (Int32.toNatClampNeg 0) (some q_27)) (Int32.toNatClampNeg 1) (some q_40)) (Int32.toNatClampNeg 2) (some q_53)))))) := by rw [eg_116]; exact hg_109
  have hq_119 : ad_115 104 = q_71 := by rw [ead_115]; exact hq_103
  have hg_120 : g_116 104 = .inl (cs 4, 4, .inr (.inr (.inr (.inr (va_up (va_up (fun _ => none) (Int32.toNatClampNeg 0) (some q_78)) (Int32.toNatClampNeg 1) (some q_94)))))) := by rw [eg_116]; exact hg_108
  have hj_122 : ad_115 109 = q_110 := by rw [ead_115]; exact h_113
  have hv_123 := h_114.1
  obtain ⟨hv_123s, hv_123⟩ : ∃ fs, g_116 109 = .inr (5, fs) := ⟨_, by rw [eg_116]; exact hv_123⟩
  refine r_aast X hP hD hS (by decide) hq_119 hg_120 (r := (RX5, TX5, 4)) rfl (by decide) hj_122 hv_123 rfl (by unfold vp_in; decide) dX11_init_105 (fun g_121 H locs eg_121 hP hD hS => ?_)
  have hg_124 : g_121 104 = .inl (cs 4, 4, .inr (.inr (.inr (.inr (va_up (va_up (va_up (fun _ => none) (Int32.toNatClampNeg 0) (some q_78)) (Int32.toNatClampNeg 1) (some q_94)) (Int32.toNatClampNeg 2) (some q_110)))))) := by rw [eg_121]; exact va_up_self _ _ _
  have hP : va_P D vwCl ((h0, .inr (11, [.ref q_1, .ref q_8, .ref q_15, .ref q_22, .ref q_66, .ref q_71, .null, .null, .null, .null, .null, .null, .null, .null])) :: wL ad_115 g_121 111) H := hP
  have hD : va_D A ((h0, .inr (11, [.ref q_1, .ref q_8, .ref q_15, .ref q_22, .ref q_66, .ref q_71, .null, .null, .null, .null, .null, .null, .null, .null])) :: wL ad_115 g_121 111) := hD
  have hg_125 : g_121 42 = .inl (cs 5, 3, .inr (.inr (.inr (.inr (va_up (va_up (va_up (fun _ => none) (Int32.toNatClampNeg 0) (some q_27)) (Int32.toNatClampNeg 1) (some q_40)) (Int32.toNatClampNeg 2) (some q_53)))))) := by rw [eg_121]; exact hg_118
  refine lv_iinc (v := 3) (lv' := [(1, .int 3), (0, .ref h0)]) hx hb dX11_init_106 hl (k := 0) rfl (by decide) (by decide) rfl (fun ls hl => ?_)
  refine lv_goto (tgt := 88) hx hb dX11_init_109 (by decide) ?_
  refine lv_iload_n hx hb dX11_init_88 rfl (lv_at hl 0 rfl) ?_
  refine lv_iconst (v := 4) hx hb dX11_init_89 (by decide) ?_
  refine lv_icmp_ge (tgt := 112) hx hb dX11_init_90 (by decide) (fun h => absurd h (by decide)) (fun _ => ?_)
  refine lv_aload_n hx hb dX11_init_93 rfl (lv_at hl 1 rfl) ?_
  refine r_get X iX11_init_11 hP rfl 5 (by decide) (List.mem_of_getElem? (i := 48) rfl) (v := .ref q_71) rfl dX11_init_94 ?_
  refine lv_iload_n hx hb dX11_init_97 rfl (lv_at hl 0 rfl) ?_
  refine r_new (ci := 5) (fs := [.null, .int 0, .int 0, .int 0]) X iX11_init_5 tyX5 tyX5_ok (List.mem_of_getElem? (i := 47) rfl) (List.mem_of_getElem? (i := 49) rfl) (List.mem_of_getElem? (i := 50) rfl) hP hD hS hA rfl (fun j hj => by rcases (show j = 0 ∨ j = 1 ∨ j = 2 ∨ j = 3 by omega) with rfl | rfl | rfl | rfl <;> rfl) (Nat.le_of_ble_eq_true rfl) (Nat.le_of_ble_eq_true rfl) dX11_init_98 (fun q_126 H hP hD hS => ?_)
  have hP : va_P D vwCl (((h0, .inr (11, [.ref q_1, .ref q_8, .ref q_15, .ref q_22, .ref q_66, .ref q_71, .null, .null, .null, .null, .null, .null, .null, .null])) :: wL ad_115 g_121 111) ++ [(q_126, .inr (5, [.null, .int 0, .int 0, .int 0]))]) H := hP
  have hD : va_D A (((h0, .inr (11, [.ref q_1, .ref q_8, .ref q_15, .ref q_22, .ref q_66, .ref q_71, .null, .null, .null, .null, .null, .null, .null, .null])) :: wL ad_115 g_121 111) ++ [(q_126, .inr (5, [.null, .int 0, .int 0, .int 0]))]) := hD
  refine lv_dup hx hb dX11_init_101 rfl ?_
  refine r_init X hax hP hD hS hA (n_Slot l D cs q_126 H.size) ⟨va_cnB 0 X.2.2.2.2.1 gg_X11_init_X5_init rfl rfl rfl (hax.1 _ (List.mem_of_getElem? (i := 3) rfl)) (X.2.2.2.2.1 _ (List.mem_of_getElem? (i := 50) rfl)) (by decide +kernel) ⟨Nat.le_of_ble_eq_true rfl, Nat.le_of_ble_eq_true rfl⟩, rfl, X.2.2.2.2.1 _ (List.mem_of_getElem? (i := 55) rfl)⟩ hl.1 (Nat.le_of_ble_eq_true rfl) dX11_init_102 ⟨Nat.le_of_ble_eq_true rfl, Nat.le_of_ble_eq_true rfl⟩ (fun a_127 c_128 H locs h_129 h_130 hP hD hS => ?_)
  obtain ⟨ad_131, ead_131⟩ : ∃ x, x = ct ad_115 111 a_127 := ⟨_, rfl⟩
  obtain ⟨g_132, eg_132⟩ : ∃ x, x = ct g_121 111 c_128 := ⟨_, rfl⟩
  have eT : wL ad_115 g_121 111 ++ wL a_127 c_128 2 = wL ad_131 g_132 113 := by rw [ead_131, eg_132]; exact wL_app _ _ _ _ _ _
  have hP : va_P D vwCl ((h0, .inr (11, [.ref q_1, .ref q_8, .ref q_15, .ref q_22, .ref q_66, .ref q_71, .null, .null, .null, .null, .null, .null, .null, .null])) :: wL ad_131 g_132 113) H := by rw [← eT]; exact hP
  have hD : va_D A ((h0, .inr (11, [.ref q_1, .ref q_8, .ref q_15, .ref q_22, .ref q_66, .ref q_71, .null, .null, .null, .null, .null, .null, .null, .null])) :: wL ad_131 g_132 113) := by rw [← eT]; exact hD
  have hq_133 : ad_131 42 = q_22 := by rw [ead_131]; exact hq_117
  have hg_134 : g_132 42 = .inl (cs 5, 3, .inr (.inr (.inr (.inr (va_up (va_up (va_up (fun _ => none) (Int32.toNatClampNeg 0) (some q_27)) (Int32.toNatClampNeg 1) (some q_40)) (Int32.toNatClampNeg 2) (some q_53)))))) := by rw [eg_132]; exact hg_125
  have hq_135 : ad_131 104 = q_71 := by rw [ead_131]; exact hq_119
  have hg_136 : g_132 104 = .inl (cs 4, 4, .inr (.inr (.inr (.inr (va_up (va_up (va_up (fun _ => none) (Int32.toNatClampNeg 0) (some q_78)) (Int32.toNatClampNeg 1) (some q_94)) (Int32.toNatClampNeg 2) (some q_110)))))) := by rw [eg_132]; exact hg_124
  have hj_138 : ad_131 111 = q_126 := by rw [ead_131]; exact h_129
  have hv_139 := h_130.1
  obtain ⟨hv_139s, hv_139⟩ : ∃ fs, g_132 111 = .inr (5, fs) := ⟨_, by rw [eg_132]; exact hv_139⟩
  refine r_aast X hP hD hS (by decide) hq_135 hg_136 (r := (RX5, TX5, 4)) rfl (by decide) hj_138 hv_139 rfl (by unfold vp_in; decide) dX11_init_105 (fun g_137 H locs eg_137 hP hD hS => ?_)
  have hg_140 : g_137 104 = .inl (cs 4, 4, .inr (.inr (.inr (.inr (va_up (va_up (va_up (va_up (fun _ => none) (Int32.toNatClampNeg 0) (some q_78)) (Int32.toNatClampNeg 1) (some q_94)) (Int32.toNatClampNeg 2) (some q_110)) (Int32.toNatClampNeg 3) (some q_126)))))) := by rw [eg_137]; exact va_up_self _ _ _
  have hP : va_P D vwCl ((h0, .inr (11, [.ref q_1, .ref q_8, .ref q_15, .ref q_22, .ref q_66, .ref q_71, .null, .null, .null, .null, .null, .null, .null, .null])) :: wL ad_131 g_137 113) H := hP
  have hD : va_D A ((h0, .inr (11, [.ref q_1, .ref q_8, .ref q_15, .ref q_22, .ref q_66, .ref q_71, .null, .null, .null, .null, .null, .null, .null, .null])) :: wL ad_131 g_137 113) := hD
  have hg_141 : g_137 42 = .inl (cs 5, 3, .inr (.inr (.inr (.inr (va_up (va_up (va_up (fun _ => none) (Int32.toNatClampNeg 0) (some q_27)) (Int32.toNatClampNeg 1) (some q_40)) (Int32.toNatClampNeg 2) (some q_53)))))) := by rw [eg_137]; exact hg_134
  refine lv_iinc (v := 4) (lv' := [(1, .int 4), (0, .ref h0)]) hx hb dX11_init_106 hl (k := 0) rfl (by decide) (by decide) rfl (fun ls hl => ?_)
  refine lv_goto (tgt := 88) hx hb dX11_init_109 (by decide) ?_
  refine lv_iload_n hx hb dX11_init_88 rfl (lv_at hl 0 rfl) ?_
  refine lv_iconst (v := 4) hx hb dX11_init_89 (by decide) ?_
  refine lv_icmp_ge (tgt := 112) hx hb dX11_init_90 (by decide) (fun _ => ?_) (fun h => absurd h (by decide))
  refine lv_aload_n hx hb dX11_init_112 rfl (lv_at hl 1 rfl) ?_
  refine r_new (ci := 10) (fs := [.int 0, .int 0, .int 0, .null]) X iX11_init_10 tyX10 tyX10_ok (List.mem_of_getElem? (i := 56) rfl) (List.mem_of_getElem? (i := 57) rfl) (List.mem_of_getElem? (i := 58) rfl) hP hD hS hA rfl (fun j hj => by rcases (show j = 0 ∨ j = 1 ∨ j = 2 ∨ j = 3 by omega) with rfl | rfl | rfl | rfl <;> rfl) (Nat.le_of_ble_eq_true rfl) (Nat.le_of_ble_eq_true rfl) dX11_init_113 (fun q_142 H hP hD hS => ?_)
  have hP : va_P D vwCl (((h0, .inr (11, [.ref q_1, .ref q_8, .ref q_15, .ref q_22, .ref q_66, .ref q_71, .null, .null, .null, .null, .null, .null, .null, .null])) :: wL ad_131 g_137 113) ++ [(q_142, .inr (10, [.int 0, .int 0, .int 0, .null]))]) H := hP
  have hD : va_D A (((h0, .inr (11, [.ref q_1, .ref q_8, .ref q_15, .ref q_22, .ref q_66, .ref q_71, .null, .null, .null, .null, .null, .null, .null, .null])) :: wL ad_131 g_137 113) ++ [(q_142, .inr (10, [.int 0, .int 0, .int 0, .null]))]) := hD
  refine lv_dup hx hb dX11_init_116 rfl ?_
  refine r_init X hax hP hD hS hA (n_Winter l D cs q_142 H.size) ⟨va_cnB 0 X.2.2.2.2.1 gg_X11_init_X10_init rfl rfl rfl (hax.1 _ (List.mem_of_getElem? (i := 4) rfl)) (X.2.2.2.2.1 _ (List.mem_of_getElem? (i := 58) rfl)) (by decide +kernel) ⟨Nat.le_of_ble_eq_true rfl, Nat.le_of_ble_eq_true rfl⟩, rfl, X.2.2.2.2.1 _ (List.mem_of_getElem? (i := 64) rfl)⟩ hl.1 (Nat.le_of_ble_eq_true rfl) dX11_init_117 ⟨Nat.le_of_ble_eq_true rfl, Nat.le_of_ble_eq_true rfl⟩ (fun a_143 c_144 H locs h_145 h_146 hP hD hS => ?_)
  obtain ⟨ad_147, ead_147⟩ : ∃ x, x = ct ad_131 113 a_143 := ⟨_, rfl⟩
  obtain ⟨g_148, eg_148⟩ : ∃ x, x = ct g_137 113 c_144 := ⟨_, rfl⟩
  have eT : wL ad_131 g_137 113 ++ wL a_143 c_144 2 = wL ad_147 g_148 115 := by rw [ead_147, eg_148]; exact wL_app _ _ _ _ _ _
  have hP : va_P D vwCl ((h0, .inr (11, [.ref q_1, .ref q_8, .ref q_15, .ref q_22, .ref q_66, .ref q_71, .null, .null, .null, .null, .null, .null, .null, .null])) :: wL ad_147 g_148 115) H := by rw [← eT]; exact hP
  have hD : va_D A ((h0, .inr (11, [.ref q_1, .ref q_8, .ref q_15, .ref q_22, .ref q_66, .ref q_71, .null, .null, .null, .null, .null, .null, .null, .null])) :: wL ad_147 g_148 115) := by rw [← eT]; exact hD
  have hq_149 : ad_147 42 = q_22 := by rw [ead_147]; exact hq_133
  have hg_150 : g_148 42 = .inl (cs 5, 3, .inr (.inr (.inr (.inr (va_up (va_up (va_up (fun _ => none) (Int32.toNatClampNeg 0) (some q_27)) (Int32.toNatClampNeg 1) (some q_40)) (Int32.toNatClampNeg 2) (some q_53)))))) := by rw [eg_148]; exact hg_141
  have hq_151 : ad_147 104 = q_71 := by rw [ead_147]; exact hq_135
  have hg_152 : g_148 104 = .inl (cs 4, 4, .inr (.inr (.inr (.inr (va_up (va_up (va_up (va_up (fun _ => none) (Int32.toNatClampNeg 0) (some q_78)) (Int32.toNatClampNeg 1) (some q_94)) (Int32.toNatClampNeg 2) (some q_110)) (Int32.toNatClampNeg 3) (some q_126)))))) := by rw [eg_148]; exact hg_140
  refine r_putF X hnm0 iX11_init_11 tyX11 tyX11_ok nmX11 hP hD hS rfl 6 (by decide) (List.mem_of_getElem? (i := 65) rfl) rfl rfl (ty := .object "IcicleClock$Winter") (v := .ref q_142) (by decide +kernel) rfl rfl (Nat.le_of_ble_eq_true rfl) dX11_init_120 (fun H locs hP hD hS => ?_)
  have hP : va_P D vwCl ((h0, .inr (11, [.ref q_1, .ref q_8, .ref q_15, .ref q_22, .ref q_66, .ref q_71, .ref q_142, .null, .null, .null, .null, .null, .null, .null])) :: wL ad_147 g_148 115) H := hP
  have hD : va_D A ((h0, .inr (11, [.ref q_1, .ref q_8, .ref q_15, .ref q_22, .ref q_66, .ref q_71, .ref q_142, .null, .null, .null, .null, .null, .null, .null])) :: wL ad_147 g_148 115) := hD
  refine lv_aload_n hx hb dX11_init_123 rfl (lv_at hl 1 rfl) ?_
  refine r_new (ci := 10) (fs := [.int 0, .int 0, .int 0, .null]) X iX11_init_10 tyX10 tyX10_ok (List.mem_of_getElem? (i := 56) rfl) (List.mem_of_getElem? (i := 57) rfl) (List.mem_of_getElem? (i := 58) rfl) hP hD hS hA rfl (fun j hj => by rcases (show j = 0 ∨ j = 1 ∨ j = 2 ∨ j = 3 by omega) with rfl | rfl | rfl | rfl <;> rfl) (Nat.le_of_ble_eq_true rfl) (Nat.le_of_ble_eq_true rfl) dX11_init_124 (fun q_153 H hP hD hS => ?_)
  have hP : va_P D vwCl (((h0, .inr (11, [.ref q_1, .ref q_8, .ref q_15, .ref q_22, .ref q_66, .ref q_71, .ref q_142, .null, .null, .null, .null, .null, .null, .null])) :: wL ad_147 g_148 115) ++ [(q_153, .inr (10, [.int 0, .int 0, .int 0, .null]))]) H := hP
  have hD : va_D A (((h0, .inr (11, [.ref q_1, .ref q_8, .ref q_15, .ref q_22, .ref q_66, .ref q_71, .ref q_142, .null, .null, .null, .null, .null, .null, .null])) :: wL ad_147 g_148 115) ++ [(q_153, .inr (10, [.int 0, .int 0, .int 0, .null]))]) := hD
  refine lv_dup hx hb dX11_init_127 rfl ?_
  refine r_init X hax hP hD hS hA (n_Winter l D cs q_153 H.size) ⟨va_cnB 0 X.2.2.2.2.1 gg_X11_init_X10_init rfl rfl rfl (hax.1 _ (List.mem_of_getElem? (i := 4) rfl)) (X.2.2.2.2.1 _ (List.mem_of_getElem? (i := 58) rfl)) (by decide +kernel) ⟨Nat.le_of_ble_eq_true rfl, Nat.le_of_ble_eq_true rfl⟩, rfl, X.2.2.2.2.1 _ (List.mem_of_getElem? (i := 64) rfl)⟩ hl.1 (Nat.le_of_ble_eq_true rfl) dX11_init_128 ⟨Nat.le_of_ble_eq_true rfl, Nat.le_of_ble_eq_true rfl⟩ (fun a_154 c_155 H locs h_156 h_157 hP hD hS => ?_)
  obtain ⟨ad_158, ead_158⟩ : ∃ x, x = ct ad_147 115 a_154 := ⟨_, rfl⟩
  obtain ⟨g_159, eg_159⟩ : ∃ x, x = ct g_148 115 c_155 := ⟨_, rfl⟩
  have eT : wL ad_147 g_148 115 ++ wL a_154 c_155 2 = wL ad_158 g_159 117 := by rw [ead_158, eg_159]; exact wL_app _ _ _ _ _ _
  have hP : va_P D vwCl ((h0, .inr (11, [.ref q_1, .ref q_8, .ref q_15, .ref q_22, .ref q_66, .ref q_71, .ref q_142, .null, .null, .null, .null, .null, .null, .null])) :: wL ad_158 g_159 117) H := by rw [← eT]; exact hP
  have hD : va_D A ((h0, .inr (11, [.ref q_1, .ref q_8, .ref q_15, .ref q_22, .ref q_66, .ref q_71, .ref q_142, .null, .null, .null, .null, .null, .null, .null])) :: wL ad_158 g_159 117) := by rw [← eT]; exact hD
  have hq_160 : ad_158 42 = q_22 := by rw [ead_158]; exact hq_149
  have hg_161 : g_159 42 = .inl (cs 5, 3, .inr (.inr (.inr (.inr (va_up (va_up (va_up (fun _ => none) (Int32.toNatClampNeg 0) (some q_27)) (Int32.toNatClampNeg 1) (some q_40)) (Int32.toNatClampNeg 2) (some q_53)))))) := by rw [eg_159]; exact hg_150
  have hq_162 : ad_158 104 = q_71 := by rw [ead_158]; exact hq_151
  have hg_163 : g_159 104 = .inl (cs 4, 4, .inr (.inr (.inr (.inr (va_up (va_up (va_up (va_up (fun _ => none) (Int32.toNatClampNeg 0) (some q_78)) (Int32.toNatClampNeg 1) (some q_94)) (Int32.toNatClampNeg 2) (some q_110)) (Int32.toNatClampNeg 3) (some q_126)))))) := by rw [eg_159]; exact hg_152
  refine r_putF X hnm0 iX11_init_11 tyX11 tyX11_ok nmX11 hP hD hS rfl 7 (by decide) (List.mem_of_getElem? (i := 66) rfl) rfl rfl (ty := .object "IcicleClock$Winter") (v := .ref q_153) (by decide +kernel) rfl rfl (Nat.le_of_ble_eq_true rfl) dX11_init_131 (fun H locs hP hD hS => ?_)
  have hP : va_P D vwCl ((h0, .inr (11, [.ref q_1, .ref q_8, .ref q_15, .ref q_22, .ref q_66, .ref q_71, .ref q_142, .ref q_153, .null, .null, .null, .null, .null, .null])) :: wL ad_158 g_159 117) H := hP
  have hD : va_D A ((h0, .inr (11, [.ref q_1, .ref q_8, .ref q_15, .ref q_22, .ref q_66, .ref q_71, .ref q_142, .ref q_153, .null, .null, .null, .null, .null, .null])) :: wL ad_158 g_159 117) := hD
  refine lv_aload_n hx hb dX11_init_134 rfl (lv_at hl 1 rfl) ?_
  refine r_new (ci := 3) (fs := [.null, .int 0]) X iX11_init_3 tyX3 tyX3_ok (List.mem_of_getElem? (i := 67) rfl) (List.mem_of_getElem? (i := 68) rfl) (List.mem_of_getElem? (i := 69) rfl) hP hD hS hA rfl (fun j hj => by rcases (show j = 0 ∨ j = 1 by omega) with rfl | rfl <;> rfl) (Nat.le_of_ble_eq_true rfl) (Nat.le_of_ble_eq_true rfl) dX11_init_135 (fun q_164 H hP hD hS => ?_)
  have hP : va_P D vwCl (((h0, .inr (11, [.ref q_1, .ref q_8, .ref q_15, .ref q_22, .ref q_66, .ref q_71, .ref q_142, .ref q_153, .null, .null, .null, .null, .null, .null])) :: wL ad_158 g_159 117) ++ [(q_164, .inr (3, [.null, .int 0]))]) H := hP
  have hD : va_D A (((h0, .inr (11, [.ref q_1, .ref q_8, .ref q_15, .ref q_22, .ref q_66, .ref q_71, .ref q_142, .ref q_153, .null, .null, .null, .null, .null, .null])) :: wL ad_158 g_159 117) ++ [(q_164, .inr (3, [.null, .int 0]))]) := hD
  refine lv_dup hx hb dX11_init_138 rfl ?_
  refine r_init X hax hP hD hS hA (n_Seen l D cs q_164 H.size) ⟨va_cnB 0 X.2.2.2.2.1 gg_X11_init_X3_init rfl rfl rfl (hax.1 _ (List.mem_of_getElem? (i := 5) rfl)) (X.2.2.2.2.1 _ (List.mem_of_getElem? (i := 69) rfl)) (by decide +kernel) ⟨Nat.le_of_ble_eq_true rfl, Nat.le_of_ble_eq_true rfl⟩, rfl, X.2.2.2.2.1 _ (List.mem_of_getElem? (i := 73) rfl)⟩ hl.1 (Nat.le_of_ble_eq_true rfl) dX11_init_139 ⟨Nat.le_of_ble_eq_true rfl, Nat.le_of_ble_eq_true rfl⟩ (fun a_165 c_166 H locs h_167 h_168 hP hD hS => ?_)
  obtain ⟨ad_169, ead_169⟩ : ∃ x, x = ct ad_158 117 a_165 := ⟨_, rfl⟩
  obtain ⟨g_170, eg_170⟩ : ∃ x, x = ct g_159 117 c_166 := ⟨_, rfl⟩
  have eT : wL ad_158 g_159 117 ++ wL a_165 c_166 2 = wL ad_169 g_170 119 := by rw [ead_169, eg_170]; exact wL_app _ _ _ _ _ _
  have hP : va_P D vwCl ((h0, .inr (11, [.ref q_1, .ref q_8, .ref q_15, .ref q_22, .ref q_66, .ref q_71, .ref q_142, .ref q_153, .null, .null, .null, .null, .null, .null])) :: wL ad_169 g_170 119) H := by rw [← eT]; exact hP
  have hD : va_D A ((h0, .inr (11, [.ref q_1, .ref q_8, .ref q_15, .ref q_22, .ref q_66, .ref q_71, .ref q_142, .ref q_153, .null, .null, .null, .null, .null, .null])) :: wL ad_169 g_170 119) := by rw [← eT]; exact hD
  have hq_171 : ad_169 42 = q_22 := by rw [ead_169]; exact hq_160
  have hg_172 : g_170 42 = .inl (cs 5, 3, .inr (.inr (.inr (.inr (va_up (va_up (va_up (fun _ => none) (Int32.toNatClampNeg 0) (some q_27)) (Int32.toNatClampNeg 1) (some q_40)) (Int32.toNatClampNeg 2) (some q_53)))))) := by rw [eg_170]; exact hg_161
  have hq_173 : ad_169 104 = q_71 := by rw [ead_169]; exact hq_162
  have hg_174 : g_170 104 = .inl (cs 4, 4, .inr (.inr (.inr (.inr (va_up (va_up (va_up (va_up (fun _ => none) (Int32.toNatClampNeg 0) (some q_78)) (Int32.toNatClampNeg 1) (some q_94)) (Int32.toNatClampNeg 2) (some q_110)) (Int32.toNatClampNeg 3) (some q_126)))))) := by rw [eg_170]; exact hg_163
  refine r_putF X hnm0 iX11_init_11 tyX11 tyX11_ok nmX11 hP hD hS rfl 8 (by decide) (List.mem_of_getElem? (i := 74) rfl) rfl rfl (ty := .object "IcicleClock$Seen") (v := .ref q_164) (by decide +kernel) rfl rfl (Nat.le_of_ble_eq_true rfl) dX11_init_142 (fun H locs hP hD hS => ?_)
  have hP : va_P D vwCl ((h0, .inr (11, [.ref q_1, .ref q_8, .ref q_15, .ref q_22, .ref q_66, .ref q_71, .ref q_142, .ref q_153, .ref q_164, .null, .null, .null, .null, .null])) :: wL ad_169 g_170 119) H := hP
  have hD : va_D A ((h0, .inr (11, [.ref q_1, .ref q_8, .ref q_15, .ref q_22, .ref q_66, .ref q_71, .ref q_142, .ref q_153, .ref q_164, .null, .null, .null, .null, .null])) :: wL ad_169 g_170 119) := hD
  refine lv_aload_n hx hb dX11_init_145 rfl (lv_at hl 1 rfl) ?_
  refine r_new (ci := 4) (fs := [.int 0, .int 0, .null]) X iX11_init_4 tyX4 tyX4_ok (List.mem_of_getElem? (i := 75) rfl) (List.mem_of_getElem? (i := 76) rfl) (List.mem_of_getElem? (i := 77) rfl) hP hD hS hA rfl (fun j hj => by rcases (show j = 0 ∨ j = 1 ∨ j = 2 by omega) with rfl | rfl | rfl <;> rfl) (Nat.le_of_ble_eq_true rfl) (Nat.le_of_ble_eq_true rfl) dX11_init_146 (fun q_175 H hP hD hS => ?_)
  have hP : va_P D vwCl (((h0, .inr (11, [.ref q_1, .ref q_8, .ref q_15, .ref q_22, .ref q_66, .ref q_71, .ref q_142, .ref q_153, .ref q_164, .null, .null, .null, .null, .null])) :: wL ad_169 g_170 119) ++ [(q_175, .inr (4, [.int 0, .int 0, .null]))]) H := hP
  have hD : va_D A (((h0, .inr (11, [.ref q_1, .ref q_8, .ref q_15, .ref q_22, .ref q_66, .ref q_71, .ref q_142, .ref q_153, .ref q_164, .null, .null, .null, .null, .null])) :: wL ad_169 g_170 119) ++ [(q_175, .inr (4, [.int 0, .int 0, .null]))]) := hD
  refine lv_dup hx hb dX11_init_149 rfl ?_
  refine r_init X hax hP hD hS hA (n_Slams l D cs q_175 H.size) ⟨va_cnB 0 X.2.2.2.2.1 gg_X11_init_X4_init rfl rfl rfl (hax.1 _ (List.mem_of_getElem? (i := 6) rfl)) (X.2.2.2.2.1 _ (List.mem_of_getElem? (i := 77) rfl)) (by decide +kernel) ⟨Nat.le_of_ble_eq_true rfl, Nat.le_of_ble_eq_true rfl⟩, rfl, X.2.2.2.2.1 _ (List.mem_of_getElem? (i := 82) rfl)⟩ hl.1 (Nat.le_of_ble_eq_true rfl) dX11_init_150 ⟨Nat.le_of_ble_eq_true rfl, Nat.le_of_ble_eq_true rfl⟩ (fun a_176 c_177 H locs h_178 h_179 hP hD hS => ?_)
  obtain ⟨ad_180, ead_180⟩ : ∃ x, x = ct ad_169 119 a_176 := ⟨_, rfl⟩
  obtain ⟨g_181, eg_181⟩ : ∃ x, x = ct g_170 119 c_177 := ⟨_, rfl⟩
  have eT : wL ad_169 g_170 119 ++ wL a_176 c_177 10 = wL ad_180 g_181 129 := by rw [ead_180, eg_181]; exact wL_app _ _ _ _ _ _
  have hP : va_P D vwCl ((h0, .inr (11, [.ref q_1, .ref q_8, .ref q_15, .ref q_22, .ref q_66, .ref q_71, .ref q_142, .ref q_153, .ref q_164, .null, .null, .null, .null, .null])) :: wL ad_180 g_181 129) H := by rw [← eT]; exact hP
  have hD : va_D A ((h0, .inr (11, [.ref q_1, .ref q_8, .ref q_15, .ref q_22, .ref q_66, .ref q_71, .ref q_142, .ref q_153, .ref q_164, .null, .null, .null, .null, .null])) :: wL ad_180 g_181 129) := by rw [← eT]; exact hD
  have hq_182 : ad_180 42 = q_22 := by rw [ead_180]; exact hq_171
  have hg_183 : g_181 42 = .inl (cs 5, 3, .inr (.inr (.inr (.inr (va_up (va_up (va_up (fun _ => none) (Int32.toNatClampNeg 0) (some q_27)) (Int32.toNatClampNeg 1) (some q_40)) (Int32.toNatClampNeg 2) (some q_53)))))) := by rw [eg_181]; exact hg_172
  have hq_184 : ad_180 104 = q_71 := by rw [ead_180]; exact hq_173
  have hg_185 : g_181 104 = .inl (cs 4, 4, .inr (.inr (.inr (.inr (va_up (va_up (va_up (va_up (fun _ => none) (Int32.toNatClampNeg 0) (some q_78)) (Int32.toNatClampNeg 1) (some q_94)) (Int32.toNatClampNeg 2) (some q_110)) (Int32.toNatClampNeg 3) (some q_126)))))) := by rw [eg_181]; exact hg_174
  refine r_putF X hnm0 iX11_init_11 tyX11 tyX11_ok nmX11 hP hD hS rfl 9 (by decide) (List.mem_of_getElem? (i := 83) rfl) rfl rfl (ty := .object "IcicleClock$Slams") (v := .ref q_175) (by decide +kernel) rfl rfl (Nat.le_of_ble_eq_true rfl) dX11_init_153 (fun H locs hP hD hS => ?_)
  have hP : va_P D vwCl ((h0, .inr (11, [.ref q_1, .ref q_8, .ref q_15, .ref q_22, .ref q_66, .ref q_71, .ref q_142, .ref q_153, .ref q_164, .ref q_175, .null, .null, .null, .null])) :: wL ad_180 g_181 129) H := hP
  have hD : va_D A ((h0, .inr (11, [.ref q_1, .ref q_8, .ref q_15, .ref q_22, .ref q_66, .ref q_71, .ref q_142, .ref q_153, .ref q_164, .ref q_175, .null, .null, .null, .null])) :: wL ad_180 g_181 129) := hD
  refine lv_aload_n hx hb dX11_init_156 rfl (lv_at hl 1 rfl) ?_
  refine r_new (ci := 9) (fs := [.null, .null, .null, .int 0]) X iX11_init_9 tyX9 tyX9_ok (List.mem_of_getElem? (i := 84) rfl) (List.mem_of_getElem? (i := 85) rfl) (List.mem_of_getElem? (i := 86) rfl) hP hD hS hA rfl (fun j hj => by rcases (show j = 0 ∨ j = 1 ∨ j = 2 ∨ j = 3 by omega) with rfl | rfl | rfl | rfl <;> rfl) (Nat.le_of_ble_eq_true rfl) (Nat.le_of_ble_eq_true rfl) dX11_init_157 (fun q_186 H hP hD hS => ?_)
  have hP : va_P D vwCl (((h0, .inr (11, [.ref q_1, .ref q_8, .ref q_15, .ref q_22, .ref q_66, .ref q_71, .ref q_142, .ref q_153, .ref q_164, .ref q_175, .null, .null, .null, .null])) :: wL ad_180 g_181 129) ++ [(q_186, .inr (9, [.null, .null, .null, .int 0]))]) H := hP
  have hD : va_D A (((h0, .inr (11, [.ref q_1, .ref q_8, .ref q_15, .ref q_22, .ref q_66, .ref q_71, .ref q_142, .ref q_153, .ref q_164, .ref q_175, .null, .null, .null, .null])) :: wL ad_180 g_181 129) ++ [(q_186, .inr (9, [.null, .null, .null, .int 0]))]) := hD
  refine lv_dup hx hb dX11_init_160 rfl ?_
  refine r_init X hax hP hD hS hA (n_Weathers l D cs q_186 H.size) ⟨va_cnB 0 X.2.2.2.2.1 gg_X11_init_X9_init rfl rfl rfl (hax.1 _ (List.mem_of_getElem? (i := 7) rfl)) (X.2.2.2.2.1 _ (List.mem_of_getElem? (i := 86) rfl)) (by decide +kernel) ⟨Nat.le_of_ble_eq_true rfl, Nat.le_of_ble_eq_true rfl⟩, rfl, X.2.2.2.2.1 _ (List.mem_of_getElem? (i := 93) rfl)⟩ hl.1 (Nat.le_of_ble_eq_true rfl) dX11_init_161 ⟨Nat.le_of_ble_eq_true rfl, Nat.le_of_ble_eq_true rfl⟩ (fun a_187 c_188 H locs h_189 h_190 hP hD hS => ?_)
  obtain ⟨ad_191, ead_191⟩ : ∃ x, x = ct ad_180 129 a_187 := ⟨_, rfl⟩
  obtain ⟨g_192, eg_192⟩ : ∃ x, x = ct g_181 129 c_188 := ⟨_, rfl⟩
  have eT : wL ad_180 g_181 129 ++ wL a_187 c_188 10 = wL ad_191 g_192 139 := by rw [ead_191, eg_192]; exact wL_app _ _ _ _ _ _
  have hP : va_P D vwCl ((h0, .inr (11, [.ref q_1, .ref q_8, .ref q_15, .ref q_22, .ref q_66, .ref q_71, .ref q_142, .ref q_153, .ref q_164, .ref q_175, .null, .null, .null, .null])) :: wL ad_191 g_192 139) H := by rw [← eT]; exact hP
  have hD : va_D A ((h0, .inr (11, [.ref q_1, .ref q_8, .ref q_15, .ref q_22, .ref q_66, .ref q_71, .ref q_142, .ref q_153, .ref q_164, .ref q_175, .null, .null, .null, .null])) :: wL ad_191 g_192 139) := by rw [← eT]; exact hD
  have hq_193 : ad_191 42 = q_22 := by rw [ead_191]; exact hq_182
  have hg_194 : g_192 42 = .inl (cs 5, 3, .inr (.inr (.inr (.inr (va_up (va_up (va_up (fun _ => none) (Int32.toNatClampNeg 0) (some q_27)) (Int32.toNatClampNeg 1) (some q_40)) (Int32.toNatClampNeg 2) (some q_53)))))) := by rw [eg_192]; exact hg_183
  have hq_195 : ad_191 104 = q_71 := by rw [ead_191]; exact hq_184
  have hg_196 : g_192 104 = .inl (cs 4, 4, .inr (.inr (.inr (.inr (va_up (va_up (va_up (va_up (fun _ => none) (Int32.toNatClampNeg 0) (some q_78)) (Int32.toNatClampNeg 1) (some q_94)) (Int32.toNatClampNeg 2) (some q_110)) (Int32.toNatClampNeg 3) (some q_126)))))) := by rw [eg_192]; exact hg_185
  refine r_putF X hnm0 iX11_init_11 tyX11 tyX11_ok nmX11 hP hD hS rfl 10 (by decide) (List.mem_of_getElem? (i := 94) rfl) rfl rfl (ty := .object "IcicleClock$Weathers") (v := .ref q_186) (by decide +kernel) rfl rfl (Nat.le_of_ble_eq_true rfl) dX11_init_164 (fun H locs hP hD hS => ?_)
  have hP : va_P D vwCl ((h0, .inr (11, [.ref q_1, .ref q_8, .ref q_15, .ref q_22, .ref q_66, .ref q_71, .ref q_142, .ref q_153, .ref q_164, .ref q_175, .ref q_186, .null, .null, .null])) :: wL ad_191 g_192 139) H := hP
  have hD : va_D A ((h0, .inr (11, [.ref q_1, .ref q_8, .ref q_15, .ref q_22, .ref q_66, .ref q_71, .ref q_142, .ref q_153, .ref q_164, .ref q_175, .ref q_186, .null, .null, .null])) :: wL ad_191 g_192 139) := hD
  refine lv_aload_n hx hb dX11_init_167 rfl (lv_at hl 1 rfl) ?_
  refine r_new (ci := 1) (fs := [.null, .null, .null, .int 0]) X iX11_init_1 tyX1 tyX1_ok (List.mem_of_getElem? (i := 95) rfl) (List.mem_of_getElem? (i := 96) rfl) (List.mem_of_getElem? (i := 97) rfl) hP hD hS hA rfl (fun j hj => by rcases (show j = 0 ∨ j = 1 ∨ j = 2 ∨ j = 3 by omega) with rfl | rfl | rfl | rfl <;> rfl) (Nat.le_of_ble_eq_true rfl) (Nat.le_of_ble_eq_true rfl) dX11_init_168 (fun q_197 H hP hD hS => ?_)
  have hP : va_P D vwCl (((h0, .inr (11, [.ref q_1, .ref q_8, .ref q_15, .ref q_22, .ref q_66, .ref q_71, .ref q_142, .ref q_153, .ref q_164, .ref q_175, .ref q_186, .null, .null, .null])) :: wL ad_191 g_192 139) ++ [(q_197, .inr (1, [.null, .null, .null, .int 0]))]) H := hP
  have hD : va_D A (((h0, .inr (11, [.ref q_1, .ref q_8, .ref q_15, .ref q_22, .ref q_66, .ref q_71, .ref q_142, .ref q_153, .ref q_164, .ref q_175, .ref q_186, .null, .null, .null])) :: wL ad_191 g_192 139) ++ [(q_197, .inr (1, [.null, .null, .null, .int 0]))]) := hD
  refine lv_dup hx hb dX11_init_171 rfl ?_
  refine r_init X hax hP hD hS hA (n_Chances l D cs q_197 H.size) ⟨va_cnB 0 X.2.2.2.2.1 gg_X11_init_X1_init rfl rfl rfl (hax.1 _ (List.mem_of_getElem? (i := 8) rfl)) (X.2.2.2.2.1 _ (List.mem_of_getElem? (i := 97) rfl)) (by decide +kernel) ⟨Nat.le_of_ble_eq_true rfl, Nat.le_of_ble_eq_true rfl⟩, rfl, X.2.2.2.2.1 _ (List.mem_of_getElem? (i := 103) rfl)⟩ hl.1 (Nat.le_of_ble_eq_true rfl) dX11_init_172 ⟨Nat.le_of_ble_eq_true rfl, Nat.le_of_ble_eq_true rfl⟩ (fun a_198 c_199 H locs h_200 h_201 hP hD hS => ?_)
  obtain ⟨ad_202, ead_202⟩ : ∃ x, x = ct ad_191 139 a_198 := ⟨_, rfl⟩
  obtain ⟨g_203, eg_203⟩ : ∃ x, x = ct g_192 139 c_199 := ⟨_, rfl⟩
  have eT : wL ad_191 g_192 139 ++ wL a_198 c_199 4 = wL ad_202 g_203 143 := by rw [ead_202, eg_203]; exact wL_app _ _ _ _ _ _
  have hP : va_P D vwCl ((h0, .inr (11, [.ref q_1, .ref q_8, .ref q_15, .ref q_22, .ref q_66, .ref q_71, .ref q_142, .ref q_153, .ref q_164, .ref q_175, .ref q_186, .null, .null, .null])) :: wL ad_202 g_203 143) H := by rw [← eT]; exact hP
  have hD : va_D A ((h0, .inr (11, [.ref q_1, .ref q_8, .ref q_15, .ref q_22, .ref q_66, .ref q_71, .ref q_142, .ref q_153, .ref q_164, .ref q_175, .ref q_186, .null, .null, .null])) :: wL ad_202 g_203 143) := by rw [← eT]; exact hD
  have hq_204 : ad_202 42 = q_22 := by rw [ead_202]; exact hq_193
  have hg_205 : g_203 42 = .inl (cs 5, 3, .inr (.inr (.inr (.inr (va_up (va_up (va_up (fun _ => none) (Int32.toNatClampNeg 0) (some q_27)) (Int32.toNatClampNeg 1) (some q_40)) (Int32.toNatClampNeg 2) (some q_53)))))) := by rw [eg_203]; exact hg_194
  have hq_206 : ad_202 104 = q_71 := by rw [ead_202]; exact hq_195
  have hg_207 : g_203 104 = .inl (cs 4, 4, .inr (.inr (.inr (.inr (va_up (va_up (va_up (va_up (fun _ => none) (Int32.toNatClampNeg 0) (some q_78)) (Int32.toNatClampNeg 1) (some q_94)) (Int32.toNatClampNeg 2) (some q_110)) (Int32.toNatClampNeg 3) (some q_126)))))) := by rw [eg_203]; exact hg_196
  refine r_putF X hnm0 iX11_init_11 tyX11 tyX11_ok nmX11 hP hD hS rfl 11 (by decide) (List.mem_of_getElem? (i := 104) rfl) rfl rfl (ty := .object "IcicleClock$Chances") (v := .ref q_197) (by decide +kernel) rfl rfl (Nat.le_of_ble_eq_true rfl) dX11_init_175 (fun H locs hP hD hS => ?_)
  have hP : va_P D vwCl ((h0, .inr (11, [.ref q_1, .ref q_8, .ref q_15, .ref q_22, .ref q_66, .ref q_71, .ref q_142, .ref q_153, .ref q_164, .ref q_175, .ref q_186, .ref q_197, .null, .null])) :: wL ad_202 g_203 143) H := hP
  have hD : va_D A ((h0, .inr (11, [.ref q_1, .ref q_8, .ref q_15, .ref q_22, .ref q_66, .ref q_71, .ref q_142, .ref q_153, .ref q_164, .ref q_175, .ref q_186, .ref q_197, .null, .null])) :: wL ad_202 g_203 143) := hD
  refine lv_aload_n hx hb dX11_init_178 rfl (lv_at hl 1 rfl) ?_
  refine r_new (ci := 8) (fs := [.int 0, .null, .null, .null, .int 0, .int 0]) X iX11_init_8 tyX8 tyX8_ok (List.mem_of_getElem? (i := 105) rfl) (List.mem_of_getElem? (i := 106) rfl) (List.mem_of_getElem? (i := 107) rfl) hP hD hS hA rfl (fun j hj => by rcases (show j = 0 ∨ j = 1 ∨ j = 2 ∨ j = 3 ∨ j = 4 ∨ j = 5 by omega) with rfl | rfl | rfl | rfl | rfl | rfl <;> rfl) (Nat.le_of_ble_eq_true rfl) (Nat.le_of_ble_eq_true rfl) dX11_init_179 (fun q_208 H hP hD hS => ?_)
  have hP : va_P D vwCl (((h0, .inr (11, [.ref q_1, .ref q_8, .ref q_15, .ref q_22, .ref q_66, .ref q_71, .ref q_142, .ref q_153, .ref q_164, .ref q_175, .ref q_186, .ref q_197, .null, .null])) :: wL ad_202 g_203 143) ++ [(q_208, .inr (8, [.int 0, .null, .null, .null, .int 0, .int 0]))]) H := hP
  have hD : va_D A (((h0, .inr (11, [.ref q_1, .ref q_8, .ref q_15, .ref q_22, .ref q_66, .ref q_71, .ref q_142, .ref q_153, .ref q_164, .ref q_175, .ref q_186, .ref q_197, .null, .null])) :: wL ad_202 g_203 143) ++ [(q_208, .inr (8, [.int 0, .null, .null, .null, .int 0, .int 0]))]) := hD
  refine lv_dup hx hb dX11_init_182 rfl ?_
  refine r_init X hax hP hD hS hA (n_Walker l D cs q_208 H.size) ⟨va_cnB 0 X.2.2.2.2.1 gg_X11_init_X8_init rfl rfl rfl (hax.1 _ (List.mem_of_getElem? (i := 9) rfl)) (X.2.2.2.2.1 _ (List.mem_of_getElem? (i := 107) rfl)) (by decide +kernel) ⟨Nat.le_of_ble_eq_true rfl, Nat.le_of_ble_eq_true rfl⟩, rfl, X.2.2.2.2.1 _ (List.mem_of_getElem? (i := 114) rfl)⟩ hl.1 (Nat.le_of_ble_eq_true rfl) dX11_init_183 ⟨Nat.le_of_ble_eq_true rfl, Nat.le_of_ble_eq_true rfl⟩ (fun a_209 c_210 H locs h_211 h_212 hP hD hS => ?_)
  obtain ⟨ad_213, ead_213⟩ : ∃ x, x = ct ad_202 143 a_209 := ⟨_, rfl⟩
  obtain ⟨g_214, eg_214⟩ : ∃ x, x = ct g_203 143 c_210 := ⟨_, rfl⟩
  have eT : wL ad_202 g_203 143 ++ wL a_209 c_210 46 = wL ad_213 g_214 189 := by rw [ead_213, eg_214]; exact wL_app _ _ _ _ _ _
  have hP : va_P D vwCl ((h0, .inr (11, [.ref q_1, .ref q_8, .ref q_15, .ref q_22, .ref q_66, .ref q_71, .ref q_142, .ref q_153, .ref q_164, .ref q_175, .ref q_186, .ref q_197, .null, .null])) :: wL ad_213 g_214 189) H := by rw [← eT]; exact hP
  have hD : va_D A ((h0, .inr (11, [.ref q_1, .ref q_8, .ref q_15, .ref q_22, .ref q_66, .ref q_71, .ref q_142, .ref q_153, .ref q_164, .ref q_175, .ref q_186, .ref q_197, .null, .null])) :: wL ad_213 g_214 189) := by rw [← eT]; exact hD
  have hq_215 : ad_213 42 = q_22 := by rw [ead_213]; exact hq_204
  have hg_216 : g_214 42 = .inl (cs 5, 3, .inr (.inr (.inr (.inr (va_up (va_up (va_up (fun _ => none) (Int32.toNatClampNeg 0) (some q_27)) (Int32.toNatClampNeg 1) (some q_40)) (Int32.toNatClampNeg 2) (some q_53)))))) := by rw [eg_214]; exact hg_205
  have hq_217 : ad_213 104 = q_71 := by rw [ead_213]; exact hq_206
  have hg_218 : g_214 104 = .inl (cs 4, 4, .inr (.inr (.inr (.inr (va_up (va_up (va_up (va_up (fun _ => none) (Int32.toNatClampNeg 0) (some q_78)) (Int32.toNatClampNeg 1) (some q_94)) (Int32.toNatClampNeg 2) (some q_110)) (Int32.toNatClampNeg 3) (some q_126)))))) := by rw [eg_214]; exact hg_207
  refine r_putF X hnm0 iX11_init_11 tyX11 tyX11_ok nmX11 hP hD hS rfl 12 (by decide) (List.mem_of_getElem? (i := 115) rfl) rfl rfl (ty := .object "IcicleClock$Walker") (v := .ref q_208) (by decide +kernel) rfl rfl (Nat.le_of_ble_eq_true rfl) dX11_init_186 (fun H locs hP hD hS => ?_)
  have hP : va_P D vwCl ((h0, .inr (11, [.ref q_1, .ref q_8, .ref q_15, .ref q_22, .ref q_66, .ref q_71, .ref q_142, .ref q_153, .ref q_164, .ref q_175, .ref q_186, .ref q_197, .ref q_208, .null])) :: wL ad_213 g_214 189) H := hP
  have hD : va_D A ((h0, .inr (11, [.ref q_1, .ref q_8, .ref q_15, .ref q_22, .ref q_66, .ref q_71, .ref q_142, .ref q_153, .ref q_164, .ref q_175, .ref q_186, .ref q_197, .ref q_208, .null])) :: wL ad_213 g_214 189) := hD
  refine lv_aload_n hx hb dX11_init_189 rfl (lv_at hl 1 rfl) ?_
  refine r_new (ci := 2) (fs := [.int 0, .int 0, .null]) X iX11_init_2 tyX2 tyX2_ok (List.mem_of_getElem? (i := 116) rfl) (List.mem_of_getElem? (i := 117) rfl) (List.mem_of_getElem? (i := 118) rfl) hP hD hS hA rfl (fun j hj => by rcases (show j = 0 ∨ j = 1 ∨ j = 2 by omega) with rfl | rfl | rfl <;> rfl) (Nat.le_of_ble_eq_true rfl) (Nat.le_of_ble_eq_true rfl) dX11_init_190 (fun q_219 H hP hD hS => ?_)
  have hP : va_P D vwCl (((h0, .inr (11, [.ref q_1, .ref q_8, .ref q_15, .ref q_22, .ref q_66, .ref q_71, .ref q_142, .ref q_153, .ref q_164, .ref q_175, .ref q_186, .ref q_197, .ref q_208, .null])) :: wL ad_213 g_214 189) ++ [(q_219, .inr (2, [.int 0, .int 0, .null]))]) H := hP
  have hD : va_D A (((h0, .inr (11, [.ref q_1, .ref q_8, .ref q_15, .ref q_22, .ref q_66, .ref q_71, .ref q_142, .ref q_153, .ref q_164, .ref q_175, .ref q_186, .ref q_197, .ref q_208, .null])) :: wL ad_213 g_214 189) ++ [(q_219, .inr (2, [.int 0, .int 0, .null]))]) := hD
  refine lv_dup hx hb dX11_init_193 rfl ?_
  refine r_init X hax hP hD hS hA (n_Clerks l D cs q_219 H.size) ⟨va_cnB 0 X.2.2.2.2.1 gg_X11_init_X2_init rfl rfl rfl (hax.1 _ (List.mem_of_getElem? (i := 10) rfl)) (X.2.2.2.2.1 _ (List.mem_of_getElem? (i := 118) rfl)) (by decide +kernel) ⟨Nat.le_of_ble_eq_true rfl, Nat.le_of_ble_eq_true rfl⟩, rfl, X.2.2.2.2.1 _ (List.mem_of_getElem? (i := 123) rfl)⟩ hl.1 (Nat.le_of_ble_eq_true rfl) dX11_init_194 ⟨Nat.le_of_ble_eq_true rfl, Nat.le_of_ble_eq_true rfl⟩ (fun a_220 c_221 H locs h_222 h_223 hP hD hS => ?_)
  obtain ⟨ad_224, ead_224⟩ : ∃ x, x = ct ad_213 189 a_220 := ⟨_, rfl⟩
  obtain ⟨g_225, eg_225⟩ : ∃ x, x = ct g_214 189 c_221 := ⟨_, rfl⟩
  have eT : wL ad_213 g_214 189 ++ wL a_220 c_221 7 = wL ad_224 g_225 196 := by rw [ead_224, eg_225]; exact wL_app _ _ _ _ _ _
  have hP : va_P D vwCl ((h0, .inr (11, [.ref q_1, .ref q_8, .ref q_15, .ref q_22, .ref q_66, .ref q_71, .ref q_142, .ref q_153, .ref q_164, .ref q_175, .ref q_186, .ref q_197, .ref q_208, .null])) :: wL ad_224 g_225 196) H := by rw [← eT]; exact hP
  have hD : va_D A ((h0, .inr (11, [.ref q_1, .ref q_8, .ref q_15, .ref q_22, .ref q_66, .ref q_71, .ref q_142, .ref q_153, .ref q_164, .ref q_175, .ref q_186, .ref q_197, .ref q_208, .null])) :: wL ad_224 g_225 196) := by rw [← eT]; exact hD
  have hq_226 : ad_224 42 = q_22 := by rw [ead_224]; exact hq_215
  have hg_227 : g_225 42 = .inl (cs 5, 3, .inr (.inr (.inr (.inr (va_up (va_up (va_up (fun _ => none) (Int32.toNatClampNeg 0) (some q_27)) (Int32.toNatClampNeg 1) (some q_40)) (Int32.toNatClampNeg 2) (some q_53)))))) := by rw [eg_225]; exact hg_216
  have hq_228 : ad_224 104 = q_71 := by rw [ead_224]; exact hq_217
  have hg_229 : g_225 104 = .inl (cs 4, 4, .inr (.inr (.inr (.inr (va_up (va_up (va_up (va_up (fun _ => none) (Int32.toNatClampNeg 0) (some q_78)) (Int32.toNatClampNeg 1) (some q_94)) (Int32.toNatClampNeg 2) (some q_110)) (Int32.toNatClampNeg 3) (some q_126)))))) := by rw [eg_225]; exact hg_218
  refine r_putF X hnm0 iX11_init_11 tyX11 tyX11_ok nmX11 hP hD hS rfl 13 (by decide) (List.mem_of_getElem? (i := 124) rfl) rfl rfl (ty := .object "IcicleClock$Clerks") (v := .ref q_219) (by decide +kernel) rfl rfl (Nat.le_of_ble_eq_true rfl) dX11_init_197 (fun H locs hP hD hS => ?_)
  have hP : va_P D vwCl ((h0, .inr (11, [.ref q_1, .ref q_8, .ref q_15, .ref q_22, .ref q_66, .ref q_71, .ref q_142, .ref q_153, .ref q_164, .ref q_175, .ref q_186, .ref q_197, .ref q_208, .ref q_219])) :: wL ad_224 g_225 196) H := hP
  have hD : va_D A ((h0, .inr (11, [.ref q_1, .ref q_8, .ref q_15, .ref q_22, .ref q_66, .ref q_71, .ref q_142, .ref q_153, .ref q_164, .ref q_175, .ref q_186, .ref q_197, .ref q_208, .ref q_219])) :: wL ad_224 g_225 196) := hD
  have eW : (h0, .inr (11, [.ref q_1, .ref q_8, .ref q_15, .ref q_22, .ref q_66, .ref q_71, .ref q_142, .ref q_153, .ref q_164, .ref q_175, .ref q_186, .ref q_197, .ref q_208, .ref q_219])) :: wL ad_224 g_225 196 = wL (ct (fun _ => h0) 1 ad_224) (ct (fun _ => .inr (11, [.ref q_1, .ref q_8, .ref q_15, .ref q_22, .ref q_66, .ref q_71, .ref q_142, .ref q_153, .ref q_164, .ref q_175, .ref q_186, .ref q_197, .ref q_208, .ref q_219])) 1 g_225) 197 := by rw [wL_cons, show 1 + 196 = 197 from rfl]
  rw [eW] at hP hD
  refine W.widen (k := 196) (n := 3237) (Nat.le_of_ble_eq_true rfl) (Nat.le_of_ble_eq_true rfl) ?_
  refine hfin H locs 200 ls _ _ hP hD hS rfl ?_ dX11_init_200
  exact f_n_X11 cs h0 _ _ _ _ _ _ _ _ _ _ _ _ _ _ _ _ _ _ _ _ _ _ _ _ _ _ _ _ _ _ _ _ _ _ _ _ _ _ _ _ _ _ _ _ _ _ _ _ _ _ _ _ _ _ _ _ _ _ _ _ _ _ _ _ _ _ _ _ _ _ _ _ _ _ _ _ _ _ _ _ _ _ _ _ _ _ _ _ _ _ _ _ _ _ _ _ _ _ _ _ _ _ _ _ _ _ _ _ h_4 h_5 ead_6 eg_7 h_11 h_12 ead_13 eg_14 h_18 h_19 ead_20 eg_21 ead_23 eg_24 h_30 h_31 ead_32 eg_33 eg_36 h_43 h_44 ead_45 eg_46 eg_49 h_56 h_57 ead_58 eg_59 eg_62 ead_67 eg_68 ead_72 eg_73 h_81 h_82 ead_83 eg_84 eg_89 h_97 h_98 ead_99 eg_100 eg_105 h_113 h_114 ead_115 eg_116 eg_121 h_129 h_130 ead_131 eg_132 eg_137 h_145 h_146 ead_147 eg_148 h_156 h_157 ead_158 eg_159 h_167 h_168 ead_169 eg_170 h_178 h_179 ead_180 eg_181 h_189 h_190 ead_191 eg_192 h_200 h_201 ead_202 eg_203 h_211 h_212 ead_213 eg_214 h_222 h_223 ead_224 eg_225
