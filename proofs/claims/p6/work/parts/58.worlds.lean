def dLaw : Nat → dE := yD (upD (xD (upD (fun _ => .inl (0, [])) 0 (.inl (6, [.inl none, .inl none, .inl none, .inl none, .inl none, .inl none, .inl none, .inl none, .inr (0), .inr (0), .inr (0)])))) 182 (.inl (7, [.inr (0), .inr (0), .inl none, .inl none, .inl none, .inl none, .inl none, .inl none, .inr (0), .inl none, .inl none, .inl none, .inl none, .inl none, .inl none, .inl none, .inl none, .inl none, .inr (0), .inr (0), .inr (0), .inr (0), .inr (0)])))
def rpX (i : Nat) : Nat := if i < 24 then 54 + 3 * i else if i < 34 then 139 + 4 * (i - 24) else 11 + 4 * (i - 34)
def posX (k i : Nat) : Nat := match k with
  | 10 => rpX i
  | 11 => rpX i + 1
  | 12 => rpX i + 2
  | 13 => 138 + 4 * i
  | 14 => 178 + i
  | 15 => 126 + i
  | 16 => 10 + 4 * i
  | k => k
def s0X : sG := fun k i j => match k with
  | 0 => if j = 9 then 1000 else 0
  | 2 => if j < 12 then (j : Int) else 0
  | 13 => if j = 2 then 24 + (i : Int) else if j = 3 then 1 else 0
  | 16 => if j = 1 then 34 + (i : Int) else if j = 2 then 34 + (i : Int) else if j = 5 then 1 else 0
  | _ => 0
def s0Y : sG := fun k _ j => match k with
  | 0 => if j = 0 then 1000 else 0
  | 4 => if j < 12 then (j : Int) else 0
  | _ => 0
set_option maxRecDepth 100000 in
theorem dl_rows : ∀ i, i < 45 → dLaw (rpX i) = oRow (rpX i + 1) (rpX i + 2) ∧ dLaw (rpX i + 1) = .inr (.inl (0, 50, 0)) ∧ dLaw (rpX i + 2) = .inr (.inl (0, 50, 0)) := by decide +kernel
set_option maxRecDepth 100000 in
theorem dl_masks : ∀ i, i < 10 → dLaw (138 + 4 * i) = .inl (2, [.inl (some (rpX (24 + i))), .inr 0, .inl (some (rpX (24 + i))), .inr 1]) := by decide +kernel
set_option maxRecDepth 100000 in
theorem dl_chans : ∀ i, i < 4 → dLaw (178 + i) = .inl (0, [.inr 0, .inr 0, .inr 0, .inr 0, .inr 0]) := by decide +kernel
set_option maxRecDepth 100000 in
theorem dl_gates : ∀ i, i < 12 → dLaw (126 + i) = .inl (1, [.inr 0, .inr 0, .inr 0]) := by decide +kernel
set_option maxRecDepth 100000 in
theorem dl_pairs : ∀ i, i < 11 → dLaw (10 + 4 * i) = .inl (3, [.inl (some (rpX (34 + i))), .inl (some (rpX (34 + i))), .inl (some (rpX (34 + i))), .inr 0, .inr 0, .inr 1]) := by decide +kernel
set_option maxRecDepth 100000 in
theorem dl_x : dLaw 0 = .inl (6, [.inl (some (1)), .inl (some (2)), .inl (some (3)), .inl (some (4)), .inl (some (5)), .inl (some (6)), .inl (some (7)), .inl (some (8)), .inr (0), .inr (1000), .inr (0)]) ∧ dLaw 1 = .inr (.inr (2, 24, 24, 54, 3)) ∧ dLaw 2 = .inr (.inl (0, 12, 12)) ∧ dLaw 3 = .inr (.inl (0, 12, 0)) ∧ dLaw 4 = .inr (.inl (0, 4, 0)) ∧ dLaw 5 = .inr (.inr (3, 10, 10, 138, 4)) ∧ dLaw 6 = .inr (.inr (4, 4, 4, 178, 1)) ∧ dLaw 7 = .inr (.inr (5, 12, 12, 126, 1)) ∧ dLaw 8 = .inl (5, [.inl (some (9)), .inr (0), .inr (0), .inr (0), .inr (0)]) ∧ dLaw 9 = .inr (.inr (6, 11, 11, 10, 4)) := by decide +kernel
set_option maxRecDepth 100000 in
theorem dl_y : dLaw 182 = .inl (7, [.inr (1000), .inr (0), .inl (some (183)), .inl (some (184)), .inl (some (185)), .inl (some (186)), .inl (some (187)), .inl (some (188)), .inr (0), .inl (some (189)), .inl (some (190)), .inl (some (191)), .inl (some (192)), .inl (some (193)), .inl (some (194)), .inl (some (195)), .inl (some (196)), .inl (some (197)), .inr (0), .inr (0), .inr (0), .inr (0), .inr (0)]) ∧ dLaw 183 = .inr (.inl (0, 24, 0)) ∧ dLaw 184 = .inr (.inl (0, 1200, 0)) ∧ dLaw 185 = .inr (.inl (0, 1200, 0)) ∧ dLaw 186 = .inr (.inl (0, 12, 12)) ∧ dLaw 187 = .inr (.inl (0, 12, 0)) ∧ dLaw 188 = .inr (.inl (0, 4, 0)) ∧ dLaw 189 = .inr (.inl (0, 10, 0)) ∧ dLaw 190 = .inr (.inl (0, 10, 0)) ∧ dLaw 191 = .inr (.inl (0, 10, 0)) ∧ dLaw 192 = .inr (.inl (0, 10, 0)) ∧ dLaw 193 = .inr (.inl (1, 4, 0)) ∧ dLaw 194 = .inr (.inl (0, 16, 0)) ∧ dLaw 195 = .inr (.inl (0, 12, 0)) ∧ dLaw 196 = .inr (.inl (0, 12, 0)) ∧ dLaw 197 = .inr (.inl (0, 12, 0)) := by decide +kernel
