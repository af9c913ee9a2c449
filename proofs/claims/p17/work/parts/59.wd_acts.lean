/-! acts, side by side -/
theorem ac_eq {x y : sG} (h : lt2 x y) (hI : invX x) {c a : Int} (hc : bt 0 c 3) (ha : bt 0 a 1) : acX x c.toNat a = acY y c a ∧ daX x c.toNat a = daY y c a := by
  have hch := hI.2.2.2.2.2.2.1 c.toNat (by omega)
  have g := h.2.2.1 c.toNat (by omega)
  have ek : ∀ k : Nat, k < 4 → x 14 c.toNat (k + 1) = chN y c k := fun k hk => by
    rw [g.2 k hk]
    unfold chN
    congr 1
    omega
  have en : ∀ b, bt 0 b 11 → nmR x a b = nmY y a b := fun b hb => by
    unfold nmR nmY
    rw [h.1.2.2.2.1]
  have ev : ∀ b, bt 0 b 11 → vX x (nmR x a b) = vY y (nmY y a b) := fun b hb => by
    funext t
    rw [h.2.1.v (nmR_lt hI ha hb), en b hb]
  have e0 := ek 0 (by decide)
  have e1 := ek 1 (by decide)
  have e2 := ek 2 (by decide)
  have e3 := ek 3 (by decide)
  constructor
  · unfold acX acY
    rw [ev _ hch.2.1, ev _ hch.2.2.1, ev _ hch.2.2.2.1, ← e0, ← e1, ← e2]
  · funext t
    unfold daX daY
    rw [ev _ hch.2.2.2.2, ← e3]
theorem ans_act {x y : sG} {r r' c a n w : Int} (h : lt2 x y) (hI : invX x) (_hIY : invY y)
    (h1 : (¬ (bt 0 c 3 ∧ bt 0 a 1 ∧ -1 ≤ n ∧ bt 0 w 1) ∧ r = -1) ∨ ((bt 0 c 3 ∧ bt 0 a 1 ∧ -1 ≤ n ∧ bt 0 w 1) ∧ ((x 14 c.toNat 0 = 0 ∧ r = -2) ∨ (x 14 c.toNat 0 ≠ 0 ∧ anA (acX x c.toNat a) (daX x c.toNat a) (x 0 0 9) n w r))))
    (h2 : (¬ (bt 0 c 3 ∧ bt 0 a 1 ∧ -1 ≤ n ∧ bt 0 w 1) ∧ r' = -1) ∨ ((bt 0 c 3 ∧ bt 0 a 1 ∧ -1 ≤ n ∧ bt 0 w 1) ∧ ((y 11 0 c.toNat = 0 ∧ r' = -2) ∨ (y 11 0 c.toNat ≠ 0 ∧ anA (acY y c a) (daY y c a) (y 0 0 0) n w r')))) : r = r' := by
  rcases h1 with ⟨p1, p2⟩ | ⟨p1, p2⟩ <;> rcases h2 with ⟨q1, q2⟩ | ⟨q1, q2⟩
  · omega
  · exact absurd q1 p1
  · exact absurd p1 q1
  · have g := (h.2.2.1 c.toNat (by omega)).1
    obtain ⟨e1, e2⟩ := ac_eq h hI p1.1 p1.2.1
    rw [g, e1, e2, h.1.1] at p2
    rcases p2 with ⟨a1, a2⟩ | ⟨a1, a2⟩ <;> rcases q2 with ⟨b1, b2⟩ | ⟨b1, b2⟩
    · omega
    · exact absurd a1 b1
    · exact absurd b1 a1
    · exact a2.uq b2
theorem ans_unlike {x y : sG} {r r' c : Int} (h : lt2 x y) (hI : invX x) (_hIY : invY y)
    (h1 : (¬ bt 0 c 3 ∧ r = -1) ∨ (bt 0 c 3 ∧ ((x 14 c.toNat 0 = 0 ∧ r = -2) ∨ (x 14 c.toNat 0 ≠ 0 ∧ ulP (acX x c.toNat 0) (acX x c.toNat 1) (daX x c.toNat 0) (daX x c.toNat 1) (x 0 0 10) (x 0 0 9) r))))
    (h2 : (¬ bt 0 c 3 ∧ r' = -1) ∨ (bt 0 c 3 ∧ ((y 11 0 c.toNat = 0 ∧ r' = -2) ∨ (y 11 0 c.toNat ≠ 0 ∧ ulP (acY y c 0) (acY y c 1) (daY y c 0) (daY y c 1) (y 0 0 1) (y 0 0 0) r')))) : r = r' := by
  rcases h1 with ⟨p1, p2⟩ | ⟨p1, p2⟩ <;> rcases h2 with ⟨q1, q2⟩ | ⟨q1, q2⟩
  · omega
  · exact absurd q1 p1
  · exact absurd p1 q1
  · have g := (h.2.2.1 c.toNat (by omega)).1
    obtain ⟨e1, e2⟩ := ac_eq (a := 0) h hI p1 (by omega)
    obtain ⟨e3, e4⟩ := ac_eq (a := 1) h hI p1 (by omega)
    rw [g, e1, e2, e3, e4, h.1.1, h.1.2.1] at p2
    rcases p2 with ⟨a1, a2⟩ | ⟨a1, a2⟩ <;> rcases q2 with ⟨b1, b2⟩ | ⟨b1, b2⟩
    · omega
    · exact absurd a1 b1
    · exact absurd b1 a1
    · exact a2.uq b2
