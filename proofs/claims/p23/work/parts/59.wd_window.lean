/-! window, side by side -/
section ANS
variable {x y : sG} {r r' : Int}
theorem ans_window {a b c d e : Int} (h : lt2 x y) (_hI : invX x) (_hIY : invY y) (h1 : (¬ (bt 0 a 1 ∧ bt 0 b 11 ∧ 0 ≤ c ∧ c < d ∧ d ≤ x 0 0 9 ∧ bt 0 e 2) ∧ r = -1) ∨ ((bt 0 a 1 ∧ bt 0 b 11 ∧ 0 ≤ c ∧ c < d ∧ d ≤ x 0 0 9 ∧ bt 0 e 2) ∧ r = (gI (Sm (wF e (vX x (rix a b))) c d)).toInt))
    (h2 : (¬ (bt 0 a 1 ∧ bt 0 b 11 ∧ 0 ≤ c ∧ c < d ∧ d ≤ y 0 0 0 ∧ bt 0 e 2) ∧ r' = -1) ∨ ((bt 0 a 1 ∧ bt 0 b 11 ∧ 0 ≤ c ∧ c < d ∧ d ≤ y 0 0 0 ∧ bt 0 e 2) ∧ r' = (gI (Sm (wF e (vY y (12 * a + b).toNat)) c d)).toInt)) : r = r' := by
  have e9 := h.1.1
  rcases h1 with ⟨p1, p2⟩ | ⟨p1, p2⟩ <;> rcases h2 with ⟨q1, q2⟩ | ⟨q1, q2⟩
  · omega
  · exact absurd (by omega) p1
  · exact absurd (by omega) q1
  · obtain ⟨hr, hq⟩ := rix_q p1.1 p1.2.1
    have e : vX x (rix a b) = vY y (12 * a + b).toNat := by
      funext t
      rw [h.2.1.v hr, hq]
      rfl
    rw [p2, q2, e]
end ANS
