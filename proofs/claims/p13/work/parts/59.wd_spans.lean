theorem ans_differences {x y : sG} {r r' : Int} (h : lt2 x y) (hI : invX x) (_hIY : invY y) (h1 : r = nD (dfX x) (x 0 0 9) 12) (h2 : r' = nD (dfY y) (y 0 0 0) 12) : r = r' := by
  rw [h1, h2, ← h.1.1]
  exact nD_congr (fun o ho t _ _ => df_eq h hI o ho t) 12 (by omega)
theorem ans_difference {x y : sG} {r r' a w : Int} (h : lt2 x y) (hI : invX x) (_hIY : invY y) (h1 : (¬ (0 ≤ a ∧ bt 0 w 2) ∧ r = -1) ∨ ((0 ≤ a ∧ bt 0 w 2) ∧ dfP (dfX x) (x 0 0 9) a w r)) (h2 : (¬ (0 ≤ a ∧ bt 0 w 2) ∧ r' = -1) ∨ ((0 ≤ a ∧ bt 0 w 2) ∧ dfP (dfY y) (y 0 0 0) a w r')) : r = r' := by
  have h9 := hI.1.2.1
  rcases h1 with ⟨p1, p2⟩ | ⟨p1, p2⟩ <;> rcases h2 with ⟨q1, q2⟩ | ⟨q1, q2⟩
  · omega
  · exact absurd q1 p1
  · exact absurd p1 q1
  · rw [← h.1.1] at q2
    exact dfP.uq (by omega) (fun o ho t _ _ => df_eq h hI o ho t) p2 q2
