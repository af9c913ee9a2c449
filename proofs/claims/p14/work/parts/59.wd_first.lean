theorem ans_first {x y : sG} {r r' : Int} (h : lt2 x y) (hI : invX x) (_hIY : invY y) (h1 : ∃ m, mP (dfX x) (x 0 0 9) 12 m ∧ r = (if m < x 0 0 9 then m else -4)) (h2 : ∃ m, mP (dfY y) (y 0 0 0) 12 m ∧ r' = (if m < y 0 0 0 then m else -4)) : r = r' := by
  obtain ⟨m, a1, a2⟩ := h1
  obtain ⟨m', b1, b2⟩ := h2
  rw [← h.1.1] at b1 b2
  have e := mP.uq (fun o ho t _ _ => df_eq h hI o (by omega) t) a1 b1
  rw [a2, b2, e]
