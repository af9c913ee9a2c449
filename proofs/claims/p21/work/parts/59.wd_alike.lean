/-! alike, side by side -/
theorem ans_alike {x y : sG} {r r' a : Int} (h : lt2 x y) (_hI : invX x) (_hIY : invY y) (h1 : (¬ bt 0 a 11 ∧ r = -1) ∨ (bt 0 a 11 ∧ r = (bF (alX x a) 12).toInt)) (h2 : (¬ bt 0 a 11 ∧ r' = -1) ∨ (bt 0 a 11 ∧ r' = (bF (alY y a) 12).toInt)) : r = r' := by
  rcases h1 with ⟨p1, p2⟩ | ⟨p1, p2⟩ <;> rcases h2 with ⟨q1, q2⟩ | ⟨q1, q2⟩
  · omega
  · exact absurd q1 p1
  · exact absurd p1 q1
  · have e9 := h.1.1
    have e10 := h.1.2.1
    have e : ∀ o, o < 12 → (alX x a o ↔ alY y a o) := fun o ho => by
      unfold alX alY
      rw [e9, e10]
      exact ⟨fun z t t1 t2 => by rw [← h.2.1.v (by omega), ← h.2.1.v (by omega)]; exact z t t1 t2, fun z t t1 t2 => by rw [h.2.1.v (by omega), h.2.1.v (by omega)]; exact z t t1 t2⟩
    rw [p2, q2, bF_congr 12 e]
