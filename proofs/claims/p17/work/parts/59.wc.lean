/-! answers, side by side -/
theorem ans_x {x y : sG} (h : lt2 x y) (hI : invX x) : sOK x := by
  refine ⟨fun r hr => (h.2.1 r hr).2.2, fun k hk => ?_⟩
  have h8 := hI.1.1
  obtain ⟨-, q⟩ := h.2.2.2 k hk
  rcases q with ⟨-, q2, -, q4, q5, q6, -, -, q9⟩ | ⟨q1, q2, -⟩
  · rw [q2, show (((24 + k : Nat) : Int)).toNat = 24 + k by omega, q4]
    refine ⟨by omega, fun i j hij hj => ?_⟩
    have e1 : i = 0 := by omega
    have e2 : j = 1 := by omega
    rw [e1, e2, q5, q6]
    exact q9
  · rw [q2]
    exact ⟨by omega, (h.2.1 _ (by omega)).2.2⟩
theorem ans_y {x y : sG} (h : lt2 x y) : srY y := fun _ hr => h.2.1.s hr
