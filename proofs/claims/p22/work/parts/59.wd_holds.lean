/-! holds, side by side -/
theorem ans_holds {x y : sG} {r r' a b c d e f g k : Int} (h : lt2 x y) (_hI : invX x) (_hIY : invY y)
    (h1 : (¬ (bt 0 a 1 ∧ bt 0 b 11 ∧ bt 0 c 256 ∧ bt 0 d 11 ∧ bt 0 e 256 ∧ bt 1 f 4000 ∧ -1 ≤ g ∧ bt 0 k 1) ∧ r = -1) ∨ ((bt 0 a 1 ∧ bt 0 b 11 ∧ bt 0 c 256 ∧ bt 0 d 11 ∧ bt 0 e 256 ∧ bt 1 f 4000 ∧ -1 ≤ g ∧ bt 0 k 1) ∧ hoP (hoX x a b c d e) f (x 0 0 9) g k r))
    (h2 : (¬ (bt 0 a 1 ∧ bt 0 b 11 ∧ bt 0 c 256 ∧ bt 0 d 11 ∧ bt 0 e 256 ∧ bt 1 f 4000 ∧ -1 ≤ g ∧ bt 0 k 1) ∧ r' = -1) ∨ ((bt 0 a 1 ∧ bt 0 b 11 ∧ bt 0 c 256 ∧ bt 0 d 11 ∧ bt 0 e 256 ∧ bt 1 f 4000 ∧ -1 ≤ g ∧ bt 0 k 1) ∧ hoP (hoY y a b c d e) f (y 0 0 0) g k r')) : r = r' := by
  rcases h1 with ⟨p1, p2⟩ | ⟨p1, p2⟩ <;> rcases h2 with ⟨q1, q2⟩ | ⟨q1, q2⟩
  · omega
  · exact absurd q1 p1
  · exact absurd p1 q1
  · rw [← h.1.1] at q2
    obtain ⟨hr, hq⟩ := rix_q p1.1 p1.2.1
    obtain ⟨hr2, hq2⟩ := rix_q p1.1 p1.2.2.2.1
    refine hoP.uq (by omega) (fun t _ _ => ?_) p2 q2
    unfold hoX hoY
    rw [h.2.1.v hr, h.2.1.v hr2, hq, hq2]
    exact Iff.rfl
