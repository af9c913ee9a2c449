theorem ans_fit {x y : sG} {r r' a : Int} (h : lt2 x y) (hI : invX x) (_hIY : invY y)
    (h1 : (¬ bt 0 a 3 ∧ r = -1001) ∨ (bt 0 a 3 ∧ ((¬ (∃ o : Nat, o < 12 ∧ x 3 0 o = a) ∧ r = -1002) ∨ ((∃ o : Nat, o < 12 ∧ x 3 0 o = a) ∧ frP (fun k => ftP (fun o k t => dX x (o : Int) k t) (fun o => x 3 0 o) (x 0 0 9) a k) r))))
    (h2 : (¬ bt 0 a 3 ∧ r' = -1001) ∨ (bt 0 a 3 ∧ ((¬ (∃ o : Nat, o < 12 ∧ y 5 0 o = a) ∧ r' = -1002) ∨ ((∃ o : Nat, o < 12 ∧ y 5 0 o = a) ∧ frP (fun k => ftP (fun o k t => dY y (o : Int) k t) (fun o => y 5 0 o) (y 0 0 0) a k) r')))) : r = r' := by
  have e5 : ∀ o, x 3 0 o = y 5 0 o := h.1.2.2.2.2.1
  have eH : (∃ o : Nat, o < 12 ∧ x 3 0 o = a) ↔ (∃ o : Nat, o < 12 ∧ y 5 0 o = a) := ⟨fun ⟨o, o1, o2⟩ => ⟨o, o1, by rw [← e5]; exact o2⟩, fun ⟨o, o1, o2⟩ => ⟨o, o1, by rw [e5]; exact o2⟩⟩
  rcases h1 with ⟨p1, p2⟩ | ⟨p1, ⟨p2, p3⟩ | ⟨p2, p3⟩⟩ <;> rcases h2 with ⟨q1, q2⟩ | ⟨q1, ⟨q2, q3⟩ | ⟨q2, q3⟩⟩
  · omega
  · exact absurd q1 p1
  · exact absurd q1 p1
  · exact absurd p1 q1
  · omega
  · exact absurd (eH.mpr q2) p2
  · exact absurd p1 q1
  · exact absurd (eH.mp p2) q2
  · refine frP.uq (fun k _ => ?_) p3 q3
    unfold ftP
    rw [← h.1.1]
    exact and_congr Iff.rfl ⟨fun z o o1 o2 t t1 t2 w => z o o1 ((e5 o).trans o2) t t1 t2 ((dX_dY h hI (by omega)).mpr w), fun z o o1 o2 t t1 t2 w => z o o1 ((e5 o).symm.trans o2) t t1 t2 ((dX_dY h hI (by omega)).mp w)⟩
