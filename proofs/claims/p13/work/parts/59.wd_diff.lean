/-! what differs, side by side -/
theorem mask_t {x : sG} {i : Nat} {A B t : Int} (h1 : x 10 i 2 = 2) (h2 : x 11 i 0 = A) (h3 : x 11 i 1 = B) (h4 : x 12 i 0 = 1) (h5 : x 12 i 1 = 0) (hAB : A < B) : vX x i t = 1 ↔ (A ≤ t ∧ t < B) := by
  have e : vX x i t = if B ≤ t then 0 else if A ≤ t then 1 else 256 := by
    unfold vX atF
    rw [h1]
    show (if x 11 i 1 ≤ t then x 12 i 1 else if x 11 i 0 ≤ t then x 12 i 0 else 256) = _
    rw [h2, h3, h4, h5]
  rw [e]
  split
  · omega
  · split <;> omega
theorem dX_dY {x y : sG} (h : lt2 x y) (hI : invX x) {a b t : Int} (ha : bt 0 a 11) : dX x a b t ↔ dY y a b t := by
  have hn := hI.2.1 a.toNat (by omega)
  have e2 : x 2 0 a.toNat = y 4 0 a.toNat := h.1.2.2.2.1 a.toNat
  unfold dX dY
  rw [h.1.2.1, h.1.2.2.1, h.2.1.v (by omega), h.2.1.v (by omega), e2]
  refine and_congr Iff.rfl ⟨fun z k k1 k2 => ?_, fun z k k1 k2 => ?_⟩
  all_goals
    obtain ⟨g1, g2⟩ := h.2.2.2 k (by rw [h.1.2.2.1]; exact k1)
    have z1 := z k k1 (by omega)
    rcases g2 with ⟨q1, q2, q3, q4, q5, q6, q7, q8, q9⟩ | ⟨q1, q2, q3⟩
  · rw [q2, q3, show (((24 + k : Nat) : Int)).toNat = 24 + k by omega] at z1
    rw [mY_t (by omega)]
    exact fun w => z1 ((mask_t q4 q5 q6 q7 q8 q9).mpr w)
  · rw [q2, q3, h.2.1.v (by omega)] at z1
    rw [mY_w (by omega)]
    exact z1
  · rw [q2, q3, show (((24 + k : Nat) : Int)).toNat = 24 + k by omega]
    rw [mY_t (by omega)] at z1
    exact fun w => z1 ((mask_t q4 q5 q6 q7 q8 q9).mp w)
  · rw [q2, q3, h.2.1.v (by omega)]
    rw [mY_w (by omega)] at z1
    exact z1
theorem df_eq {x y : sG} (h : lt2 x y) (hI : invX x) (o : Nat) (ho : o < 12) (t : Int) : dfX x o t ↔ dfY y o t := by
  unfold dfX dfY
  have e : shX x o = shY y o := by
    unfold shX shY
    rw [h.1.2.2.2.2.1 o, h.1.2.2.2.2.2]
  rw [e]
  exact dX_dY h hI (by omega)
