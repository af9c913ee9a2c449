theorem invX_mask {s t : sG} (h : invX s) (i : Nat) (ho : ∀ k i', ¬ (k = 13 ∧ i' = i) → t k i' = s k i') (hn : bt 0 (t 13 i 1) 11 ∧ bt 0 (t 13 i 2) 44 ∧ bt 0 (t 13 i 3) 256) : invX t := by
  refine invX_m h (fun k hk => by funext i'; exact ho k i' (fun q => hk q.1)) (fun i' hi' => ?_)
  by_cases q : i' = i
  · subst q
    exact hn
  · rw [ho 13 i' (fun z => q z.2)]
    exact h.2.2.2.2.2.1 i' hi'
theorem invX_chan {s t : sG} (h : invX s) (i : Nat) (ho : ∀ k i', ¬ (k = 14 ∧ i' = i) → t k i' = s k i') (hn : bt 0 (t 14 i 0) 1 ∧ bt 0 (t 14 i 1) 11 ∧ bt 0 (t 14 i 2) 11 ∧ bt 0 (t 14 i 3) 11 ∧ bt 0 (t 14 i 4) 11) : invX t := by
  refine invX_c h (fun k hk => by funext i'; exact ho k i' (fun q => hk q.1)) (fun i' hi' => ?_)
  by_cases q : i' = i
  · subst q
    exact hn
  · rw [ho 14 i' (fun z => q z.2)]
    exact h.2.2.2.2.2.2.1 i' hi'
theorem invX_gate {s t : sG} (h : invX s) (i : Nat) (ho : ∀ k i', ¬ (k = 15 ∧ i' = i) → t k i' = s k i') (hn : bt 0 (t 15 i 0) 6 ∧ bt 0 (t 15 i 1) 11 ∧ bt 0 (t 15 i 2) 11) : invX t := by
  refine invX_g h (fun k hk => by funext i'; exact ho k i' (fun q => hk q.1)) (fun i' hi' => ?_)
  by_cases q : i' = i
  · subst q
    exact hn
  · rw [ho 15 i' (fun z => q z.2)]
    exact h.2.2.2.2.2.2.2.1 i' hi'
theorem invX_pair {s t : sG} (h : invX s) (i : Nat) (ho : ∀ k i', ¬ (k = 16 ∧ i' = i) → t k i' = s k i') (hn : bt 0 (t 16 i 1) 44 ∧ bt 0 (t 16 i 2) 44 ∧ bt (-50) (t 16 i 3) 50 ∧ bt 0 (t 16 i 4) 1 ∧ bt 0 (t 16 i 5) 1) : invX t := by
  refine invX_q h (fun k hk => by funext i'; exact ho k i' (fun q => hk q.1)) (fun i' hi' => ?_)
  by_cases q : i' = i
  · subst q
    exact hn
  · rw [ho 16 i' (fun z => q z.2)]
    exact h.2.2.2.2.2.2.2.2 i' hi'
theorem invX_row {s t : sG} (h : invX s) (i : Nat) (ho : ∀ k i', ¬ (10 ≤ k ∧ k ≤ 12 ∧ i' = i) → t k i' = s k i') (hn : rowOK (t 10 i 2) (t 11 i) (t 12 i)) : invX t := by
  refine invX_r h (fun k h1 h2 h3 => by funext i'; exact ho k i' (by omega)) (fun i' hi' => ?_)
  by_cases q : i' = i
  · subst q
    exact hn
  · rw [ho 10 i' (by omega), ho 11 i' (by omega), ho 12 i' (by omega)]
    exact h.2.2.2.2.1 i' hi'
theorem rowOK.push {n t v : Int} {T V : Nat → Int} (h : rowOK n T V) (hn : n < 50) (ht : bt 0 t 4000) (hv : bt 0 v 256) : rowOK (n + 1) (upz T n.toNat t) (upz V n.toNat v) := by
  obtain ⟨h0, h1, h2⟩ := h
  refine ⟨by omega, by omega, fun j hj => ?_⟩
  unfold upz
  by_cases q : j = n.toNat
  · rw [if_pos q, if_pos q]
    omega
  · rw [if_neg q, if_neg q]
    exact h2 j (by omega)
theorem rowOK.less {n m : Int} {T V : Nat → Int} (h : rowOK n T V) (h0 : 0 ≤ m) (hm : m ≤ n) : rowOK m T V := ⟨h0, Int.le_trans hm h.2.1, fun j hj => h.2.2 j (by omega)⟩
