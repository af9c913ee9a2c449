/-! acts: where they are, how many ahead of a tick -/
def edP (v : Int → Int) (t : Int) : Prop := 0 < t ∧ v t = 1 ∧ v (t - 1) ≠ 1
def acP (ck va re : Int → Int) (t : Int) : Prop := edP ck t ∧ va (t - 1) = 1 ∧ re (t - 1) = 1
def nxP (Q : Int → Prop) (b e x : Int) : Prop := (x = -4 ∧ ∀ t, b < t → t < e → ¬ Q t) ∨ ((b < x ∧ x < e) ∧ Q x ∧ ∀ t, b < t → t < x → ¬ Q t)
noncomputable def cA (Q : Int → Prop) (x : Int) : Int := Sm (iS Q) 0 x
theorem cA_rg {Q : Int → Prop} {x : Int} (hx : 0 ≤ x) : 0 ≤ cA Q x ∧ cA Q x ≤ x := by
  have := sm_nn (P := Q) (a := 0) (x - 0).toNat
  unfold cA Sm
  omega
theorem cA_le {Q : Int → Prop} {x y : Int} (hx : 0 ≤ x) (hxy : x ≤ y) : cA Q x ≤ cA Q y := by
  unfold cA
  rw [Sm_split (b := x) (c := y) hx hxy]
  have := sm_nn (P := Q) (a := x) (y - x).toNat
  unfold Sm
  omega
theorem cA_gap {Q : Int → Prop} {t u : Int} (ht : 0 ≤ t) (htu : t ≤ u) (h : ∀ v, t ≤ v → v < u → ¬ Q v) : cA Q u = cA Q t := by
  unfold cA
  rw [Sm_split (b := t) (c := u) ht htu, Sm_const (a := t) (w := 0) htu (fun v h1 h2 => iS_0 (h v h1 h2))]
  omega
theorem cA_hit {Q : Int → Prop} {t u : Int} (ht : 0 ≤ t) (htu : t < u) (hQ : Q t) (h : ∀ v, t < v → v < u → ¬ Q v) : cA Q u = cA Q t + 1 := by
  rw [cA_gap (t := t + 1) (u := u) (by omega) (by omega) (fun v h1 h2 => h v (by omega) h2)]
  unfold cA
  rw [Sm_split (b := t) (c := t + 1) ht (by omega), Sm_const (a := t) (w := 1) (by omega) (fun v h1 h2 => by rw [show v = t by omega]; exact iS_1 hQ)]
  omega
def atA (Q : Int → Prop) (e j t : Int) : Prop := (0 < t ∧ t < e) ∧ Q t ∧ cA Q t = j
theorem atA.le {Q : Int → Prop} {e j t u : Int} (h : atA Q e j t) (h' : atA Q e j u) : u ≤ t := by
  rcases (show u ≤ t ∨ t < u by omega) with c | c
  · exact c
  · obtain ⟨a1, a2, a3⟩ := h
    obtain ⟨b1, b2, b3⟩ := h'
    have e1 := cA_hit (t := t) (u := t + 1) (by omega) (by omega) a2 (fun v v1 v2 => by omega)
    have e2 := cA_le (Q := Q) (x := t + 1) (y := u) (by omega) (by omega)
    omega
theorem atA.uq {Q : Int → Prop} {e j t u : Int} (h : atA Q e j t) (h' : atA Q e j u) : t = u := Int.le_antisymm (h'.le h) (h.le h')
theorem atA.in {Q : Int → Prop} {e j t : Int} (h : atA Q e j t) : 0 ≤ j ∧ j < cA Q e := by
  obtain ⟨a1, a2, a3⟩ := h
  have e1 := cA_hit (t := t) (u := t + 1) (by omega) (by omega) a2 (fun v v1 v2 => by omega)
  have e2 := cA_le (Q := Q) (x := t + 1) (y := e) (by omega) (by omega)
  have e3 := cA_rg (Q := Q) (x := t) (by omega)
  omega
/-- the next act behind one, or the first, by what nxP says -/
theorem nx_0 {Q : Int → Prop} {e x : Int} (he : 0 < e) (h0 : ¬ Q 0) (h : nxP Q 0 e x) : (x = -4 ∧ cA Q e = 0) ∨ atA Q e 0 x := by
  have z : cA Q 0 = 0 := Sm_self _ _
  rcases h with ⟨a1, a2⟩ | ⟨a1, a2, a3⟩
  · refine Or.inl ⟨a1, ?_⟩
    rw [cA_gap (t := 0) (by omega) (by omega) (fun v v1 v2 => ?_), z]
    rcases (show v = 0 ∨ 0 < v by omega) with c | c
    · rw [c]; exact h0
    · exact a2 v c v2
  · refine Or.inr ⟨a1, a2, ?_⟩
    rw [cA_gap (t := 0) (by omega) (by omega) (fun v v1 v2 => ?_), z]
    rcases (show v = 0 ∨ 0 < v by omega) with c | c
    · rw [c]; exact h0
    · exact a3 v c v2
theorem nx_go {Q : Int → Prop} {e j t x : Int} (hA : atA Q e j t) (h : nxP Q t e x) : (x = -4 ∧ cA Q e = j + 1) ∨ (atA Q e (j + 1) x ∧ t < x) := by
  obtain ⟨b1, b2, b3⟩ := hA
  rcases h with ⟨a1, a2⟩ | ⟨a1, a2, a3⟩
  · exact Or.inl ⟨a1, by rw [cA_hit (t := t) (by omega) (by omega) b2 a2, b3]⟩
  · exact Or.inr ⟨⟨by omega, a2, by rw [cA_hit (t := t) (by omega) (by omega) b2 a3, b3]⟩, a1.1⟩
def anA (Q : Int → Prop) (dt : Int → Int) (e i w x : Int) : Prop := (i = -1 ∧ x = cA Q e) ∨ (0 ≤ i ∧ ((cA Q e ≤ i ∧ x = -4) ∨ ∃ t, atA Q e i t ∧ x = (if w = 0 then t else dt t)))
theorem anA.uq {Q : Int → Prop} {dt : Int → Int} {e i w x x' : Int} (h : anA Q dt e i w x) (h' : anA Q dt e i w x') : x = x' := by
  rcases h with ⟨a1, a2⟩ | ⟨a1, ⟨a2, a3⟩ | ⟨t, a2, a3⟩⟩ <;> rcases h' with ⟨b1, b2⟩ | ⟨b1, ⟨b2, b3⟩ | ⟨u, b2, b3⟩⟩
  · omega
  · omega
  · omega
  · omega
  · omega
  · have := b2.in; omega
  · omega
  · have := a2.in; omega
  · rw [a3, b3, a2.uq b2]
def ulP (P Q : Int → Prop) (c d : Int → Int) (lo e x : Int) : Prop := (x = -4 ∧ cA P e = cA Q e ∧ ∀ j t u, atA P e j t → atA Q e j u → agF (c t) (d u) lo ≠ 0) ∨ (0 ≤ x ∧ (∀ j, 0 ≤ j → j < x → ∃ t u, atA P e j t ∧ atA Q e j u ∧ agF (c t) (d u) lo ≠ 0) ∧ ((cA P e ≤ x ∧ x < cA Q e) ∨ (cA Q e ≤ x ∧ x < cA P e) ∨ ∃ t u, atA P e x t ∧ atA Q e x u ∧ agF (c t) (d u) lo = 0))
theorem ulP.lt {P Q : Int → Prop} {c d : Int → Int} {lo e x x' : Int} (h : ulP P Q c d lo e x) (hx : 0 ≤ x) (h' : ∀ j, 0 ≤ j → j < x' → ∃ t u, atA P e j t ∧ atA Q e j u ∧ agF (c t) (d u) lo ≠ 0) : x' ≤ x := by
  rcases (show x' ≤ x ∨ x < x' by omega) with q | q
  · exact q
  · exfalso
    obtain ⟨t, u, z1, z2, z3⟩ := h' x hx q
    have y1 := z1.in
    have y2 := z2.in
    rcases h with ⟨a1, -⟩ | ⟨-, -, a1 | a1 | ⟨t', u', a1, a2, a3⟩⟩
    · omega
    · omega
    · omega
    · rw [a1.uq z1, a2.uq z2] at a3
      exact z3 a3
theorem ulP.no {P Q : Int → Prop} {c d : Int → Int} {lo e x : Int} (h : ulP P Q c d lo e x) (hx : 0 ≤ x) (h1 : cA P e = cA Q e) (h2 : ∀ j t u, atA P e j t → atA Q e j u → agF (c t) (d u) lo ≠ 0) : False := by
  rcases h with ⟨a1, -⟩ | ⟨-, -, a1 | a1 | ⟨t', u', a1, a2, a3⟩⟩
  · omega
  · omega
  · omega
  · exact h2 _ _ _ a1 a2 a3
theorem ulP.uq {P Q : Int → Prop} {c d : Int → Int} {lo e x x' : Int} (h : ulP P Q c d lo e x) (h' : ulP P Q c d lo e x') : x = x' := by
  rcases id h with ⟨a1, a2, a3⟩ | ⟨a1, a2, a3⟩ <;> rcases id h' with ⟨b1, b2, b3⟩ | ⟨b1, b2, b3⟩
  · omega
  · exact (h'.no b1 a2 a3).elim
  · exact (h.no a1 b2 b3).elim
  · exact Int.le_antisymm (h'.lt b1 a2) (h.lt a1 b2)
theorem ul_all {P Q : Int → Prop} {c d : Int → Int} {lo e n : Int} (hP : cA P e = n) (hQ : cA Q e = n) (h : ∀ j, 0 ≤ j → j < n → ∃ t u, atA P e j t ∧ atA Q e j u ∧ agF (c t) (d u) lo ≠ 0) : ulP P Q c d lo e (-4) := by
  refine Or.inl ⟨rfl, by omega, fun j t u z1 z2 => ?_⟩
  have y := z1.in
  obtain ⟨t', u', w1, w2, w3⟩ := h j y.1 (by omega)
  rw [z1.uq w1, z2.uq w2]
  exact w3
theorem edP_0 {v : Int → Int} : ¬ edP v 0 := fun h => absurd h.1 (by omega)
theorem ed_const {v : Int → Int} {t : Int} (h : v t = v (t - 1)) : ¬ edP v t := fun z => z.2.2 (by rw [← h]; exact z.2.1)
