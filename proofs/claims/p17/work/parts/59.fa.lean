/-! what a row says at a tick; class and reference side by side -/
def atR (T V : Nat → Int) (t : Int) : Nat → Int
  | 0 => 256
  | k + 1 => if T k ≤ t then V k else atR T V t k
def atF (n : Int) (T V : Nat → Int) (t : Int) : Int := atR T V t n.toNat
def srt (n : Int) (T : Nat → Int) : Prop := ∀ i j : Nat, i < j → (j : Int) < n → T i < T j
theorem atR_le {T V : Nat → Int} {t : Int} {m : Nat} (h1 : ∀ j, j < m → T j ≤ t) : ∀ k, m ≤ k → (∀ j, m ≤ j → j < k → t < T j) → atR T V t k = if m = 0 then 256 else V (m - 1)
  | 0, h2, _ => by
    have : m = 0 := by omega
    rw [if_pos this]
    rfl
  | k + 1, h2, h3 => by
    unfold atR
    by_cases q : m = k + 1
    · have := h1 k (by omega)
      rw [if_pos this, if_neg (by omega), q]
      rfl
    · have := h3 k (by omega) (by omega)
      rw [if_neg (by omega)]
      exact atR_le h1 k (by omega) (fun j hj hk => h3 j hj (by omega))
theorem atF_late {n t i : Int} {T V : Nat → Int} (hs : srt n T) (h : lateP n T t i) : valF n V i = atF n T V t := by
  obtain ⟨h1, h2, h3⟩ := h
  obtain ⟨h4, h5⟩ := h3 hs
  unfold atF
  rw [atR_le (m := (i + 1).toNat) (fun j hj => h4 j (by omega)) n.toNat (by omega) (fun j hj hk => h5 j (by omega) (by omega))]
  unfold valF
  by_cases q : i = -1
  · rw [if_neg (by omega), if_pos (by omega)]
  · rw [if_pos (by omega), if_neg (by omega)]
    congr 1
    omega
theorem atR_congr {T V T' V' : Nat → Int} {t : Int} : ∀ k : Nat, (∀ j, j < k → T j = T' j ∧ V j = V' j) → atR T V t k = atR T' V' t k
  | 0, _ => rfl
  | k + 1, h => by
    unfold atR
    rw [(h k (by omega)).1, (h k (by omega)).2, atR_congr k (fun j hj => h j (by omega))]
theorem atR_const {T V : Nat → Int} {t u : Int} : ∀ k : Nat, (∀ j, j < k → (T j ≤ u ↔ T j ≤ t)) → atR T V u k = atR T V t k
  | 0, _ => rfl
  | k + 1, h => by
    unfold atR
    rw [atR_const k (fun j hj => h j (by omega))]
    by_cases q : T k ≤ t
    · rw [if_pos q, if_pos ((h k (by omega)).mpr q)]
    · rw [if_neg q, if_neg (fun z => q ((h k (by omega)).mp z))]
/-- no change behind t up to u: the value stays -/
theorem atF_const {n t u : Int} {T V : Nat → Int} (h : ∀ j : Nat, (j : Int) < n → T j ≤ t ∨ u < T j) (htu : t ≤ u) : atF n T V u = atF n T V t :=
  atR_const _ (fun j hj => ⟨fun z => (h j (by omega)).elim id (fun y => by omega), fun z => by omega⟩)
theorem atR_rg {T V : Nat → Int} {t : Int} : ∀ k : Nat, (∀ j, j < k → 0 ≤ V j ∧ V j ≤ 256) → bt 0 (atR T V t k) 256
  | 0, _ => ⟨by unfold atR; omega, by unfold atR; omega⟩
  | k + 1, h => by
    unfold atR
    split
    · exact h k (by omega)
    · exact atR_rg k (fun j hj => h j (by omega))
theorem atF_ahead {n t : Int} {T V : Nat → Int} (h : ∀ j : Nat, (j : Int) < n → t < T j) : atF n T V t = 256 := by
  unfold atF
  rw [atR_le (m := 0) (fun j hj => by omega) n.toNat (by omega) (fun j _ hk => h j (by omega)), if_pos rfl]
/-- a row of the class, one of the reference, at a tick -/
def vX (x : sG) (r : Nat) (t : Int) : Int := atF (x 10 r 2) (x 11 r) (x 12 r) t
def yT (y : sG) (r : Nat) : Nat → Int := fun j => y 2 0 (50 * r + j)
def yV (y : sG) (r : Nat) : Nat → Int := fun j => y 3 0 (50 * r + j)
def vY (y : sG) (r : Nat) (t : Int) : Int := atF (y 1 0 r) (yT y r) (yV y r) t
theorem vY_atP {y : sG} {r t x : Int} (hr : bt 0 r 23) (hs : srt (y 1 0 r.toNat) (yT y r.toNat)) (h : atP y r t x) : x = vY y r.toNat t := by
  obtain ⟨j, h1, h2, h3, h4, h5⟩ := h
  have e : ∀ i : Nat, yT y r.toNat i = y 2 0 (50 * r + i).toNat := fun i => by unfold yT; congr 1; omega
  unfold vY atF
  rw [atR_le (m := j.toNat) (fun i hi => by rw [e]; exact h3 i (by omega)) _ (by omega) (fun i hi hk => ?_), h5]
  · by_cases q : j = 0
    · rw [if_pos q, if_pos (by omega)]
    · rw [if_neg q, if_neg (by omega)]
      unfold yV
      congr 1
      omega
  · rcases h4 with h4 | h4
    · omega
    · have h6 : t < yT y r.toNat j.toNat := by rw [e]; rw [show (j.toNat : Int) = j by omega]; exact h4
      rcases Nat.lt_or_ge j.toNat i with q | q
      · have := hs j.toNat i q (by omega)
        omega
      · have : i = j.toNat := by omega
        rw [this]
        exact h6
/-! what the two have in common of rows, channels and masks -/
def rowR (x y : sG) : Prop := ∀ r, r < 24 → x 10 r 2 = y 1 0 r ∧ (∀ j : Nat, (j : Int) < x 10 r 2 → x 11 r j = yT y r j ∧ x 12 r j = yV y r j) ∧ srt (x 10 r 2) (x 11 r)
theorem rowR.v {x y : sG} (h : rowR x y) {r : Nat} (hr : r < 24) (t : Int) : vX x r t = vY y r t := by
  obtain ⟨h1, h2, -⟩ := h r hr
  unfold vX vY atF
  rw [← h1]
  exact atR_congr _ (fun j hj => h2 j (by omega))
theorem rowR.s {x y : sG} (h : rowR x y) {r : Nat} (hr : r < 24) : srt (y 1 0 r) (yT y r) := by
  obtain ⟨h1, h2, h3⟩ := h r hr
  intro i j hij hj
  rw [← h1] at hj
  rw [← (h2 i (by omega)).1, ← (h2 j hj).1]
  exact h3 i j hij hj
def chR (x y : sG) : Prop := ∀ i, i < 4 → x 14 i 0 = y 11 0 i ∧ ∀ k, k < 4 → x 14 i (k + 1) = y 12 0 (4 * i + k)
def mkR (x y : sG) : Prop := ∀ i : Nat, (i : Int) < x 0 0 8 → x 13 i 1 = y 7 0 i ∧
  ((y 10 0 i = -1 ∧ x 13 i 2 = ((24 + i : Nat) : Int) ∧ x 13 i 3 = 1 ∧ x 10 (24 + i) 2 = 2 ∧ x 11 (24 + i) 0 = y 8 0 i ∧ x 11 (24 + i) 1 = y 9 0 i ∧ x 12 (24 + i) 0 = 1 ∧ x 12 (24 + i) 1 = 0 ∧ y 8 0 i < y 9 0 i) ∨
   ((0 ≤ y 10 0 i ∧ y 10 0 i ≤ 11) ∧ x 13 i 2 = y 10 0 i ∧ x 13 i 3 = y 8 0 i))
