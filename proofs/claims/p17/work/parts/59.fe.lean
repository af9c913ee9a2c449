/-! stretches of a row between two changes; sums over ticks -/
theorem tick_mono {n : Int} {T : Nat → Int} (hs : srt n T) (h0 : ∀ j : Nat, (j : Int) < n → 0 ≤ T j ∧ T j ≤ 4000) {i : Int} (h1 : -1 ≤ i) (h2 : i < n) : tickF n T i < tickF n T (i + 1) := by
  unfold tickF
  by_cases a : i < 0
  · rw [if_pos a, if_neg (by omega)]
    split
    · have := (h0 (i + 1).toNat (by omega)).1
      omega
    · omega
  · rw [if_neg a, if_pos h2, if_neg (by omega)]
    have := (h0 i.toNat (by omega)).2
    split
    · exact hs _ _ (by omega) (by omega)
    · omega
theorem late_seg {n : Int} {T : Nat → Int} (hs : srt n T) {i u : Int} (h1 : -1 ≤ i) (h2 : i < n) (h3 : tickF n T i ≤ u) (h4 : u < tickF n T (i + 1)) : lateP n T u i := by
  refine ⟨h1, h2, fun _ => ⟨fun j hj => ?_, fun j hj hj2 => ?_⟩⟩
  · unfold tickF at h3
    rw [if_neg (by omega), if_pos h2] at h3
    have := mono_le hs (m := i.toNat) (j := j) (by omega) (by omega)
    omega
  · unfold tickF at h4
    rw [if_neg (by omega), if_pos (by omega)] at h4
    have := mono_le hs (m := j) (j := (i + 1).toNat) (by omega) hj2
    omega
theorem seg {n : Int} {T V : Nat → Int} (hs : srt n T) {i u : Int} (h1 : -1 ≤ i) (h2 : i < n) (h3 : tickF n T i ≤ u) (h4 : u < tickF n T (i + 1)) : atF n T V u = valF n V i := (atF_late hs (late_seg hs h1 h2 h3 h4)).symm
theorem late_tick {n : Int} {T : Nat → Int} (hs : srt n T) {i u : Int} (hu : -1 ≤ u) (hu2 : u < 1000000) (h : lateP n T u i) : tickF n T i ≤ u ∧ u < tickF n T (i + 1) := by
  obtain ⟨h1, h2, h3⟩ := h
  obtain ⟨h4, h5⟩ := h3 hs
  unfold tickF
  constructor
  · split
    · omega
    · first
        | exact h4 i.toNat (by omega)
        | (rw [if_pos h2]; exact h4 i.toNat (by omega))
  · rw [if_neg (by omega)]
    split
    · exact h5 (i + 1).toNat (by omega) (by omega)
    · omega
def sm (f : Int → Int) (a : Int) : Nat → Int
  | 0 => 0
  | k + 1 => sm f a k + f (a + (k : Int))
def Sm (f : Int → Int) (a b : Int) : Int := sm f a (b - a).toNat
theorem sm_add (f : Int → Int) (a : Int) (k : Nat) : ∀ l : Nat, sm f a (k + l) = sm f a k + sm f (a + (k : Int)) l
  | 0 => (Int.add_zero _).symm
  | l + 1 => by
    show sm f a (k + l) + f (a + ((k + l : Nat) : Int)) = sm f a k + (sm f (a + (k : Int)) l + f (a + (k : Int) + (l : Int)))
    rw [sm_add f a k l, show a + ((k + l : Nat) : Int) = a + (k : Int) + (l : Int) by omega]
    omega
theorem Sm_split {f : Int → Int} {a b c : Int} (h1 : a ≤ b) (h2 : b ≤ c) : Sm f a c = Sm f a b + Sm f b c := by
  unfold Sm
  rw [show (c - a).toNat = (b - a).toNat + (c - b).toNat by omega, sm_add, show a + (((b - a).toNat : Nat) : Int) = b by omega]
theorem Sm_self (f : Int → Int) (a : Int) : Sm f a a = 0 := by
  unfold Sm
  rw [show (a - a).toNat = 0 by omega]
  rfl
theorem sm_const {f : Int → Int} {a w : Int} : ∀ k : Nat, (∀ u, a ≤ u → u < a + (k : Int) → f u = w) → sm f a k = w * (k : Int)
  | 0, _ => (Int.mul_zero w).symm
  | k + 1, h => by
    show sm f a k + f (a + (k : Int)) = w * ((k + 1 : Nat) : Int)
    rw [sm_const k (fun u h1 h2 => h u h1 (by omega)), h (a + (k : Int)) (by omega) (by omega), show (((k + 1 : Nat) : Int)) = (k : Int) + 1 by omega, Int.mul_add, Int.mul_one]
theorem Sm_const {f : Int → Int} {a b w : Int} (hab : a ≤ b) (h : ∀ u, a ≤ u → u < b → f u = w) : Sm f a b = w * (b - a) := by
  unfold Sm
  rw [sm_const _ (fun u h1 h2 => h u h1 (by omega)), show (((b - a).toNat : Nat) : Int) = b - a by omega]
def w0 (v : Int → Int) (u : Int) : Int := if v u ≠ v (u - 1) then 1 else 0
def w1 (v : Int → Int) (u : Int) : Int := if v u = 256 then 1 else 0
def w2 (v : Int → Int) (u : Int) : Int := if v u = 256 then 0 else v u
def wF (e : Int) (v : Int → Int) : Int → Int := if e = 0 then w0 v else if e = 1 then w1 v else w2 v
theorem rowOK.tk {n : Int} {T V : Nat → Int} (h : rowOK n T V) : ∀ j : Nat, (j : Int) < n → 0 ≤ T j ∧ T j ≤ 4000 := fun j hj => ⟨(h.2.2 j hj).1, (h.2.2 j hj).2.1⟩
