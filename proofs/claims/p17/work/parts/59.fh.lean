/-! the first tick at which something holds; spans and how many there are -/
theorem late_mono {n t u i : Int} {T : Nat → Int} (hs : srt n T) (h : lateP n T t i) (htu : t ≤ u) (hu : u < tickF n T (i + 1)) : lateP n T u i := by
  obtain ⟨h1, h2, h3⟩ := h
  obtain ⟨h4, h5⟩ := h3 hs
  refine ⟨h1, h2, fun _ => ⟨fun j hj => Int.le_trans (h4 j hj) htu, fun j hj hj2 => ?_⟩⟩
  unfold tickF at hu
  rw [if_neg (by omega), if_pos (by omega)] at hu
  have := mono_le hs (m := j) (j := (i + 1).toNat) (by omega) hj2
  omega
theorem late_next {n t u i : Int} {T : Nat → Int} (hs : srt n T) (h : lateP n T t i) (hi : i + 1 < n) (hu : u = tickF n T (i + 1)) : lateP n T u (i + 1) := by
  have h1 := h.1
  unfold tickF at hu
  rw [if_neg (by omega), if_pos hi] at hu
  refine ⟨by omega, hi, fun _ => ⟨fun j hj => ?_, fun j hj hj2 => ?_⟩⟩
  · have := mono_le hs (m := (i + 1).toNat) (j := j) (by omega) (by omega)
    omega
  · have := hs (i + 1).toNat j (by omega) hj2
    omega
theorem late_lt {n t i : Int} {T : Nat → Int} (hs : srt n T) (ht : t < 1000000) (h : lateP n T t i) : t < tickF n T (i + 1) := by
  obtain ⟨h1, h2, h3⟩ := h
  obtain ⟨h4, h5⟩ := h3 hs
  unfold tickF
  rw [if_neg (by omega)]
  split
  · exact h5 (i + 1).toNat (by omega) (by omega)
  · exact ht
theorem late_go {n t u i : Int} {T : Nat → Int} (hs : srt n T) (h : lateP n T t i) (htu : t ≤ u) (hu : u ≤ tickF n T (i + 1)) (hb : u < 1000000) : (tickF n T (i + 1) = u → lateP n T u (i + 1)) ∧ (tickF n T (i + 1) ≠ u → lateP n T u (i + 0)) := by
  have h1 := h.1
  refine ⟨fun e => late_next hs h ?_ e.symm, fun e => by rw [Int.add_zero]; exact late_mono hs h htu (by omega)⟩
  rcases (show i + 1 < n ∨ n ≤ i + 1 by omega) with q | q
  · exact q
  · unfold tickF at e
    rw [if_neg (by omega), if_neg (by omega)] at e
    omega
def fstP (Q : Int → Prop) (f d x : Int) : Prop := (d ≤ f ∧ x = d) ∨ (f < d ∧ f ≤ x ∧ x ≤ d ∧ (x < d → Q x) ∧ ∀ u, f ≤ u → u < x → ¬ Q u)
theorem fstP.uq {Q : Int → Prop} {f d x y : Int} (h : fstP Q f d x) (h' : fstP Q f d y) : x = y := by
  rcases h with ⟨a1, a2⟩ | ⟨a1, a2, a3, a4, a5⟩ <;> rcases h' with ⟨b1, b2⟩ | ⟨b1, b2, b3, b4, b5⟩
  · omega
  · omega
  · omega
  · rcases Int.lt_trichotomy x y with c | c | c
    · exact absurd (a4 (by omega)) (b5 x a2 c)
    · exact c
    · exact absurd (b4 (by omega)) (a5 y b2 c)
theorem fstP.congr {Q Q' : Int → Prop} {f d x : Int} (h : fstP Q f d x) (e : ∀ t, f ≤ t → t < d → (Q t ↔ Q' t)) : fstP Q' f d x := by
  rcases h with ⟨a1, a2⟩ | ⟨a1, a2, a3, a4, a5⟩
  · exact Or.inl ⟨a1, a2⟩
  · exact Or.inr ⟨a1, a2, a3, fun h => (e x a2 h).mp (a4 h), fun u h1 h2 h3 => a5 u h1 h2 ((e u h1 (by omega)).mpr h3)⟩
/-- what a pair wants, at a tick; what all pairs taken want -/
def pW (s : sG) (i : Nat) (t : Int) : Prop := agF (vX s (s 16 i 1).toNat t) (vX s (s 16 i 2).toNat (t + s 16 i 3)) (s 16 i 4) = s 16 i 5
def pS (s : sG) (i : Nat) : Prop := srt (s 10 (s 16 i 1).toNat 2) (s 11 (s 16 i 1).toNat) ∧ srt (s 10 (s 16 i 2).toNat 2) (s 11 (s 16 i 2).toNat)
def aW (s : sG) (t : Int) : Prop := ∀ i : Nat, (i : Int) < s 8 0 1 → pW s i t
def aS (s : sG) : Prop := ∀ i : Nat, (i : Int) < s 8 0 1 → pS s i
theorem pW_8 {s s' : sG} (h : ∀ k, k ≠ 8 → s' k = s k) (i : Nat) (t : Int) : pW s' i t ↔ pW s i t := by
  unfold pW vX
  rw [h 16 (by decide), h 10 (by decide), h 11 (by decide), h 12 (by decide)]
theorem aW_8 {s s' : sG} (h : ∀ k, k ≠ 8 → s' k = s k) (h8 : s' 8 0 1 = s 8 0 1) (t : Int) : aW s' t ↔ aW s t := by
  unfold aW
  rw [h8]
  exact ⟨fun z i hi => (pW_8 h i t).mp (z i hi), fun z i hi => (pW_8 h i t).mpr (z i hi)⟩
theorem aS_8 {s s' : sG} (h : ∀ k, k ≠ 8 → s' k = s k) (h8 : s' 8 0 1 = s 8 0 1) (z : aS s) : aS s' := by
  intro i hi
  rw [h8] at hi
  have := z i hi
  unfold pS at this ⊢
  rw [h 16 (by decide), h 10 (by decide), h 11 (by decide)]
  exact this
theorem stop_step {s : sG} {i f d z r : Int} (hi : 0 ≤ i) (hfd : f < d) (h : fstP (fun v => ∃ j : Nat, (j : Int) < i ∧ ¬ pW s j v) f d z) (h2 : fstP (fun v => pW s i.toNat v ↔ (0 : Int) = 1) f z r) : fstP (fun v => ∃ j : Nat, (j : Int) < i + 1 ∧ ¬ pW s j v) f d r := by
  rcases h with ⟨a1, a2⟩ | ⟨a1, a2, a3, a4, a5⟩
  · omega
  · rcases h2 with ⟨b1, b2⟩ | ⟨b1, b2, b3, b4, b5⟩
    · have e : z = f := by omega
      subst b2
      refine Or.inr ⟨hfd, a2, a3, fun h => ?_, fun u h1 h2 => by omega⟩
      obtain ⟨j, h3, h4⟩ := a4 h
      exact ⟨j, by omega, h4⟩
    · refine Or.inr ⟨hfd, b2, by omega, fun h => ?_, fun u h1 h2 h3 => ?_⟩
      · rcases (show r < z ∨ r = z by omega) with c | c
        · exact ⟨i.toNat, by omega, fun q => absurd ((b4 c).mp q) (by decide)⟩
        · rw [c] at h ⊢
          obtain ⟨j, h3, h4⟩ := a4 h
          exact ⟨j, by omega, h4⟩
      · obtain ⟨j, h4, h5⟩ := h3
        rcases (show (j : Int) < i ∨ j = i.toNat by omega) with c | c
        · exact a5 u h1 (by omega) ⟨j, c, h5⟩
        · rw [c] at h5
          exact b5 u h1 h2 ⟨fun q => absurd q h5, fun q => absurd q (by decide)⟩
theorem stop_end {s : sG} {i f d z : Int} (hi : i = s 8 0 1) (h : fstP (fun v => ∃ j : Nat, (j : Int) < i ∧ ¬ pW s j v) f d z) : fstP (fun v => ¬ aW s v) f d z := by
  refine h.congr (fun t _ _ => ⟨fun ⟨j, h1, h2⟩ h3 => h2 (h3 j (by omega)), fun h1 => ?_⟩)
  obtain ⟨j, h2⟩ := Classical.not_forall.mp h1
  obtain ⟨h3, h4⟩ := Classical.not_imp.mp h2
  exact ⟨j, by omega, h4⟩
/-! spans: where one ends, how many end ahead of a tick -/
def eS (A : Int → Prop) (l d t : Int) : Prop := (t + 1 = d ∨ ¬ A (t + 1)) ∧ ∀ v, t + 1 - l ≤ v → v ≤ t → 0 ≤ v ∧ A v
noncomputable def iS (P : Int → Prop) (t : Int) : Int := @ite Int (P t) (Classical.propDecidable _) 1 0
noncomputable def cS (A : Int → Prop) (l d x : Int) : Int := Sm (iS (eS A l d)) 0 x
theorem iS_1 {P : Int → Prop} {t : Int} (h : P t) : iS P t = 1 := by unfold iS; exact @if_pos _ (Classical.propDecidable _) h Int 1 0
theorem iS_0 {P : Int → Prop} {t : Int} (h : ¬ P t) : iS P t = 0 := by unfold iS; exact @if_neg _ (Classical.propDecidable _) h Int 1 0
theorem iS_rg (P : Int → Prop) (t : Int) : 0 ≤ iS P t ∧ iS P t ≤ 1 := by
  by_cases h : P t
  · rw [iS_1 h]; omega
  · rw [iS_0 h]; omega
theorem sm_nn {P : Int → Prop} {a : Int} : ∀ k : Nat, 0 ≤ sm (iS P) a k ∧ sm (iS P) a k ≤ (k : Int)
  | 0 => ⟨Int.le_refl 0, Int.le_refl 0⟩
  | k + 1 => by
    have h1 := sm_nn (P := P) (a := a) k
    have h2 := iS_rg P (a + (k : Int))
    show 0 ≤ sm (iS P) a k + iS P (a + (k : Int)) ∧ sm (iS P) a k + iS P (a + (k : Int)) ≤ ((k + 1 : Nat) : Int)
    omega
theorem cS_rg {A : Int → Prop} {l d x : Int} (hx : 0 ≤ x) : 0 ≤ cS A l d x ∧ cS A l d x ≤ x := by
  have := sm_nn (P := eS A l d) (a := 0) (x - 0).toNat
  unfold cS Sm
  omega
theorem cS_0 (A : Int → Prop) (l d : Int) : cS A l d 0 = 0 := Sm_self _ _
theorem cS_le {A : Int → Prop} {l d x y : Int} (hx : 0 ≤ x) (hxy : x ≤ y) : cS A l d x ≤ cS A l d y := by
  unfold cS
  rw [Sm_split (b := x) (c := y) hx hxy]
  have := sm_nn (P := eS A l d) (a := x) (y - x).toNat
  unfold Sm
  omega
theorem c_gap {A : Int → Prop} {l d t u : Int} (hl : 1 ≤ l) (ht : 0 ≤ t) (htu : t ≤ u) (h : ∀ v, t ≤ v → v < u → ¬ A v) : cS A l d u = cS A l d t := by
  unfold cS
  rw [Sm_split (b := t) (c := u) ht htu, Sm_const (a := t) (w := 0) htu (fun v h1 h2 => iS_0 (fun z => h v h1 h2 (z.2 v (by omega) (by omega)).2))]
  omega
theorem c_run {A : Int → Prop} {l d f t : Int} (hl : 1 ≤ l) (hf : 0 ≤ f) (hft : f < t) (htd : t ≤ d) (h : ∀ v, f ≤ v → v < t → A v) (h0 : f = 0 ∨ ¬ A (f - 1)) (h1 : t = d ∨ ¬ A t) : cS A l d t = cS A l d f + (if l ≤ t - f then 1 else 0) := by
  unfold cS
  rw [Sm_split (b := f) (c := t) hf (by omega), Sm_split (a := f) (b := t - 1) (c := t) (by omega) (by omega), Sm_const (a := f) (b := t - 1) (w := 0) (by omega) (fun v h2 h3 => iS_0 (fun z => ?_)), Sm_const (a := t - 1) (b := t) (w := if l ≤ t - f then 1 else 0) (by omega) (fun v h2 h3 => ?_)]
  · split <;> omega
  · have e : v = t - 1 := by omega
    subst e
    by_cases q : l ≤ t - f
    · rw [if_pos q]
      exact iS_1 ⟨by rw [show t - 1 + 1 = t by omega]; exact h1, fun v h4 h5 => ⟨by omega, h v (by omega) (by omega)⟩⟩
    · rw [if_neg q]
      refine iS_0 (fun z => ?_)
      have := z.2 (f - 1) (by omega) (by omega)
      rcases h0 with h0 | h0
      · omega
      · exact h0 this.2
  · rcases z.1 with q | q
    · omega
    · exact q (h (v + 1) (by omega) (by omega))
/-- the span with n spans ahead of it -/
def spP (A : Int → Prop) (l d n f t : Int) : Prop := (0 ≤ f ∧ f < t ∧ t ≤ d) ∧ (∀ v, f ≤ v → v < t → A v) ∧ (f = 0 ∨ ¬ A (f - 1)) ∧ (t = d ∨ ¬ A t) ∧ l ≤ t - f ∧ cS A l d f = n
theorem spP.nx {A : Int → Prop} {l d n f t : Int} (hl : 1 ≤ l) (h : spP A l d n f t) : cS A l d t = n + 1 := by
  obtain ⟨h1, h2, h3, h4, h5, h6⟩ := h
  rw [c_run hl h1.1 h1.2.1 h1.2.2 h2 h3 h4, if_pos h5, h6]
theorem spP.lt {A : Int → Prop} {l d n f t f' t' : Int} (hl : 1 ≤ l) (h : spP A l d n f t) (h' : spP A l d n f' t') : f' ≤ f := by
  rcases (show f' ≤ f ∨ f < f' by omega) with c | c
  · exact c
  · exfalso
    obtain ⟨h1, h2, -, -, -, -⟩ := id h
    obtain ⟨k1, k2, k3, k4, k5, k6⟩ := h'
    have c2 : t ≤ f' := by
      rcases (show t ≤ f' ∨ f' < t by omega) with q | q
      · exact q
      · rcases k3 with z | z
        · omega
        · exact absurd (h2 (f' - 1) (by omega) (by omega)) z
    have e1 := h.nx hl
    have e2 := cS_le (A := A) (l := l) (d := d) (x := t) (y := f') (by omega) c2
    omega
theorem spP.uq {A : Int → Prop} {l d n f t f' t' : Int} (hl : 1 ≤ l) (h : spP A l d n f t) (h' : spP A l d n f' t') : f = f' ∧ t = t' := by
  have e : f = f' := Int.le_antisymm (h'.lt hl h) (h.lt hl h')
  subst e
  refine ⟨rfl, ?_⟩
  obtain ⟨h1, h2, -, h4, -, -⟩ := h
  obtain ⟨k1, k2, -, k4, -, -⟩ := h'
  rcases Int.lt_trichotomy t t' with c | c | c
  · rcases h4 with z | z
    · omega
    · exact absurd (k2 t (by omega) c) z
  · exact c
  · rcases k4 with z | z
    · omega
    · exact absurd (h2 t' (by omega) c) z
theorem spP.in {A : Int → Prop} {l d n f t : Int} (hl : 1 ≤ l) (h : spP A l d n f t) : n < cS A l d d := by
  have e1 := h.nx hl
  have h1 := h.1
  have e2 := cS_le (A := A) (l := l) (d := d) (x := t) (y := d) (by omega) h1.2.2
  omega
theorem cS_congr {A B : Int → Prop} {l d x : Int} (h : ∀ v, 0 ≤ v → v < d → (A v ↔ B v)) (hx : x ≤ d) : cS A l d x = cS B l d x := by
  have e : ∀ v, 0 ≤ v → v < x → iS (eS A l d) v = iS (eS B l d) v := fun v h1 h2 => by
    have k : eS A l d v ↔ eS B l d v := by
      unfold eS
      refine and_congr ⟨fun z => z.elim Or.inl (fun q => ?_), fun z => z.elim Or.inl (fun q => ?_)⟩ ⟨fun z u h3 h4 => ⟨(z u h3 h4).1, (h u (z u h3 h4).1 (by omega)).mp (z u h3 h4).2⟩, fun z u h3 h4 => ⟨(z u h3 h4).1, (h u (z u h3 h4).1 (by omega)).mpr (z u h3 h4).2⟩⟩
      · by_cases c : v + 1 = d
        · exact Or.inl c
        · exact Or.inr (fun y => q ((h (v + 1) (by omega) (by omega)).mpr y))
      · by_cases c : v + 1 = d
        · exact Or.inl c
        · exact Or.inr (fun y => q ((h (v + 1) (by omega) (by omega)).mp y))
    by_cases c : eS A l d v
    · rw [iS_1 c, iS_1 (k.mp c)]
    · rw [iS_0 c, iS_0 (fun y => c (k.mpr y))]
  have : ∀ k : Nat, (k : Int) ≤ x → sm (iS (eS A l d)) 0 k = sm (iS (eS B l d)) 0 k := by
    intro k
    induction k with
    | zero => intro _; rfl
    | succ k ih =>
      intro hk
      show sm (iS (eS A l d)) 0 k + iS (eS A l d) (0 + (k : Int)) = sm (iS (eS B l d)) 0 k + iS (eS B l d) (0 + (k : Int))
      rw [ih (by omega), e (0 + (k : Int)) (by omega) (by omega)]
  unfold cS Sm
  by_cases c : 0 ≤ x
  · exact this _ (by omega)
  · rw [show (x - 0).toNat = 0 by omega]
    rfl
