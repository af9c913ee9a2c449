/-! pure pictures of the questions -/
theorem spP.congr {A B : Int → Prop} {l d n f t : Int} (h : ∀ v, 0 ≤ v → v < d → (A v ↔ B v)) (q : spP A l d n f t) : spP B l d n f t := by
  obtain ⟨h1, h2, h3, h4, h5, h6⟩ := q
  refine ⟨h1, fun v v1 v2 => (h v (by omega) (by omega)).mp (h2 v v1 v2), ?_, ?_, h5, by rw [← cS_congr h (by omega)]; exact h6⟩
  · rcases h3 with c | c
    · exact Or.inl c
    · rcases (show f = 0 ∨ 0 < f by omega) with z | z
      · exact Or.inl z
      · exact Or.inr (fun y => c ((h (f - 1) (by omega) (by omega)).mpr y))
  · rcases (show t = d ∨ t < d by omega) with z | z
    · exact Or.inl z
    · exact h4.imp id (fun c y => c ((h t (by omega) z).mpr y))
theorem SD.fst {s : sG} {B : Int → Prop} {f d x : Int} (h : SD s B) (hf : 0 ≤ f) (q : fstP (aW s) f d x) : fstP B f d x := q.congr (fun t h1 _ => h.2.2 t (by omega))
theorem SD.c {s : sG} {B : Int → Prop} (h : SD s B) (l d x : Int) (hx : x ≤ d) : cS (aW s) l d x = cS B l d x := cS_congr (fun v h1 _ => h.2.2 v h1) hx
theorem SD.sp {s : sG} {B : Int → Prop} {l d n f t : Int} (h : SD s B) (q : spP (aW s) l d n f t) : spP B l d n f t := q.congr (fun v h1 _ => h.2.2 v h1)
noncomputable def bF (P : Nat → Prop) : Nat → Int32
  | 0 => gI 0
  | k + 1 => @ite _ (P k) (Classical.propDecidable _) (bF P k ||| (gI 1 <<< (gI (k : Int) &&& 31))) (bF P k)
theorem bF_1 {P : Nat → Prop} {k : Nat} (h : P k) : bF P (k + 1) = bF P k ||| (gI 1 <<< (gI (k : Int) &&& 31)) := @if_pos _ (Classical.propDecidable _) h _ _ _
theorem bF_0 {P : Nat → Prop} {k : Nat} (h : ¬ P k) : bF P (k + 1) = bF P k := @if_neg _ (Classical.propDecidable _) h _ _ _
theorem bF_congr {P Q : Nat → Prop} : ∀ k : Nat, (∀ o, o < k → (P o ↔ Q o)) → bF P k = bF Q k
  | 0, _ => rfl
  | k + 1, h => by
    have ih := bF_congr k (fun o ho => h o (by omega))
    by_cases c : P k
    · rw [bF_1 c, bF_1 ((h k (by omega)).mp c), ih]
    · rw [bF_0 c, bF_0 (fun y => c ((h k (by omega)).mpr y)), ih]
def alX (s : sG) (a : Int) (o : Nat) : Prop := ∀ t, 0 ≤ t → t < s 0 0 9 → agF (vX s a.toNat t) (vX s (12 + o) t) (s 0 0 10) ≠ 0
theorem fst_all {Q : Int → Prop} {d x : Int} (hd : 0 ≤ d) (h : fstP Q 0 d x) : (d ≤ x ↔ ∀ t, 0 ≤ t → t < d → ¬ Q t) := by
  rcases h with ⟨a1, a2⟩ | ⟨a1, a2, a3, a4, a5⟩
  · exact ⟨fun _ t h1 h2 => by omega, fun _ => by omega⟩
  · exact ⟨fun h t h1 h2 => a5 t h1 (by omega), fun h => by
      rcases (show d ≤ x ∨ x < d by omega) with c | c
      · exact c
      · exact absurd (a4 c) (h x a2 c)⟩
theorem fst_from {Q : Int → Prop} {f d x : Int} (h : fstP Q f d x) : (d ≤ x ↔ ∀ t, f ≤ t → t < d → ¬ Q t) := by
  rcases h with ⟨a1, a2⟩ | ⟨a1, a2, a3, a4, a5⟩
  · exact ⟨fun _ t h1 h2 => by omega, fun _ => by omega⟩
  · exact ⟨fun h t h1 h2 => a5 t h1 (by omega), fun h => by
      rcases (show d ≤ x ∨ x < d by omega) with c | c
      · exact c
      · exact absurd (a4 c) (h x a2 c)⟩
def mP (D : Nat → Int → Prop) (e k m : Int) : Prop := bt 0 m e ∧ (∀ o : Nat, (o : Int) < k → ∀ t, 0 ≤ t → t < m → ¬ D o t) ∧ (m = e ∨ ∃ o : Nat, (o : Int) < k ∧ D o m)
theorem mP_0 {D : Nat → Int → Prop} {e : Int} (he : 0 ≤ e) : mP D e 0 e := ⟨⟨he, Int.le_refl e⟩, fun o ho => by omega, Or.inl rfl⟩
theorem mP_step {D : Nat → Int → Prop} {e k m r : Int} (hk : 0 ≤ k) (h : mP D e k m) (q : fstP (D k.toNat) 0 m r) : mP D e (k + 1) r := by
  obtain ⟨h1, h2, h3⟩ := h
  have old : (m = e ∨ ∃ o : Nat, (o : Int) < k + 1 ∧ D o m) := h3.imp id (fun ⟨o, h4, h5⟩ => ⟨o, by omega, h5⟩)
  rcases q with ⟨a1, a2⟩ | ⟨a1, a2, a3, a4, a5⟩
  · subst a2
    exact ⟨h1, fun o _ t h4 h5 => by omega, old⟩
  · refine ⟨by omega, fun o ho t h4 h5 => ?_, ?_⟩
    · rcases (show (o : Int) < k ∨ o = k.toNat by omega) with c | c
      · exact h2 o c t h4 (by omega)
      · rw [c]; exact a5 t h4 h5
    · rcases (show r < m ∨ r = m by omega) with c | c
      · exact Or.inr ⟨k.toNat, by omega, a4 c⟩
      · rw [c]; exact old
theorem mP.uq {D D' : Nat → Int → Prop} {e k m m' : Int} (hD : ∀ o : Nat, (o : Int) < k → ∀ t, 0 ≤ t → t < e → (D o t ↔ D' o t)) (h : mP D e k m) (h' : mP D' e k m') : m = m' := by
  obtain ⟨h1, h2, h3⟩ := h
  obtain ⟨k1, k2, k3⟩ := h'
  rcases Int.lt_trichotomy m m' with c | c | c
  · rcases h3 with z | ⟨o, z1, z2⟩
    · omega
    · exact absurd ((hD o z1 m h1.1 (by omega)).mp z2) (k2 o z1 m h1.1 c)
  · exact c
  · rcases k3 with z | ⟨o, z1, z2⟩
    · omega
    · exact absurd ((hD o z1 m' k1.1 (by omega)).mpr z2) (h2 o z1 m' k1.1 c)
def shX (s : sG) (o : Nat) : Int := s 4 0 (s 3 0 o).toNat
def dfX (s : sG) (o : Nat) (t : Int) : Prop := dX s (o : Int) (shX s o) t
def frm (k : Int) : Int := if k < 0 then -k else 0
def upt (e k : Int) : Int := if 0 < k then e - k else e
def ftP (D : Nat → Int → Int → Prop) (G : Nat → Int) (e g k : Int) : Prop := frm k < upt e k ∧ ∀ o : Nat, o < 12 → G o = g → ∀ t, frm k ≤ t → t < upt e k → ¬ D o k t
def frP (F : Int → Prop) (x : Int) : Prop := (∃ z, bt 0 z 50 ∧ (∀ y, 0 ≤ y → y < z → ¬ F (-y) ∧ ¬ F y) ∧ ((F (-z) ∧ x = -z) ∨ (¬ F (-z) ∧ F z ∧ x = z))) ∨ ((∀ y, 0 ≤ y → y ≤ 50 → ¬ F (-y) ∧ ¬ F y) ∧ x = -1004)
theorem frP.uq {F F' : Int → Prop} {x x' : Int} (hF : ∀ k, bt (-50) k 50 → (F k ↔ F' k)) (h : frP F x) (h' : frP F' x') : x = x' := by
  rcases h with ⟨z, a1, a2, a3⟩ | ⟨a1, a2⟩ <;> rcases h' with ⟨w, b1, b2, b3⟩ | ⟨b1, b2⟩
  · have e1 := hF z (by omega)
    have e2 := hF (-z) (by omega)
    have e3 := hF w (by omega)
    have e4 := hF (-w) (by omega)
    rcases Int.lt_trichotomy z w with c | c | c
    · have q := b2 z a1.1 c
      rcases a3 with ⟨d1, -⟩ | ⟨-, d1, -⟩
      · exact absurd (e2.mp d1) q.1
      · exact absurd (e1.mp d1) q.2
    · subst c
      rcases a3 with ⟨d1, d2⟩ | ⟨d1, d2, d3⟩ <;> rcases b3 with ⟨f1, f2⟩ | ⟨f1, f2, f3⟩
      · omega
      · exact absurd (e2.mp d1) f1
      · exact absurd (e2.mpr f1) d1
      · omega
    · have q := a2 w b1.1 c
      rcases b3 with ⟨d1, -⟩ | ⟨-, d1, -⟩
      · exact absurd (e4.mpr d1) q.1
      · exact absurd (e3.mpr d1) q.2
  · have q := b1 z a1.1 a1.2
    have e1 := hF z (by omega)
    have e2 := hF (-z) (by omega)
    rcases a3 with ⟨d1, -⟩ | ⟨-, d1, -⟩
    · exact absurd (e2.mp d1) q.1
    · exact absurd (e1.mp d1) q.2
  · have q := a1 w b1.1 b1.2
    have e1 := hF w (by omega)
    have e2 := hF (-w) (by omega)
    rcases b3 with ⟨d1, -⟩ | ⟨-, d1, -⟩
    · exact absurd (e2.mpr d1) q.1
    · exact absurd (e1.mpr d1) q.2
  · omega
noncomputable def nD (D : Nat → Int → Prop) (e : Int) : Nat → Int
  | 0 => 0
  | k + 1 => nD D e k + cS (D k) 1 e e
theorem nD_rg {D : Nat → Int → Prop} {e : Int} (he : 0 ≤ e) : ∀ k : Nat, 0 ≤ nD D e k ∧ nD D e k ≤ e * (k : Int)
  | 0 => ⟨Int.le_refl 0, by rw [Int.ofNat_zero, Int.mul_zero]; exact Int.le_refl 0⟩
  | k + 1 => by
    have h1 := nD_rg (D := D) he k
    have h2 := cS_rg (A := D k) (l := 1) (d := e) he
    have h3 : e * ((k + 1 : Nat) : Int) = e * (k : Int) + e := by rw [show (((k + 1 : Nat)) : Int) = (k : Int) + 1 by omega, Int.mul_add, Int.mul_one]
    rw [h3]
    show 0 ≤ nD D e k + cS (D k) 1 e e ∧ nD D e k + cS (D k) 1 e e ≤ e * (k : Int) + e
    omega
theorem nD_mono {D : Nat → Int → Prop} {e : Int} (he : 0 ≤ e) (j : Nat) : ∀ k : Nat, nD D e j ≤ nD D e (j + k)
  | 0 => Int.le_refl _
  | k + 1 => by
    have h1 := nD_mono (D := D) he j k
    have h2 := cS_rg (A := D (j + k)) (l := 1) (d := e) he
    show nD D e j ≤ nD D e (j + k) + cS (D (j + k)) 1 e e
    omega
theorem nD_congr {D D' : Nat → Int → Prop} {e : Int} (h : ∀ o : Nat, o < 12 → ∀ t, 0 ≤ t → t < e → (D o t ↔ D' o t)) : ∀ k : Nat, k ≤ 12 → nD D e k = nD D' e k
  | 0, _ => rfl
  | k + 1, hk => by
    show nD D e k + cS (D k) 1 e e = nD D' e k + cS (D' k) 1 e e
    rw [nD_congr h k (by omega), cS_congr (h k (by omega)) (Int.le_refl e)]
def dfP (D : Nat → Int → Prop) (e a w x : Int) : Prop := (nD D e 12 ≤ a ∧ x = -4) ∨ ∃ o : Nat, o < 12 ∧ ∃ f t, nD D e o ≤ a ∧ spP (D o) 1 e (a - nD D e o) f t ∧ x = (if w = 0 then (o : Int) else if w = 1 then f else t)
theorem dfP.uq {D D' : Nat → Int → Prop} {e a w x x' : Int} (he : 0 ≤ e) (h : ∀ o : Nat, o < 12 → ∀ t, 0 ≤ t → t < e → (D o t ↔ D' o t)) (q : dfP D e a w x) (q' : dfP D' e a w x') : x = x' := by
  have lt : ∀ {E : Nat → Int → Prop} {o : Nat} {f t : Int}, spP (E o) 1 e (a - nD E e o) f t → a < nD E e (o + 1) := fun {E o f t} z => by
    have := z.in (by omega)
    show a < nD E e o + cS (E o) 1 e e
    omega
  rcases q with ⟨a1, a2⟩ | ⟨o, a1, f, t, a2, a3, a4⟩ <;> rcases q' with ⟨b1, b2⟩ | ⟨o', b1, f', t', b2, b3, b4⟩
  · omega
  · exfalso
    have e1 := lt b3
    have e2 := nD_mono (D := D') he (o' + 1) (12 - (o' + 1))
    rw [show o' + 1 + (12 - (o' + 1)) = 12 by omega] at e2
    rw [nD_congr h 12 (by omega)] at a1
    omega
  · exfalso
    have e1 := lt a3
    have e2 := nD_mono (D := D) he (o + 1) (12 - (o + 1))
    rw [show o + 1 + (12 - (o + 1)) = 12 by omega] at e2
    rw [← nD_congr h 12 (by omega)] at b1
    omega
  · have eo : o = o' := by
      rcases Nat.lt_trichotomy o o' with c | c | c
      · exfalso
        have e1 := lt a3
        have e2 := nD_mono (D := D) he (o + 1) (o' - (o + 1))
        rw [show o + 1 + (o' - (o + 1)) = o' by omega, nD_congr h o' (by omega)] at e2
        omega
      · exact c
      · exfalso
        have e1 := lt b3
        have e2 := nD_mono (D := D') he (o' + 1) (o - (o' + 1))
        rw [show o' + 1 + (o - (o' + 1)) = o by omega, ← nD_congr h o (by omega)] at e2
        omega
    subst eo
    have a3' := a3.congr (h o a1)
    rw [nD_congr h o (by omega)] at a3'
    obtain ⟨e1, e2⟩ := a3'.uq (by omega) b3
    rw [a4, b4, e1, e2]
def hoP (B : Int → Prop) (n e g h x : Int) : Prop := (g = -1 ∧ x = cS B n e e) ∨ (0 ≤ g ∧ ((cS B n e e ≤ g ∧ x = -4) ∨ ∃ f t, spP B n e g f t ∧ x = (if h = 0 then f else t)))
theorem hoP.uq {B B' : Int → Prop} {n e g h x x' : Int} (hn : 1 ≤ n) (hB : ∀ t, 0 ≤ t → t < e → (B t ↔ B' t)) (q : hoP B n e g h x) (q' : hoP B' n e g h x') : x = x' := by
  have ec := cS_congr (l := n) hB (Int.le_refl e)
  rcases q with ⟨a1, a2⟩ | ⟨a1, ⟨a2, a3⟩ | ⟨f, t, a2, a3⟩⟩ <;> rcases q' with ⟨b1, b2⟩ | ⟨b1, ⟨b2, b3⟩ | ⟨f', t', b2, b3⟩⟩
  · omega
  · omega
  · omega
  · omega
  · omega
  · have := b2.in hn; omega
  · omega
  · have := a2.in hn; omega
  · obtain ⟨e1, e2⟩ := (a2.congr hB).uq hn b2
    rw [a3, b3, e1, e2]
