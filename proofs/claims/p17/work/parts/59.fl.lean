/-! what the pairs that are taken say together -/
def okP (s : sG) (p : Nat) : Prop := (s 16 p 1).toNat < 34 ∧ ((s 16 p 2).toNat < 34 ∨ (s 16 p 2).toNat = 34 + p)
def SD (s : sG) (B : Int → Prop) : Prop := aS s ∧ (∀ p : Nat, (p : Int) < s 8 0 1 → okP s p) ∧ ∀ t, 0 ≤ t → (aW s t ↔ B t)
theorem SD.iff {s : sG} {B B' : Int → Prop} (h : SD s B) (e : ∀ t, 0 ≤ t → (B t ↔ B' t)) : SD s B' := ⟨h.1, h.2.1, fun t ht => (h.2.2 t ht).trans (e t ht)⟩
theorem SD_clear {s : sG} : SD (ups s 8 0 1 0) (fun _ => True) := by
  have e : ups s 8 0 1 0 8 0 1 = 0 := by rw [ups_at]; rfl
  refine ⟨fun i hi => ?_, fun p hp => ?_, fun t _ => ⟨fun _ => trivial, fun _ i hi => ?_⟩⟩
  · rw [e] at hi; omega
  · rw [e] at hp; omega
  · rw [e] at hi; omega
def unS (s : sG) (i : Nat) (l r a b : Int) : sG := ups (ups (ups (ups (ups s 16 i 1 l) 16 i 2 r) 16 i 3 a) 16 i 4 b) 16 i 5 0
theorem unS_o (s : sG) {i : Nat} (l r a b : Int) {k i' : Nat} (h : ¬ (k = 16 ∧ i' = i)) : unS s i l r a b k i' = s k i' := by
  have e : ∀ (u : sG) (j : Nat) (w : Int), ups u 16 i j w k i' = u k i' := fun u j w => by unfold ups; rw [if_neg h]
  unfold unS
  rw [e, e, e, e, e]
theorem unS_p (s : sG) (i : Nat) (l r a b : Int) : unS s i l r a b 16 i 1 = l ∧ unS s i l r a b 16 i 2 = r ∧ unS s i l r a b 16 i 3 = a ∧ unS s i l r a b 16 i 4 = b ∧ unS s i l r a b 16 i 5 = 0 := by
  unfold unS
  rw [ups_at, ups_at, ups_at, ups_at, ups_at]
  exact ⟨rfl, rfl, rfl, rfl, rfl⟩
def wvS (s : sG) (i : Nat) (j v q : Int) : sG := ups (ups (ups (ups (ups (putS (ups s 10 (34 + i) 2 0) (34 + i) 0 v) 16 i 1 j) 16 i 2 ((34 + i : Nat) : Int)) 16 i 3 0) 16 i 4 0) 16 i 5 q
theorem wvS_o (s : sG) {i : Nat} (j v q : Int) {k i' : Nat} (h1 : ¬ ((k = 10 ∨ k = 11 ∨ k = 12) ∧ i' = 34 + i)) (h : ¬ (k = 16 ∧ i' = i)) : wvS s i j v q k i' = s k i' := by
  have e : ∀ (u : sG) (j : Nat) (w : Int), ups u 16 i j w k i' = u k i' := fun u j w => by unfold ups; rw [if_neg h]
  unfold wvS
  rw [e, e, e, e, e]
  by_cases z : i' = 34 + i
  · rw [putS_k _ _ _ (by omega), ups_kf _ (by omega)]
  · rw [putS_o _ _ _ z, ups_i _ z]
theorem wvS_p (s : sG) (i : Nat) (j v q : Int) : wvS s i j v q 16 i 1 = j ∧ wvS s i j v q 16 i 2 = ((34 + i : Nat) : Int) ∧ wvS s i j v q 16 i 3 = 0 ∧ wvS s i j v q 16 i 4 = 0 ∧ wvS s i j v q 16 i 5 = q := by
  unfold wvS
  rw [ups_at, ups_at, ups_at, ups_at, ups_at]
  exact ⟨rfl, rfl, rfl, rfl, rfl⟩
theorem wvS_r (s : sG) (i : Nat) (j v q : Int) : wvS s i j v q 10 (34 + i) 2 = 1 ∧ wvS s i j v q 11 (34 + i) 0 = 0 ∧ wvS s i j v q 12 (34 + i) 0 = v := by
  have e1 : ups s 10 (34 + i) 2 0 10 (34 + i) 2 = 0 := by rw [ups_at]; rfl
  unfold wvS
  rw [ups_kf _ (show (10 : Nat) ≠ 16 by decide), ups_kf _ (show (10 : Nat) ≠ 16 by decide), ups_kf _ (show (10 : Nat) ≠ 16 by decide), ups_kf _ (show (10 : Nat) ≠ 16 by decide), ups_kf _ (show (10 : Nat) ≠ 16 by decide), ups_kf _ (show (11 : Nat) ≠ 16 by decide), ups_kf _ (show (11 : Nat) ≠ 16 by decide), ups_kf _ (show (11 : Nat) ≠ 16 by decide), ups_kf _ (show (11 : Nat) ≠ 16 by decide), ups_kf _ (show (11 : Nat) ≠ 16 by decide), ups_kf _ (show (12 : Nat) ≠ 16 by decide), ups_kf _ (show (12 : Nat) ≠ 16 by decide), ups_kf _ (show (12 : Nat) ≠ 16 by decide), ups_kf _ (show (12 : Nat) ≠ 16 by decide), ups_kf _ (show (12 : Nat) ≠ 16 by decide), putS_n, putS_t, putS_v, e1]
  exact ⟨rfl, rfl, rfl⟩
theorem vX_k {s s' : sG} {r : Nat} (h10 : s' 10 r = s 10 r) (h11 : s' 11 r = s 11 r) (h12 : s' 12 r = s 12 r) (t : Int) : vX s' r t = vX s r t := by unfold vX; rw [h10, h11, h12]
/-- one pair more -/
theorem SD_add {s s3 : sG} {B N : Int → Prop} {m : Nat} (h : SD s B) (hm : (m : Int) = s 8 0 1) (h8 : s3 8 0 1 = s 8 0 1 + 1) (h16 : ∀ p, p ≠ m → s3 16 p = s 16 p) (hr : ∀ r, r ≠ 34 + m → s3 10 r = s 10 r ∧ s3 11 r = s 11 r ∧ s3 12 r = s 12 r) (hok : okP s3 m) (hS : pS s3 m) (hN : ∀ t, 0 ≤ t → (pW s3 m t ↔ N t)) : SD s3 (fun t => B t ∧ N t) := by
  obtain ⟨g1, g2, g3⟩ := h
  have old : ∀ p : Nat, p ≠ m → (p : Int) < s 8 0 1 → (okP s3 p ∧ pS s3 p) ∧ ∀ t, (pW s3 p t ↔ pW s p t) := fun p hp hlt => by
    obtain ⟨o1, o2⟩ := g2 p hlt
    have q := g1 p hlt
    have e1 := hr (s 16 p 1).toNat (by omega)
    have e2 := hr (s 16 p 2).toNat (by omega)
    refine ⟨⟨?_, ?_⟩, fun t => ?_⟩
    · unfold okP
      rw [h16 p hp]
      exact ⟨o1, o2⟩
    · unfold pS
      rw [h16 p hp, e1.1, e1.2.1, e2.1, e2.2.1]
      exact q
    · unfold pW
      rw [h16 p hp, vX_k e1.1 e1.2.1 e1.2.2, vX_k e2.1 e2.2.1 e2.2.2]
  refine ⟨fun p hp => ?_, fun p hp => ?_, fun t ht => ⟨fun z => ⟨(g3 t ht).mp (fun p hp => ((old p (by omega) hp).2 t).mp (z p (by omega))), (hN t ht).mp (z m (by omega))⟩, fun z p hp => ?_⟩⟩
  · by_cases e : p = m
    · rw [e]; exact hS
    · exact (old p e (by omega)).1.2
  · by_cases e : p = m
    · rw [e]; exact hok
    · exact (old p e (by omega)).1.1
  · by_cases e : p = m
    · rw [e]; exact (hN t ht).mpr z.2
    · exact ((old p e (by omega)).2 t).mpr ((g3 t ht).mpr z.1 p (by omega))
theorem SD_unl {s : sG} {B : Int → Prop} {m l r : Nat} {a b : Int} (h : SD s B) (hm : (m : Int) = s 8 0 1) (hl : l < 34) (hr : r < 34) (sl : srt (s 10 l 2) (s 11 l)) (sr : srt (s 10 r 2) (s 11 r)) : SD (unS (ups s 8 0 1 ((m : Int) + 1)) m l r a b) (fun t => B t ∧ agF (vX s l t) (vX s r (t + a)) b = 0) := by
  have ko : ∀ k i, ¬ (k = 16 ∧ i = m) → k ≠ 8 → unS (ups s 8 0 1 ((m : Int) + 1)) m l r a b k i = s k i := fun k i z1 z2 => by rw [unS_o _ _ _ _ _ z1, ups_kf _ z2]
  obtain ⟨p1, p2, p3, p4, p5⟩ := unS_p (ups s 8 0 1 ((m : Int) + 1)) m l r a b
  refine SD_add h hm ?_ (fun p hp => ko 16 p (by omega) (by decide)) (fun r _ => ⟨ko 10 r (by omega) (by decide), ko 11 r (by omega) (by decide), ko 12 r (by omega) (by decide)⟩) ?_ ?_ (fun t _ => ?_)
  · rw [unS_o _ _ _ _ _ (by omega), ups_at, ← hm]; rfl
  · unfold okP
    rw [p1, p2]
    omega
  · unfold pS
    rw [p1, p2, show ((l : Int)).toNat = l by omega, show ((r : Int)).toNat = r by omega, ko 10 l (by omega) (by decide), ko 11 l (by omega) (by decide), ko 10 r (by omega) (by decide), ko 11 r (by omega) (by decide)]
    exact ⟨sl, sr⟩
  · unfold pW
    rw [p1, p2, p3, p4, p5, show ((l : Int)).toNat = l by omega, show ((r : Int)).toNat = r by omega, vX_k (ko 10 l (by omega) (by decide)) (ko 11 l (by omega) (by decide)) (ko 12 l (by omega) (by decide)), vX_k (ko 10 r (by omega) (by decide)) (ko 11 r (by omega) (by decide)) (ko 12 r (by omega) (by decide))]
theorem SD_val {s : sG} {B : Int → Prop} {m j : Nat} {v q : Int} (h : SD s B) (hm : (m : Int) = s 8 0 1) (hj : j < 34) (sj : srt (s 10 j 2) (s 11 j)) (hq : bt 0 q 1) : SD (wvS (ups s 8 0 1 ((m : Int) + 1)) m j v q) (fun t => B t ∧ (vX s j t = v ↔ q = 1)) := by
  have ko : ∀ k i, ¬ ((k = 10 ∨ k = 11 ∨ k = 12) ∧ i = 34 + m) → ¬ (k = 16 ∧ i = m) → k ≠ 8 → wvS (ups s 8 0 1 ((m : Int) + 1)) m j v q k i = s k i := fun k i z0 z1 z2 => by rw [wvS_o _ _ _ _ z0 z1, ups_kf _ z2]
  obtain ⟨p1, p2, p3, p4, p5⟩ := wvS_p (ups s 8 0 1 ((m : Int) + 1)) m j v q
  obtain ⟨r1, r2, r3⟩ := wvS_r (ups s 8 0 1 ((m : Int) + 1)) m j v q
  refine SD_add h hm ?_ (fun p hp => ko 16 p (by omega) (by omega) (by decide)) (fun r hr => ⟨ko 10 r (by omega) (by omega) (by decide), ko 11 r (by omega) (by omega) (by decide), ko 12 r (by omega) (by omega) (by decide)⟩) ?_ ?_ (fun t ht => ?_)
  · rw [wvS_o _ _ _ _ (by omega) (by omega), ups_at, ← hm]; rfl
  · unfold okP
    rw [p1, p2]
    omega
  · unfold pS
    rw [p1, p2, show ((j : Int)).toNat = j by omega, show (((34 + m : Nat) : Int)).toNat = 34 + m by omega, ko 10 j (by omega) (by omega) (by decide), ko 11 j (by omega) (by omega) (by decide), r1]
    exact ⟨sj, fun i k hik hk => by omega⟩
  · have e1 : vX (wvS (ups s 8 0 1 ((m : Int) + 1)) m j v q) j t = vX s j t := vX_k (ko 10 j (by omega) (by omega) (by decide)) (ko 11 j (by omega) (by omega) (by decide)) (ko 12 j (by omega) (by omega) (by decide)) t
    have e2 : vX (wvS (ups s 8 0 1 ((m : Int) + 1)) m j v q) (34 + m) (t + 0) = v := by
      unfold vX atF
      rw [r1]
      show (if _ ≤ t + 0 then _ else _) = v
      rw [r2, r3, if_pos (by omega)]
    unfold pW
    rw [p1, p2, p3, p4, p5, show ((j : Int)).toNat = j by omega, show (((34 + m : Nat) : Int)).toNat = 34 + m by omega, e1, e2]
    unfold agF
    by_cases z : vX s j t = v
    · rw [if_pos (Or.inl z)]
      exact ⟨fun e => ⟨fun _ => e.symm, fun _ => z⟩, fun e => (e.mp z).symm⟩
    · rw [if_neg (fun y => y.elim z (fun w => absurd rfl w.1))]
      exact ⟨fun e => ⟨fun y => absurd y z, fun y => by omega⟩, fun e => by rcases (show q = 0 ∨ q = 1 by omega) with y | y; exact y.symm; exact absurd (e.mpr y) z⟩
theorem wvS_q (s : sG) (i : Nat) (j v q r : Int) : ups (wvS s i j v q) 16 i 5 r = wvS s i j v r := by unfold wvS; rw [ups_ups]
/-- what differs: the values don't agree, and no mask of the signal is -/
def dX (s : sG) (a b t : Int) : Prop := agF (vX s a.toNat t) (vX s (12 + s 2 0 a.toNat).toNat (t + b)) (s 0 0 10) = 0 ∧ ∀ k : Nat, (k : Int) < s 0 0 8 → s 13 k 1 = a → vX s (s 13 k 2).toNat t ≠ s 13 k 3
