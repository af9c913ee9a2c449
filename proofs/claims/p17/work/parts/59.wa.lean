/-! what class and reference have in common: END, looseness, how many masks, names, groups, shifts -/
def lit (x y : sG) : Prop := x 0 0 9 = y 0 0 0 ∧ x 0 0 10 = y 0 0 1 ∧ x 0 0 8 = y 0 0 8 ∧ (∀ j, x 2 0 j = y 4 0 j) ∧ (∀ j, x 3 0 j = y 5 0 j) ∧ ∀ j, x 4 0 j = y 6 0 j
def lX (s t : sG) : Prop := t 0 0 = s 0 0 ∧ t 2 0 = s 2 0 ∧ t 3 0 = s 3 0 ∧ t 4 0 = s 4 0
def lY (s t : sG) : Prop := (∀ j, j < 18 → t 0 0 j = s 0 0 j) ∧ t 4 0 = s 4 0 ∧ t 5 0 = s 5 0 ∧ t 6 0 = s 6 0
theorem lX.rf {s : sG} : lX s s := ⟨rfl, rfl, rfl, rfl⟩
theorem lY.rf {s : sG} : lY s s := ⟨fun _ _ => rfl, rfl, rfl, rfl⟩
theorem lit.go {x y x' y' : sG} (h : lit x y) (hx : lX x x') (hy : lY y y') : lit x' y' := by
  obtain ⟨h1, h2, h3, h4, h5, h6⟩ := h
  obtain ⟨a1, a2, a3, a4⟩ := hx
  obtain ⟨b1, b2, b3, b4⟩ := hy
  unfold lit
  rw [a1, a2, a3, a4, b1 0 (by decide), b1 1 (by decide), b1 8 (by decide), b2, b3, b4]
  exact ⟨h1, h2, h3, h4, h5, h6⟩
theorem lX.kp {s t : sG} (h : keepX s t) : lX s t := ⟨h 0 0 (by unfold scrX; omega), h 2 0 (by unfold scrX; omega), h 3 0 (by unfold scrX; omega), h 4 0 (by unfold scrX; omega)⟩
theorem lY.kp {s t : sG} (h : keepY s t) : lY s t := ⟨fun j hj => h 0 0 j (by omega), by funext j; exact h 4 0 j (by omega), by funext j; exact h 5 0 j (by omega), by funext j; exact h 6 0 j (by omega)⟩
theorem lX.up {s : sG} {k i j : Nat} {v : Int} (h : 10 ≤ k) : lX s (ups s k i j v) := ⟨by rw [ups_kf _ (by omega)], by rw [ups_kf _ (by omega)], by rw [ups_kf _ (by omega)], by rw [ups_kf _ (by omega)]⟩
theorem lX.tr {s t u : sG} (h : lX s t) (h2 : lX t u) : lX s u := ⟨h2.1.trans h.1, h2.2.1.trans h.2.1, h2.2.2.1.trans h.2.2.1, h2.2.2.2.trans h.2.2.2⟩
theorem lY.tr {s t u : sG} (h : lY s t) (h2 : lY t u) : lY s u := ⟨fun j hj => (h2.1 j hj).trans (h.1 j hj), h2.2.1.trans h.2.1, h2.2.2.1.trans h.2.2.1, h2.2.2.2.trans h.2.2.2⟩
theorem lY.k {s t : sG} (h : ∀ k, k = 0 ∨ k = 4 ∨ k = 5 ∨ k = 6 → t k = s k) : lY s t := ⟨fun j _ => by rw [h 0 (by omega)], by rw [h 4 (by omega)], by rw [h 5 (by omega)], by rw [h 6 (by omega)]⟩
theorem lX.put {s : sG} {i : Nat} {t v : Int} : lX s (putS s i t v) := ((lX.up (by decide)).tr (lX.up (by decide))).tr (lX.up (by decide))
theorem lX.ch {s : sG} {r : Nat} {n : Int} {v : Int64} : ∀ k, lX s (chS s r n v k)
  | 0 => lX.rf
  | k + 1 => (lX.ch k).tr lX.put
theorem lY.lay {s : sG} {r t v : Int} : lY s (layS s r t v) := lY.k (fun k hk => by unfold layS; rw [ups_kf _ (by omega), ups_kf _ (by omega), ups_kf _ (by omega)])
theorem lY.ch {s : sG} {r n : Int} {v : Int64} : ∀ k, lY s (chY s r n v k)
  | 0 => lY.rf
  | k + 1 => (lY.ch k).tr lY.lay
/-- the addresses of the two worlds are apart -/
def dj (fx fy : Nat → Nat → Nat) : Prop := ∀ k i k' i', i < cntX k → i' < cntY k' → fx k i ≠ fy k' i'
theorem wY_keep {G : gG} {fx fy : Nat → Nat → Nat} {s : sG} {M M' : wM} (h : wY G fy s M) (hd : dj fx fy) (hO : wO cntX fx M M') : wY G fy s M' := ⟨h.1, fun k i hi => (hO (fy k i) (fun k' i' hi' => (hd k' i' k i hi' hi).symm)).trans (h.2.1 k i hi), h.2.2⟩
theorem wX_keep {G : gG} {fx fy : Nat → Nat → Nat} {s : sG} {M M' : wM} (h : wX G fx s M) (hd : dj fx fy) (hO : wO cntY fy M M') : wX G fx s M' := ⟨h.1, fun k i hi => (hO (fx k i) (fun k' i' hi' => hd k i k' i' hi hi')).trans (h.2.1 k i hi), h.2.2⟩
section LIT
variable {x y x' y' : sG} {r r' a v w b c : Int}
theorem lit_rule (h : lit x y) (hx : (a = 0 ∧ bt 1 v 4000 ∧ r = x 0 0 9 ∧ x' = ups x 0 0 9 v) ∨ (a = 1 ∧ bt 0 v 1 ∧ r = x 0 0 10 ∧ x' = ups x 0 0 10 v) ∨ (¬ (a = 0 ∧ bt 1 v 4000) ∧ ¬ (a = 1 ∧ bt 0 v 1) ∧ r = -1 ∧ x' = x))
    (hy : (a = 0 ∧ bt 1 v 4000 ∧ r' = y 0 0 0 ∧ y' = ups (ups y 0 0 0 v) 0 0 1 (y 0 0 1)) ∨ (a = 1 ∧ bt 0 v 1 ∧ r' = y 0 0 1 ∧ y' = ups (ups y 0 0 0 (y 0 0 0)) 0 0 1 v) ∨ (¬ (a = 0 ∧ bt 1 v 4000) ∧ ¬ (a = 1 ∧ bt 0 v 1) ∧ r' = -1 ∧ y' = y)) : r = r' ∧ lit x' y' := by
  obtain ⟨h1, h2, h3, h4, h5, h6⟩ := h
  rcases hx with ⟨p1, p2, p3, rfl⟩ | ⟨p1, p2, p3, rfl⟩ | ⟨p1, p2, p3, rfl⟩ <;> rcases hy with ⟨q1, q2, q3, rfl⟩ | ⟨q1, q2, q3, rfl⟩ | ⟨q1, q2, q3, rfl⟩ <;> first
    | (exfalso; omega)
    | (refine ⟨by omega, ?_⟩; unfold lit; simp [ups, upz, h1, h2, h3, h4, h5, h6])
theorem lit_call (h : lit x y) (hx : (bt 0 a 11 ∧ w = 0 ∧ bt 0 v 11 ∧ r = x 2 0 a.toNat ∧ x' = ups x 2 0 a.toNat v) ∨ (bt 0 a 11 ∧ w = 1 ∧ bt 0 v 3 ∧ r = x 3 0 a.toNat ∧ x' = ups x 3 0 a.toNat v) ∨ (¬ (bt 0 a 11 ∧ w = 0 ∧ bt 0 v 11) ∧ ¬ (bt 0 a 11 ∧ w = 1 ∧ bt 0 v 3) ∧ r = -1 ∧ x' = x))
    (hy : (bt 0 a 11 ∧ w = 0 ∧ bt 0 v 11 ∧ r' = y 4 0 a.toNat ∧ y' = ups (ups y 4 0 a.toNat v) 5 0 a.toNat (y 5 0 a.toNat)) ∨ (bt 0 a 11 ∧ w = 1 ∧ bt 0 v 3 ∧ r' = y 5 0 a.toNat ∧ y' = ups (ups y 4 0 a.toNat (y 4 0 a.toNat)) 5 0 a.toNat v) ∨ (¬ (bt 0 a 11 ∧ w = 0 ∧ bt 0 v 11) ∧ ¬ (bt 0 a 11 ∧ w = 1 ∧ bt 0 v 3) ∧ r' = -1 ∧ y' = y)) : r = r' ∧ lit x' y' := by
  obtain ⟨h1, h2, h3, h4, h5, h6⟩ := h
  have h4a := h4 a.toNat
  have h5a := h5 a.toNat
  rcases hx with ⟨p0, p1, p2, p3, rfl⟩ | ⟨p0, p1, p2, p3, rfl⟩ | ⟨p1, p2, p3, rfl⟩ <;> rcases hy with ⟨q0, q1, q2, q3, rfl⟩ | ⟨q0, q1, q2, q3, rfl⟩ | ⟨q1, q2, q3, rfl⟩ <;> first
    | (exfalso; omega)
    | (refine ⟨by omega, ?_⟩; rw [show y 5 0 a.toNat = x 3 0 a.toNat by omega]; refine ⟨by simp [ups]; exact h1, by simp [ups]; exact h2, by simp [ups]; exact h3, fun j => ?_, fun j => ?_, fun j => by simp [ups]; exact h6 j⟩ <;> simp [ups, upz] <;> first | (split <;> first | rfl | omega | exact h4 j | exact h5 j) | exact h4 j | exact h5 j)
    | (refine ⟨by omega, ?_⟩; refine ⟨by simp [ups]; exact h1, by simp [ups]; exact h2, by simp [ups]; exact h3, fun j => ?_, fun j => ?_, fun j => by simp [ups]; exact h6 j⟩ <;> simp [ups, upz] <;> first | (split <;> first | rfl | omega | exact h4 j | exact h5 j | (rename_i hj; rw [hj]; omega)) | exact h4 j | exact h5 j)
    | (exact ⟨by omega, h1, h2, h3, h4, h5, h6⟩)
theorem lit_shift (h : lit x y) (hx : (bt 0 a 3 ∧ bt (-50) v 50 ∧ r = x 4 0 a.toNat ∧ x' = ups x 4 0 a.toNat v) ∨ (¬ (bt 0 a 3 ∧ bt (-50) v 50) ∧ r = -1000 ∧ x' = x)) (hy : (bt 0 a 3 ∧ bt (-50) v 50 ∧ r' = y 6 0 a.toNat ∧ y' = ups y 6 0 a.toNat v) ∨ (¬ (bt 0 a 3 ∧ bt (-50) v 50) ∧ r' = -1000 ∧ y' = y)) : r = r' ∧ lit x' y' := by
  obtain ⟨h1, h2, h3, h4, h5, h6⟩ := h
  have h6a := h6 a.toNat
  rcases hx with ⟨p1, p2, p3, rfl⟩ | ⟨p2, p3, rfl⟩ <;> rcases hy with ⟨q1, q2, q3, rfl⟩ | ⟨q2, q3, rfl⟩ <;> first
    | (exfalso; omega)
    | (exact ⟨by omega, h1, h2, h3, h4, h5, h6⟩)
    | (refine ⟨by omega, by simp [ups]; exact h1, by simp [ups]; exact h2, by simp [ups]; exact h3, fun j => by simp [ups]; exact h4 j, fun j => by simp [ups]; exact h5 j, fun j => ?_⟩; simp [ups, upz]; split <;> first | rfl | exact h6 j)
theorem lit_noMasks (h : lit x y) (hx : r = x 0 0 8 ∧ x' = ups x 0 0 8 0) (hy : r' = y 0 0 8 ∧ y' = ups y 0 0 8 0) : r = r' ∧ lit x' y' := by
  obtain ⟨h1, h2, h3, h4, h5, h6⟩ := h
  obtain ⟨p1, rfl⟩ := hx
  obtain ⟨q1, rfl⟩ := hy
  refine ⟨by omega, ?_⟩
  unfold lit
  simp [ups, upz, h1, h2, h4, h5, h6]
theorem lit_mk {d1 d2 d3 d4 : Int} (h : lit x y) (hm : mainEq x x') (h8 : x' 0 0 8 = x 0 0 8 + 1) : lit x' (mkS y d1 d2 d3 d4) := by
  obtain ⟨h1, h2, h3, h4, h5, h6⟩ := h
  obtain ⟨m2, m3, m4, -, m9, m10⟩ := hm
  have e0 : ∀ j, mkS y d1 d2 d3 d4 0 0 j = upz (y 0 0) 8 (y 0 0 8 + 1) j := fun j => by rw [mkS_0]
  refine ⟨by rw [e0, m9]; exact h1, by rw [e0, m10]; exact h2, by rw [e0, h8, h3]; rfl, fun j => by rw [m2, mkS_o _ _ _ _ _ (by decide) (by decide) (by decide) (by decide) (by decide)]; exact h4 j, fun j => by rw [m3, mkS_o _ _ _ _ _ (by decide) (by decide) (by decide) (by decide) (by decide)]; exact h5 j, fun j => by rw [m4, mkS_o _ _ _ _ _ (by decide) (by decide) (by decide) (by decide) (by decide)]; exact h6 j⟩
theorem lit_mask {V : Prop} {d1 d2 d3 d4 : Int} (h : lit x y) (hx : (V ∧ x 0 0 8 < 10 ∧ r = x 0 0 8 + 1 ∧ x' 0 0 8 = x 0 0 8 + 1 ∧ mainEq x x') ∨ (V ∧ x 0 0 8 = 10 ∧ r = -3 ∧ x' = x) ∨ (¬ V ∧ r = -1 ∧ x' = x)) (hy : (V ∧ ((y 0 0 8 < 10 ∧ r' = y 0 0 8 + 1 ∧ y' = mkS y d1 d2 d3 d4) ∨ (y 0 0 8 = 10 ∧ r' = -3 ∧ y' = y))) ∨ (¬ V ∧ r' = -1 ∧ y' = y)) : r = r' ∧ lit x' y' := by
  have h3 := h.2.2.1
  rcases hx with ⟨hV, p1, p2, p3, p4⟩ | ⟨hV, p1, p2, rfl⟩ | ⟨hV, p2, rfl⟩ <;> rcases hy with ⟨hV', ⟨q1, q2, rfl⟩ | ⟨q1, q2, rfl⟩⟩ | ⟨hV', q2, rfl⟩ <;> first
    | exact absurd hV hV'
    | exact absurd hV' hV
    | (exfalso; omega)
    | exact ⟨by omega, lit_mk h p4 p3⟩
    | exact ⟨by omega, h⟩
end LIT
theorem lit_channel {x y x' y' : sG} {r r' d1 d2 d3 d4 d5 : Int} {i : Nat} {V : Prop} (h : lit x y) (hx : (V ∧ r = 0 ∧ x' = ups (ups (ups (ups (ups x 14 i 0 d1) 14 i 1 d2) 14 i 2 d3) 14 i 3 d4) 14 i 4 d5) ∨ (¬ V ∧ r = -1 ∧ x' = x)) (hy : (V ∧ r' = 0 ∧ ∀ k, k ≠ 11 → k ≠ 12 → y' k = y k) ∨ (¬ V ∧ r' = -1 ∧ y' = y)) : r = r' ∧ lit x' y' := by
  rcases hx with ⟨hV, p2, rfl⟩ | ⟨hV, p2, rfl⟩ <;> rcases hy with ⟨hV', q2, q3⟩ | ⟨hV', q2, rfl⟩ <;> first
    | exact absurd hV hV'
    | exact absurd hV' hV
    | exact ⟨by omega, h.go (((((lX.up (by decide)).tr (lX.up (by decide))).tr (lX.up (by decide))).tr (lX.up (by decide))).tr (lX.up (by decide))) (lY.k (fun k hk => q3 k (by omega) (by omega)))⟩
    | exact ⟨by omega, h⟩
