/-! what class and reference have in common, and that every call keeps it -/
def lt2 (x y : sG) : Prop := lit x y ∧ rowR x y ∧ chR x y ∧ mkR x y
def eX (x x' : sG) : Prop := ∀ k i, ¬ scrX k i → k ≠ 15 → x' k i = x k i
def eY (y y' : sG) : Prop := ∀ k i j, ¬ (k = 0 ∧ 18 ≤ j) → k ≠ 13 → k ≠ 14 → k ≠ 15 → y' k i j = y k i j
theorem eX.rf {x : sG} : eX x x := fun _ _ _ _ => rfl
theorem eY.rf {y : sG} : eY y y := fun _ _ _ _ _ _ _ => rfl
theorem eX.kp {x x' : sG} (h : keepX x x') : eX x x' := fun k i hq _ => h k i hq
theorem eY.kp {y y' : sG} (h : keepY y y') : eY y y' := fun k i j hq _ _ _ => h k i j hq
theorem eX.g {x : sG} {i : Nat} {a b c : Int} : eX x (ups (ups (ups x 15 i 0 a) 15 i 1 b) 15 i 2 c) := fun k i' _ hk => by rw [ups_kf _ hk, ups_kf _ hk, ups_kf _ hk]
theorem eY.g {y y' : sG} (h : ∀ k, k ≠ 13 → k ≠ 14 → k ≠ 15 → y' k = y k) : eY y y' := fun k i j _ h1 h2 h3 => by rw [h k h1 h2 h3]
/-- rows, channels and masks hang on the kinds from 10 on (class) and 1 to 3, 7 to 12 (reference) alone -/
theorem lt2.of {x y x' y' : sG} (h : lt2 x y) (hl : lit x' y') (hx : ∀ k i, (k = 10 ∨ k = 11 ∨ k = 12) ∧ i < 34 ∨ k = 13 ∨ k = 14 → x' k i = x k i) (hy : ∀ k, (1 ≤ k ∧ k ≤ 3) ∨ (7 ≤ k ∧ k ≤ 12) → y' k 0 = y k 0) (h8 : x' 0 0 8 = x 0 0 8 ∨ x' 0 0 8 ≤ 0) (hm : x 0 0 8 ≤ 10) : lt2 x' y' := by
  obtain ⟨-, h2, h3, h4⟩ := h
  have eT : ∀ r, yT y' r = yT y r := fun r => by funext j; unfold yT; rw [hy 2 (by omega)]
  have eV : ∀ r, yV y' r = yV y r := fun r => by funext j; unfold yV; rw [hy 3 (by omega)]
  refine ⟨hl, fun r hr => ?_, fun i hi => ?_, fun i hi => ?_⟩
  · rw [hx 10 r (by omega), hx 11 r (by omega), hx 12 r (by omega), eT, eV, hy 1 (by omega)]
    exact h2 r hr
  · rw [hx 14 i (by omega), hy 11 (by omega), hy 12 (by omega)]
    exact h3 i hi
  · rcases h8 with h8 | h8
    · have hi2 : (i : Int) < x 0 0 8 := by omega
      have hi3 : i < 10 := by omega
      rw [hx 13 i (by omega), hx 10 (24 + i) (by omega), hx 11 (24 + i) (by omega), hx 12 (24 + i) (by omega), hy 7 (by omega), hy 8 (by omega), hy 9 (by omega), hy 10 (by omega)]
      exact h4 i hi2
    · omega
theorem lt2.go {x y x' y' : sG} (h : lt2 x y) (hm : x 0 0 8 ≤ 10) (hx : eX x x') (hy : eY y y') : lt2 x' y' := by
  refine h.of (h.1.go ⟨hx 0 0 (by unfold scrX; omega) (by decide), hx 2 0 (by unfold scrX; omega) (by decide), hx 3 0 (by unfold scrX; omega) (by decide), hx 4 0 (by unfold scrX; omega) (by decide)⟩ ⟨fun j hj => hy 0 0 j (by omega) (by decide) (by decide) (by decide), ?_, ?_, ?_⟩) (fun k i hk => hx k i (by unfold scrX; omega) (by omega)) (fun k hk => ?_) (Or.inl (by rw [hx 0 0 (by unfold scrX; omega) (by decide)])) hm
  · funext j; exact hy 4 0 j (by omega) (by decide) (by decide) (by decide)
  · funext j; exact hy 5 0 j (by omega) (by decide) (by decide) (by decide)
  · funext j; exact hy 6 0 j (by omega) (by decide) (by decide) (by decide)
  · funext j; exact hy k 0 j (by omega) (by omega) (by omega) (by omega)
section LT2
variable {x y x' y' : sG} {r r' a v w b c d e t : Int}
theorem lt2_rule (h : lt2 x y) (hm : x 0 0 8 ≤ 10) (hx : (a = 0 ∧ bt 1 v 4000 ∧ r = x 0 0 9 ∧ x' = ups x 0 0 9 v) ∨ (a = 1 ∧ bt 0 v 1 ∧ r = x 0 0 10 ∧ x' = ups x 0 0 10 v) ∨ (¬ (a = 0 ∧ bt 1 v 4000) ∧ ¬ (a = 1 ∧ bt 0 v 1) ∧ r = -1 ∧ x' = x))
    (hy : (a = 0 ∧ bt 1 v 4000 ∧ r' = y 0 0 0 ∧ y' = ups (ups y 0 0 0 v) 0 0 1 (y 0 0 1)) ∨ (a = 1 ∧ bt 0 v 1 ∧ r' = y 0 0 1 ∧ y' = ups (ups y 0 0 0 (y 0 0 0)) 0 0 1 v) ∨ (¬ (a = 0 ∧ bt 1 v 4000) ∧ ¬ (a = 1 ∧ bt 0 v 1) ∧ r' = -1 ∧ y' = y)) : r = r' ∧ lt2 x' y' := by
  obtain ⟨e1, e2⟩ := lit_rule h.1 hx hy
  refine ⟨e1, h.of e2 (fun k i hk => ?_) (fun k hk => ?_) (Or.inl ?_) hm⟩
  · rcases hx with ⟨-, -, -, rfl⟩ | ⟨-, -, -, rfl⟩ | ⟨-, -, -, rfl⟩ <;> first | rfl | rw [ups_kf _ (by omega)]
  · rcases hy with ⟨-, -, -, rfl⟩ | ⟨-, -, -, rfl⟩ | ⟨-, -, -, rfl⟩ <;> first | rfl | rw [ups_kf _ (by omega), ups_kf _ (by omega)]
  · rcases hx with ⟨-, -, -, rfl⟩ | ⟨-, -, -, rfl⟩ | ⟨-, -, -, rfl⟩ <;> first | rfl | (rw [ups_at]; rfl)
theorem lt2_call (h : lt2 x y) (hm : x 0 0 8 ≤ 10) (hx : (bt 0 a 11 ∧ w = 0 ∧ bt 0 v 11 ∧ r = x 2 0 a.toNat ∧ x' = ups x 2 0 a.toNat v) ∨ (bt 0 a 11 ∧ w = 1 ∧ bt 0 v 3 ∧ r = x 3 0 a.toNat ∧ x' = ups x 3 0 a.toNat v) ∨ (¬ (bt 0 a 11 ∧ w = 0 ∧ bt 0 v 11) ∧ ¬ (bt 0 a 11 ∧ w = 1 ∧ bt 0 v 3) ∧ r = -1 ∧ x' = x))
    (hy : (bt 0 a 11 ∧ w = 0 ∧ bt 0 v 11 ∧ r' = y 4 0 a.toNat ∧ y' = ups (ups y 4 0 a.toNat v) 5 0 a.toNat (y 5 0 a.toNat)) ∨ (bt 0 a 11 ∧ w = 1 ∧ bt 0 v 3 ∧ r' = y 5 0 a.toNat ∧ y' = ups (ups y 4 0 a.toNat (y 4 0 a.toNat)) 5 0 a.toNat v) ∨ (¬ (bt 0 a 11 ∧ w = 0 ∧ bt 0 v 11) ∧ ¬ (bt 0 a 11 ∧ w = 1 ∧ bt 0 v 3) ∧ r' = -1 ∧ y' = y)) : r = r' ∧ lt2 x' y' := by
  obtain ⟨e1, e2⟩ := lit_call h.1 hx hy
  refine ⟨e1, h.of e2 (fun k i hk => ?_) (fun k hk => ?_) (Or.inl ?_) hm⟩
  · rcases hx with ⟨-, -, -, -, rfl⟩ | ⟨-, -, -, -, rfl⟩ | ⟨-, -, -, rfl⟩ <;> first | rfl | rw [ups_kf _ (by omega)]
  · rcases hy with ⟨-, -, -, -, rfl⟩ | ⟨-, -, -, -, rfl⟩ | ⟨-, -, -, rfl⟩ <;> first | rfl | rw [ups_kf _ (by omega), ups_kf _ (by omega)]
  · rcases hx with ⟨-, -, -, -, rfl⟩ | ⟨-, -, -, -, rfl⟩ | ⟨-, -, -, rfl⟩ <;> first | rfl | rw [ups_kf _ (by decide)]
theorem lt2_shift (h : lt2 x y) (hm : x 0 0 8 ≤ 10) (hx : (bt 0 a 3 ∧ bt (-50) v 50 ∧ r = x 4 0 a.toNat ∧ x' = ups x 4 0 a.toNat v) ∨ (¬ (bt 0 a 3 ∧ bt (-50) v 50) ∧ r = -1000 ∧ x' = x)) (hy : (bt 0 a 3 ∧ bt (-50) v 50 ∧ r' = y 6 0 a.toNat ∧ y' = ups y 6 0 a.toNat v) ∨ (¬ (bt 0 a 3 ∧ bt (-50) v 50) ∧ r' = -1000 ∧ y' = y)) : r = r' ∧ lt2 x' y' := by
  obtain ⟨e1, e2⟩ := lit_shift h.1 hx hy
  refine ⟨e1, h.of e2 (fun k i hk => ?_) (fun k hk => ?_) (Or.inl ?_) hm⟩
  · rcases hx with ⟨-, -, -, rfl⟩ | ⟨-, -, rfl⟩ <;> first | rfl | rw [ups_kf _ (by omega)]
  · rcases hy with ⟨-, -, -, rfl⟩ | ⟨-, -, rfl⟩ <;> first | rfl | rw [ups_kf _ (by omega)]
  · rcases hx with ⟨-, -, -, rfl⟩ | ⟨-, -, rfl⟩ <;> first | rfl | rw [ups_kf _ (by decide)]
theorem lt2_noMasks (h : lt2 x y) (hm : x 0 0 8 ≤ 10) (hx : r = x 0 0 8 ∧ x' = ups x 0 0 8 0) (hy : r' = y 0 0 8 ∧ y' = ups y 0 0 8 0) : r = r' ∧ lt2 x' y' := by
  obtain ⟨e1, e2⟩ := lit_noMasks h.1 hx hy
  obtain ⟨-, rfl⟩ := hx
  obtain ⟨-, rfl⟩ := hy
  exact ⟨e1, h.of e2 (fun k i hk => by rw [ups_kf _ (by omega)]) (fun k hk => by rw [ups_kf _ (by omega)]) (Or.inr (by rw [ups_at]; exact Int.le_refl _)) hm⟩
theorem lt2_channel (h : lt2 x y) (hm : x 0 0 8 ≤ 10) (hx : ((bt 0 a 3 ∧ bt 0 b 11 ∧ bt 0 c 11 ∧ bt 0 d 11 ∧ bt 0 e 11) ∧ r = 0 ∧ x' = ups (ups (ups (ups (ups x 14 a.toNat 0 1) 14 a.toNat 1 b) 14 a.toNat 2 c) 14 a.toNat 3 d) 14 a.toNat 4 e) ∨ (¬ (bt 0 a 3 ∧ bt 0 b 11 ∧ bt 0 c 11 ∧ bt 0 d 11 ∧ bt 0 e 11) ∧ r = -1 ∧ x' = x)) (hy : ((bt 0 a 3 ∧ bt 0 b 11 ∧ bt 0 c 11 ∧ bt 0 d 11 ∧ bt 0 e 11) ∧ r' = 0 ∧ y' = ups (ups (ups (ups (ups y 11 0 a.toNat 1) 12 0 (4 * a).toNat b) 12 0 (4 * a + 1).toNat c) 12 0 (4 * a + 2).toNat d) 12 0 (4 * a + 3).toNat e) ∨ (¬ (bt 0 a 3 ∧ bt 0 b 11 ∧ bt 0 c 11 ∧ bt 0 d 11 ∧ bt 0 e 11) ∧ r' = -1 ∧ y' = y)) : r = r' ∧ lt2 x' y' := by
  rcases hx with ⟨hV, p2, hx⟩ | ⟨hV, p2, rfl⟩ <;> rcases hy with ⟨hV', q2, hy⟩ | ⟨hV', q2, rfl⟩
  · refine ⟨by omega, ?_⟩
    have kx : ∀ k, k ≠ 14 → x' k = x k := fun k hk => by rw [hx, ups_kf _ hk, ups_kf _ hk, ups_kf _ hk, ups_kf _ hk, ups_kf _ hk]
    have ky : ∀ k, k ≠ 11 → k ≠ 12 → y' k = y k := fun k h1 h2 => by rw [hy, ups_kf _ h2, ups_kf _ h2, ups_kf _ h2, ups_kf _ h2, ups_kf _ h1]
    have hl : lit x' y' := h.1.go ⟨by rw [kx 0 (by decide)], by rw [kx 2 (by decide)], by rw [kx 3 (by decide)], by rw [kx 4 (by decide)]⟩ (lY.k (fun k hk => ky k (by omega) (by omega)))
    obtain ⟨-, h2, h3, h4⟩ := h
    have eT : ∀ r, yT y' r = yT y r := fun r => by funext j; unfold yT; rw [ky 2 (by decide) (by decide)]
    have eV : ∀ r, yV y' r = yV y r := fun r => by funext j; unfold yV; rw [ky 3 (by decide) (by decide)]
    refine ⟨hl, fun r hr => ?_, fun i hi => ?_, fun i hi => ?_⟩
    · rw [kx 10 (by decide), kx 11 (by decide), kx 12 (by decide), eT, eV, ky 1 (by decide) (by decide)]
      exact h2 r hr
    · obtain ⟨g1, g2⟩ := h3 i hi
      have e12 : y' 12 0 = upz (upz (upz (upz (y 12 0) (4 * a).toNat b) (4 * a + 1).toNat c) (4 * a + 2).toNat d) (4 * a + 3).toNat e := by rw [hy, ups_at, ups_at, ups_at, ups_at, ups_kf _ (by decide)]
      have e11 : y' 11 0 = upz (y 11 0) a.toNat 1 := by rw [hy, ups_kf _ (by decide), ups_kf _ (by decide), ups_kf _ (by decide), ups_kf _ (by decide), ups_at]
      rw [e11, e12]
      by_cases z : i = a.toNat
      · have e14 : x' 14 i = upz (upz (upz (upz (upz (x 14 i) 0 1) 1 b) 2 c) 3 d) 4 e := by rw [z, hx, ups_at, ups_at, ups_at, ups_at, ups_at]
        rw [e14]
        refine ⟨by simp [upz, z], fun k hk => ?_⟩
        rcases (show k = 0 ∨ k = 1 ∨ k = 2 ∨ k = 3 by omega) with rfl | rfl | rfl | rfl
        · show b = _
          unfold upz
          rw [if_neg (by omega), if_neg (by omega), if_neg (by omega), if_pos (by omega)]
        · show c = _
          unfold upz
          rw [if_neg (by omega), if_neg (by omega), if_pos (by omega)]
        · show d = _
          unfold upz
          rw [if_neg (by omega), if_pos (by omega)]
        · show e = _
          unfold upz
          rw [if_pos (by omega)]
      · have e14 : x' 14 i = x 14 i := by rw [hx, ups_i _ z, ups_i _ z, ups_i _ z, ups_i _ z, ups_i _ z]
        rw [e14]
        refine ⟨by unfold upz; rw [if_neg z]; exact g1, fun k hk => ?_⟩
        unfold upz
        rw [if_neg (by omega), if_neg (by omega), if_neg (by omega), if_neg (by omega)]
        exact g2 k hk
    · rw [kx 0 (by decide)] at hi
      rw [kx 10 (by decide), kx 11 (by decide), kx 12 (by decide), kx 13 (by decide), ky 7 (by decide) (by decide), ky 8 (by decide) (by decide), ky 9 (by decide) (by decide), ky 10 (by decide) (by decide)]
      exact h4 i hi
  · exact absurd hV hV'
  · exact absurd hV' hV
  · exact ⟨by omega, h⟩
theorem lt2_rows (h : lt2 x y) (hm : x 0 0 8 ≤ 10) (hr : rowR x' y') (hx : ∀ k i, ¬ ((k = 10 ∨ k = 11 ∨ k = 12) ∧ i < 24) → x' k i = x k i) (hy : ∀ k, k ≠ 1 → k ≠ 2 → k ≠ 3 → y' k = y k) : lt2 x' y' := by
  have hl : lit x' y' := h.1.go ⟨hx 0 0 (by omega), hx 2 0 (by omega), hx 3 0 (by omega), hx 4 0 (by omega)⟩ (lY.k (fun k hk => hy k (by omega) (by omega) (by omega)))
  obtain ⟨-, -, h3, h4⟩ := h
  refine ⟨hl, hr, fun i hi => ?_, fun i hi => ?_⟩
  · rw [hx 14 i (by omega), hy 11 (by decide) (by decide) (by decide), hy 12 (by decide) (by decide) (by decide)]
    exact h3 i hi
  · rw [hx 0 0 (by omega)] at hi
    rw [hx 10 (24 + i) (by omega), hx 11 (24 + i) (by omega), hx 12 (24 + i) (by omega), hx 13 i (by omega), hy 7 (by decide) (by decide) (by decide), hy 8 (by decide) (by decide) (by decide), hy 9 (by decide) (by decide) (by decide), hy 10 (by decide) (by decide) (by decide)]
    exact h4 i hi
theorem rix_q (ha : bt 0 a 1) (hb : bt 0 b 11) : rix a b < 24 ∧ 12 * a + b = ((rix a b : Nat) : Int) := by
  unfold rix
  omega
theorem lt2_change (h : lt2 x y) (hI : invX x) (hx : (¬ (bt 0 a 1 ∧ bt 0 b 11 ∧ bt 0 t 3999 ∧ bt 0 v 256) ∧ r = -1 ∧ x' = x) ∨ ((bt 0 a 1 ∧ bt 0 b 11 ∧ bt 0 t 3999 ∧ bt 0 v 256) ∧ ((t ≤ lastS x (rix a b) ∧ r = -2 ∧ x' = x) ∨ (lastS x (rix a b) < t ∧ x 10 (rix a b) 2 = 50 ∧ r = -3 ∧ x' = x) ∨ (lastS x (rix a b) < t ∧ x 10 (rix a b) 2 < 50 ∧ r = x 10 (rix a b) 2 + 1 ∧ x' = putS x (rix a b) t v))))
    (hy : (¬ (bt 0 a 1 ∧ bt 0 b 11 ∧ bt 0 t 3999 ∧ bt 0 v 256) ∧ r' = -1 ∧ y' = y) ∨ ((bt 0 a 1 ∧ bt 0 b 11 ∧ bt 0 t 3999 ∧ bt 0 v 256) ∧ ((t ≤ lastY y (12 * a + b) ∧ r' = -2 ∧ y' = y) ∨ (lastY y (12 * a + b) < t ∧ y 1 0 (12 * a + b).toNat = 50 ∧ r' = -3 ∧ y' = y) ∨ (lastY y (12 * a + b) < t ∧ y 1 0 (12 * a + b).toNat < 50 ∧ r' = y 1 0 (12 * a + b).toNat + 1 ∧ y' = layS y (12 * a + b) t v)))) : r = r' ∧ lt2 x' y' := by
  have hm : x 0 0 8 ≤ 10 := hI.1.1.2
  rcases hx with ⟨hV, p2, rfl⟩ | ⟨hV, hx⟩ <;> rcases hy with ⟨hV', q2, rfl⟩ | ⟨hV', hy⟩
  · exact ⟨by omega, h⟩
  · exact absurd hV' hV
  · exact absurd hV hV'
  · have hz := szR_of hI
    obtain ⟨hr, hq⟩ := rix_q hV.1 hV.2.1
    have el := last_eq h.2.1 hz hr hq
    have en : x 10 (rix a b) 2 = y 1 0 (12 * a + b).toNat := by rw [(h.2.1 _ hr).1, hq]; rfl
    rcases hx with ⟨a1, a2, rfl⟩ | ⟨a1, a2, a3, rfl⟩ | ⟨a1, a2, a3, hx⟩ <;> rcases hy with ⟨b1, b2, rfl⟩ | ⟨b1, b2, b3, rfl⟩ | ⟨b1, b2, b3, hy⟩ <;> first
      | (exfalso; omega)
      | exact ⟨by omega, h⟩
      | skip
    refine ⟨by omega, lt2_rows h hm (by rw [hx, hy]; exact h.2.1.put hz hr hq a2 a1) (fun k i hk => ?_) (fun k h1 h2 h3 => by rw [hy]; exact layS_k _ ⟨h1, h2, h3⟩)⟩
    rw [hx]
    by_cases e : i = rix a b
    · rw [putS_k _ _ _ (by omega)]
    · exact putS_o _ _ _ e k
theorem lt2_cut (h : lt2 x y) (hI : invX x) (hx : (¬ (bt 0 a 1 ∧ bt 0 b 11 ∧ bt 0 t 3999) ∧ r = -1 ∧ x' = x) ∨ ((bt 0 a 1 ∧ bt 0 b 11 ∧ bt 0 t 3999) ∧ ∃ z, lateP (x 10 (rix a b) 2) (x 11 (rix a b)) (t - 1) z ∧ x' = ups x 10 (rix a b) 2 (z + 1) ∧ r = x 10 (rix a b) 2 - (z + 1)))
    (hy : (¬ (bt 0 a 1 ∧ bt 0 b 11 ∧ bt 0 t 3999) ∧ r' = -1 ∧ y' = y) ∨ ((bt 0 a 1 ∧ bt 0 b 11 ∧ bt 0 t 3999) ∧ (∃ m, bt 0 m (y 1 0 (12 * a + b).toNat) ∧ (m = 0 ∨ y 2 0 (50 * (12 * a + b) + m - 1).toNat < t) ∧ (∀ j : Int, m ≤ j → j < y 1 0 (12 * a + b).toNat → t ≤ y 2 0 (50 * (12 * a + b) + j).toNat) ∧ y' = ups y 1 0 (12 * a + b).toNat m ∧ r' = y 1 0 (12 * a + b).toNat - m))) : r = r' ∧ lt2 x' y' := by
  have hm : x 0 0 8 ≤ 10 := hI.1.1.2
  rcases hx with ⟨hV, p2, rfl⟩ | ⟨hV, z, a1, a2, a3⟩ <;> rcases hy with ⟨hV', q2, rfl⟩ | ⟨hV', m, b1, b2, b3, b4, b5⟩
  · exact ⟨by omega, h⟩
  · exact absurd hV' hV
  · exact absurd hV hV'
  · obtain ⟨hr, hq⟩ := rix_q hV.1 hV.2.1
    have en : x 10 (rix a b) 2 = y 1 0 (12 * a + b).toNat := by rw [(h.2.1 _ hr).1, hq]; rfl
    obtain ⟨em, hR⟩ := h.2.1.cut hr hq a1 b1 b2 b3
    refine ⟨by omega, lt2_rows h hm (by rw [a2, b4]; exact hR) (fun k i hk => ?_) (fun k h1 h2 h3 => by rw [b4, ups_kf _ h1])⟩
    rw [a2]
    by_cases e : i = rix a b
    · rw [ups_kf _ (by omega)]
    · rw [ups_i _ e]
theorem lt2_value (h : lt2 x y) (hx : (¬ (bt 0 a 1 ∧ bt 0 b 11 ∧ bt 0 t 3999) ∧ r = -1) ∨ ((bt 0 a 1 ∧ bt 0 b 11 ∧ bt 0 t 3999) ∧ ∃ i, lateP (x 10 (rix a b) 2) (x 11 (rix a b)) t i ∧ r = valF (x 10 (rix a b) 2) (x 12 (rix a b)) i))
    (hy : (¬ (bt 0 a 1 ∧ bt 0 b 11 ∧ bt 0 t 3999) ∧ r' = -1) ∨ ((bt 0 a 1 ∧ bt 0 b 11 ∧ bt 0 t 3999) ∧ atP y (12 * a + b) t r')) : r = r' := by
  rcases hx with ⟨hV, p2⟩ | ⟨hV, i, a1, a2⟩ <;> rcases hy with ⟨hV', q2⟩ | ⟨hV', b1⟩
  · omega
  · exact absurd hV' hV
  · exact absurd hV hV'
  · obtain ⟨hr, hq⟩ := rix_q hV.1 hV.2.1
    have e1 : r = vX x (rix a b) t := by rw [a2]; exact atF_late (h.2.1 _ hr).2.2 a1
    have e2 := vY_atP (by omega) (by rw [hq]; exact h.2.1.s hr) b1
    rw [e1, e2, h.2.1.v hr, hq]
    rfl
theorem lt2_changes {n : Int} {l : Int64} (h : lt2 x y) (hI : invX x) (hx : (¬ (bt 0 a 1 ∧ bt 0 b 11 ∧ bt 1 n 4) ∧ r = -1 ∧ x' = x) ∨ ((bt 0 a 1 ∧ bt 0 b 11 ∧ bt 1 n 4) ∧ (((∃ k : Nat, (k : Int) < n ∧ ¬ okC n l (lastS x (rix a b)) k) ∧ r = -1 ∧ x' = x) ∨ ((∀ k : Nat, (k : Int) < n → okC n l (lastS x (rix a b)) k) ∧ 50 < x 10 (rix a b) 2 + n ∧ r = -3 ∧ x' = x) ∨ ((∀ k : Nat, (k : Int) < n → okC n l (lastS x (rix a b)) k) ∧ x 10 (rix a b) 2 + n ≤ 50 ∧ r = x 10 (rix a b) 2 + n ∧ x' = chS x (rix a b) n l n.toNat))))
    (hy : (¬ (bt 0 a 1 ∧ bt 0 b 11 ∧ bt 1 n 4) ∧ r' = -1 ∧ y' = y) ∨ ((bt 0 a 1 ∧ bt 0 b 11 ∧ bt 1 n 4) ∧ (((∃ k : Nat, (k : Int) < n ∧ ¬ okY n l (lastY y (12 * a + b)) k) ∧ r' = -1 ∧ y' = y) ∨ ((∀ k : Nat, (k : Int) < n → okY n l (lastY y (12 * a + b)) k) ∧ 50 < y 1 0 (12 * a + b).toNat + n ∧ r' = -3 ∧ y' = y) ∨ ((∀ k : Nat, (k : Int) < n → okY n l (lastY y (12 * a + b)) k) ∧ y 1 0 (12 * a + b).toNat + n ≤ 50 ∧ r' = y 1 0 (12 * a + b).toNat + n ∧ y' = chY y (12 * a + b) n l n.toNat)))) : r = r' ∧ lt2 x' y' := by
  have hm : x 0 0 8 ≤ 10 := hI.1.1.2
  rcases hx with ⟨hV, p2, rfl⟩ | ⟨hV, hx⟩ <;> rcases hy with ⟨hV', q2, rfl⟩ | ⟨hV', hy⟩
  · exact ⟨by omega, h⟩
  · exact absurd hV' hV
  · exact absurd hV hV'
  · have hz := szR_of hI
    obtain ⟨hr, hq⟩ := rix_q hV.1 hV.2.1
    have el := last_eq h.2.1 hz hr hq
    have en : x 10 (rix a b) 2 = y 1 0 (12 * a + b).toNat := by rw [(h.2.1 _ hr).1, hq]; rfl
    rw [← el] at hy
    have ok1 : (∀ k : Nat, (k : Int) < n → okC n l (lastS x (rix a b)) k) → (∃ k : Nat, (k : Int) < n ∧ ¬ okY n l (lastS x (rix a b)) k) → False := fun h1 ⟨k, h2, h3⟩ => h3 ((ok_eq hV.2.2 h2).mp (h1 k h2))
    have ok2 : (∀ k : Nat, (k : Int) < n → okY n l (lastS x (rix a b)) k) → (∃ k : Nat, (k : Int) < n ∧ ¬ okC n l (lastS x (rix a b)) k) → False := fun h1 ⟨k, h2, h3⟩ => h3 ((ok_eq hV.2.2 h2).mpr (h1 k h2))
    rcases hx with ⟨a1, a2, rfl⟩ | ⟨a1, a2, a3, rfl⟩ | ⟨a1, a2, a3, hx⟩ <;> rcases hy with ⟨b1, b2, rfl⟩ | ⟨b1, b2, b3, rfl⟩ | ⟨b1, b2, b3, hy⟩ <;> first
      | exact (ok1 a1 b1).elim
      | exact (ok2 b1 a1).elim
      | (clear ok1 ok2 a1 b1; exfalso; omega)
      | exact ⟨by clear ok1 ok2 a1 b1; omega, h⟩
      | skip
    refine ⟨by clear ok1 ok2 a1 b1; omega, lt2_rows h hm (by rw [hx, hy]; exact (h.2.1.ch hz hr hq hV.2.2 a2 a1 n.toNat (by clear ok1 ok2 a1 b1; omega)).1) (fun k i hk => ?_) (fun k h1 h2 h3 => by rw [hy]; exact chY_k _ ⟨h1, h2, h3⟩ _)⟩
    rw [hx]
    by_cases e : i = rix a b
    · rw [chS_k _ _ _ (by clear ok1 ok2 a1 b1; omega)]
    · exact chS_o _ _ _ e k _
end LT2
/-! masks -/
theorem mkS_7 (s : sG) (a b c d : Int) : mkS s a b c d 7 0 = upz (s 7 0) (s 0 0 8).toNat a := by unfold mkS; rw [ups_kf _ (by decide), ups_kf _ (by decide), ups_kf _ (by decide), ups_kf _ (by decide), ups_at]
theorem mkS_10 (s : sG) (a b c d : Int) : mkS s a b c d 10 0 = upz (s 10 0) (s 0 0 8).toNat b := by unfold mkS; rw [ups_kf _ (by decide), ups_kf _ (by decide), ups_kf _ (by decide), ups_at, ups_kf _ (by decide)]
theorem mkS_8 (s : sG) (a b c d : Int) : mkS s a b c d 8 0 = upz (s 8 0) (s 0 0 8).toNat c := by unfold mkS; rw [ups_kf _ (by decide), ups_kf _ (by decide), ups_at, ups_kf _ (by decide), ups_kf _ (by decide)]
theorem mkS_9 (s : sG) (a b c d : Int) : mkS s a b c d 9 0 = upz (s 9 0) (s 0 0 8).toNat d := by unfold mkS; rw [ups_kf _ (by decide), ups_at, ups_kf _ (by decide), ups_kf _ (by decide), ups_kf _ (by decide)]
theorem lt2_mk {x y x' : sG} {a b c d : Int} (h : lt2 x y) (h0 : 0 ≤ x 0 0 8) (h8 : x' 0 0 8 = x 0 0 8 + 1) (hme : mainEq x x') (h14 : x' 14 = x 14) (hk : ∀ i : Nat, (i : Int) < x 0 0 8 → x' 13 i = x 13 i ∧ x' 10 (24 + i) = x 10 (24 + i) ∧ x' 11 (24 + i) = x 11 (24 + i) ∧ x' 12 (24 + i) = x 12 (24 + i))
    (hn : ∀ i : Nat, (i : Int) = x 0 0 8 → x' 13 i 1 = a ∧ ((b = -1 ∧ x' 13 i 2 = ((24 + i : Nat) : Int) ∧ x' 13 i 3 = 1 ∧ x' 10 (24 + i) 2 = 2 ∧ x' 11 (24 + i) 0 = c ∧ x' 11 (24 + i) 1 = d ∧ x' 12 (24 + i) 0 = 1 ∧ x' 12 (24 + i) 1 = 0 ∧ c < d) ∨ ((0 ≤ b ∧ b ≤ 11) ∧ x' 13 i 2 = b ∧ x' 13 i 3 = c))) : lt2 x' (mkS y a b c d) := by
  have hl := lit_mk (d1 := a) (d2 := b) (d3 := c) (d4 := d) h.1 hme h8
  have e8 := h.1.2.2.1
  obtain ⟨-, h2, h3, h4⟩ := h
  have ko : ∀ k, k ≠ 0 → k ≠ 7 → k ≠ 8 → k ≠ 9 → k ≠ 10 → mkS y a b c d k = y k := fun k q0 q7 q8 q9 q10 => mkS_o _ _ _ _ _ q0 q7 q8 q9 q10
  have eT : ∀ r, yT (mkS y a b c d) r = yT y r := fun r => by funext j; unfold yT; rw [ko 2 (by decide) (by decide) (by decide) (by decide) (by decide)]
  have eV : ∀ r, yV (mkS y a b c d) r = yV y r := fun r => by funext j; unfold yV; rw [ko 3 (by decide) (by decide) (by decide) (by decide) (by decide)]
  refine ⟨hl, fun r hr => ?_, fun i hi => ?_, fun i hi => ?_⟩
  · obtain ⟨q1, q2, q3⟩ := hme.2.2.2.1 r hr
    rw [q1, q2, q3, eT, eV, ko 1 (by decide) (by decide) (by decide) (by decide) (by decide)]
    exact h2 r hr
  · rw [h14, ko 11 (by decide) (by decide) (by decide) (by decide) (by decide), ko 12 (by decide) (by decide) (by decide) (by decide) (by decide)]
    exact h3 i hi
  · rw [mkS_7, mkS_8, mkS_9, mkS_10, ← e8]
    by_cases e : (i : Int) = x 0 0 8
    · have ei : i = (x 0 0 8).toNat := by omega
      simp only [upz, if_pos ei]
      exact hn i e
    · have hi2 : (i : Int) < x 0 0 8 := by omega
      obtain ⟨q1, q2, q3, q4⟩ := hk i hi2
      have ei : ¬ i = (x 0 0 8).toNat := by omega
      simp only [upz, if_neg ei]
      rw [q1, q2, q3, q4]
      exact h4 i hi2
theorem ctS_o (s : sG) (i : Nat) (c a b : Int) {k i' : Nat} (h1 : ¬ ((k = 10 ∨ k = 11 ∨ k = 12) ∧ i' = 24 + i)) (h2 : ¬ (k = 13 ∧ i' = i)) : ctS s i c a b k i' = s k i' := by
  unfold ctS
  have e : ∀ (u : sG) (j : Nat) (w : Int), ups u 13 i j w k i' = u k i' := fun u j w => by unfold ups; rw [if_neg h2]
  rw [e, e, e]
  by_cases q : i' = 24 + i
  · rw [putS_k _ _ _ (by omega), putS_k _ _ _ (by omega), ups_kf _ (by omega)]
  · rw [putS_o _ _ _ q, putS_o _ _ _ q, ups_i _ q]
theorem ctS_m (s : sG) (i : Nat) (c a b : Int) : ctS s i c a b 13 i 1 = c ∧ ctS s i c a b 13 i 2 = ((24 + i : Nat) : Int) ∧ ctS s i c a b 13 i 3 = 1 := by
  unfold ctS
  rw [ups_at, ups_at, ups_at]
  exact ⟨rfl, rfl, rfl⟩
theorem ctS_r (s : sG) (i : Nat) (c a b : Int) : ctS s i c a b 10 (24 + i) 2 = 2 ∧ ctS s i c a b 11 (24 + i) 0 = a ∧ ctS s i c a b 11 (24 + i) 1 = b ∧ ctS s i c a b 12 (24 + i) 0 = 1 ∧ ctS s i c a b 12 (24 + i) 1 = 0 := by
  have e1 : ups s 10 (24 + i) 2 0 10 (24 + i) 2 = 0 := by rw [ups_at]; rfl
  have e2 : putS (ups s 10 (24 + i) 2 0) (24 + i) a 1 10 (24 + i) 2 = 1 := by rw [putS_n, e1]; rfl
  unfold ctS
  rw [ups_kf _ (show (10 : Nat) ≠ 13 by decide), ups_kf _ (show (10 : Nat) ≠ 13 by decide), ups_kf _ (show (10 : Nat) ≠ 13 by decide), ups_kf _ (show (11 : Nat) ≠ 13 by decide), ups_kf _ (show (11 : Nat) ≠ 13 by decide), ups_kf _ (show (11 : Nat) ≠ 13 by decide), ups_kf _ (show (12 : Nat) ≠ 13 by decide), ups_kf _ (show (12 : Nat) ≠ 13 by decide), ups_kf _ (show (12 : Nat) ≠ 13 by decide), putS_n, putS_t, putS_v, e2, putS_t, putS_v, e1]
  exact ⟨rfl, rfl, rfl, rfl, rfl⟩
theorem lt2_mask {x y x' y' : sG} {r r' a b c : Int} (h : lt2 x y) (hI : invX x) (hx : (bt 0 a 11 ∧ 0 ≤ b ∧ b < c ∧ c ≤ 4000 ∧ x 0 0 8 < 10 ∧ r = x 0 0 8 + 1 ∧ x' = ups (ctS x (x 0 0 8).toNat a b c) 0 0 8 (x 0 0 8 + 1)) ∨ (bt 0 a 11 ∧ 0 ≤ b ∧ b < c ∧ c ≤ 4000 ∧ x 0 0 8 = 10 ∧ r = -3 ∧ x' = x) ∨ (¬ (bt 0 a 11 ∧ 0 ≤ b ∧ b < c ∧ c ≤ 4000) ∧ r = -1 ∧ x' = x))
    (hy : ((bt 0 a 11 ∧ 0 ≤ b ∧ b < c ∧ c ≤ 4000) ∧ ((y 0 0 8 < 10 ∧ r' = y 0 0 8 + 1 ∧ y' = mkS y a (-1) b c) ∨ (y 0 0 8 = 10 ∧ r' = -3 ∧ y' = y))) ∨ (¬ (bt 0 a 11 ∧ 0 ≤ b ∧ b < c ∧ c ≤ 4000) ∧ r' = -1 ∧ y' = y)) : r = r' ∧ lt2 x' y' := by
  have h0 := hI.1.1.1
  have h3 := h.1.2.2.1
  rcases hx with ⟨v1, v2, v3, v4, p1, p2, hx⟩ | ⟨v1, v2, v3, v4, p1, p2, rfl⟩ | ⟨hV, p2, rfl⟩ <;> rcases hy with ⟨hV', ⟨q1, q2, hy⟩ | ⟨q1, q2, rfl⟩⟩ | ⟨hV', q2, rfl⟩ <;> first
    | (exfalso; omega)
    | exact ⟨by omega, h⟩
    | skip
  refine ⟨by omega, ?_⟩
  rw [hy]
  obtain ⟨m, em⟩ : ∃ m : Nat, m = (x 0 0 8).toNat := ⟨_, rfl⟩
  rw [← em] at hx
  have kx : ∀ k i, ¬ ((k = 10 ∨ k = 11 ∨ k = 12) ∧ i = 24 + m) → ¬ (k = 13 ∧ i = m) → k ≠ 0 → x' k i = x k i := fun k i z1 z2 z3 => by rw [hx, ups_kf _ z3]; exact ctS_o _ _ _ _ _ z1 z2
  have k0 : ∀ j, j ≠ 8 → x' 0 0 j = x 0 0 j := fun j hj => by rw [hx, ups_at]; unfold upz; rw [if_neg hj, ctS_0]
  refine lt2_mk h h0 (by rw [hx, ups_at]; rfl) ⟨by funext i; exact kx 2 i (by omega) (by omega) (by decide), by funext i; exact kx 3 i (by omega) (by omega) (by decide), by funext i; exact kx 4 i (by omega) (by omega) (by decide), fun i hi => ⟨kx 10 i (by omega) (by omega) (by decide), kx 11 i (by omega) (by omega) (by decide), kx 12 i (by omega) (by omega) (by decide)⟩, k0 9 (by decide), k0 10 (by decide)⟩ (by funext i; exact kx 14 i (by omega) (by omega) (by decide)) (fun i hi => ⟨kx 13 i (by omega) (by omega) (by decide), kx 10 (24 + i) (by omega) (by omega) (by decide), kx 11 (24 + i) (by omega) (by omega) (by decide), kx 12 (24 + i) (by omega) (by omega) (by decide)⟩) (fun i hi => ?_)
  have ei : i = m := by omega
  subst ei
  obtain ⟨g1, g2, g3⟩ := ctS_m x i a b c
  obtain ⟨g4, g5, g6, g7, g8⟩ := ctS_r x i a b c
  rw [hx, ups_kf _ (show (13 : Nat) ≠ 0 by decide), ups_kf _ (show (10 : Nat) ≠ 0 by decide), ups_kf _ (show (11 : Nat) ≠ 0 by decide), ups_kf _ (show (12 : Nat) ≠ 0 by decide)]
  exact ⟨g1, Or.inl ⟨rfl, g2, g3, g4, g5, g6, g7, g8, v3⟩⟩
theorem lt2_maskWhile {x y x' y' : sG} {r r' a b c : Int} (h : lt2 x y) (hI : invX x) (hx : (bt 0 a 11 ∧ bt 0 b 11 ∧ bt 0 c 256 ∧ x 0 0 8 < 10 ∧ r = x 0 0 8 + 1 ∧ x' = ups (ups (ups (ups x 13 (x 0 0 8).toNat 1 a) 13 (x 0 0 8).toNat 2 b) 13 (x 0 0 8).toNat 3 c) 0 0 8 (x 0 0 8 + 1)) ∨ (bt 0 a 11 ∧ bt 0 b 11 ∧ bt 0 c 256 ∧ x 0 0 8 = 10 ∧ r = -3 ∧ x' = x) ∨ (¬ (bt 0 a 11 ∧ bt 0 b 11 ∧ bt 0 c 256) ∧ r = -1 ∧ x' = x))
    (hy : ((bt 0 a 11 ∧ bt 0 b 11 ∧ bt 0 c 256) ∧ ((y 0 0 8 < 10 ∧ r' = y 0 0 8 + 1 ∧ y' = mkS y a b c 0) ∨ (y 0 0 8 = 10 ∧ r' = -3 ∧ y' = y))) ∨ (¬ (bt 0 a 11 ∧ bt 0 b 11 ∧ bt 0 c 256) ∧ r' = -1 ∧ y' = y)) : r = r' ∧ lt2 x' y' := by
  have h0 := hI.1.1.1
  have h3 := h.1.2.2.1
  rcases hx with ⟨v1, v2, v3, p1, p2, hx⟩ | ⟨v1, v2, v3, p1, p2, rfl⟩ | ⟨hV, p2, rfl⟩ <;> rcases hy with ⟨hV', ⟨q1, q2, hy⟩ | ⟨q1, q2, rfl⟩⟩ | ⟨hV', q2, rfl⟩ <;> first
    | (exfalso; omega)
    | exact ⟨by omega, h⟩
    | skip
  refine ⟨by omega, ?_⟩
  rw [hy]
  obtain ⟨m, em⟩ : ∃ m : Nat, m = (x 0 0 8).toNat := ⟨_, rfl⟩
  rw [← em] at hx
  have kx : ∀ k i, ¬ (k = 13 ∧ i = m) → k ≠ 0 → x' k i = x k i := fun k i z2 z3 => by
    have e : ∀ (u : sG) (j : Nat) (w : Int), ups u 13 m j w k i = u k i := fun u j w => by unfold ups; rw [if_neg z2]
    rw [hx, ups_kf _ z3, e, e, e]
  have k0 : ∀ j, j ≠ 8 → x' 0 0 j = x 0 0 j := fun j hj => by rw [hx, ups_at]; unfold upz; rw [if_neg hj, ups_kf _ (by decide), ups_kf _ (by decide), ups_kf _ (by decide)]
  refine lt2_mk h h0 (by rw [hx, ups_at]; rfl) ⟨by funext i; exact kx 2 i (by omega) (by decide), by funext i; exact kx 3 i (by omega) (by decide), by funext i; exact kx 4 i (by omega) (by decide), fun i hi => ⟨kx 10 i (by omega) (by decide), kx 11 i (by omega) (by decide), kx 12 i (by omega) (by decide)⟩, k0 9 (by decide), k0 10 (by decide)⟩ (by funext i; exact kx 14 i (by omega) (by decide)) (fun i hi => ⟨kx 13 i (by omega) (by decide), kx 10 (24 + i) (by omega) (by decide), kx 11 (24 + i) (by omega) (by decide), kx 12 (24 + i) (by omega) (by decide)⟩) (fun i hi => ?_)
  have ei : i = m := by omega
  subst ei
  have e13 : x' 13 i = upz (upz (upz (x 13 i) 1 a) 2 b) 3 c := by rw [hx, ups_kf _ (by decide), ups_at, ups_at, ups_at]
  rw [e13]
  exact ⟨rfl, Or.inr ⟨v2, rfl, rfl⟩⟩
theorem lt2_0 : lt2 s0X s0Y := ⟨⟨rfl, rfl, rfl, fun _ => rfl, fun _ => rfl, fun _ => rfl⟩, fun r hr => ⟨rfl, fun j hj => absurd hj (by show ¬ ((j : Int) < 0); omega), fun i j hij hj => absurd hj (by show ¬ ((j : Int) < 0); omega)⟩, fun i hi => ⟨rfl, fun k hk => rfl⟩, fun i hi => absurd hi (by show ¬ ((i : Int) < 0); omega)⟩
