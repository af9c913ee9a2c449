def dLaw : Nat → dE := yD (upD (xD (upD (fun _ => .inl (0, [])) 0 (.inl (6, [.inl none, .inl none, .inl none, .inl none, .inl none, .inl none, .inl none, .inl none, .inr (0), .inr (0), .inr (0)])))) 182 (.inl (7, [.inr (0), .inr (0), .inl none, .inl none, .inl none, .inl none, .inl none, .inl none, .inr (0), .inl none, .inl none, .inl none, .inl none, .inl none, .inl none, .inl none, .inl none, .inl none, .inr (0), .inr (0), .inr (0), .inr (0), .inr (0)])))
def rpX (i : Nat) : Nat := if i < 24 then 54 + 3 * i else if i < 34 then 139 + 4 * (i - 24) else 11 + 4 * (i - 34)
def posX (k i : Nat) : Nat := match k with
  | 10 => rpX i
  | 11 => rpX i + 1
  | 12 => rpX i + 2
  | 13 => 138 + 4 * i
  | 14 => 178 + i
  | 15 => 126 + i
  | 16 => 10 + 4 * i
  | k => k
def s0X : sG := fun k i j => match k with
  | 0 => if j = 9 then 1000 else 0
  | 2 => if j < 12 then (j : Int) else 0
  | 13 => if j = 2 then 24 + (i : Int) else if j = 3 then 1 else 0
  | 16 => if j = 1 then 34 + (i : Int) else if j = 2 then 34 + (i : Int) else if j = 5 then 1 else 0
  | _ => 0
def s0Y : sG := fun k _ j => match k with
  | 0 => if j = 0 then 1000 else 0
  | 4 => if j < 12 then (j : Int) else 0
  | _ => 0

def qV : Option Nat ⊕ Int → Option Nat ⊕ Int → Bool
  | .inl none, .inl none => true
  | .inl (some a), .inl (some b) => Nat.beq a b
  | .inr a, .inr b => decide (a = b)
  | _, _ => false
def qL : List (Option Nat ⊕ Int) → List (Option Nat ⊕ Int) → Bool
  | [], [] => true
  | a :: r, b :: t => qV a b && qL r t
  | _, _ => false
def qE : dE → dE → Bool
  | .inl (a, l), .inl (b, m) => Nat.beq a b && qL l m
  | .inr (.inl (a, b, c)), .inr (.inl (d, e, f)) => Nat.beq a d && (Nat.beq b e && Nat.beq c f)
  | .inr (.inr (a, b, c, d, e)), .inr (.inr (a', b', c', d', e')) => Nat.beq a a' && (Nat.beq b b' && (Nat.beq c c' && (Nat.beq d d' && Nat.beq e e')))
  | _, _ => false
theorem qV_eq {a b : Option Nat ⊕ Int} (h : qV a b = true) : a = b := by
  match a, b, h with
  | .inl none, .inl none, _ => rfl
  | .inl (some a), .inl (some b), h => rw [Nat.eq_of_beq_eq_true h]
  | .inr a, .inr b, h => rw [of_decide_eq_true h]
theorem qL_eq : ∀ {a b : List (Option Nat ⊕ Int)}, qL a b = true → a = b
  | [], [], _ => rfl
  | a :: r, b :: t, h => by
    have h2 := (Bool.and_eq_true _ _).mp h
    rw [qV_eq h2.1, qL_eq h2.2]
theorem qE_eq {a b : dE} (h : qE a b = true) : a = b := by
  match a, b, h with
  | .inl (a, l), .inl (b, m), h =>
    have h2 := (Bool.and_eq_true _ _).mp h
    rw [Nat.eq_of_beq_eq_true h2.1, qL_eq h2.2]
  | .inr (.inl (a, b, c)), .inr (.inl (d, e, f)), h =>
    have h2 := (Bool.and_eq_true _ _).mp h
    have h3 := (Bool.and_eq_true _ _).mp h2.2
    rw [Nat.eq_of_beq_eq_true h2.1, Nat.eq_of_beq_eq_true h3.1, Nat.eq_of_beq_eq_true h3.2]
  | .inr (.inr (a, b, c, d, e)), .inr (.inr (a', b', c', d', e')), h =>
    have h2 := (Bool.and_eq_true _ _).mp h
    have h3 := (Bool.and_eq_true _ _).mp h2.2
    have h4 := (Bool.and_eq_true _ _).mp h3.2
    have h5 := (Bool.and_eq_true _ _).mp h4.2
    rw [Nat.eq_of_beq_eq_true h2.1, Nat.eq_of_beq_eq_true h3.1, Nat.eq_of_beq_eq_true h4.1, Nat.eq_of_beq_eq_true h5.1, Nat.eq_of_beq_eq_true h5.2]

set_option maxRecDepth 100000 in
theorem dl_x0 : dLaw 0 = .inl (6, [.inl (some (1)), .inl (some (2)), .inl (some (3)), .inl (some (4)), .inl (some (5)), .inl (some (6)), .inl (some (7)), .inl (some (8)), .inr (0), .inr (1000), .inr (0)]) := qE_eq (by decide +kernel)
set_option maxRecDepth 100000 in
theorem dl_x1 : dLaw 1 = .inr (.inr (2, 24, 24, 54, 3)) := qE_eq (by decide +kernel)
set_option maxRecDepth 100000 in
theorem dl_x2 : dLaw 2 = .inr (.inl (0, 12, 12)) := qE_eq (by decide +kernel)
set_option maxRecDepth 100000 in
theorem dl_x3 : dLaw 3 = .inr (.inl (0, 12, 0)) := qE_eq (by decide +kernel)
set_option maxRecDepth 100000 in
theorem dl_x4 : dLaw 4 = .inr (.inl (0, 4, 0)) := qE_eq (by decide +kernel)
set_option maxRecDepth 100000 in
theorem dl_x5 : dLaw 5 = .inr (.inr (3, 10, 10, 138, 4)) := qE_eq (by decide +kernel)
set_option maxRecDepth 100000 in
theorem dl_x6 : dLaw 6 = .inr (.inr (4, 4, 4, 178, 1)) := qE_eq (by decide +kernel)
set_option maxRecDepth 100000 in
theorem dl_x7 : dLaw 7 = .inr (.inr (5, 12, 12, 126, 1)) := qE_eq (by decide +kernel)
set_option maxRecDepth 100000 in
theorem dl_x8 : dLaw 8 = .inl (5, [.inl (some (9)), .inr (0), .inr (0), .inr (0), .inr (0)]) := qE_eq (by decide +kernel)
set_option maxRecDepth 100000 in
theorem dl_x9 : dLaw 9 = .inr (.inr (6, 11, 11, 10, 4)) := qE_eq (by decide +kernel)
set_option maxRecDepth 100000 in
theorem dl_y0 : dLaw 182 = .inl (7, [.inr (1000), .inr (0), .inl (some (183)), .inl (some (184)), .inl (some (185)), .inl (some (186)), .inl (some (187)), .inl (some (188)), .inr (0), .inl (some (189)), .inl (some (190)), .inl (some (191)), .inl (some (192)), .inl (some (193)), .inl (some (194)), .inl (some (195)), .inl (some (196)), .inl (some (197)), .inr (0), .inr (0), .inr (0), .inr (0), .inr (0)]) := qE_eq (by decide +kernel)
set_option maxRecDepth 100000 in
theorem dl_y1 : dLaw 183 = .inr (.inl (0, 24, 0)) := qE_eq (by decide +kernel)
set_option maxRecDepth 100000 in
theorem dl_y2 : dLaw 184 = .inr (.inl (0, 1200, 0)) := qE_eq (by decide +kernel)
set_option maxRecDepth 100000 in
theorem dl_y3 : dLaw 185 = .inr (.inl (0, 1200, 0)) := qE_eq (by decide +kernel)
set_option maxRecDepth 100000 in
theorem dl_y4 : dLaw 186 = .inr (.inl (0, 12, 12)) := qE_eq (by decide +kernel)
set_option maxRecDepth 100000 in
theorem dl_y5 : dLaw 187 = .inr (.inl (0, 12, 0)) := qE_eq (by decide +kernel)
set_option maxRecDepth 100000 in
theorem dl_y6 : dLaw 188 = .inr (.inl (0, 4, 0)) := qE_eq (by decide +kernel)
set_option maxRecDepth 100000 in
theorem dl_y7 : dLaw 189 = .inr (.inl (0, 10, 0)) := qE_eq (by decide +kernel)
set_option maxRecDepth 100000 in
theorem dl_y8 : dLaw 190 = .inr (.inl (0, 10, 0)) := qE_eq (by decide +kernel)
set_option maxRecDepth 100000 in
theorem dl_y9 : dLaw 191 = .inr (.inl (0, 10, 0)) := qE_eq (by decide +kernel)
set_option maxRecDepth 100000 in
theorem dl_y10 : dLaw 192 = .inr (.inl (0, 10, 0)) := qE_eq (by decide +kernel)
set_option maxRecDepth 100000 in
theorem dl_y11 : dLaw 193 = .inr (.inl (1, 4, 0)) := qE_eq (by decide +kernel)
set_option maxRecDepth 100000 in
theorem dl_y12 : dLaw 194 = .inr (.inl (0, 16, 0)) := qE_eq (by decide +kernel)
set_option maxRecDepth 100000 in
theorem dl_y13 : dLaw 195 = .inr (.inl (0, 12, 0)) := qE_eq (by decide +kernel)
set_option maxRecDepth 100000 in
theorem dl_y14 : dLaw 196 = .inr (.inl (0, 12, 0)) := qE_eq (by decide +kernel)
set_option maxRecDepth 100000 in
theorem dl_y15 : dLaw 197 = .inr (.inl (0, 12, 0)) := qE_eq (by decide +kernel)
set_option maxRecDepth 100000 in
theorem dl_rows : ∀ i, i < 45 → qE (dLaw (rpX i)) (oRow (rpX i + 1) (rpX i + 2)) = true ∧ qE (dLaw (rpX i + 1)) (.inr (.inl (0, 50, 0))) = true ∧ qE (dLaw (rpX i + 2)) (.inr (.inl (0, 50, 0))) = true := by decide +kernel
set_option maxRecDepth 100000 in
theorem dl_masks : ∀ i, i < 10 → qE (dLaw (138 + 4 * i)) (.inl (2, [.inl (some (rpX (24 + i))), .inr 0, .inl (some (rpX (24 + i))), .inr 1])) = true := by decide +kernel
set_option maxRecDepth 100000 in
theorem dl_chans : ∀ i, i < 4 → qE (dLaw (178 + i)) (.inl (0, [.inr 0, .inr 0, .inr 0, .inr 0, .inr 0])) = true := by decide +kernel
set_option maxRecDepth 100000 in
theorem dl_gates : ∀ i, i < 12 → qE (dLaw (126 + i)) (.inl (1, [.inr 0, .inr 0, .inr 0])) = true := by decide +kernel
set_option maxRecDepth 100000 in
theorem dl_pairs : ∀ i, i < 11 → qE (dLaw (10 + 4 * i)) (.inl (3, [.inl (some (rpX (34 + i))), .inl (some (rpX (34 + i))), .inl (some (rpX (34 + i))), .inr 0, .inr 0, .inr 1])) = true := by decide +kernel
set_option maxRecDepth 100000 in
theorem pos_lt : ∀ k, k < 17 → ∀ i, i < cntX k → posX k i < 182 := by decide +kernel
def ivX (p : Nat) : Nat × Nat := if p < 10 then (p, 0) else if p < 54 then (match (p - 10) % 4 with
    | 0 => (16, (p - 10) / 4)
    | r => (9 + r, 34 + (p - 10) / 4)) else if p < 126 then (10 + (p - 54) % 3, (p - 54) / 3) else if p < 138 then (15, p - 126) else if p < 178 then (match (p - 138) % 4 with
    | 0 => (13, (p - 138) / 4)
    | r => (9 + r, 24 + (p - 138) / 4)) else (14, p - 178)
set_option maxRecDepth 100000 in
theorem pos_iv : ∀ k, k < 17 → ∀ i, i < cntX k → Nat.beq (ivX (posX k i)).1 k = true ∧ Nat.beq (ivX (posX k i)).2 i = true := by decide +kernel
theorem pos_inj {k i k' i' : Nat} (hk : k < 17) (hi : i < cntX k) (hk' : k' < 17) (hi' : i' < cntX k') (h : posX k i = posX k' i') : k = k' ∧ i = i' := by
  obtain ⟨a1, a2⟩ := pos_iv k hk i hi
  obtain ⟨b1, b2⟩ := pos_iv k' hk' i' hi'
  rw [h] at a1 a2
  exact ⟨(Nat.eq_of_beq_eq_true a1).symm.trans (Nat.eq_of_beq_eq_true b1), (Nat.eq_of_beq_eq_true a2).symm.trans (Nat.eq_of_beq_eq_true b2)⟩
theorem cnt_17 {k i : Nat} (h : i < cntX k) : k < 17 := by
  rcases Nat.lt_or_ge k 17 with q | q
  · exact q
  · unfold cntX at h
    rw [if_neg (by omega), if_neg (by omega), if_neg (by omega), if_neg (by omega), if_neg (by omega), if_neg (by omega)] at h
    omega
def fwX (ad : Nat → Nat) : Nat → Nat → Nat := fun k i => ad (posX k i)
def fwY (ad : Nat → Nat) : Nat → Nat → Nat := fun k _ => ad (182 + k)
theorem gF_0 : (fun j : Nat => if j < 0 then (j : Int) else 0) = fun _ => 0 := by funext j; rw [if_neg (by omega)]
theorem rd_rq {G : gG} {ad : Nat → Nat} {t0 n b t : Nat} (f : Nat → Nat) (h : ∀ j, j < n → b + t * j = f j) : rdE G ad (.inr (.inr (t0, n, n, b, t))) = .inl (G.2.2 t0, n, .inr (.inr (.inr (.inr (fun j => if j < n then some (ad (f j)) else none))))) := by
  have e : (fun j => if j < n then some (ad (b + t * j)) else none) = fun j => if j < n then some (ad (f j)) else none := by
    funext j
    by_cases q : j < n
    · rw [if_pos q, if_pos q, h j q]
    · rw [if_neg q, if_neg q]
  show Sum.inl (G.2.2 t0, n, Sum.inr (Sum.inr (Sum.inr (Sum.inr (fun j => if j < n then some (ad (b + t * j)) else none))))) = _
  rw [e]
theorem inv0X : invX s0X := by
  refine ⟨by decide, fun j hj => ?_, fun j hj => by show bt (-50) 0 50; omega, by decide, fun i hi => ⟨by show (0 : Int) ≤ 0; omega, by show (0 : Int) ≤ 50; omega, fun j hj => ?_⟩, fun i hi => ?_, fun i hi => by show bt 0 0 1 ∧ bt 0 0 11 ∧ bt 0 0 11 ∧ bt 0 0 11 ∧ bt 0 0 11; omega, fun i hi => by show bt 0 0 6 ∧ bt 0 0 11 ∧ bt 0 0 11; omega, fun i hi => ?_⟩
  · show bt 0 (if j < 12 then (j : Int) else 0) 11 ∧ bt 0 0 3
    rw [if_pos hj]
    omega
  · have : (j : Int) < 0 := hj
    omega
  · show bt 0 0 11 ∧ bt 0 (24 + (i : Int)) 44 ∧ bt 0 1 256
    omega
  · show bt 0 (34 + (i : Int)) 44 ∧ bt 0 (34 + (i : Int)) 44 ∧ bt (-50) 0 50 ∧ bt 0 0 1 ∧ bt 0 1 1
    omega
theorem inv0Y : invY s0Y := by
  refine ⟨by decide, fun r hr => ⟨by show bt 0 0 50; omega, fun j hj => ?_⟩, fun j hj => ?_, fun j hj => by show bt (-50) 0 50; omega, fun i hi => ?_, fun i hi => by show bt 0 0 1; omega, fun i hi => by show bt 0 0 11; omega, fun i hi => by show bt 0 0 6 ∧ rng 0 ∧ rng 0 ∧ (0 < (0 : Int) → bt 0 0 11) ∧ (1 < (0 : Int) → bt 0 0 11); omega⟩
  · have : (j : Int) < 0 := hj
    omega
  · show bt 0 (if j < 12 then (j : Int) else 0) 11 ∧ bt 0 0 3
    rw [if_pos hj]
    omega
  · have : (i : Int) < 0 := hi
    omega
theorem wY0 {G : gG} {ad : Nat → Nat} {M : wM} (hB : wB G 198 ad dLaw M) : wY G (fwY ad) s0Y M := by
  have at0 : ∀ (n : Nat) (e : dE) (hn : n < 198), dLaw n = e → ∀ {x : va_E}, rdE G ad e = x → M (ad n) = some x := fun n e hn he x hx => hB.at hn rfl he hx
  refine ⟨fun k i k' i' hi hi' h => ?_, fun k i hi => ?_, inv0Y⟩
  · unfold cntY at hi hi'
    have h1 : k < 16 := by split at hi <;> omega
    have h2 : k' < 16 := by split at hi' <;> omega
    rw [if_pos h1] at hi
    rw [if_pos h2] at hi'
    have := hB.2.1 (182 + k) (182 + k') (by omega) (by omega) h
    omega
  · have hk : k < 16 := by unfold cntY at hi; split at hi <;> omega
    show M (ad (182 + k)) = _
    match k, hk with
    | 0, _ => exact at0 182 _ (by decide) dl_y0 rfl
    | 1, _ => exact at0 183 _ (by decide) dl_y1 (by simp only [rdE]; rw [gF_0]; rfl)
    | 2, _ => exact at0 184 _ (by decide) dl_y2 (by simp only [rdE]; rw [gF_0]; rfl)
    | 3, _ => exact at0 185 _ (by decide) dl_y3 (by simp only [rdE]; rw [gF_0]; rfl)
    | 4, _ => exact at0 186 _ (by decide) dl_y4 rfl
    | 5, _ => exact at0 187 _ (by decide) dl_y5 (by simp only [rdE]; rw [gF_0]; rfl)
    | 6, _ => exact at0 188 _ (by decide) dl_y6 (by simp only [rdE]; rw [gF_0]; rfl)
    | 7, _ => exact at0 189 _ (by decide) dl_y7 (by simp only [rdE]; rw [gF_0]; rfl)
    | 8, _ => exact at0 190 _ (by decide) dl_y8 (by simp only [rdE]; rw [gF_0]; rfl)
    | 9, _ => exact at0 191 _ (by decide) dl_y9 (by simp only [rdE]; rw [gF_0]; rfl)
    | 10, _ => exact at0 192 _ (by decide) dl_y10 (by simp only [rdE]; rw [gF_0]; rfl)
    | 11, _ => exact at0 193 _ (by decide) dl_y11 (by simp only [rdE]; rw [gF_0]; rfl)
    | 12, _ => exact at0 194 _ (by decide) dl_y12 (by simp only [rdE]; rw [gF_0]; rfl)
    | 13, _ => exact at0 195 _ (by decide) dl_y13 (by simp only [rdE]; rw [gF_0]; rfl)
    | 14, _ => exact at0 196 _ (by decide) dl_y14 (by simp only [rdE]; rw [gF_0]; rfl)
    | 15, _ => exact at0 197 _ (by decide) dl_y15 (by simp only [rdE]; rw [gF_0]; rfl)
theorem wX0 {G : gG} {ad : Nat → Nat} {M : wM} (hB : wB G 198 ad dLaw M) : wX G (fwX ad) s0X M := by
  have at0 : ∀ (n : Nat) (e : dE) (hn : n < 198), dLaw n = e → ∀ {x : va_E}, rdE G ad e = x → M (ad n) = some x := fun n e hn he x hx => hB.at hn rfl he hx
  refine ⟨fun k i k' i' hi hi' h => ?_, fun k i hi => ?_, inv0X⟩
  · have hk := cnt_17 hi
    have hk' := cnt_17 hi'
    have l1 := pos_lt k hk i hi
    have l2 := pos_lt k' hk' i' hi'
    exact pos_inj hk hi hk' hi' (hB.2.1 _ _ (by omega) (by omega) h)
  · have hk := cnt_17 hi
    have hl := pos_lt k hk i hi
    show M (ad (posX k i)) = _
    match k, hk, hi, hl with
    | 0, _, _, _ => exact at0 0 _ (by decide) dl_x0 rfl
    | 1, _, _, _ => exact at0 1 _ (by decide) dl_x1 (rd_rq rpX (fun j hj => by unfold rpX; rw [if_pos hj]))
    | 2, _, _, _ => exact at0 2 _ (by decide) dl_x2 rfl
    | 3, _, _, _ => exact at0 3 _ (by decide) dl_x3 (by simp only [rdE]; rw [gF_0]; rfl)
    | 4, _, _, _ => exact at0 4 _ (by decide) dl_x4 (by simp only [rdE]; rw [gF_0]; rfl)
    | 5, _, _, _ => exact at0 5 _ (by decide) dl_x5 rfl
    | 6, _, _, _ => exact at0 6 _ (by decide) dl_x6 (rd_rq (fun j => 178 + j) (fun j hj => by omega))
    | 7, _, _, _ => exact at0 7 _ (by decide) dl_x7 (rd_rq (fun j => 126 + j) (fun j hj => by omega))
    | 8, _, _, _ => exact at0 8 _ (by decide) dl_x8 rfl
    | 9, _, _, _ => exact at0 9 _ (by decide) dl_x9 rfl
    | 10, _, hi, hl => exact at0 (rpX i) _ (by have : rpX i < 182 := hl; omega) (qE_eq (dl_rows i hi).1) rfl
    | 11, _, hi, hl => exact at0 (rpX i + 1) _ (by have : rpX i + 1 < 182 := hl; omega) (qE_eq (dl_rows i hi).2.1) (by simp only [rdE]; rw [gF_0]; rfl)
    | 12, _, hi, hl => exact at0 (rpX i + 2) _ (by have : rpX i + 2 < 182 := hl; omega) (qE_eq (dl_rows i hi).2.2) (by simp only [rdE]; rw [gF_0]; rfl)
    | 13, _, hi, hl => exact at0 (138 + 4 * i) _ (by have : 138 + 4 * i < 182 := hl; omega) (qE_eq (dl_masks i hi)) (by show Sum.inr _ = Sum.inr (2, [_, _, Value.ref (ad (rpX (24 + (i : Int)).toNat)), _]); rw [show (24 + (i : Int)).toNat = 24 + i by omega]; rfl)
    | 14, _, hi, hl => exact at0 (178 + i) _ (by have : 178 + i < 182 := hl; omega) (qE_eq (dl_chans i hi)) rfl
    | 15, _, hi, hl => exact at0 (126 + i) _ (by have : 126 + i < 182 := hl; omega) (qE_eq (dl_gates i hi)) rfl
    | 16, _, hi, hl => exact at0 (10 + 4 * i) _ (by have : 10 + 4 * i < 182 := hl; omega) (qE_eq (dl_pairs i hi)) (by show Sum.inr _ = Sum.inr (3, [_, Value.ref (ad (rpX (34 + (i : Int)).toNat)), Value.ref (ad (rpX (34 + (i : Int)).toNat)), _, _, _]); rw [show (34 + (i : Int)).toNat = 34 + i by omega]; rfl)
