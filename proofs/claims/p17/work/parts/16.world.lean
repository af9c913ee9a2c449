abbrev sG : Type := Nat → Nat → Nat → Int
def ups (s : sG) (k i j : Nat) (v : Int) : sG := fun k' i' => if k' = k ∧ i' = i then upz (s k i) j v else s k' i'
theorem ups_at (s : sG) (k i j : Nat) (v : Int) : ups s k i j v k i = upz (s k i) j v := by unfold ups; rw [if_pos ⟨rfl, rfl⟩]
theorem ups_k (s : sG) {k i j : Nat} {v : Int} {k' i' : Nat} (h : k' ≠ k) : ups s k i j v k' i' = s k' i' := by unfold ups; rw [if_neg (fun q => h q.1)]
theorem ups_i (s : sG) {k i j : Nat} {v : Int} {k' i' : Nat} (h : i' ≠ i) : ups s k i j v k' i' = s k' i' := by unfold ups; rw [if_neg (fun q => h q.2)]
/-- a world of cells of kinds: how many of each kind, where they lie, what a cell holds of the numbers of its place -/
def wJ (cnt : Nat → Nat) (fw : Nat → Nat → Nat) : Prop := ∀ k i k' i' : Nat, i < cnt k → i' < cnt k' → fw k i = fw k' i' → k = k' ∧ i = i'
def wH (cnt : Nat → Nat) (cell : Nat → Nat → (Nat → Int) → va_E) (fw : Nat → Nat → Nat) (s : sG) (M : wM) : Prop := ∀ k i : Nat, i < cnt k → M (fw k i) = some (cell k i (s k i))
def wO (cnt : Nat → Nat) (fw : Nat → Nat → Nat) (M M' : wM) : Prop := ∀ a, (∀ k i, i < cnt k → a ≠ fw k i) → M' a = M a
theorem wO.rf {cnt : Nat → Nat} {fw : Nat → Nat → Nat} {M : wM} : wO cnt fw M M := fun _ _ => rfl
theorem wO.tr {cnt : Nat → Nat} {fw : Nat → Nat → Nat} {M M1 M2 : wM} (h : wO cnt fw M M1) (h2 : wO cnt fw M1 M2) : wO cnt fw M M2 := fun a ha => (h2 a ha).trans (h a ha)
theorem wO.up {cnt : Nat → Nat} {fw : Nat → Nat → Nat} {M M1 : wM} {k i : Nat} {e : va_E} (h : wO cnt fw M M1) (hi : i < cnt k) : wO cnt fw M (wup M1 (fw k i) e) := fun a ha => (wup_ne M1 e (ha k i hi)).trans (h a ha)
theorem wH.up {cnt : Nat → Nat} {cell : Nat → Nat → (Nat → Int) → va_E} {fw : Nat → Nat → Nat} {s : sG} {M : wM} (hJ : wJ cnt fw) (h : wH cnt cell fw s M) {k i : Nat} (j : Nat) (v : Int) (hi : i < cnt k) {e : va_E} (he : cell k i (upz (s k i) j v) = e) : wH cnt cell fw (ups s k i j v) (wup M (fw k i) e) := by
  intro k' i' hi'
  by_cases hq : fw k' i' = fw k i
  · obtain ⟨rfl, rfl⟩ := hJ _ _ _ _ hi' hi hq
    rw [wup_eq, ups_at, he]
  · rw [wup_ne _ _ hq]
    have : ¬ (k' = k ∧ i' = i) := fun z => hq (by rw [z.1, z.2])
    unfold ups
    rw [if_neg this]
    exact h k' i' hi'
/-! the class -/
def cntX (k : Nat) : Nat := if k < 10 then 1 else if k < 13 then 45 else if k = 13 then 10 else if k = 14 then 4 else if k = 15 then 12 else if k = 16 then 11 else 0
def cellX (G : gG) (fw : Nat → Nat → Nat) (k i : Nat) (f : Nat → Int) : va_E := match k with
  | 0 => .inr (6, [.ref (fw 1 0), .ref (fw 2 0), .ref (fw 3 0), .ref (fw 4 0), .ref (fw 5 0), .ref (fw 6 0), .ref (fw 7 0), .ref (fw 8 0), .int (gI (f 8)), .int (gI (f 9)), .int (gI (f 10))])
  | 1 => .inl (G.2.2 2, 24, .inr (.inr (.inr (.inr (fun j => if j < 24 then some (fw 10 j) else none)))))
  | 2 => .inl (G.2.2 0, 12, .inl (gF f))
  | 3 => .inl (G.2.2 0, 12, .inl (gF f))
  | 4 => .inl (G.2.2 0, 4, .inl (gF f))
  | 5 => .inl (G.2.2 3, 10, .inr (.inr (.inr (.inr (fun j => if j < 10 then some (fw 13 j) else none)))))
  | 6 => .inl (G.2.2 4, 4, .inr (.inr (.inr (.inr (fun j => if j < 4 then some (fw 14 j) else none)))))
  | 7 => .inl (G.2.2 5, 12, .inr (.inr (.inr (.inr (fun j => if j < 12 then some (fw 15 j) else none)))))
  | 8 => .inr (5, [.ref (fw 9 0), .int (gI (f 1)), .int (gI (f 2)), .int (gI (f 3)), .int (gI (f 4))])
  | 9 => .inl (G.2.2 6, 11, .inr (.inr (.inr (.inr (fun j => if j < 11 then some (fw 16 j) else none)))))
  | 10 => .inr (4, [.ref (fw 11 i), .ref (fw 12 i), .int (gI (f 2))])
  | 11 => .inl (G.2.2 0, 50, .inl (gF f))
  | 12 => .inl (G.2.2 0, 50, .inl (gF f))
  | 13 => .inr (2, [.ref (fw 10 (24 + i)), .int (gI (f 1)), .ref (fw 10 (f 2).toNat), .int (gI (f 3))])
  | 14 => .inr (0, [.int (gI (f 0)), .int (gI (f 1)), .int (gI (f 2)), .int (gI (f 3)), .int (gI (f 4))])
  | 15 => .inr (1, [.int (gI (f 0)), .int (gI (f 1)), .int (gI (f 2))])
  | _ => .inr (3, [.ref (fw 10 (34 + i)), .ref (fw 10 (f 1).toNat), .ref (fw 10 (f 2).toNat), .int (gI (f 3)), .int (gI (f 4)), .int (gI (f 5))])
abbrev bt (lo x hi : Int) : Prop := lo ≤ x ∧ x ≤ hi
def invX (s : sG) : Prop :=
  (bt 0 (s 0 0 8) 10 ∧ bt 1 (s 0 0 9) 4000 ∧ bt 0 (s 0 0 10) 1) ∧
  (∀ j : Nat, j < 12 → bt 0 (s 2 0 j) 11 ∧ bt 0 (s 3 0 j) 3) ∧
  (∀ j : Nat, j < 4 → bt (-50) (s 4 0 j) 50) ∧
  (bt 0 (s 8 0 1) 11 ∧ rng (s 8 0 2) ∧ rng (s 8 0 3) ∧ rng (s 8 0 4)) ∧
  (∀ i : Nat, i < 45 → rowOK (s 10 i 2) (s 11 i) (s 12 i)) ∧
  (∀ i : Nat, i < 10 → bt 0 (s 13 i 1) 11 ∧ bt 0 (s 13 i 2) 44 ∧ bt 0 (s 13 i 3) 256) ∧
  (∀ i : Nat, i < 4 → bt 0 (s 14 i 0) 1 ∧ bt 0 (s 14 i 1) 11 ∧ bt 0 (s 14 i 2) 11 ∧ bt 0 (s 14 i 3) 11 ∧ bt 0 (s 14 i 4) 11) ∧
  (∀ i : Nat, i < 12 → bt 0 (s 15 i 0) 6 ∧ bt 0 (s 15 i 1) 11 ∧ bt 0 (s 15 i 2) 11) ∧
  (∀ i : Nat, i < 11 → bt 0 (s 16 i 1) 44 ∧ bt 0 (s 16 i 2) 44 ∧ bt (-50) (s 16 i 3) 50 ∧ bt 0 (s 16 i 4) 1 ∧ bt 0 (s 16 i 5) 1)
/-- the class's world -/
def wX (G : gG) (fw : Nat → Nat → Nat) (s : sG) (M : wM) : Prop := wJ cntX fw ∧ wH cntX (cellX G fw) fw s M ∧ invX s
/-- what is written by every question: the spans, the pairs and their steady rows -/
def scrX (k i : Nat) : Prop := k = 8 ∨ k = 16 ∨ (10 ≤ k ∧ k ≤ 12 ∧ 34 ≤ i)
def keepX (s s' : sG) : Prop := ∀ k i, ¬ scrX k i → s' k i = s k i
theorem keepX.rf {s : sG} : keepX s s := fun _ _ _ => rfl
theorem keepX.tr {s s1 s2 : sG} (h : keepX s s1) (h2 : keepX s1 s2) : keepX s s2 := fun k i q => (h2 k i q).trans (h k i q)
section WX
variable {G : gG} {fw : Nat → Nat → Nat} {s : sG} {M : wM}
theorem wX.c (h : wX G fw s M) (k i : Nat) (hi : i < cntX k) : M (fw k i) = some (cellX G fw k i (s k i)) := h.2.1 k i hi
theorem wX.row (h : wX G fw s M) {i : Nat} (hi : i < 45) : rowAt G M (fw 10 i) (fw 11 i) (fw 12 i) (s 10 i 2) (s 11 i) (s 12 i) := ⟨h.c 10 i hi, h.c 11 i hi, h.c 12 i hi, h.2.2.2.2.2.2.1 i hi⟩
end WX
/-! the reference -/
def cntY (k : Nat) : Nat := if k < 16 then 1 else 0
def cellY (G : gG) (fw : Nat → Nat → Nat) (k _i : Nat) (f : Nat → Int) : va_E := match k with
  | 0 => .inr (7, [.int (gI (f 0)), .int (gI (f 1)), .ref (fw 1 0), .ref (fw 2 0), .ref (fw 3 0), .ref (fw 4 0), .ref (fw 5 0), .ref (fw 6 0), .int (gI (f 8)), .ref (fw 7 0), .ref (fw 8 0), .ref (fw 9 0), .ref (fw 10 0), .ref (fw 11 0), .ref (fw 12 0), .ref (fw 13 0), .ref (fw 14 0), .ref (fw 15 0), .int (gI (f 18)), .int (gI (f 19)), .int (gI (f 20)), .int (gI (f 21)), .int (gI (f 22))])
  | 1 => .inl (G.2.2 0, 24, .inl (gF f))
  | 2 => .inl (G.2.2 0, 1200, .inl (gF f))
  | 3 => .inl (G.2.2 0, 1200, .inl (gF f))
  | 4 => .inl (G.2.2 0, 12, .inl (gF f))
  | 5 => .inl (G.2.2 0, 12, .inl (gF f))
  | 6 => .inl (G.2.2 0, 4, .inl (gF f))
  | 7 => .inl (G.2.2 0, 10, .inl (gF f))
  | 8 => .inl (G.2.2 0, 10, .inl (gF f))
  | 9 => .inl (G.2.2 0, 10, .inl (gF f))
  | 10 => .inl (G.2.2 0, 10, .inl (gF f))
  | 11 => .inl (G.2.2 1, 4, .inl (gF f))
  | 12 => .inl (G.2.2 0, 16, .inl (gF f))
  | 13 => .inl (G.2.2 0, 12, .inl (gF f))
  | 14 => .inl (G.2.2 0, 12, .inl (gF f))
  | _ => .inl (G.2.2 0, 12, .inl (gF f))
def invY (s : sG) : Prop :=
  (bt 1 (s 0 0 0) 4000 ∧ bt 0 (s 0 0 1) 1 ∧ bt 0 (s 0 0 8) 10 ∧ rng (s 0 0 18) ∧ rng (s 0 0 19) ∧ rng (s 0 0 20) ∧ rng (s 0 0 21) ∧ rng (s 0 0 22)) ∧
  (∀ r : Nat, r < 24 → bt 0 (s 1 0 r) 50 ∧ ∀ j : Nat, (j : Int) < s 1 0 r → bt 0 (s 2 0 (50 * r + j)) 3999 ∧ bt 0 (s 3 0 (50 * r + j)) 256) ∧
  (∀ j : Nat, j < 12 → bt 0 (s 4 0 j) 11 ∧ bt 0 (s 5 0 j) 3) ∧
  (∀ j : Nat, j < 4 → bt (-50) (s 6 0 j) 50) ∧
  (∀ i : Nat, (i : Int) < s 0 0 8 → bt 0 (s 7 0 i) 11 ∧ bt 0 (s 8 0 i) 4000 ∧ bt 0 (s 9 0 i) 4000 ∧ bt (-1) (s 10 0 i) 11) ∧
  (∀ i : Nat, i < 4 → bt 0 (s 11 0 i) 1) ∧
  (∀ i : Nat, i < 16 → bt 0 (s 12 0 i) 11) ∧
  (∀ i : Nat, i < 12 → bt 0 (s 13 0 i) 6 ∧ rng (s 14 0 i) ∧ rng (s 15 0 i) ∧ (0 < s 13 0 i → bt 0 (s 14 0 i) 11) ∧ (1 < s 13 0 i → bt 0 (s 15 0 i) 11))
def wY (G : gG) (fw : Nat → Nat → Nat) (s : sG) (M : wM) : Prop := wJ cntY fw ∧ wH cntY (cellY G fw) fw s M ∧ invY s
theorem wY.c {G : gG} {fw : Nat → Nat → Nat} {s : sG} {M : wM} (h : wY G fw s M) (k i : Nat) (hi : i < cntY k) : M (fw k i) = some (cellY G fw k i (s k i)) := h.2.1 k i hi
/-- the reference's own scratch: the fields behind the seventeenth of the object -/
def keepY (s s' : sG) : Prop := ∀ k i j, ¬ (k = 0 ∧ 18 ≤ j) → s' k i j = s k i j
theorem keepY.rf {s : sG} : keepY s s := fun _ _ _ _ => rfl
theorem keepY.tr {s s1 s2 : sG} (h : keepY s s1) (h2 : keepY s1 s2) : keepY s s2 := fun k i j q => (h2 k i j q).trans (h k i j q)
section W16
variable {G : gG} {q : mD} {mc ms sz kc ks pc : Nat} {M0 M : wM} {lv : List (Nat × Value)} {st : List Value} {Post : Option Value → wM → Prop}
theorem v_aald2 {a n t0 : Nat} {Cn : String} {f : Nat → Nat} {i : Int} (hd : decode q.2.1 pc = .ok (.aaload, 1)) (hM : M a = some (.inl (G.2.2 t0, n, .inr (.inr (.inr (.inr (fun j => if j < n then some (f j) else none))))))) (ht : t0 = 2 ∧ Cn = "WavePairs$Row" ∨ t0 = 3 ∧ Cn = "WavePairs$Mask" ∨ t0 = 4 ∧ Cn = "WavePairs$Channel" ∨ t0 = 5 ∧ Cn = "WavePairs$Gate" ∨ t0 = 6 ∧ Cn = "WavePairs$Pair") (h0 : 0 ≤ i) (h1 : i < n) (hb : n ≤ 2147483647)
    (kk : wV G q mc ms sz M0 kc ks (pc + 1) lv (.ref (f i.toNat) :: st) M Post) : wV G q mc ms sz M0 kc ks pc lv (.int (gI i) :: .ref a :: st) M Post := by
  intro p e s m args below meth c H locs ls C hsz hW hm hS hl
  obtain ⟨ws, hP, hD, hR⟩ := id hW
  obtain ⟨q0, he⟩ := List.getElem?_of_mem ((hR _ _).mp hM)
  refine va_aldq (C := Cn) C.1 C.2.1 C.2.2.2.2.2.2.1.1 hP q0 t0 he ?_ (gI_in h0 h1 hb) hd ?_
  · rcases ht with ⟨rfl, rfl⟩ | ⟨rfl, rfl⟩ | ⟨rfl, rfl⟩ | ⟨rfl, rfl⟩ | ⟨rfl, rfl⟩ <;> rfl
  · rw [gI_clamp h0 (by omega), if_pos (by omega)]
    exact kk p e s m args below meth c H locs ls C hsz hW hm hS hl
end W16
