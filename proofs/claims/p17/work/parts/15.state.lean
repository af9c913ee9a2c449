section WST
variable {G : gG} {q q2 : mD} {mc ms sz kc ks pc mc2 ms2 : Nat} {M0 M : wM} {lv : List (Nat × Value)} {st rest : List Value} {Post Post2 : Option Value → wM → Prop}
theorem wup_eq (M : wM) (a : Nat) (e : va_E) : wup M a e a = some e := by unfold wup; rw [if_pos rfl]
theorem wup_ne (M : wM) {a b : Nat} (e : va_E) (h : b ≠ a) : wup M a e b = M b := by unfold wup; rw [if_neg h]
/-- another cell stays: by its content it isn't the one that is written -/
theorem wup_o (M : wM) {a b : Nat} {e0 e1 x : va_E} (ha : M a = some e0) (hb : M b = some x) (hne : x ≠ e0) : wup M a e1 b = some x := by
  rw [wup_ne M e1 (fun h => hne (by rw [h, ha] at hb; exact (Option.some.inj hb).symm))]
  exact hb
theorem kP {f : Int → Prop} (k : ∀ r, rng r → f r → wV G q mc ms sz M0 (kc + mc2) (ks + ms2) (pc + 3) lv (.int (gI r) :: rest) M Post) : ∀ v M', iP (fun r M' => M' = M ∧ f r) v M' → wV G q mc ms sz M0 (kc + mc2) (ks + ms2) (pc + 3) lv (v.toList ++ rest) M' Post := by
  rintro v M' ⟨r, rfl, hr, rfl, h⟩
  exact k r hr h
theorem kRp {f : Nat → Prop} (k : ∀ a, f a → wV G q mc ms sz M0 (kc + mc2) (ks + ms2) (pc + 3) lv (.ref a :: rest) M Post) : ∀ v M', rP (fun r M' => M' = M ∧ f r) v M' → wV G q mc ms sz M0 (kc + mc2) (ks + ms2) (pc + 3) lv (v.toList ++ rest) M' Post := by
  rintro v M' ⟨r, rfl, rfl, h⟩
  exact k r h
/-- numbers of a row: its length, ticks and values -/
def rowOK (n : Int) (T V : Nat → Int) : Prop := 0 ≤ n ∧ n ≤ 50 ∧ ∀ j : Nat, (j : Int) < n → 0 ≤ T j ∧ T j ≤ 4000 ∧ 0 ≤ V j ∧ V j ≤ 256
def rowAt (G : gG) (M : wM) (r tk vl : Nat) (n : Int) (T V : Nat → Int) : Prop :=
  M r = some (.inr (4, [.ref tk, .ref vl, .int (gI n)])) ∧ M tk = some (.inl (G.2.2 0, 50, .inl (gF T))) ∧ M vl = some (.inl (G.2.2 0, 50, .inl (gF V))) ∧ rowOK n T V
theorem rowAt.rg {r tk vl : Nat} {n : Int} {T V : Nat → Int} (h : rowAt G M r tk vl n T V) : 0 ≤ n ∧ n ≤ 50 := ⟨h.2.2.2.1, h.2.2.2.2.1⟩
theorem rowAt.ok {r tk vl : Nat} {n : Int} {T V : Nat → Int} (h : rowAt G M r tk vl n T V) {i : Int} (h0 : 0 ≤ i) (h1 : i < n) : 0 ≤ T i.toNat ∧ T i.toNat ≤ 4000 ∧ 0 ≤ V i.toNat ∧ V i.toNat ≤ 256 := h.2.2.2.2.2 i.toNat (by omega)
def tickF (n : Int) (T : Nat → Int) (i : Int) : Int := if i < 0 then -1 else if i < n then T i.toNat else 1000000
def valF (n : Int) (V : Nat → Int) (i : Int) : Int := if 0 ≤ i ∧ i < n then V i.toNat else 256
theorem tickF_rg {n : Int} {T V : Nat → Int} (h : rowOK n T V) (i : Int) : -1 ≤ tickF n T i ∧ tickF n T i ≤ 1000000 := by
  unfold tickF
  split
  · omega
  · split
    · have := h.2.2 i.toNat (by omega)
      omega
    · omega
theorem valF_rg {n : Int} {T V : Nat → Int} (h : rowOK n T V) (i : Int) : 0 ≤ valF n V i ∧ valF n V i ≤ 256 := by
  unfold valF
  split
  · have := h.2.2 i.toNat (by omega)
    omega
  · omega
/-- the index of the latest change not behind a tick, of rising ticks -/
def lateP (n : Int) (T : Nat → Int) (t r : Int) : Prop := -1 ≤ r ∧ r < n ∧ ((∀ i j : Nat, i < j → (j : Int) < n → T i < T j) → (∀ j : Nat, (j : Int) ≤ r → T j ≤ t) ∧ ∀ j : Nat, r < (j : Int) → (j : Int) < n → t < T j)
end WST
