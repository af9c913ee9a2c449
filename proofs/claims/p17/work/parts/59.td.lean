def nmY (s : sG) (a b : Int) : Nat := (if a = 0 then b else 12 + s 4 0 b.toNat).toNat
theorem nmY_lt {s : sG} (hI : invY s) {a b : Int} (ha : bt 0 a 1) (hb : bt 0 b 11) : nmY s a b < 24 := by
  have := hI.2.2.1 b.toNat (by omega)
  unfold nmY
  split <;> omega
def chN (s : sG) (c : Int) (k : Nat) : Int := s 12 0 ((4 * c).toNat + k)
def acY (s : sG) (c a : Int) : Int → Prop := acP (vY s (nmY s a (chN s c 0))) (vY s (nmY s a (chN s c 1))) (vY s (nmY s a (chN s c 2)))
def daY (s : sG) (c a : Int) (t : Int) : Int := vY s (nmY s a (chN s c 3)) (t - 1)
theorem act_1 {Q : Int → Prop} {t x e : Int} (ht : 0 ≤ t) (hte : t < e) (hx : t < x) (hQ : Q t) (h : ∀ v, t < v → v < x → ¬ Q v) : cA Q (min x e) = cA Q t + 1 := cA_hit ht (by omega) hQ (fun v v1 v2 => h v v1 (by omega))
theorem act_0 {Q : Int → Prop} {t x e : Int} (ht : 0 ≤ t) (hte : t < e) (hx : t < x) (hQ : ¬ Q t) (h : ∀ v, t < v → v < x → ¬ Q v) : cA Q (min x e) = cA Q t := cA_gap ht (by omega) (fun v v1 v2 => (show v = t ∨ t < v by omega).elim (fun c => by rw [c]; exact hQ) (fun c => h v c (by omega)))
def hitA (Q : Int → Prop) (dt : Int → Int) (e q : Int) (s : sG) : Prop := ∃ t, atA Q e q t ∧ s 0 0 21 = t ∧ s 0 0 22 = dt t
set_option maxHeartbeats 4000000 in
set_option maxRecDepth 100000 in
theorem fX7_called {G : gG} {fw : Nat → Nat → Nat} {s : sG} {M : wM} (hY : wY G fw s M) {a b : Int} (ha : bt 0 a 1) (hb : bt 0 b 11) : wT G qX7_called 0 0 [.ref (fw 0 0), .int (gI a), .int (gI b)] M (iP fun x M' => M' = M ∧ (bt 0 x 11 ∧ (12 * a + x).toNat = nmY s a b)) := by
  refine wT.intro (by decide) (Nat.le_of_ble_eq_true rfl) (fun sz => ?_)
  have h0 := hY.2.2.1
  have hrw := hY.2.2.2.1
  have hnm := hY.2.2.2.2.1
  have hsh := hY.2.2.2.2.2.1
  have hmk := hY.2.2.2.2.2.2.1
  have hic := hY.2.2.2.2.2.2.2.1
  have hcn := hY.2.2.2.2.2.2.2.2.1
  have hgt := hY.2.2.2.2.2.2.2.2.2
  have hnb := hnm b.toNat (by omega)
  refine v_iloadn dX7_called_0 rfl ?_
  refine v_if_ne 8 dX7_called_1 (by decide) (by omega) (fun h1 => ?_) (fun h1 => ?_)
  · refine v_aloadn dX7_called_8 rfl ?_
    refine v_get dX7_called_9 gf_X7_23 (hY.2.1 0 0 (by decide)) rfl ?_
    refine v_iloadn dX7_called_12 rfl ?_
    refine v_iald dX7_called_13 (hY.2.1 4 0 (by decide)) (by omega) (by omega) (by decide) ?_
    exact v_iret dX7_called_14 rfl ⟨(Nat.le_of_ble_eq_true rfl), (Nat.le_of_ble_eq_true rfl)⟩ (by omega) ⟨rfl, by omega, by unfold nmY; split <;> omega⟩
  · refine v_iloadn dX7_called_4 rfl ?_
    refine v_goto 14 dX7_called_5 (by decide) ?_
    exact v_iret dX7_called_14 rfl ⟨(Nat.le_of_ble_eq_true rfl), (Nat.le_of_ble_eq_true rfl)⟩ (by omega) ⟨rfl, by omega, by unfold nmY; split <;> omega⟩
set_option maxHeartbeats 4000000 in
set_option maxRecDepth 100000 in
theorem fX7_isEdge {G : gG} {fw : Nat → Nat → Nat} {s : sG} {M : wM} (hsY : srY s) (hY : wY G fw s M) {a b t : Int} (ha : bt 0 a 1) (hb : bt 0 b 11) (ht : bt (-100) t 200000) : wT G qX7_isEdge 0 0 [.ref (fw 0 0), .int (gI a), .int (gI b), .int (gI t)] M (iP fun x M' => M' = M ∧ ((x = 1 ∧ edP (vY s (12 * a + b).toNat) t) ∨ (x = 0 ∧ ¬ edP (vY s (12 * a + b).toNat) t))) := by
  refine wT.intro (by decide) (Nat.le_of_ble_eq_true rfl) (fun sz => ?_)
  have h0 := hY.2.2.1
  have hrw := hY.2.2.2.1
  have hnm := hY.2.2.2.2.1
  have hsh := hY.2.2.2.2.2.1
  have hmk := hY.2.2.2.2.2.2.1
  have hic := hY.2.2.2.2.2.2.2.1
  have hcn := hY.2.2.2.2.2.2.2.2.1
  have hgt := hY.2.2.2.2.2.2.2.2.2
  refine v_iloadn dX7_isEdge_0 rfl ?_
  refine v_if_le 32 dX7_isEdge_1 (by decide) (by omega) (fun h1 => ?_) (fun h1 => ?_)
  · refine v_iconst dX7_isEdge_32 ?_
    exact v_zret dX7_isEdge_33 rfl ⟨(Nat.le_of_ble_eq_true rfl), (Nat.le_of_ble_eq_true rfl)⟩ (by omega) ⟨rfl, by first | exact Or.inl ⟨rfl, by omega, by omega, by omega⟩ | exact Or.inr ⟨rfl, fun z => by first | exact absurd z.1 (by omega) | exact absurd z.2.1 (by omega) | exact absurd z.2.2 (by omega)⟩⟩
  · refine v_aloadn dX7_isEdge_4 rfl ?_
    refine v_iloadn dX7_isEdge_5 rfl ?_
    refine v_iloadn dX7_isEdge_6 rfl ?_
    refine v_iloadn dX7_isEdge_7 rfl ?_
    refine v_callV (tX7_at hY (by omega) (by omega) (by omega)) lc_X7_83 ⟨(Nat.le_of_ble_eq_true rfl), (Nat.le_of_ble_eq_true rfl)⟩ dX7_isEdge_8 rfl rfl (Nat.le_of_ble_eq_true rfl) ⟨(Nat.le_of_ble_eq_true rfl), (Nat.le_of_ble_eq_true rfl)⟩ ⟨_, _, _, _, hY.2.1 0 0 (by decide), rfl⟩ (kP fun r8 hr8 hp8 => ?_)
    have hv8 := vY_atP (by omega) (hsY _ (by omega)) hp8.2
    refine v_iconst dX7_isEdge_11 ?_
    refine v_icmp_ne 32 dX7_isEdge_12 (by decide) (by omega) (by omega) (fun h12 => ?_) (fun h12 => ?_)
    · refine v_iconst dX7_isEdge_32 ?_
      exact v_zret dX7_isEdge_33 rfl ⟨(Nat.le_of_ble_eq_true rfl), (Nat.le_of_ble_eq_true rfl)⟩ (by omega) ⟨rfl, by first | exact Or.inl ⟨rfl, by omega, by omega, by omega⟩ | exact Or.inr ⟨rfl, fun z => by first | exact absurd z.1 (by omega) | exact absurd z.2.1 (by omega) | exact absurd z.2.2 (by omega)⟩⟩
    · refine v_aloadn dX7_isEdge_15 rfl ?_
      refine v_iloadn dX7_isEdge_16 rfl ?_
      refine v_iloadn dX7_isEdge_17 rfl ?_
      refine v_iloadn dX7_isEdge_18 rfl ?_
      refine v_iconst dX7_isEdge_19 ?_
      refine v_isub dX7_isEdge_20 ?_
      refine v_callV (tX7_at hY (by omega) (by omega) (by omega)) lc_X7_83 ⟨(Nat.le_of_ble_eq_true rfl), (Nat.le_of_ble_eq_true rfl)⟩ dX7_isEdge_21 rfl rfl (Nat.le_of_ble_eq_true rfl) ⟨(Nat.le_of_ble_eq_true rfl), (Nat.le_of_ble_eq_true rfl)⟩ ⟨_, _, _, _, hY.2.1 0 0 (by decide), rfl⟩ (kP fun r21 hr21 hp21 => ?_)
      have hv21 := vY_atP (by omega) (hsY _ (by omega)) hp21.2
      refine v_iconst dX7_isEdge_24 ?_
      refine v_icmp_eq 32 dX7_isEdge_25 (by decide) (by omega) (by omega) (fun h25 => ?_) (fun h25 => ?_)
      · refine v_iconst dX7_isEdge_32 ?_
        exact v_zret dX7_isEdge_33 rfl ⟨(Nat.le_of_ble_eq_true rfl), (Nat.le_of_ble_eq_true rfl)⟩ (by omega) ⟨rfl, by first | exact Or.inl ⟨rfl, by omega, by omega, by omega⟩ | exact Or.inr ⟨rfl, fun z => by first | exact absurd z.1 (by omega) | exact absurd z.2.1 (by omega) | exact absurd z.2.2 (by omega)⟩⟩
      · refine v_iconst dX7_isEdge_28 ?_
        refine v_goto 33 dX7_isEdge_29 (by decide) ?_
        exact v_zret dX7_isEdge_33 rfl ⟨(Nat.le_of_ble_eq_true rfl), (Nat.le_of_ble_eq_true rfl)⟩ (by omega) ⟨rfl, by first | exact Or.inl ⟨rfl, by omega, by omega, by omega⟩ | exact Or.inr ⟨rfl, fun z => by first | exact absurd z.1 (by omega) | exact absurd z.2.1 (by omega) | exact absurd z.2.2 (by omega)⟩⟩
set_option maxHeartbeats 4000000 in
set_option maxRecDepth 100000 in
theorem fX7_acts_loop {sz : Nat} {M0 : wM} {G : gG} {fw : Nat → Nat → Nat} {si : sG} {Mi : wM} (hsY : srY si) (hIi : invY si) {c a q b : Int} (hc : bt 0 c 3) (ha : bt 0 a 1) (hq : rng q) (hb : bt 0 b 11) (hbd : (12 * a + b).toNat = nmY si a (chN si c 0)) : ∀ (k : Nat) (s : sG) (M : wM) (n t : Int), 0 ≤ 100000 - t → 100000 - t < (k : Int) → (wY G fw s M) → (wO cntY fw Mi M) → (keepY si s) → (bt 0 t 100000) → (n = cA (acY si c a) (min t (si 0 0 0))) → (q < n → 0 ≤ q → hitA (acY si c a) (daY si c a) (si 0 0 0) q s) → wV G qX7_acts 0 0 sz M0 0 0 28 [(0, .ref (fw 0 0)), (1, .int (gI c)), (2, .int (gI a)), (3, .int (gI q)), (4, .int (gI b)), (5, .int (gI n)), (6, .int (gI t))] [] M (PY G fw Mi (fun x s' => keepY si s' ∧ x = cA (acY si c a) (si 0 0 0) ∧ (q < x → 0 ≤ q → hitA (acY si c a) (daY si c a) (si 0 0 0) q s'))) := by
  intro k
  induction k with
  | zero =>
    intros
    omega
  | succ k ih =>
    intro s M n t hmz hml hY hO hK h1 h2 h5
    have h0 := hY.2.2.1
    have hrw := hY.2.2.2.1
    have hnm := hY.2.2.2.2.1
    have hsh := hY.2.2.2.2.2.1
    have hmk := hY.2.2.2.2.2.2.1
    have hic := hY.2.2.2.2.2.2.2.1
    have hcn := hY.2.2.2.2.2.2.2.2.1
    have hgt := hY.2.2.2.2.2.2.2.2.2
    have hsYs : srY s := srY_k hK hsY
    have p0 : s 0 0 0 = si 0 0 0 := hK 0 0 0 (by omega)
    obtain ⟨hJ, hH, hI⟩ := id hY
    have hcg := cA_rg (Q := (acY si c a)) (x := min t (si 0 0 0)) (by omega)
    rw [← h2] at hcg
    refine v_iload dX7_acts_28 rfl ?_
    refine v_aloadn dX7_acts_30 rfl ?_
    refine v_get dX7_acts_31 gf_X7_7 (hH 0 0 (by decide)) rfl ?_
    refine v_icmp_ge 186 dX7_acts_34 (by decide) (by omega) (by omega) (fun h34 => ?_) (fun h34 => ?_)
    · refine v_iload dX7_acts_186 rfl ?_
      exact v_iret dX7_acts_188 rfl ⟨(Nat.le_of_ble_eq_true rfl), (Nat.le_of_ble_eq_true rfl)⟩ (by omega) ⟨s, hY, hO, hK, by rw [h2, show min t (si 0 0 0) = (si 0 0 0) by omega], h5⟩
    · refine v_aloadn dX7_acts_37 rfl ?_
      refine v_iloadn dX7_acts_38 rfl ?_
      refine v_iload dX7_acts_39 rfl ?_
      refine v_iload dX7_acts_41 rfl ?_
      refine v_callV (fX7_isEdge hsYs hY (by omega) (by omega) (by omega)) lc_X7_135 ⟨(Nat.le_of_ble_eq_true rfl), (Nat.le_of_ble_eq_true rfl)⟩ dX7_acts_43 rfl rfl (Nat.le_of_ble_eq_true rfl) ⟨(Nat.le_of_ble_eq_true rfl), (Nat.le_of_ble_eq_true rfl)⟩ ⟨_, _, _, _, hH 0 0 (by decide), rfl⟩ (kP fun r43 hr43 hp43 => ?_)
      rw [hbd] at hp43
      have hed : (r43 = 1 ∧ edP (vY si (nmY si a (chN si c 0))) t) ∨ (r43 = 0 ∧ ¬ edP (vY si (nmY si a (chN si c 0))) t) := by rw [show vY s (nmY si a (chN si c 0)) = vY si (nmY si a (chN si c 0)) from funext (fun t => vY_k hK _ t)] at hp43; exact hp43
      have hb43 : r43 = 0 ∨ r43 = 1 := hed.elim (fun z => Or.inr z.1) (fun z => Or.inl z.1)
      clear hp43
      refine v_if_eq 109 dX7_acts_46 (by decide) (by omega) (fun h46 => ?_) (fun h46 => ?_)
      · refine v_iconst dX7_acts_109 ?_
        refine v_istore dX7_acts_110 (Nat.le_of_ble_eq_true rfl) ?_
        refine v_iload dX7_acts_112 rfl ?_
        refine v_if_eq 157 dX7_acts_114 (by decide) (by omega) (fun h114 => ?_) (fun h114 => ?_)
        · refine v_iload dX7_acts_157 rfl ?_
          refine v_iload dX7_acts_159 rfl ?_
          refine v_if_eq 168 dX7_acts_161 (by decide) (by omega) (fun h161 => ?_) (fun h161 => ?_)
          · refine v_iconst dX7_acts_168 ?_
            refine v_iadd dX7_acts_169 ?_
            refine v_istore dX7_acts_170 (Nat.le_of_ble_eq_true rfl) ?_
            refine v_aloadn dX7_acts_172 rfl ?_
            refine v_iloadn dX7_acts_173 rfl ?_
            refine v_iload dX7_acts_174 rfl ?_
            refine v_iload dX7_acts_176 rfl ?_
            refine v_callV (fX7_nextChange hsYs hY (by omega) (by omega) (by omega) (by omega)) lc_X7_103 ⟨(Nat.le_of_ble_eq_true rfl), (Nat.le_of_ble_eq_true rfl)⟩ dX7_acts_178 rfl rfl (Nat.le_of_ble_eq_true rfl) ⟨(Nat.le_of_ble_eq_true rfl), (Nat.le_of_ble_eq_true rfl)⟩ ⟨_, _, _, _, hH 0 0 (by decide), rfl⟩ (kP fun r178 hr178 hp178 => ?_)
            have hcs : ∀ v, t < v → v < r178 → ¬ (acY si c a) v := fun v v1 v2 z => by
              have w1 := hp178.2 v (by omega) v2
              have w2 := hp178.2 (v - 1) (by omega) (by omega)
              rw [vY_k hK, vY_k hK, hbd] at w1 w2
              exact ed_const (w1.trans w2.symm) z.1
            refine v_istore dX7_acts_181 (Nat.le_of_ble_eq_true rfl) ?_
            refine v_goto 28 dX7_acts_183 (by decide) ?_
            refine wV.locs (lv' := [(0, .ref (fw 0 0)), (1, .int (gI c)), (2, .int (gI a)), (3, .int (gI q)), (4, .int (gI b)), (5, .int (gI _)), (6, .int (gI _))]) ⟨rfl, rfl, rfl, rfl, rfl, rfl, rfl, trivial⟩ (ih _ _ _ _ (by omega) (by omega) hY hO hK (by omega) (by first | (exfalso; omega) | (rw [act_1 h1.1 (by omega) (by omega) (show (acY si c a) t from ⟨hed.elim (fun z => z.2) (fun z => absurd z.1 (by omega)), by omega, by omega⟩) hcs, h2, show min t (si 0 0 0) = t by omega]) | (rw [act_0 h1.1 (by omega) (by omega) (show ¬ (acY si c a) t from fun z => by first | exact hed.elim (fun y => absurd y.1 (by omega)) (fun y => y.2 z.1) | exact absurd z.2.1 (by omega) | exact absurd z.2.2 (by omega)) hcs, h2, show min t (si 0 0 0) = t by omega]; omega)) (fun q1 q2 => by first | (exfalso; omega) | exact h5 (by omega) q2 | exact ⟨t, ⟨by have z := (hed.elim (fun z => z.2) (fun z => absurd z.1 (by omega))).1; omega, (show (acY si c a) t from ⟨hed.elim (fun z => z.2) (fun z => absurd z.1 (by omega)), by omega, by omega⟩), by rw [show min t (si 0 0 0) = t by omega] at h2; omega⟩, by rw [hs154, ups_at, hs126, ups_at]; rfl, by rw [hs154, ups_at]; exact hv151⟩))
          · refine v_iconst dX7_acts_164 ?_
            refine v_goto 169 dX7_acts_165 (by decide) ?_
            refine v_iadd dX7_acts_169 ?_
            refine v_istore dX7_acts_170 (Nat.le_of_ble_eq_true rfl) ?_
            refine v_aloadn dX7_acts_172 rfl ?_
            refine v_iloadn dX7_acts_173 rfl ?_
            refine v_iload dX7_acts_174 rfl ?_
            refine v_iload dX7_acts_176 rfl ?_
            refine v_callV (fX7_nextChange hsYs hY (by omega) (by omega) (by omega) (by omega)) lc_X7_103 ⟨(Nat.le_of_ble_eq_true rfl), (Nat.le_of_ble_eq_true rfl)⟩ dX7_acts_178 rfl rfl (Nat.le_of_ble_eq_true rfl) ⟨(Nat.le_of_ble_eq_true rfl), (Nat.le_of_ble_eq_true rfl)⟩ ⟨_, _, _, _, hH 0 0 (by decide), rfl⟩ (kP fun r178 hr178 hp178 => ?_)
            have hcs : ∀ v, t < v → v < r178 → ¬ (acY si c a) v := fun v v1 v2 z => by
              have w1 := hp178.2 v (by omega) v2
              have w2 := hp178.2 (v - 1) (by omega) (by omega)
              rw [vY_k hK, vY_k hK, hbd] at w1 w2
              exact ed_const (w1.trans w2.symm) z.1
            refine v_istore dX7_acts_181 (Nat.le_of_ble_eq_true rfl) ?_
            refine v_goto 28 dX7_acts_183 (by decide) ?_
            refine wV.locs (lv' := [(0, .ref (fw 0 0)), (1, .int (gI c)), (2, .int (gI a)), (3, .int (gI q)), (4, .int (gI b)), (5, .int (gI _)), (6, .int (gI _))]) ⟨rfl, rfl, rfl, rfl, rfl, rfl, rfl, trivial⟩ (ih _ _ _ _ (by omega) (by omega) hY hO hK (by omega) (by first | (exfalso; omega) | (rw [act_1 h1.1 (by omega) (by omega) (show (acY si c a) t from ⟨hed.elim (fun z => z.2) (fun z => absurd z.1 (by omega)), by omega, by omega⟩) hcs, h2, show min t (si 0 0 0) = t by omega]) | (rw [act_0 h1.1 (by omega) (by omega) (show ¬ (acY si c a) t from fun z => by first | exact hed.elim (fun y => absurd y.1 (by omega)) (fun y => y.2 z.1) | exact absurd z.2.1 (by omega) | exact absurd z.2.2 (by omega)) hcs, h2, show min t (si 0 0 0) = t by omega]; omega)) (fun q1 q2 => by first | (exfalso; omega) | exact h5 (by omega) q2 | exact ⟨t, ⟨by have z := (hed.elim (fun z => z.2) (fun z => absurd z.1 (by omega))).1; omega, (show (acY si c a) t from ⟨hed.elim (fun z => z.2) (fun z => absurd z.1 (by omega)), by omega, by omega⟩), by rw [show min t (si 0 0 0) = t by omega] at h2; omega⟩, by rw [hs154, ups_at, hs126, ups_at]; rfl, by rw [hs154, ups_at]; exact hv151⟩))
        · refine v_iload dX7_acts_117 rfl ?_
          refine v_iloadn dX7_acts_119 rfl ?_
          refine v_icmp_ne 157 dX7_acts_120 (by decide) (by omega) (by omega) (fun h120 => ?_) (fun h120 => ?_)
          · refine v_iload dX7_acts_157 rfl ?_
            refine v_iload dX7_acts_159 rfl ?_
            refine v_if_eq 168 dX7_acts_161 (by decide) (by omega) (fun h161 => ?_) (fun h161 => ?_)
            · refine v_iconst dX7_acts_168 ?_
              refine v_iadd dX7_acts_169 ?_
              refine v_istore dX7_acts_170 (Nat.le_of_ble_eq_true rfl) ?_
              refine v_aloadn dX7_acts_172 rfl ?_
              refine v_iloadn dX7_acts_173 rfl ?_
              refine v_iload dX7_acts_174 rfl ?_
              refine v_iload dX7_acts_176 rfl ?_
              refine v_callV (fX7_nextChange hsYs hY (by omega) (by omega) (by omega) (by omega)) lc_X7_103 ⟨(Nat.le_of_ble_eq_true rfl), (Nat.le_of_ble_eq_true rfl)⟩ dX7_acts_178 rfl rfl (Nat.le_of_ble_eq_true rfl) ⟨(Nat.le_of_ble_eq_true rfl), (Nat.le_of_ble_eq_true rfl)⟩ ⟨_, _, _, _, hH 0 0 (by decide), rfl⟩ (kP fun r178 hr178 hp178 => ?_)
              have hcs : ∀ v, t < v → v < r178 → ¬ (acY si c a) v := fun v v1 v2 z => by
                have w1 := hp178.2 v (by omega) v2
                have w2 := hp178.2 (v - 1) (by omega) (by omega)
                rw [vY_k hK, vY_k hK, hbd] at w1 w2
                exact ed_const (w1.trans w2.symm) z.1
              refine v_istore dX7_acts_181 (Nat.le_of_ble_eq_true rfl) ?_
              refine v_goto 28 dX7_acts_183 (by decide) ?_
              refine wV.locs (lv' := [(0, .ref (fw 0 0)), (1, .int (gI c)), (2, .int (gI a)), (3, .int (gI q)), (4, .int (gI b)), (5, .int (gI _)), (6, .int (gI _))]) ⟨rfl, rfl, rfl, rfl, rfl, rfl, rfl, trivial⟩ (ih _ _ _ _ (by omega) (by omega) hY hO hK (by omega) (by first | (exfalso; omega) | (rw [act_1 h1.1 (by omega) (by omega) (show (acY si c a) t from ⟨hed.elim (fun z => z.2) (fun z => absurd z.1 (by omega)), by omega, by omega⟩) hcs, h2, show min t (si 0 0 0) = t by omega]) | (rw [act_0 h1.1 (by omega) (by omega) (show ¬ (acY si c a) t from fun z => by first | exact hed.elim (fun y => absurd y.1 (by omega)) (fun y => y.2 z.1) | exact absurd z.2.1 (by omega) | exact absurd z.2.2 (by omega)) hcs, h2, show min t (si 0 0 0) = t by omega]; omega)) (fun q1 q2 => by first | (exfalso; omega) | exact h5 (by omega) q2 | exact ⟨t, ⟨by have z := (hed.elim (fun z => z.2) (fun z => absurd z.1 (by omega))).1; omega, (show (acY si c a) t from ⟨hed.elim (fun z => z.2) (fun z => absurd z.1 (by omega)), by omega, by omega⟩), by rw [show min t (si 0 0 0) = t by omega] at h2; omega⟩, by rw [hs154, ups_at, hs126, ups_at]; rfl, by rw [hs154, ups_at]; exact hv151⟩))
            · refine v_iconst dX7_acts_164 ?_
              refine v_goto 169 dX7_acts_165 (by decide) ?_
              refine v_iadd dX7_acts_169 ?_
              refine v_istore dX7_acts_170 (Nat.le_of_ble_eq_true rfl) ?_
              refine v_aloadn dX7_acts_172 rfl ?_
              refine v_iloadn dX7_acts_173 rfl ?_
              refine v_iload dX7_acts_174 rfl ?_
              refine v_iload dX7_acts_176 rfl ?_
              refine v_callV (fX7_nextChange hsYs hY (by omega) (by omega) (by omega) (by omega)) lc_X7_103 ⟨(Nat.le_of_ble_eq_true rfl), (Nat.le_of_ble_eq_true rfl)⟩ dX7_acts_178 rfl rfl (Nat.le_of_ble_eq_true rfl) ⟨(Nat.le_of_ble_eq_true rfl), (Nat.le_of_ble_eq_true rfl)⟩ ⟨_, _, _, _, hH 0 0 (by decide), rfl⟩ (kP fun r178 hr178 hp178 => ?_)
              have hcs : ∀ v, t < v → v < r178 → ¬ (acY si c a) v := fun v v1 v2 z => by
                have w1 := hp178.2 v (by omega) v2
                have w2 := hp178.2 (v - 1) (by omega) (by omega)
                rw [vY_k hK, vY_k hK, hbd] at w1 w2
                exact ed_const (w1.trans w2.symm) z.1
              refine v_istore dX7_acts_181 (Nat.le_of_ble_eq_true rfl) ?_
              refine v_goto 28 dX7_acts_183 (by decide) ?_
              refine wV.locs (lv' := [(0, .ref (fw 0 0)), (1, .int (gI c)), (2, .int (gI a)), (3, .int (gI q)), (4, .int (gI b)), (5, .int (gI _)), (6, .int (gI _))]) ⟨rfl, rfl, rfl, rfl, rfl, rfl, rfl, trivial⟩ (ih _ _ _ _ (by omega) (by omega) hY hO hK (by omega) (by first | (exfalso; omega) | (rw [act_1 h1.1 (by omega) (by omega) (show (acY si c a) t from ⟨hed.elim (fun z => z.2) (fun z => absurd z.1 (by omega)), by omega, by omega⟩) hcs, h2, show min t (si 0 0 0) = t by omega]) | (rw [act_0 h1.1 (by omega) (by omega) (show ¬ (acY si c a) t from fun z => by first | exact hed.elim (fun y => absurd y.1 (by omega)) (fun y => y.2 z.1) | exact absurd z.2.1 (by omega) | exact absurd z.2.2 (by omega)) hcs, h2, show min t (si 0 0 0) = t by omega]; omega)) (fun q1 q2 => by first | (exfalso; omega) | exact h5 (by omega) q2 | exact ⟨t, ⟨by have z := (hed.elim (fun z => z.2) (fun z => absurd z.1 (by omega))).1; omega, (show (acY si c a) t from ⟨hed.elim (fun z => z.2) (fun z => absurd z.1 (by omega)), by omega, by omega⟩), by rw [show min t (si 0 0 0) = t by omega] at h2; omega⟩, by rw [hs154, ups_at, hs126, ups_at]; rfl, by rw [hs154, ups_at]; exact hv151⟩))
          · refine v_aloadn dX7_acts_123 rfl ?_
            refine v_iload dX7_acts_124 rfl ?_
            refine v_put dX7_acts_126 pf_X7_138 (hH 0 0 (by decide)) rfl rfl (Nat.le_of_ble_eq_true rfl) ?_
            generalize hMe126 : wup _ _ _ = M126
            have hO : wO cntY fw Mi M126 := by rw [← hMe126]; exact hO.up (k := 0) (i := 0) (by decide)
            obtain ⟨s126, hs126⟩ : ∃ z, z = ups s 0 0 (21) (t) := ⟨_, rfl⟩
            have hH : wH cntY (cellY G fw) fw s126 M126 := by rw [← hMe126, hs126]; exact wH.up hJ hH (k := 0) (i := 0) (21) (t) (by decide) rfl
            have hI : invY s126 := by rw [hs126]; exact invY_scr hI (by simp) (by omega)
            have hK : keepY si s126 := hK.tr (by rw [hs126]; exact keepY_up (by decide))
            have hY : wY G fw s126 M126 := ⟨hJ, hH, hI⟩
            have hsYs : srY s126 := srY_k hK hsY
            have h0 := hY.2.2.1
            have hrw := hY.2.2.2.1
            have hnm := hY.2.2.2.2.1
            have hsh := hY.2.2.2.2.2.1
            have hmk := hY.2.2.2.2.2.2.1
            have hic := hY.2.2.2.2.2.2.2.1
            have hcn := hY.2.2.2.2.2.2.2.2.1
            have hgt := hY.2.2.2.2.2.2.2.2.2
            refine v_aloadn dX7_acts_129 rfl ?_
            refine v_aloadn dX7_acts_130 rfl ?_
            refine v_iloadn dX7_acts_131 rfl ?_
            refine v_aloadn dX7_acts_132 rfl ?_
            refine v_iloadn dX7_acts_133 rfl ?_
            refine v_aloadn dX7_acts_134 rfl ?_
            refine v_get dX7_acts_135 gf_X7_48 (hH 0 0 (by decide)) rfl ?_
            refine v_iconst dX7_acts_138 ?_
            refine v_iloadn dX7_acts_139 rfl ?_
            refine v_imul dX7_acts_140 ?_
            refine v_iconst dX7_acts_141 ?_
            refine v_iadd dX7_acts_142 ?_
            refine v_iald dX7_acts_143 (hH 12 0 (by decide)) (by omega) (by omega) (by decide) ?_
            have hcc := hcn (4 * c + 3).toNat (by omega)
            have ech3 : s126 12 0 (4 * c + 3).toNat = chN si c 3 := by unfold chN; first | rfl | (rw [← hK.k (show (12 : Nat) ≠ 0 by decide)]; congr 1 <;> omega)
            refine v_callV (fX7_called hY (by omega) (by omega)) lc_X7_132 ⟨(Nat.le_of_ble_eq_true rfl), (Nat.le_of_ble_eq_true rfl)⟩ dX7_acts_144 rfl rfl (Nat.le_of_ble_eq_true rfl) ⟨(Nat.le_of_ble_eq_true rfl), (Nat.le_of_ble_eq_true rfl)⟩ ⟨_, _, _, _, hH 0 0 (by decide), rfl⟩ (kP fun r144 hr144 hp144 => ?_)
            have hp144 : bt 0 r144 11 ∧ (12 * a + r144).toNat = nmY si a (chN si c 3) := ⟨hp144.1, by have z := hp144.2; rw [ech3] at z; first | exact z | (unfold nmY at z ⊢; rw [hK.k (show (4 : Nat) ≠ 0 by decide)] at z; exact z)⟩
            refine v_iload dX7_acts_147 rfl ?_
            refine v_iconst dX7_acts_149 ?_
            refine v_isub dX7_acts_150 ?_
            refine v_callV (tX7_at hY (by omega) (by omega) (by omega)) lc_X7_83 ⟨(Nat.le_of_ble_eq_true rfl), (Nat.le_of_ble_eq_true rfl)⟩ dX7_acts_151 rfl rfl (Nat.le_of_ble_eq_true rfl) ⟨(Nat.le_of_ble_eq_true rfl), (Nat.le_of_ble_eq_true rfl)⟩ ⟨_, _, _, _, hH 0 0 (by decide), rfl⟩ (kP fun r151 hr151 hp151 => ?_)
            have hv151 := vY_atP (by omega) (hsYs _ (by omega)) hp151.2
            rw [vY_k hK, hp144.2] at hv151
            refine v_put dX7_acts_154 pf_X7_141 (hH 0 0 (by decide)) rfl rfl (Nat.le_of_ble_eq_true rfl) ?_
            generalize hMe154 : wup _ _ _ = M154
            have hO : wO cntY fw Mi M154 := by rw [← hMe154]; exact hO.up (k := 0) (i := 0) (by decide)
            obtain ⟨s154, hs154⟩ : ∃ z, z = ups s126 0 0 (22) (r151) := ⟨_, rfl⟩
            have hH : wH cntY (cellY G fw) fw s154 M154 := by rw [← hMe154, hs154]; exact wH.up hJ hH (k := 0) (i := 0) (22) (r151) (by decide) rfl
            have hI : invY s154 := by rw [hs154]; exact invY_scr hI (by simp) (by omega)
            have hK : keepY si s154 := hK.tr (by rw [hs154]; exact keepY_up (by decide))
            have hY : wY G fw s154 M154 := ⟨hJ, hH, hI⟩
            have hsYs : srY s154 := srY_k hK hsY
            have h0 := hY.2.2.1
            have hrw := hY.2.2.2.1
            have hnm := hY.2.2.2.2.1
            have hsh := hY.2.2.2.2.2.1
            have hmk := hY.2.2.2.2.2.2.1
            have hic := hY.2.2.2.2.2.2.2.1
            have hcn := hY.2.2.2.2.2.2.2.2.1
            have hgt := hY.2.2.2.2.2.2.2.2.2
            refine v_iload dX7_acts_157 rfl ?_
            refine v_iload dX7_acts_159 rfl ?_
            refine v_if_eq 168 dX7_acts_161 (by decide) (by omega) (fun h161 => ?_) (fun h161 => ?_)
            · refine v_iconst dX7_acts_168 ?_
              refine v_iadd dX7_acts_169 ?_
              refine v_istore dX7_acts_170 (Nat.le_of_ble_eq_true rfl) ?_
              refine v_aloadn dX7_acts_172 rfl ?_
              refine v_iloadn dX7_acts_173 rfl ?_
              refine v_iload dX7_acts_174 rfl ?_
              refine v_iload dX7_acts_176 rfl ?_
              refine v_callV (fX7_nextChange hsYs hY (by omega) (by omega) (by omega) (by omega)) lc_X7_103 ⟨(Nat.le_of_ble_eq_true rfl), (Nat.le_of_ble_eq_true rfl)⟩ dX7_acts_178 rfl rfl (Nat.le_of_ble_eq_true rfl) ⟨(Nat.le_of_ble_eq_true rfl), (Nat.le_of_ble_eq_true rfl)⟩ ⟨_, _, _, _, hH 0 0 (by decide), rfl⟩ (kP fun r178 hr178 hp178 => ?_)
              have hcs : ∀ v, t < v → v < r178 → ¬ (acY si c a) v := fun v v1 v2 z => by
                have w1 := hp178.2 v (by omega) v2
                have w2 := hp178.2 (v - 1) (by omega) (by omega)
                rw [vY_k hK, vY_k hK, hbd] at w1 w2
                exact ed_const (w1.trans w2.symm) z.1
              refine v_istore dX7_acts_181 (Nat.le_of_ble_eq_true rfl) ?_
              refine v_goto 28 dX7_acts_183 (by decide) ?_
              refine wV.locs (lv' := [(0, .ref (fw 0 0)), (1, .int (gI c)), (2, .int (gI a)), (3, .int (gI q)), (4, .int (gI b)), (5, .int (gI _)), (6, .int (gI _))]) ⟨rfl, rfl, rfl, rfl, rfl, rfl, rfl, trivial⟩ (ih _ _ _ _ (by omega) (by omega) hY hO hK (by omega) (by first | (exfalso; omega) | (rw [act_1 h1.1 (by omega) (by omega) (show (acY si c a) t from ⟨hed.elim (fun z => z.2) (fun z => absurd z.1 (by omega)), by omega, by omega⟩) hcs, h2, show min t (si 0 0 0) = t by omega]) | (rw [act_0 h1.1 (by omega) (by omega) (show ¬ (acY si c a) t from fun z => by first | exact hed.elim (fun y => absurd y.1 (by omega)) (fun y => y.2 z.1) | exact absurd z.2.1 (by omega) | exact absurd z.2.2 (by omega)) hcs, h2, show min t (si 0 0 0) = t by omega]; omega)) (fun q1 q2 => by first | (exfalso; omega) | exact h5 (by omega) q2 | exact ⟨t, ⟨by have z := (hed.elim (fun z => z.2) (fun z => absurd z.1 (by omega))).1; omega, (show (acY si c a) t from ⟨hed.elim (fun z => z.2) (fun z => absurd z.1 (by omega)), by omega, by omega⟩), by rw [show min t (si 0 0 0) = t by omega] at h2; omega⟩, by rw [hs154, ups_at, hs126, ups_at]; rfl, by rw [hs154, ups_at]; exact hv151⟩))
            · refine v_iconst dX7_acts_164 ?_
              refine v_goto 169 dX7_acts_165 (by decide) ?_
              refine v_iadd dX7_acts_169 ?_
              refine v_istore dX7_acts_170 (Nat.le_of_ble_eq_true rfl) ?_
              refine v_aloadn dX7_acts_172 rfl ?_
              refine v_iloadn dX7_acts_173 rfl ?_
              refine v_iload dX7_acts_174 rfl ?_
              refine v_iload dX7_acts_176 rfl ?_
              refine v_callV (fX7_nextChange hsYs hY (by omega) (by omega) (by omega) (by omega)) lc_X7_103 ⟨(Nat.le_of_ble_eq_true rfl), (Nat.le_of_ble_eq_true rfl)⟩ dX7_acts_178 rfl rfl (Nat.le_of_ble_eq_true rfl) ⟨(Nat.le_of_ble_eq_true rfl), (Nat.le_of_ble_eq_true rfl)⟩ ⟨_, _, _, _, hH 0 0 (by decide), rfl⟩ (kP fun r178 hr178 hp178 => ?_)
              have hcs : ∀ v, t < v → v < r178 → ¬ (acY si c a) v := fun v v1 v2 z => by
                have w1 := hp178.2 v (by omega) v2
                have w2 := hp178.2 (v - 1) (by omega) (by omega)
                rw [vY_k hK, vY_k hK, hbd] at w1 w2
                exact ed_const (w1.trans w2.symm) z.1
              refine v_istore dX7_acts_181 (Nat.le_of_ble_eq_true rfl) ?_
              refine v_goto 28 dX7_acts_183 (by decide) ?_
              refine wV.locs (lv' := [(0, .ref (fw 0 0)), (1, .int (gI c)), (2, .int (gI a)), (3, .int (gI q)), (4, .int (gI b)), (5, .int (gI _)), (6, .int (gI _))]) ⟨rfl, rfl, rfl, rfl, rfl, rfl, rfl, trivial⟩ (ih _ _ _ _ (by omega) (by omega) hY hO hK (by omega) (by first | (exfalso; omega) | (rw [act_1 h1.1 (by omega) (by omega) (show (acY si c a) t from ⟨hed.elim (fun z => z.2) (fun z => absurd z.1 (by omega)), by omega, by omega⟩) hcs, h2, show min t (si 0 0 0) = t by omega]) | (rw [act_0 h1.1 (by omega) (by omega) (show ¬ (acY si c a) t from fun z => by first | exact hed.elim (fun y => absurd y.1 (by omega)) (fun y => y.2 z.1) | exact absurd z.2.1 (by omega) | exact absurd z.2.2 (by omega)) hcs, h2, show min t (si 0 0 0) = t by omega]; omega)) (fun q1 q2 => by first | (exfalso; omega) | exact h5 (by omega) q2 | exact ⟨t, ⟨by have z := (hed.elim (fun z => z.2) (fun z => absurd z.1 (by omega))).1; omega, (show (acY si c a) t from ⟨hed.elim (fun z => z.2) (fun z => absurd z.1 (by omega)), by omega, by omega⟩), by rw [show min t (si 0 0 0) = t by omega] at h2; omega⟩, by rw [hs154, ups_at, hs126, ups_at]; rfl, by rw [hs154, ups_at]; exact hv151⟩))
      · refine v_aloadn dX7_acts_49 rfl ?_
        refine v_iloadn dX7_acts_50 rfl ?_
        refine v_aloadn dX7_acts_51 rfl ?_
        refine v_iloadn dX7_acts_52 rfl ?_
        refine v_aloadn dX7_acts_53 rfl ?_
        refine v_get dX7_acts_54 gf_X7_48 (hH 0 0 (by decide)) rfl ?_
        refine v_iconst dX7_acts_57 ?_
        refine v_iloadn dX7_acts_58 rfl ?_
        refine v_imul dX7_acts_59 ?_
        refine v_iconst dX7_acts_60 ?_
        refine v_iadd dX7_acts_61 ?_
        refine v_iald dX7_acts_62 (hH 12 0 (by decide)) (by omega) (by omega) (by decide) ?_
        have hcc := hcn (4 * c + 1).toNat (by omega)
        have ech1 : s 12 0 (4 * c + 1).toNat = chN si c 1 := by unfold chN; first | rfl | (rw [← hK.k (show (12 : Nat) ≠ 0 by decide)]; congr 1 <;> omega)
        refine v_callV (fX7_called hY (by omega) (by omega)) lc_X7_132 ⟨(Nat.le_of_ble_eq_true rfl), (Nat.le_of_ble_eq_true rfl)⟩ dX7_acts_63 rfl rfl (Nat.le_of_ble_eq_true rfl) ⟨(Nat.le_of_ble_eq_true rfl), (Nat.le_of_ble_eq_true rfl)⟩ ⟨_, _, _, _, hH 0 0 (by decide), rfl⟩ (kP fun r63 hr63 hp63 => ?_)
        have hp63 : bt 0 r63 11 ∧ (12 * a + r63).toNat = nmY si a (chN si c 1) := ⟨hp63.1, by have z := hp63.2; rw [ech1] at z; first | exact z | (unfold nmY at z ⊢; rw [hK.k (show (4 : Nat) ≠ 0 by decide)] at z; exact z)⟩
        refine v_iload dX7_acts_66 rfl ?_
        refine v_iconst dX7_acts_68 ?_
        refine v_isub dX7_acts_69 ?_
        refine v_callV (tX7_at hY (by omega) (by omega) (by omega)) lc_X7_83 ⟨(Nat.le_of_ble_eq_true rfl), (Nat.le_of_ble_eq_true rfl)⟩ dX7_acts_70 rfl rfl (Nat.le_of_ble_eq_true rfl) ⟨(Nat.le_of_ble_eq_true rfl), (Nat.le_of_ble_eq_true rfl)⟩ ⟨_, _, _, _, hH 0 0 (by decide), rfl⟩ (kP fun r70 hr70 hp70 => ?_)
        have hv70 := vY_atP (by omega) (hsYs _ (by omega)) hp70.2
        rw [vY_k hK, hp63.2] at hv70
        refine v_iconst dX7_acts_73 ?_
        refine v_icmp_ne 109 dX7_acts_74 (by decide) (by omega) (by omega) (fun h74 => ?_) (fun h74 => ?_)
        · refine v_iconst dX7_acts_109 ?_
          refine v_istore dX7_acts_110 (Nat.le_of_ble_eq_true rfl) ?_
          refine v_iload dX7_acts_112 rfl ?_
          refine v_if_eq 157 dX7_acts_114 (by decide) (by omega) (fun h114 => ?_) (fun h114 => ?_)
          · refine v_iload dX7_acts_157 rfl ?_
            refine v_iload dX7_acts_159 rfl ?_
            refine v_if_eq 168 dX7_acts_161 (by decide) (by omega) (fun h161 => ?_) (fun h161 => ?_)
            · refine v_iconst dX7_acts_168 ?_
              refine v_iadd dX7_acts_169 ?_
              refine v_istore dX7_acts_170 (Nat.le_of_ble_eq_true rfl) ?_
              refine v_aloadn dX7_acts_172 rfl ?_
              refine v_iloadn dX7_acts_173 rfl ?_
              refine v_iload dX7_acts_174 rfl ?_
              refine v_iload dX7_acts_176 rfl ?_
              refine v_callV (fX7_nextChange hsYs hY (by omega) (by omega) (by omega) (by omega)) lc_X7_103 ⟨(Nat.le_of_ble_eq_true rfl), (Nat.le_of_ble_eq_true rfl)⟩ dX7_acts_178 rfl rfl (Nat.le_of_ble_eq_true rfl) ⟨(Nat.le_of_ble_eq_true rfl), (Nat.le_of_ble_eq_true rfl)⟩ ⟨_, _, _, _, hH 0 0 (by decide), rfl⟩ (kP fun r178 hr178 hp178 => ?_)
              have hcs : ∀ v, t < v → v < r178 → ¬ (acY si c a) v := fun v v1 v2 z => by
                have w1 := hp178.2 v (by omega) v2
                have w2 := hp178.2 (v - 1) (by omega) (by omega)
                rw [vY_k hK, vY_k hK, hbd] at w1 w2
                exact ed_const (w1.trans w2.symm) z.1
              refine v_istore dX7_acts_181 (Nat.le_of_ble_eq_true rfl) ?_
              refine v_goto 28 dX7_acts_183 (by decide) ?_
              refine wV.locs (lv' := [(0, .ref (fw 0 0)), (1, .int (gI c)), (2, .int (gI a)), (3, .int (gI q)), (4, .int (gI b)), (5, .int (gI _)), (6, .int (gI _))]) ⟨rfl, rfl, rfl, rfl, rfl, rfl, rfl, trivial⟩ (ih _ _ _ _ (by omega) (by omega) hY hO hK (by omega) (by first | (exfalso; omega) | (rw [act_1 h1.1 (by omega) (by omega) (show (acY si c a) t from ⟨hed.elim (fun z => z.2) (fun z => absurd z.1 (by omega)), by omega, by omega⟩) hcs, h2, show min t (si 0 0 0) = t by omega]) | (rw [act_0 h1.1 (by omega) (by omega) (show ¬ (acY si c a) t from fun z => by first | exact hed.elim (fun y => absurd y.1 (by omega)) (fun y => y.2 z.1) | exact absurd z.2.1 (by omega) | exact absurd z.2.2 (by omega)) hcs, h2, show min t (si 0 0 0) = t by omega]; omega)) (fun q1 q2 => by first | (exfalso; omega) | exact h5 (by omega) q2 | exact ⟨t, ⟨by have z := (hed.elim (fun z => z.2) (fun z => absurd z.1 (by omega))).1; omega, (show (acY si c a) t from ⟨hed.elim (fun z => z.2) (fun z => absurd z.1 (by omega)), by omega, by omega⟩), by rw [show min t (si 0 0 0) = t by omega] at h2; omega⟩, by rw [hs154, ups_at, hs126, ups_at]; rfl, by rw [hs154, ups_at]; exact hv151⟩))
            · refine v_iconst dX7_acts_164 ?_
              refine v_goto 169 dX7_acts_165 (by decide) ?_
              refine v_iadd dX7_acts_169 ?_
              refine v_istore dX7_acts_170 (Nat.le_of_ble_eq_true rfl) ?_
              refine v_aloadn dX7_acts_172 rfl ?_
              refine v_iloadn dX7_acts_173 rfl ?_
              refine v_iload dX7_acts_174 rfl ?_
              refine v_iload dX7_acts_176 rfl ?_
              refine v_callV (fX7_nextChange hsYs hY (by omega) (by omega) (by omega) (by omega)) lc_X7_103 ⟨(Nat.le_of_ble_eq_true rfl), (Nat.le_of_ble_eq_true rfl)⟩ dX7_acts_178 rfl rfl (Nat.le_of_ble_eq_true rfl) ⟨(Nat.le_of_ble_eq_true rfl), (Nat.le_of_ble_eq_true rfl)⟩ ⟨_, _, _, _, hH 0 0 (by decide), rfl⟩ (kP fun r178 hr178 hp178 => ?_)
              have hcs : ∀ v, t < v → v < r178 → ¬ (acY si c a) v := fun v v1 v2 z => by
                have w1 := hp178.2 v (by omega) v2
                have w2 := hp178.2 (v - 1) (by omega) (by omega)
                rw [vY_k hK, vY_k hK, hbd] at w1 w2
                exact ed_const (w1.trans w2.symm) z.1
              refine v_istore dX7_acts_181 (Nat.le_of_ble_eq_true rfl) ?_
              refine v_goto 28 dX7_acts_183 (by decide) ?_
              refine wV.locs (lv' := [(0, .ref (fw 0 0)), (1, .int (gI c)), (2, .int (gI a)), (3, .int (gI q)), (4, .int (gI b)), (5, .int (gI _)), (6, .int (gI _))]) ⟨rfl, rfl, rfl, rfl, rfl, rfl, rfl, trivial⟩ (ih _ _ _ _ (by omega) (by omega) hY hO hK (by omega) (by first | (exfalso; omega) | (rw [act_1 h1.1 (by omega) (by omega) (show (acY si c a) t from ⟨hed.elim (fun z => z.2) (fun z => absurd z.1 (by omega)), by omega, by omega⟩) hcs, h2, show min t (si 0 0 0) = t by omega]) | (rw [act_0 h1.1 (by omega) (by omega) (show ¬ (acY si c a) t from fun z => by first | exact hed.elim (fun y => absurd y.1 (by omega)) (fun y => y.2 z.1) | exact absurd z.2.1 (by omega) | exact absurd z.2.2 (by omega)) hcs, h2, show min t (si 0 0 0) = t by omega]; omega)) (fun q1 q2 => by first | (exfalso; omega) | exact h5 (by omega) q2 | exact ⟨t, ⟨by have z := (hed.elim (fun z => z.2) (fun z => absurd z.1 (by omega))).1; omega, (show (acY si c a) t from ⟨hed.elim (fun z => z.2) (fun z => absurd z.1 (by omega)), by omega, by omega⟩), by rw [show min t (si 0 0 0) = t by omega] at h2; omega⟩, by rw [hs154, ups_at, hs126, ups_at]; rfl, by rw [hs154, ups_at]; exact hv151⟩))
          · refine v_iload dX7_acts_117 rfl ?_
            refine v_iloadn dX7_acts_119 rfl ?_
            refine v_icmp_ne 157 dX7_acts_120 (by decide) (by omega) (by omega) (fun h120 => ?_) (fun h120 => ?_)
            · refine v_iload dX7_acts_157 rfl ?_
              refine v_iload dX7_acts_159 rfl ?_
              refine v_if_eq 168 dX7_acts_161 (by decide) (by omega) (fun h161 => ?_) (fun h161 => ?_)
              · refine v_iconst dX7_acts_168 ?_
                refine v_iadd dX7_acts_169 ?_
                refine v_istore dX7_acts_170 (Nat.le_of_ble_eq_true rfl) ?_
                refine v_aloadn dX7_acts_172 rfl ?_
                refine v_iloadn dX7_acts_173 rfl ?_
                refine v_iload dX7_acts_174 rfl ?_
                refine v_iload dX7_acts_176 rfl ?_
                refine v_callV (fX7_nextChange hsYs hY (by omega) (by omega) (by omega) (by omega)) lc_X7_103 ⟨(Nat.le_of_ble_eq_true rfl), (Nat.le_of_ble_eq_true rfl)⟩ dX7_acts_178 rfl rfl (Nat.le_of_ble_eq_true rfl) ⟨(Nat.le_of_ble_eq_true rfl), (Nat.le_of_ble_eq_true rfl)⟩ ⟨_, _, _, _, hH 0 0 (by decide), rfl⟩ (kP fun r178 hr178 hp178 => ?_)
                have hcs : ∀ v, t < v → v < r178 → ¬ (acY si c a) v := fun v v1 v2 z => by
                  have w1 := hp178.2 v (by omega) v2
                  have w2 := hp178.2 (v - 1) (by omega) (by omega)
                  rw [vY_k hK, vY_k hK, hbd] at w1 w2
                  exact ed_const (w1.trans w2.symm) z.1
                refine v_istore dX7_acts_181 (Nat.le_of_ble_eq_true rfl) ?_
                refine v_goto 28 dX7_acts_183 (by decide) ?_
                refine wV.locs (lv' := [(0, .ref (fw 0 0)), (1, .int (gI c)), (2, .int (gI a)), (3, .int (gI q)), (4, .int (gI b)), (5, .int (gI _)), (6, .int (gI _))]) ⟨rfl, rfl, rfl, rfl, rfl, rfl, rfl, trivial⟩ (ih _ _ _ _ (by omega) (by omega) hY hO hK (by omega) (by first | (exfalso; omega) | (rw [act_1 h1.1 (by omega) (by omega) (show (acY si c a) t from ⟨hed.elim (fun z => z.2) (fun z => absurd z.1 (by omega)), by omega, by omega⟩) hcs, h2, show min t (si 0 0 0) = t by omega]) | (rw [act_0 h1.1 (by omega) (by omega) (show ¬ (acY si c a) t from fun z => by first | exact hed.elim (fun y => absurd y.1 (by omega)) (fun y => y.2 z.1) | exact absurd z.2.1 (by omega) | exact absurd z.2.2 (by omega)) hcs, h2, show min t (si 0 0 0) = t by omega]; omega)) (fun q1 q2 => by first | (exfalso; omega) | exact h5 (by omega) q2 | exact ⟨t, ⟨by have z := (hed.elim (fun z => z.2) (fun z => absurd z.1 (by omega))).1; omega, (show (acY si c a) t from ⟨hed.elim (fun z => z.2) (fun z => absurd z.1 (by omega)), by omega, by omega⟩), by rw [show min t (si 0 0 0) = t by omega] at h2; omega⟩, by rw [hs154, ups_at, hs126, ups_at]; rfl, by rw [hs154, ups_at]; exact hv151⟩))
              · refine v_iconst dX7_acts_164 ?_
                refine v_goto 169 dX7_acts_165 (by decide) ?_
                refine v_iadd dX7_acts_169 ?_
                refine v_istore dX7_acts_170 (Nat.le_of_ble_eq_true rfl) ?_
                refine v_aloadn dX7_acts_172 rfl ?_
                refine v_iloadn dX7_acts_173 rfl ?_
                refine v_iload dX7_acts_174 rfl ?_
                refine v_iload dX7_acts_176 rfl ?_
                refine v_callV (fX7_nextChange hsYs hY (by omega) (by omega) (by omega) (by omega)) lc_X7_103 ⟨(Nat.le_of_ble_eq_true rfl), (Nat.le_of_ble_eq_true rfl)⟩ dX7_acts_178 rfl rfl (Nat.le_of_ble_eq_true rfl) ⟨(Nat.le_of_ble_eq_true rfl), (Nat.le_of_ble_eq_true rfl)⟩ ⟨_, _, _, _, hH 0 0 (by decide), rfl⟩ (kP fun r178 hr178 hp178 => ?_)
                have hcs : ∀ v, t < v → v < r178 → ¬ (acY si c a) v := fun v v1 v2 z => by
                  have w1 := hp178.2 v (by omega) v2
                  have w2 := hp178.2 (v - 1) (by omega) (by omega)
                  rw [vY_k hK, vY_k hK, hbd] at w1 w2
                  exact ed_const (w1.trans w2.symm) z.1
                refine v_istore dX7_acts_181 (Nat.le_of_ble_eq_true rfl) ?_
                refine v_goto 28 dX7_acts_183 (by decide) ?_
                refine wV.locs (lv' := [(0, .ref (fw 0 0)), (1, .int (gI c)), (2, .int (gI a)), (3, .int (gI q)), (4, .int (gI b)), (5, .int (gI _)), (6, .int (gI _))]) ⟨rfl, rfl, rfl, rfl, rfl, rfl, rfl, trivial⟩ (ih _ _ _ _ (by omega) (by omega) hY hO hK (by omega) (by first | (exfalso; omega) | (rw [act_1 h1.1 (by omega) (by omega) (show (acY si c a) t from ⟨hed.elim (fun z => z.2) (fun z => absurd z.1 (by omega)), by omega, by omega⟩) hcs, h2, show min t (si 0 0 0) = t by omega]) | (rw [act_0 h1.1 (by omega) (by omega) (show ¬ (acY si c a) t from fun z => by first | exact hed.elim (fun y => absurd y.1 (by omega)) (fun y => y.2 z.1) | exact absurd z.2.1 (by omega) | exact absurd z.2.2 (by omega)) hcs, h2, show min t (si 0 0 0) = t by omega]; omega)) (fun q1 q2 => by first | (exfalso; omega) | exact h5 (by omega) q2 | exact ⟨t, ⟨by have z := (hed.elim (fun z => z.2) (fun z => absurd z.1 (by omega))).1; omega, (show (acY si c a) t from ⟨hed.elim (fun z => z.2) (fun z => absurd z.1 (by omega)), by omega, by omega⟩), by rw [show min t (si 0 0 0) = t by omega] at h2; omega⟩, by rw [hs154, ups_at, hs126, ups_at]; rfl, by rw [hs154, ups_at]; exact hv151⟩))
            · refine v_aloadn dX7_acts_123 rfl ?_
              refine v_iload dX7_acts_124 rfl ?_
              refine v_put dX7_acts_126 pf_X7_138 (hH 0 0 (by decide)) rfl rfl (Nat.le_of_ble_eq_true rfl) ?_
              generalize hMe126 : wup _ _ _ = M126
              have hO : wO cntY fw Mi M126 := by rw [← hMe126]; exact hO.up (k := 0) (i := 0) (by decide)
              obtain ⟨s126, hs126⟩ : ∃ z, z = ups s 0 0 (21) (t) := ⟨_, rfl⟩
              have hH : wH cntY (cellY G fw) fw s126 M126 := by rw [← hMe126, hs126]; exact wH.up hJ hH (k := 0) (i := 0) (21) (t) (by decide) rfl
              have hI : invY s126 := by rw [hs126]; exact invY_scr hI (by simp) (by omega)
              have hK : keepY si s126 := hK.tr (by rw [hs126]; exact keepY_up (by decide))
              have hY : wY G fw s126 M126 := ⟨hJ, hH, hI⟩
              have hsYs : srY s126 := srY_k hK hsY
              have h0 := hY.2.2.1
              have hrw := hY.2.2.2.1
              have hnm := hY.2.2.2.2.1
              have hsh := hY.2.2.2.2.2.1
              have hmk := hY.2.2.2.2.2.2.1
              have hic := hY.2.2.2.2.2.2.2.1
              have hcn := hY.2.2.2.2.2.2.2.2.1
              have hgt := hY.2.2.2.2.2.2.2.2.2
              refine v_aloadn dX7_acts_129 rfl ?_
              refine v_aloadn dX7_acts_130 rfl ?_
              refine v_iloadn dX7_acts_131 rfl ?_
              refine v_aloadn dX7_acts_132 rfl ?_
              refine v_iloadn dX7_acts_133 rfl ?_
              refine v_aloadn dX7_acts_134 rfl ?_
              refine v_get dX7_acts_135 gf_X7_48 (hH 0 0 (by decide)) rfl ?_
              refine v_iconst dX7_acts_138 ?_
              refine v_iloadn dX7_acts_139 rfl ?_
              refine v_imul dX7_acts_140 ?_
              refine v_iconst dX7_acts_141 ?_
              refine v_iadd dX7_acts_142 ?_
              refine v_iald dX7_acts_143 (hH 12 0 (by decide)) (by omega) (by omega) (by decide) ?_
              have hcc := hcn (4 * c + 3).toNat (by omega)
              have ech3 : s126 12 0 (4 * c + 3).toNat = chN si c 3 := by unfold chN; first | rfl | (rw [← hK.k (show (12 : Nat) ≠ 0 by decide)]; congr 1 <;> omega)
              refine v_callV (fX7_called hY (by omega) (by omega)) lc_X7_132 ⟨(Nat.le_of_ble_eq_true rfl), (Nat.le_of_ble_eq_true rfl)⟩ dX7_acts_144 rfl rfl (Nat.le_of_ble_eq_true rfl) ⟨(Nat.le_of_ble_eq_true rfl), (Nat.le_of_ble_eq_true rfl)⟩ ⟨_, _, _, _, hH 0 0 (by decide), rfl⟩ (kP fun r144 hr144 hp144 => ?_)
              have hp144 : bt 0 r144 11 ∧ (12 * a + r144).toNat = nmY si a (chN si c 3) := ⟨hp144.1, by have z := hp144.2; rw [ech3] at z; first | exact z | (unfold nmY at z ⊢; rw [hK.k (show (4 : Nat) ≠ 0 by decide)] at z; exact z)⟩
              refine v_iload dX7_acts_147 rfl ?_
              refine v_iconst dX7_acts_149 ?_
              refine v_isub dX7_acts_150 ?_
              refine v_callV (tX7_at hY (by omega) (by omega) (by omega)) lc_X7_83 ⟨(Nat.le_of_ble_eq_true rfl), (Nat.le_of_ble_eq_true rfl)⟩ dX7_acts_151 rfl rfl (Nat.le_of_ble_eq_true rfl) ⟨(Nat.le_of_ble_eq_true rfl), (Nat.le_of_ble_eq_true rfl)⟩ ⟨_, _, _, _, hH 0 0 (by decide), rfl⟩ (kP fun r151 hr151 hp151 => ?_)
              have hv151 := vY_atP (by omega) (hsYs _ (by omega)) hp151.2
              rw [vY_k hK, hp144.2] at hv151
              refine v_put dX7_acts_154 pf_X7_141 (hH 0 0 (by decide)) rfl rfl (Nat.le_of_ble_eq_true rfl) ?_
              generalize hMe154 : wup _ _ _ = M154
              have hO : wO cntY fw Mi M154 := by rw [← hMe154]; exact hO.up (k := 0) (i := 0) (by decide)
              obtain ⟨s154, hs154⟩ : ∃ z, z = ups s126 0 0 (22) (r151) := ⟨_, rfl⟩
              have hH : wH cntY (cellY G fw) fw s154 M154 := by rw [← hMe154, hs154]; exact wH.up hJ hH (k := 0) (i := 0) (22) (r151) (by decide) rfl
              have hI : invY s154 := by rw [hs154]; exact invY_scr hI (by simp) (by omega)
              have hK : keepY si s154 := hK.tr (by rw [hs154]; exact keepY_up (by decide))
              have hY : wY G fw s154 M154 := ⟨hJ, hH, hI⟩
              have hsYs : srY s154 := srY_k hK hsY
              have h0 := hY.2.2.1
              have hrw := hY.2.2.2.1
              have hnm := hY.2.2.2.2.1
              have hsh := hY.2.2.2.2.2.1
              have hmk := hY.2.2.2.2.2.2.1
              have hic := hY.2.2.2.2.2.2.2.1
              have hcn := hY.2.2.2.2.2.2.2.2.1
              have hgt := hY.2.2.2.2.2.2.2.2.2
              refine v_iload dX7_acts_157 rfl ?_
              refine v_iload dX7_acts_159 rfl ?_
              refine v_if_eq 168 dX7_acts_161 (by decide) (by omega) (fun h161 => ?_) (fun h161 => ?_)
              · refine v_iconst dX7_acts_168 ?_
                refine v_iadd dX7_acts_169 ?_
                refine v_istore dX7_acts_170 (Nat.le_of_ble_eq_true rfl) ?_
                refine v_aloadn dX7_acts_172 rfl ?_
                refine v_iloadn dX7_acts_173 rfl ?_
                refine v_iload dX7_acts_174 rfl ?_
                refine v_iload dX7_acts_176 rfl ?_
                refine v_callV (fX7_nextChange hsYs hY (by omega) (by omega) (by omega) (by omega)) lc_X7_103 ⟨(Nat.le_of_ble_eq_true rfl), (Nat.le_of_ble_eq_true rfl)⟩ dX7_acts_178 rfl rfl (Nat.le_of_ble_eq_true rfl) ⟨(Nat.le_of_ble_eq_true rfl), (Nat.le_of_ble_eq_true rfl)⟩ ⟨_, _, _, _, hH 0 0 (by decide), rfl⟩ (kP fun r178 hr178 hp178 => ?_)
                have hcs : ∀ v, t < v → v < r178 → ¬ (acY si c a) v := fun v v1 v2 z => by
                  have w1 := hp178.2 v (by omega) v2
                  have w2 := hp178.2 (v - 1) (by omega) (by omega)
                  rw [vY_k hK, vY_k hK, hbd] at w1 w2
                  exact ed_const (w1.trans w2.symm) z.1
                refine v_istore dX7_acts_181 (Nat.le_of_ble_eq_true rfl) ?_
                refine v_goto 28 dX7_acts_183 (by decide) ?_
                refine wV.locs (lv' := [(0, .ref (fw 0 0)), (1, .int (gI c)), (2, .int (gI a)), (3, .int (gI q)), (4, .int (gI b)), (5, .int (gI _)), (6, .int (gI _))]) ⟨rfl, rfl, rfl, rfl, rfl, rfl, rfl, trivial⟩ (ih _ _ _ _ (by omega) (by omega) hY hO hK (by omega) (by first | (exfalso; omega) | (rw [act_1 h1.1 (by omega) (by omega) (show (acY si c a) t from ⟨hed.elim (fun z => z.2) (fun z => absurd z.1 (by omega)), by omega, by omega⟩) hcs, h2, show min t (si 0 0 0) = t by omega]) | (rw [act_0 h1.1 (by omega) (by omega) (show ¬ (acY si c a) t from fun z => by first | exact hed.elim (fun y => absurd y.1 (by omega)) (fun y => y.2 z.1) | exact absurd z.2.1 (by omega) | exact absurd z.2.2 (by omega)) hcs, h2, show min t (si 0 0 0) = t by omega]; omega)) (fun q1 q2 => by first | (exfalso; omega) | exact h5 (by omega) q2 | exact ⟨t, ⟨by have z := (hed.elim (fun z => z.2) (fun z => absurd z.1 (by omega))).1; omega, (show (acY si c a) t from ⟨hed.elim (fun z => z.2) (fun z => absurd z.1 (by omega)), by omega, by omega⟩), by rw [show min t (si 0 0 0) = t by omega] at h2; omega⟩, by rw [hs154, ups_at, hs126, ups_at]; rfl, by rw [hs154, ups_at]; exact hv151⟩))
              · refine v_iconst dX7_acts_164 ?_
                refine v_goto 169 dX7_acts_165 (by decide) ?_
                refine v_iadd dX7_acts_169 ?_
                refine v_istore dX7_acts_170 (Nat.le_of_ble_eq_true rfl) ?_
                refine v_aloadn dX7_acts_172 rfl ?_
                refine v_iloadn dX7_acts_173 rfl ?_
                refine v_iload dX7_acts_174 rfl ?_
                refine v_iload dX7_acts_176 rfl ?_
                refine v_callV (fX7_nextChange hsYs hY (by omega) (by omega) (by omega) (by omega)) lc_X7_103 ⟨(Nat.le_of_ble_eq_true rfl), (Nat.le_of_ble_eq_true rfl)⟩ dX7_acts_178 rfl rfl (Nat.le_of_ble_eq_true rfl) ⟨(Nat.le_of_ble_eq_true rfl), (Nat.le_of_ble_eq_true rfl)⟩ ⟨_, _, _, _, hH 0 0 (by decide), rfl⟩ (kP fun r178 hr178 hp178 => ?_)
                have hcs : ∀ v, t < v → v < r178 → ¬ (acY si c a) v := fun v v1 v2 z => by
                  have w1 := hp178.2 v (by omega) v2
                  have w2 := hp178.2 (v - 1) (by omega) (by omega)
                  rw [vY_k hK, vY_k hK, hbd] at w1 w2
                  exact ed_const (w1.trans w2.symm) z.1
                refine v_istore dX7_acts_181 (Nat.le_of_ble_eq_true rfl) ?_
                refine v_goto 28 dX7_acts_183 (by decide) ?_
                refine wV.locs (lv' := [(0, .ref (fw 0 0)), (1, .int (gI c)), (2, .int (gI a)), (3, .int (gI q)), (4, .int (gI b)), (5, .int (gI _)), (6, .int (gI _))]) ⟨rfl, rfl, rfl, rfl, rfl, rfl, rfl, trivial⟩ (ih _ _ _ _ (by omega) (by omega) hY hO hK (by omega) (by first | (exfalso; omega) | (rw [act_1 h1.1 (by omega) (by omega) (show (acY si c a) t from ⟨hed.elim (fun z => z.2) (fun z => absurd z.1 (by omega)), by omega, by omega⟩) hcs, h2, show min t (si 0 0 0) = t by omega]) | (rw [act_0 h1.1 (by omega) (by omega) (show ¬ (acY si c a) t from fun z => by first | exact hed.elim (fun y => absurd y.1 (by omega)) (fun y => y.2 z.1) | exact absurd z.2.1 (by omega) | exact absurd z.2.2 (by omega)) hcs, h2, show min t (si 0 0 0) = t by omega]; omega)) (fun q1 q2 => by first | (exfalso; omega) | exact h5 (by omega) q2 | exact ⟨t, ⟨by have z := (hed.elim (fun z => z.2) (fun z => absurd z.1 (by omega))).1; omega, (show (acY si c a) t from ⟨hed.elim (fun z => z.2) (fun z => absurd z.1 (by omega)), by omega, by omega⟩), by rw [show min t (si 0 0 0) = t by omega] at h2; omega⟩, by rw [hs154, ups_at, hs126, ups_at]; rfl, by rw [hs154, ups_at]; exact hv151⟩))
        · refine v_aloadn dX7_acts_77 rfl ?_
          refine v_iloadn dX7_acts_78 rfl ?_
          refine v_aloadn dX7_acts_79 rfl ?_
          refine v_iloadn dX7_acts_80 rfl ?_
          refine v_aloadn dX7_acts_81 rfl ?_
          refine v_get dX7_acts_82 gf_X7_48 (hH 0 0 (by decide)) rfl ?_
          refine v_iconst dX7_acts_85 ?_
          refine v_iloadn dX7_acts_86 rfl ?_
          refine v_imul dX7_acts_87 ?_
          refine v_iconst dX7_acts_88 ?_
          refine v_iadd dX7_acts_89 ?_
          refine v_iald dX7_acts_90 (hH 12 0 (by decide)) (by omega) (by omega) (by decide) ?_
          have hcc := hcn (4 * c + 2).toNat (by omega)
          have ech2 : s 12 0 (4 * c + 2).toNat = chN si c 2 := by unfold chN; first | rfl | (rw [← hK.k (show (12 : Nat) ≠ 0 by decide)]; congr 1 <;> omega)
          refine v_callV (fX7_called hY (by omega) (by omega)) lc_X7_132 ⟨(Nat.le_of_ble_eq_true rfl), (Nat.le_of_ble_eq_true rfl)⟩ dX7_acts_91 rfl rfl (Nat.le_of_ble_eq_true rfl) ⟨(Nat.le_of_ble_eq_true rfl), (Nat.le_of_ble_eq_true rfl)⟩ ⟨_, _, _, _, hH 0 0 (by decide), rfl⟩ (kP fun r91 hr91 hp91 => ?_)
          have hp91 : bt 0 r91 11 ∧ (12 * a + r91).toNat = nmY si a (chN si c 2) := ⟨hp91.1, by have z := hp91.2; rw [ech2] at z; first | exact z | (unfold nmY at z ⊢; rw [hK.k (show (4 : Nat) ≠ 0 by decide)] at z; exact z)⟩
          refine v_iload dX7_acts_94 rfl ?_
          refine v_iconst dX7_acts_96 ?_
          refine v_isub dX7_acts_97 ?_
          refine v_callV (tX7_at hY (by omega) (by omega) (by omega)) lc_X7_83 ⟨(Nat.le_of_ble_eq_true rfl), (Nat.le_of_ble_eq_true rfl)⟩ dX7_acts_98 rfl rfl (Nat.le_of_ble_eq_true rfl) ⟨(Nat.le_of_ble_eq_true rfl), (Nat.le_of_ble_eq_true rfl)⟩ ⟨_, _, _, _, hH 0 0 (by decide), rfl⟩ (kP fun r98 hr98 hp98 => ?_)
          have hv98 := vY_atP (by omega) (hsYs _ (by omega)) hp98.2
          rw [vY_k hK, hp91.2] at hv98
          refine v_iconst dX7_acts_101 ?_
          refine v_icmp_ne 109 dX7_acts_102 (by decide) (by omega) (by omega) (fun h102 => ?_) (fun h102 => ?_)
          · refine v_iconst dX7_acts_109 ?_
            refine v_istore dX7_acts_110 (Nat.le_of_ble_eq_true rfl) ?_
            refine v_iload dX7_acts_112 rfl ?_
            refine v_if_eq 157 dX7_acts_114 (by decide) (by omega) (fun h114 => ?_) (fun h114 => ?_)
            · refine v_iload dX7_acts_157 rfl ?_
              refine v_iload dX7_acts_159 rfl ?_
              refine v_if_eq 168 dX7_acts_161 (by decide) (by omega) (fun h161 => ?_) (fun h161 => ?_)
              · refine v_iconst dX7_acts_168 ?_
                refine v_iadd dX7_acts_169 ?_
                refine v_istore dX7_acts_170 (Nat.le_of_ble_eq_true rfl) ?_
                refine v_aloadn dX7_acts_172 rfl ?_
                refine v_iloadn dX7_acts_173 rfl ?_
                refine v_iload dX7_acts_174 rfl ?_
                refine v_iload dX7_acts_176 rfl ?_
                refine v_callV (fX7_nextChange hsYs hY (by omega) (by omega) (by omega) (by omega)) lc_X7_103 ⟨(Nat.le_of_ble_eq_true rfl), (Nat.le_of_ble_eq_true rfl)⟩ dX7_acts_178 rfl rfl (Nat.le_of_ble_eq_true rfl) ⟨(Nat.le_of_ble_eq_true rfl), (Nat.le_of_ble_eq_true rfl)⟩ ⟨_, _, _, _, hH 0 0 (by decide), rfl⟩ (kP fun r178 hr178 hp178 => ?_)
                have hcs : ∀ v, t < v → v < r178 → ¬ (acY si c a) v := fun v v1 v2 z => by
                  have w1 := hp178.2 v (by omega) v2
                  have w2 := hp178.2 (v - 1) (by omega) (by omega)
                  rw [vY_k hK, vY_k hK, hbd] at w1 w2
                  exact ed_const (w1.trans w2.symm) z.1
                refine v_istore dX7_acts_181 (Nat.le_of_ble_eq_true rfl) ?_
                refine v_goto 28 dX7_acts_183 (by decide) ?_
                refine wV.locs (lv' := [(0, .ref (fw 0 0)), (1, .int (gI c)), (2, .int (gI a)), (3, .int (gI q)), (4, .int (gI b)), (5, .int (gI _)), (6, .int (gI _))]) ⟨rfl, rfl, rfl, rfl, rfl, rfl, rfl, trivial⟩ (ih _ _ _ _ (by omega) (by omega) hY hO hK (by omega) (by first | (exfalso; omega) | (rw [act_1 h1.1 (by omega) (by omega) (show (acY si c a) t from ⟨hed.elim (fun z => z.2) (fun z => absurd z.1 (by omega)), by omega, by omega⟩) hcs, h2, show min t (si 0 0 0) = t by omega]) | (rw [act_0 h1.1 (by omega) (by omega) (show ¬ (acY si c a) t from fun z => by first | exact hed.elim (fun y => absurd y.1 (by omega)) (fun y => y.2 z.1) | exact absurd z.2.1 (by omega) | exact absurd z.2.2 (by omega)) hcs, h2, show min t (si 0 0 0) = t by omega]; omega)) (fun q1 q2 => by first | (exfalso; omega) | exact h5 (by omega) q2 | exact ⟨t, ⟨by have z := (hed.elim (fun z => z.2) (fun z => absurd z.1 (by omega))).1; omega, (show (acY si c a) t from ⟨hed.elim (fun z => z.2) (fun z => absurd z.1 (by omega)), by omega, by omega⟩), by rw [show min t (si 0 0 0) = t by omega] at h2; omega⟩, by rw [hs154, ups_at, hs126, ups_at]; rfl, by rw [hs154, ups_at]; exact hv151⟩))
              · refine v_iconst dX7_acts_164 ?_
                refine v_goto 169 dX7_acts_165 (by decide) ?_
                refine v_iadd dX7_acts_169 ?_
                refine v_istore dX7_acts_170 (Nat.le_of_ble_eq_true rfl) ?_
                refine v_aloadn dX7_acts_172 rfl ?_
                refine v_iloadn dX7_acts_173 rfl ?_
                refine v_iload dX7_acts_174 rfl ?_
                refine v_iload dX7_acts_176 rfl ?_
                refine v_callV (fX7_nextChange hsYs hY (by omega) (by omega) (by omega) (by omega)) lc_X7_103 ⟨(Nat.le_of_ble_eq_true rfl), (Nat.le_of_ble_eq_true rfl)⟩ dX7_acts_178 rfl rfl (Nat.le_of_ble_eq_true rfl) ⟨(Nat.le_of_ble_eq_true rfl), (Nat.le_of_ble_eq_true rfl)⟩ ⟨_, _, _, _, hH 0 0 (by decide), rfl⟩ (kP fun r178 hr178 hp178 => ?_)
                have hcs : ∀ v, t < v → v < r178 → ¬ (acY si c a) v := fun v v1 v2 z => by
                  have w1 := hp178.2 v (by omega) v2
                  have w2 := hp178.2 (v - 1) (by omega) (by omega)
                  rw [vY_k hK, vY_k hK, hbd] at w1 w2
                  exact ed_const (w1.trans w2.symm) z.1
                refine v_istore dX7_acts_181 (Nat.le_of_ble_eq_true rfl) ?_
                refine v_goto 28 dX7_acts_183 (by decide) ?_
                refine wV.locs (lv' := [(0, .ref (fw 0 0)), (1, .int (gI c)), (2, .int (gI a)), (3, .int (gI q)), (4, .int (gI b)), (5, .int (gI _)), (6, .int (gI _))]) ⟨rfl, rfl, rfl, rfl, rfl, rfl, rfl, trivial⟩ (ih _ _ _ _ (by omega) (by omega) hY hO hK (by omega) (by first | (exfalso; omega) | (rw [act_1 h1.1 (by omega) (by omega) (show (acY si c a) t from ⟨hed.elim (fun z => z.2) (fun z => absurd z.1 (by omega)), by omega, by omega⟩) hcs, h2, show min t (si 0 0 0) = t by omega]) | (rw [act_0 h1.1 (by omega) (by omega) (show ¬ (acY si c a) t from fun z => by first | exact hed.elim (fun y => absurd y.1 (by omega)) (fun y => y.2 z.1) | exact absurd z.2.1 (by omega) | exact absurd z.2.2 (by omega)) hcs, h2, show min t (si 0 0 0) = t by omega]; omega)) (fun q1 q2 => by first | (exfalso; omega) | exact h5 (by omega) q2 | exact ⟨t, ⟨by have z := (hed.elim (fun z => z.2) (fun z => absurd z.1 (by omega))).1; omega, (show (acY si c a) t from ⟨hed.elim (fun z => z.2) (fun z => absurd z.1 (by omega)), by omega, by omega⟩), by rw [show min t (si 0 0 0) = t by omega] at h2; omega⟩, by rw [hs154, ups_at, hs126, ups_at]; rfl, by rw [hs154, ups_at]; exact hv151⟩))
            · refine v_iload dX7_acts_117 rfl ?_
              refine v_iloadn dX7_acts_119 rfl ?_
              refine v_icmp_ne 157 dX7_acts_120 (by decide) (by omega) (by omega) (fun h120 => ?_) (fun h120 => ?_)
              · refine v_iload dX7_acts_157 rfl ?_
                refine v_iload dX7_acts_159 rfl ?_
                refine v_if_eq 168 dX7_acts_161 (by decide) (by omega) (fun h161 => ?_) (fun h161 => ?_)
                · refine v_iconst dX7_acts_168 ?_
                  refine v_iadd dX7_acts_169 ?_
                  refine v_istore dX7_acts_170 (Nat.le_of_ble_eq_true rfl) ?_
                  refine v_aloadn dX7_acts_172 rfl ?_
                  refine v_iloadn dX7_acts_173 rfl ?_
                  refine v_iload dX7_acts_174 rfl ?_
                  refine v_iload dX7_acts_176 rfl ?_
                  refine v_callV (fX7_nextChange hsYs hY (by omega) (by omega) (by omega) (by omega)) lc_X7_103 ⟨(Nat.le_of_ble_eq_true rfl), (Nat.le_of_ble_eq_true rfl)⟩ dX7_acts_178 rfl rfl (Nat.le_of_ble_eq_true rfl) ⟨(Nat.le_of_ble_eq_true rfl), (Nat.le_of_ble_eq_true rfl)⟩ ⟨_, _, _, _, hH 0 0 (by decide), rfl⟩ (kP fun r178 hr178 hp178 => ?_)
                  have hcs : ∀ v, t < v → v < r178 → ¬ (acY si c a) v := fun v v1 v2 z => by
                    have w1 := hp178.2 v (by omega) v2
                    have w2 := hp178.2 (v - 1) (by omega) (by omega)
                    rw [vY_k hK, vY_k hK, hbd] at w1 w2
                    exact ed_const (w1.trans w2.symm) z.1
                  refine v_istore dX7_acts_181 (Nat.le_of_ble_eq_true rfl) ?_
                  refine v_goto 28 dX7_acts_183 (by decide) ?_
                  refine wV.locs (lv' := [(0, .ref (fw 0 0)), (1, .int (gI c)), (2, .int (gI a)), (3, .int (gI q)), (4, .int (gI b)), (5, .int (gI _)), (6, .int (gI _))]) ⟨rfl, rfl, rfl, rfl, rfl, rfl, rfl, trivial⟩ (ih _ _ _ _ (by omega) (by omega) hY hO hK (by omega) (by first | (exfalso; omega) | (rw [act_1 h1.1 (by omega) (by omega) (show (acY si c a) t from ⟨hed.elim (fun z => z.2) (fun z => absurd z.1 (by omega)), by omega, by omega⟩) hcs, h2, show min t (si 0 0 0) = t by omega]) | (rw [act_0 h1.1 (by omega) (by omega) (show ¬ (acY si c a) t from fun z => by first | exact hed.elim (fun y => absurd y.1 (by omega)) (fun y => y.2 z.1) | exact absurd z.2.1 (by omega) | exact absurd z.2.2 (by omega)) hcs, h2, show min t (si 0 0 0) = t by omega]; omega)) (fun q1 q2 => by first | (exfalso; omega) | exact h5 (by omega) q2 | exact ⟨t, ⟨by have z := (hed.elim (fun z => z.2) (fun z => absurd z.1 (by omega))).1; omega, (show (acY si c a) t from ⟨hed.elim (fun z => z.2) (fun z => absurd z.1 (by omega)), by omega, by omega⟩), by rw [show min t (si 0 0 0) = t by omega] at h2; omega⟩, by rw [hs154, ups_at, hs126, ups_at]; rfl, by rw [hs154, ups_at]; exact hv151⟩))
                · refine v_iconst dX7_acts_164 ?_
                  refine v_goto 169 dX7_acts_165 (by decide) ?_
                  refine v_iadd dX7_acts_169 ?_
                  refine v_istore dX7_acts_170 (Nat.le_of_ble_eq_true rfl) ?_
                  refine v_aloadn dX7_acts_172 rfl ?_
                  refine v_iloadn dX7_acts_173 rfl ?_
                  refine v_iload dX7_acts_174 rfl ?_
                  refine v_iload dX7_acts_176 rfl ?_
                  refine v_callV (fX7_nextChange hsYs hY (by omega) (by omega) (by omega) (by omega)) lc_X7_103 ⟨(Nat.le_of_ble_eq_true rfl), (Nat.le_of_ble_eq_true rfl)⟩ dX7_acts_178 rfl rfl (Nat.le_of_ble_eq_true rfl) ⟨(Nat.le_of_ble_eq_true rfl), (Nat.le_of_ble_eq_true rfl)⟩ ⟨_, _, _, _, hH 0 0 (by decide), rfl⟩ (kP fun r178 hr178 hp178 => ?_)
                  have hcs : ∀ v, t < v → v < r178 → ¬ (acY si c a) v := fun v v1 v2 z => by
                    have w1 := hp178.2 v (by omega) v2
                    have w2 := hp178.2 (v - 1) (by omega) (by omega)
                    rw [vY_k hK, vY_k hK, hbd] at w1 w2
                    exact ed_const (w1.trans w2.symm) z.1
                  refine v_istore dX7_acts_181 (Nat.le_of_ble_eq_true rfl) ?_
                  refine v_goto 28 dX7_acts_183 (by decide) ?_
                  refine wV.locs (lv' := [(0, .ref (fw 0 0)), (1, .int (gI c)), (2, .int (gI a)), (3, .int (gI q)), (4, .int (gI b)), (5, .int (gI _)), (6, .int (gI _))]) ⟨rfl, rfl, rfl, rfl, rfl, rfl, rfl, trivial⟩ (ih _ _ _ _ (by omega) (by omega) hY hO hK (by omega) (by first | (exfalso; omega) | (rw [act_1 h1.1 (by omega) (by omega) (show (acY si c a) t from ⟨hed.elim (fun z => z.2) (fun z => absurd z.1 (by omega)), by omega, by omega⟩) hcs, h2, show min t (si 0 0 0) = t by omega]) | (rw [act_0 h1.1 (by omega) (by omega) (show ¬ (acY si c a) t from fun z => by first | exact hed.elim (fun y => absurd y.1 (by omega)) (fun y => y.2 z.1) | exact absurd z.2.1 (by omega) | exact absurd z.2.2 (by omega)) hcs, h2, show min t (si 0 0 0) = t by omega]; omega)) (fun q1 q2 => by first | (exfalso; omega) | exact h5 (by omega) q2 | exact ⟨t, ⟨by have z := (hed.elim (fun z => z.2) (fun z => absurd z.1 (by omega))).1; omega, (show (acY si c a) t from ⟨hed.elim (fun z => z.2) (fun z => absurd z.1 (by omega)), by omega, by omega⟩), by rw [show min t (si 0 0 0) = t by omega] at h2; omega⟩, by rw [hs154, ups_at, hs126, ups_at]; rfl, by rw [hs154, ups_at]; exact hv151⟩))
              · refine v_aloadn dX7_acts_123 rfl ?_
                refine v_iload dX7_acts_124 rfl ?_
                refine v_put dX7_acts_126 pf_X7_138 (hH 0 0 (by decide)) rfl rfl (Nat.le_of_ble_eq_true rfl) ?_
                generalize hMe126 : wup _ _ _ = M126
                have hO : wO cntY fw Mi M126 := by rw [← hMe126]; exact hO.up (k := 0) (i := 0) (by decide)
                obtain ⟨s126, hs126⟩ : ∃ z, z = ups s 0 0 (21) (t) := ⟨_, rfl⟩
                have hH : wH cntY (cellY G fw) fw s126 M126 := by rw [← hMe126, hs126]; exact wH.up hJ hH (k := 0) (i := 0) (21) (t) (by decide) rfl
                have hI : invY s126 := by rw [hs126]; exact invY_scr hI (by simp) (by omega)
                have hK : keepY si s126 := hK.tr (by rw [hs126]; exact keepY_up (by decide))
                have hY : wY G fw s126 M126 := ⟨hJ, hH, hI⟩
                have hsYs : srY s126 := srY_k hK hsY
                have h0 := hY.2.2.1
                have hrw := hY.2.2.2.1
                have hnm := hY.2.2.2.2.1
                have hsh := hY.2.2.2.2.2.1
                have hmk := hY.2.2.2.2.2.2.1
                have hic := hY.2.2.2.2.2.2.2.1
                have hcn := hY.2.2.2.2.2.2.2.2.1
                have hgt := hY.2.2.2.2.2.2.2.2.2
                refine v_aloadn dX7_acts_129 rfl ?_
                refine v_aloadn dX7_acts_130 rfl ?_
                refine v_iloadn dX7_acts_131 rfl ?_
                refine v_aloadn dX7_acts_132 rfl ?_
                refine v_iloadn dX7_acts_133 rfl ?_
                refine v_aloadn dX7_acts_134 rfl ?_
                refine v_get dX7_acts_135 gf_X7_48 (hH 0 0 (by decide)) rfl ?_
                refine v_iconst dX7_acts_138 ?_
                refine v_iloadn dX7_acts_139 rfl ?_
                refine v_imul dX7_acts_140 ?_
                refine v_iconst dX7_acts_141 ?_
                refine v_iadd dX7_acts_142 ?_
                refine v_iald dX7_acts_143 (hH 12 0 (by decide)) (by omega) (by omega) (by decide) ?_
                have hcc := hcn (4 * c + 3).toNat (by omega)
                have ech3 : s126 12 0 (4 * c + 3).toNat = chN si c 3 := by unfold chN; first | rfl | (rw [← hK.k (show (12 : Nat) ≠ 0 by decide)]; congr 1 <;> omega)
                refine v_callV (fX7_called hY (by omega) (by omega)) lc_X7_132 ⟨(Nat.le_of_ble_eq_true rfl), (Nat.le_of_ble_eq_true rfl)⟩ dX7_acts_144 rfl rfl (Nat.le_of_ble_eq_true rfl) ⟨(Nat.le_of_ble_eq_true rfl), (Nat.le_of_ble_eq_true rfl)⟩ ⟨_, _, _, _, hH 0 0 (by decide), rfl⟩ (kP fun r144 hr144 hp144 => ?_)
                have hp144 : bt 0 r144 11 ∧ (12 * a + r144).toNat = nmY si a (chN si c 3) := ⟨hp144.1, by have z := hp144.2; rw [ech3] at z; first | exact z | (unfold nmY at z ⊢; rw [hK.k (show (4 : Nat) ≠ 0 by decide)] at z; exact z)⟩
                refine v_iload dX7_acts_147 rfl ?_
                refine v_iconst dX7_acts_149 ?_
                refine v_isub dX7_acts_150 ?_
                refine v_callV (tX7_at hY (by omega) (by omega) (by omega)) lc_X7_83 ⟨(Nat.le_of_ble_eq_true rfl), (Nat.le_of_ble_eq_true rfl)⟩ dX7_acts_151 rfl rfl (Nat.le_of_ble_eq_true rfl) ⟨(Nat.le_of_ble_eq_true rfl), (Nat.le_of_ble_eq_true rfl)⟩ ⟨_, _, _, _, hH 0 0 (by decide), rfl⟩ (kP fun r151 hr151 hp151 => ?_)
                have hv151 := vY_atP (by omega) (hsYs _ (by omega)) hp151.2
                rw [vY_k hK, hp144.2] at hv151
                refine v_put dX7_acts_154 pf_X7_141 (hH 0 0 (by decide)) rfl rfl (Nat.le_of_ble_eq_true rfl) ?_
                generalize hMe154 : wup _ _ _ = M154
                have hO : wO cntY fw Mi M154 := by rw [← hMe154]; exact hO.up (k := 0) (i := 0) (by decide)
                obtain ⟨s154, hs154⟩ : ∃ z, z = ups s126 0 0 (22) (r151) := ⟨_, rfl⟩
                have hH : wH cntY (cellY G fw) fw s154 M154 := by rw [← hMe154, hs154]; exact wH.up hJ hH (k := 0) (i := 0) (22) (r151) (by decide) rfl
                have hI : invY s154 := by rw [hs154]; exact invY_scr hI (by simp) (by omega)
                have hK : keepY si s154 := hK.tr (by rw [hs154]; exact keepY_up (by decide))
                have hY : wY G fw s154 M154 := ⟨hJ, hH, hI⟩
                have hsYs : srY s154 := srY_k hK hsY
                have h0 := hY.2.2.1
                have hrw := hY.2.2.2.1
                have hnm := hY.2.2.2.2.1
                have hsh := hY.2.2.2.2.2.1
                have hmk := hY.2.2.2.2.2.2.1
                have hic := hY.2.2.2.2.2.2.2.1
                have hcn := hY.2.2.2.2.2.2.2.2.1
                have hgt := hY.2.2.2.2.2.2.2.2.2
                refine v_iload dX7_acts_157 rfl ?_
                refine v_iload dX7_acts_159 rfl ?_
                refine v_if_eq 168 dX7_acts_161 (by decide) (by omega) (fun h161 => ?_) (fun h161 => ?_)
                · refine v_iconst dX7_acts_168 ?_
                  refine v_iadd dX7_acts_169 ?_
                  refine v_istore dX7_acts_170 (Nat.le_of_ble_eq_true rfl) ?_
                  refine v_aloadn dX7_acts_172 rfl ?_
                  refine v_iloadn dX7_acts_173 rfl ?_
                  refine v_iload dX7_acts_174 rfl ?_
                  refine v_iload dX7_acts_176 rfl ?_
                  refine v_callV (fX7_nextChange hsYs hY (by omega) (by omega) (by omega) (by omega)) lc_X7_103 ⟨(Nat.le_of_ble_eq_true rfl), (Nat.le_of_ble_eq_true rfl)⟩ dX7_acts_178 rfl rfl (Nat.le_of_ble_eq_true rfl) ⟨(Nat.le_of_ble_eq_true rfl), (Nat.le_of_ble_eq_true rfl)⟩ ⟨_, _, _, _, hH 0 0 (by decide), rfl⟩ (kP fun r178 hr178 hp178 => ?_)
                  have hcs : ∀ v, t < v → v < r178 → ¬ (acY si c a) v := fun v v1 v2 z => by
                    have w1 := hp178.2 v (by omega) v2
                    have w2 := hp178.2 (v - 1) (by omega) (by omega)
                    rw [vY_k hK, vY_k hK, hbd] at w1 w2
                    exact ed_const (w1.trans w2.symm) z.1
                  refine v_istore dX7_acts_181 (Nat.le_of_ble_eq_true rfl) ?_
                  refine v_goto 28 dX7_acts_183 (by decide) ?_
                  refine wV.locs (lv' := [(0, .ref (fw 0 0)), (1, .int (gI c)), (2, .int (gI a)), (3, .int (gI q)), (4, .int (gI b)), (5, .int (gI _)), (6, .int (gI _))]) ⟨rfl, rfl, rfl, rfl, rfl, rfl, rfl, trivial⟩ (ih _ _ _ _ (by omega) (by omega) hY hO hK (by omega) (by first | (exfalso; omega) | (rw [act_1 h1.1 (by omega) (by omega) (show (acY si c a) t from ⟨hed.elim (fun z => z.2) (fun z => absurd z.1 (by omega)), by omega, by omega⟩) hcs, h2, show min t (si 0 0 0) = t by omega]) | (rw [act_0 h1.1 (by omega) (by omega) (show ¬ (acY si c a) t from fun z => by first | exact hed.elim (fun y => absurd y.1 (by omega)) (fun y => y.2 z.1) | exact absurd z.2.1 (by omega) | exact absurd z.2.2 (by omega)) hcs, h2, show min t (si 0 0 0) = t by omega]; omega)) (fun q1 q2 => by first | (exfalso; omega) | exact h5 (by omega) q2 | exact ⟨t, ⟨by have z := (hed.elim (fun z => z.2) (fun z => absurd z.1 (by omega))).1; omega, (show (acY si c a) t from ⟨hed.elim (fun z => z.2) (fun z => absurd z.1 (by omega)), by omega, by omega⟩), by rw [show min t (si 0 0 0) = t by omega] at h2; omega⟩, by rw [hs154, ups_at, hs126, ups_at]; rfl, by rw [hs154, ups_at]; exact hv151⟩))
                · refine v_iconst dX7_acts_164 ?_
                  refine v_goto 169 dX7_acts_165 (by decide) ?_
                  refine v_iadd dX7_acts_169 ?_
                  refine v_istore dX7_acts_170 (Nat.le_of_ble_eq_true rfl) ?_
                  refine v_aloadn dX7_acts_172 rfl ?_
                  refine v_iloadn dX7_acts_173 rfl ?_
                  refine v_iload dX7_acts_174 rfl ?_
                  refine v_iload dX7_acts_176 rfl ?_
                  refine v_callV (fX7_nextChange hsYs hY (by omega) (by omega) (by omega) (by omega)) lc_X7_103 ⟨(Nat.le_of_ble_eq_true rfl), (Nat.le_of_ble_eq_true rfl)⟩ dX7_acts_178 rfl rfl (Nat.le_of_ble_eq_true rfl) ⟨(Nat.le_of_ble_eq_true rfl), (Nat.le_of_ble_eq_true rfl)⟩ ⟨_, _, _, _, hH 0 0 (by decide), rfl⟩ (kP fun r178 hr178 hp178 => ?_)
                  have hcs : ∀ v, t < v → v < r178 → ¬ (acY si c a) v := fun v v1 v2 z => by
                    have w1 := hp178.2 v (by omega) v2
                    have w2 := hp178.2 (v - 1) (by omega) (by omega)
                    rw [vY_k hK, vY_k hK, hbd] at w1 w2
                    exact ed_const (w1.trans w2.symm) z.1
                  refine v_istore dX7_acts_181 (Nat.le_of_ble_eq_true rfl) ?_
                  refine v_goto 28 dX7_acts_183 (by decide) ?_
                  refine wV.locs (lv' := [(0, .ref (fw 0 0)), (1, .int (gI c)), (2, .int (gI a)), (3, .int (gI q)), (4, .int (gI b)), (5, .int (gI _)), (6, .int (gI _))]) ⟨rfl, rfl, rfl, rfl, rfl, rfl, rfl, trivial⟩ (ih _ _ _ _ (by omega) (by omega) hY hO hK (by omega) (by first | (exfalso; omega) | (rw [act_1 h1.1 (by omega) (by omega) (show (acY si c a) t from ⟨hed.elim (fun z => z.2) (fun z => absurd z.1 (by omega)), by omega, by omega⟩) hcs, h2, show min t (si 0 0 0) = t by omega]) | (rw [act_0 h1.1 (by omega) (by omega) (show ¬ (acY si c a) t from fun z => by first | exact hed.elim (fun y => absurd y.1 (by omega)) (fun y => y.2 z.1) | exact absurd z.2.1 (by omega) | exact absurd z.2.2 (by omega)) hcs, h2, show min t (si 0 0 0) = t by omega]; omega)) (fun q1 q2 => by first | (exfalso; omega) | exact h5 (by omega) q2 | exact ⟨t, ⟨by have z := (hed.elim (fun z => z.2) (fun z => absurd z.1 (by omega))).1; omega, (show (acY si c a) t from ⟨hed.elim (fun z => z.2) (fun z => absurd z.1 (by omega)), by omega, by omega⟩), by rw [show min t (si 0 0 0) = t by omega] at h2; omega⟩, by rw [hs154, ups_at, hs126, ups_at]; rfl, by rw [hs154, ups_at]; exact hv151⟩))
          · refine v_iconst dX7_acts_105 ?_
            refine v_goto 110 dX7_acts_106 (by decide) ?_
            refine v_istore dX7_acts_110 (Nat.le_of_ble_eq_true rfl) ?_
            refine v_iload dX7_acts_112 rfl ?_
            refine v_if_eq 157 dX7_acts_114 (by decide) (by omega) (fun h114 => ?_) (fun h114 => ?_)
            · refine v_iload dX7_acts_157 rfl ?_
              refine v_iload dX7_acts_159 rfl ?_
              refine v_if_eq 168 dX7_acts_161 (by decide) (by omega) (fun h161 => ?_) (fun h161 => ?_)
              · refine v_iconst dX7_acts_168 ?_
                refine v_iadd dX7_acts_169 ?_
                refine v_istore dX7_acts_170 (Nat.le_of_ble_eq_true rfl) ?_
                refine v_aloadn dX7_acts_172 rfl ?_
                refine v_iloadn dX7_acts_173 rfl ?_
                refine v_iload dX7_acts_174 rfl ?_
                refine v_iload dX7_acts_176 rfl ?_
                refine v_callV (fX7_nextChange hsYs hY (by omega) (by omega) (by omega) (by omega)) lc_X7_103 ⟨(Nat.le_of_ble_eq_true rfl), (Nat.le_of_ble_eq_true rfl)⟩ dX7_acts_178 rfl rfl (Nat.le_of_ble_eq_true rfl) ⟨(Nat.le_of_ble_eq_true rfl), (Nat.le_of_ble_eq_true rfl)⟩ ⟨_, _, _, _, hH 0 0 (by decide), rfl⟩ (kP fun r178 hr178 hp178 => ?_)
                have hcs : ∀ v, t < v → v < r178 → ¬ (acY si c a) v := fun v v1 v2 z => by
                  have w1 := hp178.2 v (by omega) v2
                  have w2 := hp178.2 (v - 1) (by omega) (by omega)
                  rw [vY_k hK, vY_k hK, hbd] at w1 w2
                  exact ed_const (w1.trans w2.symm) z.1
                refine v_istore dX7_acts_181 (Nat.le_of_ble_eq_true rfl) ?_
                refine v_goto 28 dX7_acts_183 (by decide) ?_
                refine wV.locs (lv' := [(0, .ref (fw 0 0)), (1, .int (gI c)), (2, .int (gI a)), (3, .int (gI q)), (4, .int (gI b)), (5, .int (gI _)), (6, .int (gI _))]) ⟨rfl, rfl, rfl, rfl, rfl, rfl, rfl, trivial⟩ (ih _ _ _ _ (by omega) (by omega) hY hO hK (by omega) (by first | (exfalso; omega) | (rw [act_1 h1.1 (by omega) (by omega) (show (acY si c a) t from ⟨hed.elim (fun z => z.2) (fun z => absurd z.1 (by omega)), by omega, by omega⟩) hcs, h2, show min t (si 0 0 0) = t by omega]) | (rw [act_0 h1.1 (by omega) (by omega) (show ¬ (acY si c a) t from fun z => by first | exact hed.elim (fun y => absurd y.1 (by omega)) (fun y => y.2 z.1) | exact absurd z.2.1 (by omega) | exact absurd z.2.2 (by omega)) hcs, h2, show min t (si 0 0 0) = t by omega]; omega)) (fun q1 q2 => by first | (exfalso; omega) | exact h5 (by omega) q2 | exact ⟨t, ⟨by have z := (hed.elim (fun z => z.2) (fun z => absurd z.1 (by omega))).1; omega, (show (acY si c a) t from ⟨hed.elim (fun z => z.2) (fun z => absurd z.1 (by omega)), by omega, by omega⟩), by rw [show min t (si 0 0 0) = t by omega] at h2; omega⟩, by rw [hs154, ups_at, hs126, ups_at]; rfl, by rw [hs154, ups_at]; exact hv151⟩))
              · refine v_iconst dX7_acts_164 ?_
                refine v_goto 169 dX7_acts_165 (by decide) ?_
                refine v_iadd dX7_acts_169 ?_
                refine v_istore dX7_acts_170 (Nat.le_of_ble_eq_true rfl) ?_
                refine v_aloadn dX7_acts_172 rfl ?_
                refine v_iloadn dX7_acts_173 rfl ?_
                refine v_iload dX7_acts_174 rfl ?_
                refine v_iload dX7_acts_176 rfl ?_
                refine v_callV (fX7_nextChange hsYs hY (by omega) (by omega) (by omega) (by omega)) lc_X7_103 ⟨(Nat.le_of_ble_eq_true rfl), (Nat.le_of_ble_eq_true rfl)⟩ dX7_acts_178 rfl rfl (Nat.le_of_ble_eq_true rfl) ⟨(Nat.le_of_ble_eq_true rfl), (Nat.le_of_ble_eq_true rfl)⟩ ⟨_, _, _, _, hH 0 0 (by decide), rfl⟩ (kP fun r178 hr178 hp178 => ?_)
                have hcs : ∀ v, t < v → v < r178 → ¬ (acY si c a) v := fun v v1 v2 z => by
                  have w1 := hp178.2 v (by omega) v2
                  have w2 := hp178.2 (v - 1) (by omega) (by omega)
                  rw [vY_k hK, vY_k hK, hbd] at w1 w2
                  exact ed_const (w1.trans w2.symm) z.1
                refine v_istore dX7_acts_181 (Nat.le_of_ble_eq_true rfl) ?_
                refine v_goto 28 dX7_acts_183 (by decide) ?_
                refine wV.locs (lv' := [(0, .ref (fw 0 0)), (1, .int (gI c)), (2, .int (gI a)), (3, .int (gI q)), (4, .int (gI b)), (5, .int (gI _)), (6, .int (gI _))]) ⟨rfl, rfl, rfl, rfl, rfl, rfl, rfl, trivial⟩ (ih _ _ _ _ (by omega) (by omega) hY hO hK (by omega) (by first | (exfalso; omega) | (rw [act_1 h1.1 (by omega) (by omega) (show (acY si c a) t from ⟨hed.elim (fun z => z.2) (fun z => absurd z.1 (by omega)), by omega, by omega⟩) hcs, h2, show min t (si 0 0 0) = t by omega]) | (rw [act_0 h1.1 (by omega) (by omega) (show ¬ (acY si c a) t from fun z => by first | exact hed.elim (fun y => absurd y.1 (by omega)) (fun y => y.2 z.1) | exact absurd z.2.1 (by omega) | exact absurd z.2.2 (by omega)) hcs, h2, show min t (si 0 0 0) = t by omega]; omega)) (fun q1 q2 => by first | (exfalso; omega) | exact h5 (by omega) q2 | exact ⟨t, ⟨by have z := (hed.elim (fun z => z.2) (fun z => absurd z.1 (by omega))).1; omega, (show (acY si c a) t from ⟨hed.elim (fun z => z.2) (fun z => absurd z.1 (by omega)), by omega, by omega⟩), by rw [show min t (si 0 0 0) = t by omega] at h2; omega⟩, by rw [hs154, ups_at, hs126, ups_at]; rfl, by rw [hs154, ups_at]; exact hv151⟩))
            · refine v_iload dX7_acts_117 rfl ?_
              refine v_iloadn dX7_acts_119 rfl ?_
              refine v_icmp_ne 157 dX7_acts_120 (by decide) (by omega) (by omega) (fun h120 => ?_) (fun h120 => ?_)
              · refine v_iload dX7_acts_157 rfl ?_
                refine v_iload dX7_acts_159 rfl ?_
                refine v_if_eq 168 dX7_acts_161 (by decide) (by omega) (fun h161 => ?_) (fun h161 => ?_)
                · refine v_iconst dX7_acts_168 ?_
                  refine v_iadd dX7_acts_169 ?_
                  refine v_istore dX7_acts_170 (Nat.le_of_ble_eq_true rfl) ?_
                  refine v_aloadn dX7_acts_172 rfl ?_
                  refine v_iloadn dX7_acts_173 rfl ?_
                  refine v_iload dX7_acts_174 rfl ?_
                  refine v_iload dX7_acts_176 rfl ?_
                  refine v_callV (fX7_nextChange hsYs hY (by omega) (by omega) (by omega) (by omega)) lc_X7_103 ⟨(Nat.le_of_ble_eq_true rfl), (Nat.le_of_ble_eq_true rfl)⟩ dX7_acts_178 rfl rfl (Nat.le_of_ble_eq_true rfl) ⟨(Nat.le_of_ble_eq_true rfl), (Nat.le_of_ble_eq_true rfl)⟩ ⟨_, _, _, _, hH 0 0 (by decide), rfl⟩ (kP fun r178 hr178 hp178 => ?_)
                  have hcs : ∀ v, t < v → v < r178 → ¬ (acY si c a) v := fun v v1 v2 z => by
                    have w1 := hp178.2 v (by omega) v2
                    have w2 := hp178.2 (v - 1) (by omega) (by omega)
                    rw [vY_k hK, vY_k hK, hbd] at w1 w2
                    exact ed_const (w1.trans w2.symm) z.1
                  refine v_istore dX7_acts_181 (Nat.le_of_ble_eq_true rfl) ?_
                  refine v_goto 28 dX7_acts_183 (by decide) ?_
                  refine wV.locs (lv' := [(0, .ref (fw 0 0)), (1, .int (gI c)), (2, .int (gI a)), (3, .int (gI q)), (4, .int (gI b)), (5, .int (gI _)), (6, .int (gI _))]) ⟨rfl, rfl, rfl, rfl, rfl, rfl, rfl, trivial⟩ (ih _ _ _ _ (by omega) (by omega) hY hO hK (by omega) (by first | (exfalso; omega) | (rw [act_1 h1.1 (by omega) (by omega) (show (acY si c a) t from ⟨hed.elim (fun z => z.2) (fun z => absurd z.1 (by omega)), by omega, by omega⟩) hcs, h2, show min t (si 0 0 0) = t by omega]) | (rw [act_0 h1.1 (by omega) (by omega) (show ¬ (acY si c a) t from fun z => by first | exact hed.elim (fun y => absurd y.1 (by omega)) (fun y => y.2 z.1) | exact absurd z.2.1 (by omega) | exact absurd z.2.2 (by omega)) hcs, h2, show min t (si 0 0 0) = t by omega]; omega)) (fun q1 q2 => by first | (exfalso; omega) | exact h5 (by omega) q2 | exact ⟨t, ⟨by have z := (hed.elim (fun z => z.2) (fun z => absurd z.1 (by omega))).1; omega, (show (acY si c a) t from ⟨hed.elim (fun z => z.2) (fun z => absurd z.1 (by omega)), by omega, by omega⟩), by rw [show min t (si 0 0 0) = t by omega] at h2; omega⟩, by rw [hs154, ups_at, hs126, ups_at]; rfl, by rw [hs154, ups_at]; exact hv151⟩))
                · refine v_iconst dX7_acts_164 ?_
                  refine v_goto 169 dX7_acts_165 (by decide) ?_
                  refine v_iadd dX7_acts_169 ?_
                  refine v_istore dX7_acts_170 (Nat.le_of_ble_eq_true rfl) ?_
                  refine v_aloadn dX7_acts_172 rfl ?_
                  refine v_iloadn dX7_acts_173 rfl ?_
                  refine v_iload dX7_acts_174 rfl ?_
                  refine v_iload dX7_acts_176 rfl ?_
                  refine v_callV (fX7_nextChange hsYs hY (by omega) (by omega) (by omega) (by omega)) lc_X7_103 ⟨(Nat.le_of_ble_eq_true rfl), (Nat.le_of_ble_eq_true rfl)⟩ dX7_acts_178 rfl rfl (Nat.le_of_ble_eq_true rfl) ⟨(Nat.le_of_ble_eq_true rfl), (Nat.le_of_ble_eq_true rfl)⟩ ⟨_, _, _, _, hH 0 0 (by decide), rfl⟩ (kP fun r178 hr178 hp178 => ?_)
                  have hcs : ∀ v, t < v → v < r178 → ¬ (acY si c a) v := fun v v1 v2 z => by
                    have w1 := hp178.2 v (by omega) v2
                    have w2 := hp178.2 (v - 1) (by omega) (by omega)
                    rw [vY_k hK, vY_k hK, hbd] at w1 w2
                    exact ed_const (w1.trans w2.symm) z.1
                  refine v_istore dX7_acts_181 (Nat.le_of_ble_eq_true rfl) ?_
                  refine v_goto 28 dX7_acts_183 (by decide) ?_
                  refine wV.locs (lv' := [(0, .ref (fw 0 0)), (1, .int (gI c)), (2, .int (gI a)), (3, .int (gI q)), (4, .int (gI b)), (5, .int (gI _)), (6, .int (gI _))]) ⟨rfl, rfl, rfl, rfl, rfl, rfl, rfl, trivial⟩ (ih _ _ _ _ (by omega) (by omega) hY hO hK (by omega) (by first | (exfalso; omega) | (rw [act_1 h1.1 (by omega) (by omega) (show (acY si c a) t from ⟨hed.elim (fun z => z.2) (fun z => absurd z.1 (by omega)), by omega, by omega⟩) hcs, h2, show min t (si 0 0 0) = t by omega]) | (rw [act_0 h1.1 (by omega) (by omega) (show ¬ (acY si c a) t from fun z => by first | exact hed.elim (fun y => absurd y.1 (by omega)) (fun y => y.2 z.1) | exact absurd z.2.1 (by omega) | exact absurd z.2.2 (by omega)) hcs, h2, show min t (si 0 0 0) = t by omega]; omega)) (fun q1 q2 => by first | (exfalso; omega) | exact h5 (by omega) q2 | exact ⟨t, ⟨by have z := (hed.elim (fun z => z.2) (fun z => absurd z.1 (by omega))).1; omega, (show (acY si c a) t from ⟨hed.elim (fun z => z.2) (fun z => absurd z.1 (by omega)), by omega, by omega⟩), by rw [show min t (si 0 0 0) = t by omega] at h2; omega⟩, by rw [hs154, ups_at, hs126, ups_at]; rfl, by rw [hs154, ups_at]; exact hv151⟩))
              · refine v_aloadn dX7_acts_123 rfl ?_
                refine v_iload dX7_acts_124 rfl ?_
                refine v_put dX7_acts_126 pf_X7_138 (hH 0 0 (by decide)) rfl rfl (Nat.le_of_ble_eq_true rfl) ?_
                generalize hMe126 : wup _ _ _ = M126
                have hO : wO cntY fw Mi M126 := by rw [← hMe126]; exact hO.up (k := 0) (i := 0) (by decide)
                obtain ⟨s126, hs126⟩ : ∃ z, z = ups s 0 0 (21) (t) := ⟨_, rfl⟩
                have hH : wH cntY (cellY G fw) fw s126 M126 := by rw [← hMe126, hs126]; exact wH.up hJ hH (k := 0) (i := 0) (21) (t) (by decide) rfl
                have hI : invY s126 := by rw [hs126]; exact invY_scr hI (by simp) (by omega)
                have hK : keepY si s126 := hK.tr (by rw [hs126]; exact keepY_up (by decide))
                have hY : wY G fw s126 M126 := ⟨hJ, hH, hI⟩
                have hsYs : srY s126 := srY_k hK hsY
                have h0 := hY.2.2.1
                have hrw := hY.2.2.2.1
                have hnm := hY.2.2.2.2.1
                have hsh := hY.2.2.2.2.2.1
                have hmk := hY.2.2.2.2.2.2.1
                have hic := hY.2.2.2.2.2.2.2.1
                have hcn := hY.2.2.2.2.2.2.2.2.1
                have hgt := hY.2.2.2.2.2.2.2.2.2
                refine v_aloadn dX7_acts_129 rfl ?_
                refine v_aloadn dX7_acts_130 rfl ?_
                refine v_iloadn dX7_acts_131 rfl ?_
                refine v_aloadn dX7_acts_132 rfl ?_
                refine v_iloadn dX7_acts_133 rfl ?_
                refine v_aloadn dX7_acts_134 rfl ?_
                refine v_get dX7_acts_135 gf_X7_48 (hH 0 0 (by decide)) rfl ?_
                refine v_iconst dX7_acts_138 ?_
                refine v_iloadn dX7_acts_139 rfl ?_
                refine v_imul dX7_acts_140 ?_
                refine v_iconst dX7_acts_141 ?_
                refine v_iadd dX7_acts_142 ?_
                refine v_iald dX7_acts_143 (hH 12 0 (by decide)) (by omega) (by omega) (by decide) ?_
                have hcc := hcn (4 * c + 3).toNat (by omega)
                have ech3 : s126 12 0 (4 * c + 3).toNat = chN si c 3 := by unfold chN; first | rfl | (rw [← hK.k (show (12 : Nat) ≠ 0 by decide)]; congr 1 <;> omega)
                refine v_callV (fX7_called hY (by omega) (by omega)) lc_X7_132 ⟨(Nat.le_of_ble_eq_true rfl), (Nat.le_of_ble_eq_true rfl)⟩ dX7_acts_144 rfl rfl (Nat.le_of_ble_eq_true rfl) ⟨(Nat.le_of_ble_eq_true rfl), (Nat.le_of_ble_eq_true rfl)⟩ ⟨_, _, _, _, hH 0 0 (by decide), rfl⟩ (kP fun r144 hr144 hp144 => ?_)
                have hp144 : bt 0 r144 11 ∧ (12 * a + r144).toNat = nmY si a (chN si c 3) := ⟨hp144.1, by have z := hp144.2; rw [ech3] at z; first | exact z | (unfold nmY at z ⊢; rw [hK.k (show (4 : Nat) ≠ 0 by decide)] at z; exact z)⟩
                refine v_iload dX7_acts_147 rfl ?_
                refine v_iconst dX7_acts_149 ?_
                refine v_isub dX7_acts_150 ?_
                refine v_callV (tX7_at hY (by omega) (by omega) (by omega)) lc_X7_83 ⟨(Nat.le_of_ble_eq_true rfl), (Nat.le_of_ble_eq_true rfl)⟩ dX7_acts_151 rfl rfl (Nat.le_of_ble_eq_true rfl) ⟨(Nat.le_of_ble_eq_true rfl), (Nat.le_of_ble_eq_true rfl)⟩ ⟨_, _, _, _, hH 0 0 (by decide), rfl⟩ (kP fun r151 hr151 hp151 => ?_)
                have hv151 := vY_atP (by omega) (hsYs _ (by omega)) hp151.2
                rw [vY_k hK, hp144.2] at hv151
                refine v_put dX7_acts_154 pf_X7_141 (hH 0 0 (by decide)) rfl rfl (Nat.le_of_ble_eq_true rfl) ?_
                generalize hMe154 : wup _ _ _ = M154
                have hO : wO cntY fw Mi M154 := by rw [← hMe154]; exact hO.up (k := 0) (i := 0) (by decide)
                obtain ⟨s154, hs154⟩ : ∃ z, z = ups s126 0 0 (22) (r151) := ⟨_, rfl⟩
                have hH : wH cntY (cellY G fw) fw s154 M154 := by rw [← hMe154, hs154]; exact wH.up hJ hH (k := 0) (i := 0) (22) (r151) (by decide) rfl
                have hI : invY s154 := by rw [hs154]; exact invY_scr hI (by simp) (by omega)
                have hK : keepY si s154 := hK.tr (by rw [hs154]; exact keepY_up (by decide))
                have hY : wY G fw s154 M154 := ⟨hJ, hH, hI⟩
                have hsYs : srY s154 := srY_k hK hsY
                have h0 := hY.2.2.1
                have hrw := hY.2.2.2.1
                have hnm := hY.2.2.2.2.1
                have hsh := hY.2.2.2.2.2.1
                have hmk := hY.2.2.2.2.2.2.1
                have hic := hY.2.2.2.2.2.2.2.1
                have hcn := hY.2.2.2.2.2.2.2.2.1
                have hgt := hY.2.2.2.2.2.2.2.2.2
                refine v_iload dX7_acts_157 rfl ?_
                refine v_iload dX7_acts_159 rfl ?_
                refine v_if_eq 168 dX7_acts_161 (by decide) (by omega) (fun h161 => ?_) (fun h161 => ?_)
                · refine v_iconst dX7_acts_168 ?_
                  refine v_iadd dX7_acts_169 ?_
                  refine v_istore dX7_acts_170 (Nat.le_of_ble_eq_true rfl) ?_
                  refine v_aloadn dX7_acts_172 rfl ?_
                  refine v_iloadn dX7_acts_173 rfl ?_
                  refine v_iload dX7_acts_174 rfl ?_
                  refine v_iload dX7_acts_176 rfl ?_
                  refine v_callV (fX7_nextChange hsYs hY (by omega) (by omega) (by omega) (by omega)) lc_X7_103 ⟨(Nat.le_of_ble_eq_true rfl), (Nat.le_of_ble_eq_true rfl)⟩ dX7_acts_178 rfl rfl (Nat.le_of_ble_eq_true rfl) ⟨(Nat.le_of_ble_eq_true rfl), (Nat.le_of_ble_eq_true rfl)⟩ ⟨_, _, _, _, hH 0 0 (by decide), rfl⟩ (kP fun r178 hr178 hp178 => ?_)
                  have hcs : ∀ v, t < v → v < r178 → ¬ (acY si c a) v := fun v v1 v2 z => by
                    have w1 := hp178.2 v (by omega) v2
                    have w2 := hp178.2 (v - 1) (by omega) (by omega)
                    rw [vY_k hK, vY_k hK, hbd] at w1 w2
                    exact ed_const (w1.trans w2.symm) z.1
                  refine v_istore dX7_acts_181 (Nat.le_of_ble_eq_true rfl) ?_
                  refine v_goto 28 dX7_acts_183 (by decide) ?_
                  refine wV.locs (lv' := [(0, .ref (fw 0 0)), (1, .int (gI c)), (2, .int (gI a)), (3, .int (gI q)), (4, .int (gI b)), (5, .int (gI _)), (6, .int (gI _))]) ⟨rfl, rfl, rfl, rfl, rfl, rfl, rfl, trivial⟩ (ih _ _ _ _ (by omega) (by omega) hY hO hK (by omega) (by first | (exfalso; omega) | (rw [act_1 h1.1 (by omega) (by omega) (show (acY si c a) t from ⟨hed.elim (fun z => z.2) (fun z => absurd z.1 (by omega)), by omega, by omega⟩) hcs, h2, show min t (si 0 0 0) = t by omega]) | (rw [act_0 h1.1 (by omega) (by omega) (show ¬ (acY si c a) t from fun z => by first | exact hed.elim (fun y => absurd y.1 (by omega)) (fun y => y.2 z.1) | exact absurd z.2.1 (by omega) | exact absurd z.2.2 (by omega)) hcs, h2, show min t (si 0 0 0) = t by omega]; omega)) (fun q1 q2 => by first | (exfalso; omega) | exact h5 (by omega) q2 | exact ⟨t, ⟨by have z := (hed.elim (fun z => z.2) (fun z => absurd z.1 (by omega))).1; omega, (show (acY si c a) t from ⟨hed.elim (fun z => z.2) (fun z => absurd z.1 (by omega)), by omega, by omega⟩), by rw [show min t (si 0 0 0) = t by omega] at h2; omega⟩, by rw [hs154, ups_at, hs126, ups_at]; rfl, by rw [hs154, ups_at]; exact hv151⟩))
                · refine v_iconst dX7_acts_164 ?_
                  refine v_goto 169 dX7_acts_165 (by decide) ?_
                  refine v_iadd dX7_acts_169 ?_
                  refine v_istore dX7_acts_170 (Nat.le_of_ble_eq_true rfl) ?_
                  refine v_aloadn dX7_acts_172 rfl ?_
                  refine v_iloadn dX7_acts_173 rfl ?_
                  refine v_iload dX7_acts_174 rfl ?_
                  refine v_iload dX7_acts_176 rfl ?_
                  refine v_callV (fX7_nextChange hsYs hY (by omega) (by omega) (by omega) (by omega)) lc_X7_103 ⟨(Nat.le_of_ble_eq_true rfl), (Nat.le_of_ble_eq_true rfl)⟩ dX7_acts_178 rfl rfl (Nat.le_of_ble_eq_true rfl) ⟨(Nat.le_of_ble_eq_true rfl), (Nat.le_of_ble_eq_true rfl)⟩ ⟨_, _, _, _, hH 0 0 (by decide), rfl⟩ (kP fun r178 hr178 hp178 => ?_)
                  have hcs : ∀ v, t < v → v < r178 → ¬ (acY si c a) v := fun v v1 v2 z => by
                    have w1 := hp178.2 v (by omega) v2
                    have w2 := hp178.2 (v - 1) (by omega) (by omega)
                    rw [vY_k hK, vY_k hK, hbd] at w1 w2
                    exact ed_const (w1.trans w2.symm) z.1
                  refine v_istore dX7_acts_181 (Nat.le_of_ble_eq_true rfl) ?_
                  refine v_goto 28 dX7_acts_183 (by decide) ?_
                  refine wV.locs (lv' := [(0, .ref (fw 0 0)), (1, .int (gI c)), (2, .int (gI a)), (3, .int (gI q)), (4, .int (gI b)), (5, .int (gI _)), (6, .int (gI _))]) ⟨rfl, rfl, rfl, rfl, rfl, rfl, rfl, trivial⟩ (ih _ _ _ _ (by omega) (by omega) hY hO hK (by omega) (by first | (exfalso; omega) | (rw [act_1 h1.1 (by omega) (by omega) (show (acY si c a) t from ⟨hed.elim (fun z => z.2) (fun z => absurd z.1 (by omega)), by omega, by omega⟩) hcs, h2, show min t (si 0 0 0) = t by omega]) | (rw [act_0 h1.1 (by omega) (by omega) (show ¬ (acY si c a) t from fun z => by first | exact hed.elim (fun y => absurd y.1 (by omega)) (fun y => y.2 z.1) | exact absurd z.2.1 (by omega) | exact absurd z.2.2 (by omega)) hcs, h2, show min t (si 0 0 0) = t by omega]; omega)) (fun q1 q2 => by first | (exfalso; omega) | exact h5 (by omega) q2 | exact ⟨t, ⟨by have z := (hed.elim (fun z => z.2) (fun z => absurd z.1 (by omega))).1; omega, (show (acY si c a) t from ⟨hed.elim (fun z => z.2) (fun z => absurd z.1 (by omega)), by omega, by omega⟩), by rw [show min t (si 0 0 0) = t by omega] at h2; omega⟩, by rw [hs154, ups_at, hs126, ups_at]; rfl, by rw [hs154, ups_at]; exact hv151⟩))
set_option maxHeartbeats 4000000 in
set_option maxRecDepth 100000 in
theorem fX7_acts {G : gG} {fw : Nat → Nat → Nat} {si : sG} {Mi : wM} (hsY : srY si) (hY : wY G fw si Mi) {c a q : Int} (hc : bt 0 c 3) (ha : bt 0 a 1) (hq : rng q) : wT G qX7_acts 0 0 [.ref (fw 0 0), .int (gI c), .int (gI a), .int (gI q)] Mi (PY G fw Mi (fun x s' => keepY si s' ∧ x = cA (acY si c a) (si 0 0 0) ∧ (q < x → 0 ≤ q → hitA (acY si c a) (daY si c a) (si 0 0 0) q s'))) := by
  refine wT.intro (by decide) (Nat.le_of_ble_eq_true rfl) (fun sz => ?_)
  have hO : wO cntY fw Mi Mi := wO.rf
  have hK : keepY si si := keepY.rf
  have h0 := hY.2.2.1
  have hrw := hY.2.2.2.1
  have hnm := hY.2.2.2.2.1
  have hsh := hY.2.2.2.2.2.1
  have hmk := hY.2.2.2.2.2.2.1
  have hic := hY.2.2.2.2.2.2.2.1
  have hcn := hY.2.2.2.2.2.2.2.2.1
  have hgt := hY.2.2.2.2.2.2.2.2.2
  have hsYs := hsY
  refine v_aloadn dX7_acts_0 rfl ?_
  refine v_iloadn dX7_acts_1 rfl ?_
  refine v_aloadn dX7_acts_2 rfl ?_
  refine v_get dX7_acts_3 gf_X7_48 (hY.2.1 0 0 (by decide)) rfl ?_
  refine v_iconst dX7_acts_6 ?_
  refine v_iloadn dX7_acts_7 rfl ?_
  refine v_imul dX7_acts_8 ?_
  refine v_iald dX7_acts_9 (hY.2.1 12 0 (by decide)) (by omega) (by omega) (by decide) ?_
  have hcc := hcn (4 * c).toNat (by omega)
  have ech0 : si 12 0 (4 * c).toNat = chN si c 0 := by unfold chN; first | rfl | (rw [← hK.k (show (12 : Nat) ≠ 0 by decide)]; congr 1 <;> omega)
  refine v_callV (fX7_called hY (by omega) (by omega)) lc_X7_132 ⟨(Nat.le_of_ble_eq_true rfl), (Nat.le_of_ble_eq_true rfl)⟩ dX7_acts_10 rfl rfl (Nat.le_of_ble_eq_true rfl) ⟨(Nat.le_of_ble_eq_true rfl), (Nat.le_of_ble_eq_true rfl)⟩ ⟨_, _, _, _, hY.2.1 0 0 (by decide), rfl⟩ (kP fun r10 hr10 hp10 => ?_)
  have hp10 : bt 0 r10 11 ∧ (12 * a + r10).toNat = nmY si a (chN si c 0) := ⟨hp10.1, by have z := hp10.2; rw [ech0] at z; first | exact z | (unfold nmY at z ⊢; rw [hK.k (show (4 : Nat) ≠ 0 by decide)] at z; exact z)⟩
  refine v_istore dX7_acts_13 (Nat.le_of_ble_eq_true rfl) ?_
  refine v_iconst dX7_acts_15 ?_
  refine v_istore dX7_acts_16 (Nat.le_of_ble_eq_true rfl) ?_
  refine v_aloadn dX7_acts_18 rfl ?_
  refine v_iloadn dX7_acts_19 rfl ?_
  refine v_iload dX7_acts_20 rfl ?_
  refine v_iconst dX7_acts_22 ?_
  refine v_callV (fX7_nextChange hsYs hY (by omega) (by omega) (by omega) (by omega)) lc_X7_103 ⟨(Nat.le_of_ble_eq_true rfl), (Nat.le_of_ble_eq_true rfl)⟩ dX7_acts_23 rfl rfl (Nat.le_of_ble_eq_true rfl) ⟨(Nat.le_of_ble_eq_true rfl), (Nat.le_of_ble_eq_true rfl)⟩ ⟨_, _, _, _, hY.2.1 0 0 (by decide), rfl⟩ (kP fun r23 hr23 hp23 => ?_)
  have hzz : ∀ v, 0 ≤ v → v < r23 → ¬ (acY si c a) v := fun v v1 v2 z => by
    have w1 := hp23.2 v (by omega) (by omega)
    have w2 := hp23.2 (v - 1) (by omega) (by omega)
    rw [hp10.2] at w1 w2
    exact ed_const (w1.trans w2.symm) z.1
  refine v_istore dX7_acts_26 (Nat.le_of_ble_eq_true rfl) ?_
  refine wV.locs (lv' := [(0, .ref (fw 0 0)), (1, .int (gI c)), (2, .int (gI a)), (3, .int (gI q)), (4, .int (gI _)), (5, .int (gI (0))), (6, .int (gI (_)))]) ⟨rfl, rfl, rfl, rfl, rfl, rfl, rfl, trivial⟩ (fX7_acts_loop hsY hY.2.2 hc ha hq (by omega) hp10.2 100010 _ _ _ _ (by omega) (by omega) hY hO hK (by omega) (by rw [cA_gap (t := 0) (by omega) (by omega) (fun v v1 v2 => hzz v v1 (by omega))]; exact (Sm_self _ _).symm) (fun q1 q2 => by omega))
set_option maxHeartbeats 4000000 in
set_option maxRecDepth 100000 in
theorem fX7_act {G : gG} {fw : Nat → Nat → Nat} {si : sG} {Mi : wM} (hsY : srY si) (hY : wY G fw si Mi) {c a n w : Int} (hc : rng c) (ha : rng a) (hn : rng n) (hw : rng w) : wT G qX7_act 0 0 [.ref (fw 0 0), .int (gI c), .int (gI a), .int (gI n), .int (gI w)] Mi (PY G fw Mi (fun x s' => keepY si s' ∧ ((¬ (bt 0 c 3 ∧ bt 0 a 1 ∧ -1 ≤ n ∧ bt 0 w 1) ∧ x = -1) ∨ ((bt 0 c 3 ∧ bt 0 a 1 ∧ -1 ≤ n ∧ bt 0 w 1) ∧ ((si 11 0 c.toNat = 0 ∧ x = -2) ∨ (si 11 0 c.toNat ≠ 0 ∧ anA (acY si c a) (daY si c a) (si 0 0 0) n w x)))))) := by
  refine wT.intro (by decide) (Nat.le_of_ble_eq_true rfl) (fun sz => ?_)
  have hO : wO cntY fw Mi Mi := wO.rf
  have hK : keepY si si := keepY.rf
  have h0 := hY.2.2.1
  have hrw := hY.2.2.2.1
  have hnm := hY.2.2.2.2.1
  have hsh := hY.2.2.2.2.2.1
  have hmk := hY.2.2.2.2.2.2.1
  have hic := hY.2.2.2.2.2.2.2.1
  have hcn := hY.2.2.2.2.2.2.2.2.1
  have hgt := hY.2.2.2.2.2.2.2.2.2
  have hsYs := hsY
  refine v_iloadn dX7_act_0 rfl ?_
  refine v_iconst dX7_act_1 ?_
  refine v_iconst dX7_act_2 ?_
  refine v_callS (tX7_in (by omega) (by omega) (by omega)) lc_X7_60 ⟨(Nat.le_of_ble_eq_true rfl), (Nat.le_of_ble_eq_true rfl)⟩ dX7_act_3 rfl rfl (Nat.le_of_ble_eq_true rfl) ⟨(Nat.le_of_ble_eq_true rfl), (Nat.le_of_ble_eq_true rfl)⟩ (kP fun r3 hr3 hp3 => ?_)
  refine v_if_eq 33 dX7_act_6 (by decide) (by omega) (fun h6 => ?_) (fun h6 => ?_)
  · refine v_iconst dX7_act_33 ?_
    exact v_iret dX7_act_34 rfl ⟨(Nat.le_of_ble_eq_true rfl), (Nat.le_of_ble_eq_true rfl)⟩ (by omega) ⟨si, hY, hO, hK, Or.inl ⟨by omega, by omega⟩⟩
  · refine v_iloadn dX7_act_9 rfl ?_
    refine v_iconst dX7_act_10 ?_
    refine v_iconst dX7_act_11 ?_
    refine v_callS (tX7_in (by omega) (by omega) (by omega)) lc_X7_60 ⟨(Nat.le_of_ble_eq_true rfl), (Nat.le_of_ble_eq_true rfl)⟩ dX7_act_12 rfl rfl (Nat.le_of_ble_eq_true rfl) ⟨(Nat.le_of_ble_eq_true rfl), (Nat.le_of_ble_eq_true rfl)⟩ (kP fun r12 hr12 hp12 => ?_)
    refine v_if_eq 33 dX7_act_15 (by decide) (by omega) (fun h15 => ?_) (fun h15 => ?_)
    · refine v_iconst dX7_act_33 ?_
      exact v_iret dX7_act_34 rfl ⟨(Nat.le_of_ble_eq_true rfl), (Nat.le_of_ble_eq_true rfl)⟩ (by omega) ⟨si, hY, hO, hK, Or.inl ⟨by omega, by omega⟩⟩
    · refine v_iloadn dX7_act_18 rfl ?_
      refine v_iconst dX7_act_19 ?_
      refine v_icmp_lt 33 dX7_act_20 (by decide) (by omega) (by omega) (fun h20 => ?_) (fun h20 => ?_)
      · refine v_iconst dX7_act_33 ?_
        exact v_iret dX7_act_34 rfl ⟨(Nat.le_of_ble_eq_true rfl), (Nat.le_of_ble_eq_true rfl)⟩ (by omega) ⟨si, hY, hO, hK, Or.inl ⟨by omega, by omega⟩⟩
      · refine v_iload dX7_act_23 rfl ?_
        refine v_iconst dX7_act_25 ?_
        refine v_iconst dX7_act_26 ?_
        refine v_callS (tX7_in (by omega) (by omega) (by omega)) lc_X7_60 ⟨(Nat.le_of_ble_eq_true rfl), (Nat.le_of_ble_eq_true rfl)⟩ dX7_act_27 rfl rfl (Nat.le_of_ble_eq_true rfl) ⟨(Nat.le_of_ble_eq_true rfl), (Nat.le_of_ble_eq_true rfl)⟩ (kP fun r27 hr27 hp27 => ?_)
        refine v_if_ne 35 dX7_act_30 (by decide) (by omega) (fun h30 => ?_) (fun h30 => ?_)
        · refine v_aloadn dX7_act_35 rfl ?_
          refine v_get dX7_act_36 gf_X7_44 (hY.2.1 0 0 (by decide)) rfl ?_
          refine v_iloadn dX7_act_39 rfl ?_
          refine v_zald dX7_act_40 (hY.2.1 11 0 (by decide)) (by omega) (by omega) (by decide) ?_
          have hicc := hic c.toNat (by omega)
          refine v_if_ne 47 dX7_act_41 (by decide) (by omega) (fun h41 => ?_) (fun h41 => ?_)
          · refine v_aloadn dX7_act_47 rfl ?_
            refine v_iloadn dX7_act_48 rfl ?_
            refine v_iloadn dX7_act_49 rfl ?_
            refine v_iloadn dX7_act_50 rfl ?_
            refine v_callV (fX7_acts hsYs hY (by omega) (by omega) (by omega)) lc_X7_144 ⟨(Nat.le_of_ble_eq_true rfl), (Nat.le_of_ble_eq_true rfl)⟩ dX7_act_51 rfl rfl (Nat.le_of_ble_eq_true rfl) ⟨(Nat.le_of_ble_eq_true rfl), (Nat.le_of_ble_eq_true rfl)⟩ ⟨_, _, _, _, hY.2.1 0 0 (by decide), rfl⟩ (kI fun r51 M51 hr51 hp51 => ?_)
            obtain ⟨s51, hY, hO51, hK51, hx51, hh51⟩ := hp51
            have hO := hO.tr hO51
            have hK := hK.tr hK51
            have hsYs : srY s51 := srY_k hK hsY
            have h0 := hY.2.2.1
            have hrw := hY.2.2.2.1
            have hnm := hY.2.2.2.2.1
            have hsh := hY.2.2.2.2.2.1
            have hmk := hY.2.2.2.2.2.2.1
            have hic := hY.2.2.2.2.2.2.2.1
            have hcn := hY.2.2.2.2.2.2.2.2.1
            have hgt := hY.2.2.2.2.2.2.2.2.2
            refine v_istore dX7_act_54 (Nat.le_of_ble_eq_true rfl) ?_
            refine v_iloadn dX7_act_56 rfl ?_
            refine v_if_ge 65 dX7_act_57 (by decide) (by omega) (fun h57 => ?_) (fun h57 => ?_)
            · refine v_iloadn dX7_act_65 rfl ?_
              refine v_iload dX7_act_66 rfl ?_
              refine v_icmp_lt 76 dX7_act_68 (by decide) (by omega) (by omega) (fun h68 => ?_) (fun h68 => ?_)
              · refine v_iload dX7_act_76 rfl ?_
                refine v_if_ne 88 dX7_act_78 (by decide) (by omega) (fun h78 => ?_) (fun h78 => ?_)
                · refine v_aloadn dX7_act_88 rfl ?_
                  refine v_get dX7_act_89 gf_X7_141 (hY.2.1 0 0 (by decide)) rfl ?_
                  exact v_iret dX7_act_92 rfl ⟨(Nat.le_of_ble_eq_true rfl), (Nat.le_of_ble_eq_true rfl)⟩ (by omega) (by
    first
      | exact ⟨_, hY, hO, hK, Or.inr ⟨by omega, Or.inr ⟨by omega, Or.inl ⟨by omega, hx51⟩⟩⟩⟩
      | exact ⟨_, hY, hO, hK, Or.inr ⟨by omega, Or.inr ⟨by omega, Or.inr ⟨by omega, Or.inl ⟨by omega, rfl⟩⟩⟩⟩⟩
      | (obtain ⟨t, t1, t2, t3⟩ := hh51 (by omega) (by omega); exact ⟨_, hY, hO, hK, Or.inr ⟨by omega, Or.inr ⟨by omega, Or.inr ⟨by omega, Or.inr ⟨t, t1, by first | (rw [if_pos (by omega)]; exact t2) | (rw [if_neg (by omega)]; exact t3)⟩⟩⟩⟩⟩))
                · refine v_aloadn dX7_act_81 rfl ?_
                  refine v_get dX7_act_82 gf_X7_138 (hY.2.1 0 0 (by decide)) rfl ?_
                  refine v_goto 92 dX7_act_85 (by decide) ?_
                  exact v_iret dX7_act_92 rfl ⟨(Nat.le_of_ble_eq_true rfl), (Nat.le_of_ble_eq_true rfl)⟩ (by omega) (by
    first
      | exact ⟨_, hY, hO, hK, Or.inr ⟨by omega, Or.inr ⟨by omega, Or.inl ⟨by omega, hx51⟩⟩⟩⟩
      | exact ⟨_, hY, hO, hK, Or.inr ⟨by omega, Or.inr ⟨by omega, Or.inr ⟨by omega, Or.inl ⟨by omega, rfl⟩⟩⟩⟩⟩
      | (obtain ⟨t, t1, t2, t3⟩ := hh51 (by omega) (by omega); exact ⟨_, hY, hO, hK, Or.inr ⟨by omega, Or.inr ⟨by omega, Or.inr ⟨by omega, Or.inr ⟨t, t1, by first | (rw [if_pos (by omega)]; exact t2) | (rw [if_neg (by omega)]; exact t3)⟩⟩⟩⟩⟩))
              · refine v_bipush dX7_act_71 (by decide) ?_
                refine v_goto 92 dX7_act_73 (by decide) ?_
                exact v_iret dX7_act_92 rfl ⟨(Nat.le_of_ble_eq_true rfl), (Nat.le_of_ble_eq_true rfl)⟩ (by omega) (by
    first
      | exact ⟨_, hY, hO, hK, Or.inr ⟨by omega, Or.inr ⟨by omega, Or.inl ⟨by omega, hx51⟩⟩⟩⟩
      | exact ⟨_, hY, hO, hK, Or.inr ⟨by omega, Or.inr ⟨by omega, Or.inr ⟨by omega, Or.inl ⟨by omega, rfl⟩⟩⟩⟩⟩
      | (obtain ⟨t, t1, t2, t3⟩ := hh51 (by omega) (by omega); exact ⟨_, hY, hO, hK, Or.inr ⟨by omega, Or.inr ⟨by omega, Or.inr ⟨by omega, Or.inr ⟨t, t1, by first | (rw [if_pos (by omega)]; exact t2) | (rw [if_neg (by omega)]; exact t3)⟩⟩⟩⟩⟩))
            · refine v_iload dX7_act_60 rfl ?_
              refine v_goto 92 dX7_act_62 (by decide) ?_
              exact v_iret dX7_act_92 rfl ⟨(Nat.le_of_ble_eq_true rfl), (Nat.le_of_ble_eq_true rfl)⟩ (by omega) (by
    first
      | exact ⟨_, hY, hO, hK, Or.inr ⟨by omega, Or.inr ⟨by omega, Or.inl ⟨by omega, hx51⟩⟩⟩⟩
      | exact ⟨_, hY, hO, hK, Or.inr ⟨by omega, Or.inr ⟨by omega, Or.inr ⟨by omega, Or.inl ⟨by omega, rfl⟩⟩⟩⟩⟩
      | (obtain ⟨t, t1, t2, t3⟩ := hh51 (by omega) (by omega); exact ⟨_, hY, hO, hK, Or.inr ⟨by omega, Or.inr ⟨by omega, Or.inr ⟨by omega, Or.inr ⟨t, t1, by first | (rw [if_pos (by omega)]; exact t2) | (rw [if_neg (by omega)]; exact t3)⟩⟩⟩⟩⟩))
          · refine v_bipush dX7_act_44 (by decide) ?_
            exact v_iret dX7_act_46 rfl ⟨(Nat.le_of_ble_eq_true rfl), (Nat.le_of_ble_eq_true rfl)⟩ (by omega) ⟨si, hY, hO, hK, Or.inr ⟨by omega, Or.inl ⟨by omega, rfl⟩⟩⟩
        · refine v_iconst dX7_act_33 ?_
          exact v_iret dX7_act_34 rfl ⟨(Nat.le_of_ble_eq_true rfl), (Nat.le_of_ble_eq_true rfl)⟩ (by omega) ⟨si, hY, hO, hK, Or.inl ⟨by omega, by omega⟩⟩
theorem acY_k {s s' : sG} (h : keepY s s') (c a : Int) : acY s' c a = acY s c a ∧ daY s' c a = daY s c a := by
  have e : ∀ b, nmY s' a b = nmY s a b := fun b => by unfold nmY; rw [h.k (show (4 : Nat) ≠ 0 by decide)]
  have e2 : ∀ k, chN s' c k = chN s c k := fun k => by unfold chN; rw [h.k (show (12 : Nat) ≠ 0 by decide)]
  have e3 : ∀ r, vY s' r = vY s r := fun r => funext (fun t => vY_k h r t)
  constructor
  · unfold acY
    rw [e2, e2, e2, e, e, e, e3, e3, e3]
  · funext t
    unfold daY
    rw [e2, e, e3]
set_option maxHeartbeats 4000000 in
set_option maxRecDepth 100000 in
theorem fX7_unlike_loop {sz : Nat} {M0 : wM} {G : gG} {fw : Nat → Nat → Nat} {si : sG} {Mi : wM} (hsY : srY si) {c d e : Int} (hc : bt 0 c 3) (ht : si 11 0 c.toNat ≠ 0) (hd : bt 0 d 100000 ∧ d = cA (acY si c 0) (si 0 0 0)) (he : bt 0 e 100000 ∧ e = cA (acY si c 1) (si 0 0 0)) : ∀ (k : Nat) (s : sG) (M : wM) (i : Int), 0 ≤ 200001 - i → 200001 - i < (k : Int) → (wY G fw s M) → (wO cntY fw Mi M) → (keepY si s) → (bt 0 i (d + e)) → (∀ j, 0 ≤ j → j < i → ∃ t p, atA (acY si c 0) (si 0 0 0) j t ∧ atA (acY si c 1) (si 0 0 0) j p ∧ agF ((daY si c 0) t) ((daY si c 1) p) (si 0 0 1) ≠ 0) → wV G qX7_unlike 0 0 sz M0 0 0 42 [(0, .ref (fw 0 0)), (1, .int (gI c)), (2, .int (gI d)), (3, .int (gI e)), (4, .int (gI i))] [] M (PY G fw Mi (fun x s' => keepY si s' ∧ ((¬ bt 0 c 3 ∧ x = -1) ∨ (bt 0 c 3 ∧ ((si 11 0 c.toNat = 0 ∧ x = -2) ∨ (si 11 0 c.toNat ≠ 0 ∧ ulP (acY si c 0) (acY si c 1) (daY si c 0) (daY si c 1) (si 0 0 1) (si 0 0 0) x)))))) := by
  intro k
  induction k with
  | zero =>
    intros
    omega
  | succ k ih =>
    intro s M i hmz hml hY hO hK h1 h5
    have h0 := hY.2.2.1
    have hrw := hY.2.2.2.1
    have hnm := hY.2.2.2.2.1
    have hsh := hY.2.2.2.2.2.1
    have hmk := hY.2.2.2.2.2.2.1
    have hic := hY.2.2.2.2.2.2.2.1
    have hcn := hY.2.2.2.2.2.2.2.2.1
    have hgt := hY.2.2.2.2.2.2.2.2.2
    have hsYs : srY s := srY_k hK hsY
    have pz : s 0 0 0 = si 0 0 0 := hK 0 0 0 (by omega)
    refine v_iload dX7_unlike_42 rfl ?_
    refine v_iloadn dX7_unlike_44 rfl ?_
    refine v_icmp_lt 54 dX7_unlike_45 (by decide) (by omega) (by omega) (fun h45 => ?_) (fun h45 => ?_)
    · refine v_iload dX7_unlike_54 rfl ?_
      refine v_iloadn dX7_unlike_56 rfl ?_
      refine v_icmp_ge 66 dX7_unlike_57 (by decide) (by omega) (by omega) (fun h57 => ?_) (fun h57 => ?_)
      · refine v_iload dX7_unlike_66 rfl ?_
        exact v_iret dX7_unlike_68 rfl ⟨(Nat.le_of_ble_eq_true rfl), (Nat.le_of_ble_eq_true rfl)⟩ (by omega) ⟨_, hY, hO, hK, Or.inr ⟨hc, Or.inr ⟨ht, Or.inr ⟨by omega, h5, by first | exact Or.inl ⟨by omega, by omega⟩ | exact Or.inr (Or.inl ⟨by omega, by omega⟩)⟩⟩⟩⟩
      · refine v_iload dX7_unlike_60 rfl ?_
        refine v_iloadn dX7_unlike_62 rfl ?_
        refine v_icmp_lt 69 dX7_unlike_63 (by decide) (by omega) (by omega) (fun h63 => ?_) (fun h63 => ?_)
        · refine v_aloadn dX7_unlike_69 rfl ?_
          refine v_iloadn dX7_unlike_70 rfl ?_
          refine v_iconst dX7_unlike_71 ?_
          refine v_iload dX7_unlike_72 rfl ?_
          refine v_callV (fX7_acts hsYs hY (by omega) (by omega) (by omega)) lc_X7_144 ⟨(Nat.le_of_ble_eq_true rfl), (Nat.le_of_ble_eq_true rfl)⟩ dX7_unlike_74 rfl rfl (Nat.le_of_ble_eq_true rfl) ⟨(Nat.le_of_ble_eq_true rfl), (Nat.le_of_ble_eq_true rfl)⟩ ⟨_, _, _, _, hY.2.1 0 0 (by decide), rfl⟩ (kI fun r74 M74 hr74 hp74 => ?_)
          obtain ⟨s74, hY, hO74, hK74, hx74, hh74⟩ := hp74
          rw [(acY_k hK c 0).1, (acY_k hK c 0).2, pz] at hh74
          rw [(acY_k hK c 0).1, pz] at hx74
          have hO := hO.tr hO74
          have hK := hK.tr hK74
          have hsYs : srY s74 := srY_k hK hsY
          have pz74 : s74 0 0 0 = si 0 0 0 := hK 0 0 0 (by omega)
          have h0 := hY.2.2.1
          have hrw := hY.2.2.2.1
          have hnm := hY.2.2.2.2.1
          have hsh := hY.2.2.2.2.2.1
          have hmk := hY.2.2.2.2.2.2.1
          have hic := hY.2.2.2.2.2.2.2.1
          have hcn := hY.2.2.2.2.2.2.2.2.1
          have hgt := hY.2.2.2.2.2.2.2.2.2
          refine v_istore dX7_unlike_77 (Nat.le_of_ble_eq_true rfl) ?_
          refine v_aloadn dX7_unlike_79 rfl ?_
          refine v_get dX7_unlike_80 gf_X7_141 (hY.2.1 0 0 (by decide)) rfl ?_
          have hv80 := h0.2.2.2.2.2.2.2
          refine v_istore dX7_unlike_83 (Nat.le_of_ble_eq_true rfl) ?_
          refine v_aloadn dX7_unlike_85 rfl ?_
          refine v_iloadn dX7_unlike_86 rfl ?_
          refine v_iconst dX7_unlike_87 ?_
          refine v_iload dX7_unlike_88 rfl ?_
          refine v_callV (fX7_acts hsYs hY (by omega) (by omega) (by omega)) lc_X7_144 ⟨(Nat.le_of_ble_eq_true rfl), (Nat.le_of_ble_eq_true rfl)⟩ dX7_unlike_90 rfl rfl (Nat.le_of_ble_eq_true rfl) ⟨(Nat.le_of_ble_eq_true rfl), (Nat.le_of_ble_eq_true rfl)⟩ ⟨_, _, _, _, hY.2.1 0 0 (by decide), rfl⟩ (kI fun r90 M90 hr90 hp90 => ?_)
          obtain ⟨s90, hY, hO90, hK90, hx90, hh90⟩ := hp90
          rw [(acY_k hK c 1).1, (acY_k hK c 1).2, pz74] at hh90
          rw [(acY_k hK c 1).1, pz74] at hx90
          have hO := hO.tr hO90
          have hK := hK.tr hK90
          have hsYs : srY s90 := srY_k hK hsY
          have pz90 : s90 0 0 0 = si 0 0 0 := hK 0 0 0 (by omega)
          have h0 := hY.2.2.1
          have hrw := hY.2.2.2.1
          have hnm := hY.2.2.2.2.1
          have hsh := hY.2.2.2.2.2.1
          have hmk := hY.2.2.2.2.2.2.1
          have hic := hY.2.2.2.2.2.2.2.1
          have hcn := hY.2.2.2.2.2.2.2.2.1
          have hgt := hY.2.2.2.2.2.2.2.2.2
          refine v_istore dX7_unlike_93 (Nat.le_of_ble_eq_true rfl) ?_
          refine v_aloadn dX7_unlike_95 rfl ?_
          refine v_iload dX7_unlike_96 rfl ?_
          refine v_aloadn dX7_unlike_98 rfl ?_
          refine v_get dX7_unlike_99 gf_X7_141 (hY.2.1 0 0 (by decide)) rfl ?_
          refine v_callV (tX7_agree hY (by omega) (by omega)) lc_X7_97 ⟨(Nat.le_of_ble_eq_true rfl), (Nat.le_of_ble_eq_true rfl)⟩ dX7_unlike_102 rfl rfl (Nat.le_of_ble_eq_true rfl) ⟨(Nat.le_of_ble_eq_true rfl), (Nat.le_of_ble_eq_true rfl)⟩ ⟨_, _, _, _, hY.2.1 0 0 (by decide), rfl⟩ (kP fun r102 hr102 hp102 => ?_)
          have hag := hp102.1
          rw [show s90 0 0 1 = si 0 0 1 from hK 0 0 1 (by omega)] at hag
          obtain ⟨t0, k1, k2, k3⟩ := hh74 (by omega) (by omega)
          obtain ⟨t1, k4, k5, k6⟩ := hh90 (by omega) (by omega)
          rw [k3, k6] at hag
          have hp102 := hp102.2
          refine v_if_ne 111 dX7_unlike_105 (by decide) (by omega) (fun h105 => ?_) (fun h105 => ?_)
          · have hall : ∀ j, 0 ≤ j → j < i + 1 → ∃ t p, atA (acY si c 0) (si 0 0 0) j t ∧ atA (acY si c 1) (si 0 0 0) j p ∧ agF ((daY si c 0) t) ((daY si c 1) p) (si 0 0 1) ≠ 0 := fun j j1 j2 => by
              rcases (show j < i ∨ j = i by omega) with z | z
              · exact h5 j j1 z
              · rw [z]; exact ⟨t0, t1, k1, k4, by omega⟩
            refine v_iinc dX7_unlike_111 rfl (Nat.le_of_ble_eq_true rfl) ?_
            refine v_goto 42 dX7_unlike_114 (by decide) ?_
            refine wV.locs (lv' := [(0, .ref (fw 0 0)), (1, .int (gI c)), (2, .int (gI d)), (3, .int (gI e)), (4, .int (gI (_)))]) ⟨rfl, rfl, rfl, rfl, rfl, trivial⟩ (ih _ _ _ (by omega) (by omega) hY hO hK (by omega) hall)
          · refine v_iload dX7_unlike_108 rfl ?_
            exact v_iret dX7_unlike_110 rfl ⟨(Nat.le_of_ble_eq_true rfl), (Nat.le_of_ble_eq_true rfl)⟩ (by omega) ⟨_, hY, hO, hK, Or.inr ⟨hc, Or.inr ⟨ht, Or.inr ⟨by omega, h5, Or.inr (Or.inr ⟨t0, t1, k1, k4, by omega⟩)⟩⟩⟩⟩
        · refine v_iload dX7_unlike_66 rfl ?_
          exact v_iret dX7_unlike_68 rfl ⟨(Nat.le_of_ble_eq_true rfl), (Nat.le_of_ble_eq_true rfl)⟩ (by omega) ⟨_, hY, hO, hK, Or.inr ⟨hc, Or.inr ⟨ht, Or.inr ⟨by omega, h5, by first | exact Or.inl ⟨by omega, by omega⟩ | exact Or.inr (Or.inl ⟨by omega, by omega⟩)⟩⟩⟩⟩
    · refine v_iload dX7_unlike_48 rfl ?_
      refine v_iloadn dX7_unlike_50 rfl ?_
      refine v_icmp_ge 117 dX7_unlike_51 (by decide) (by omega) (by omega) (fun h51 => ?_) (fun h51 => ?_)
      · refine v_bipush dX7_unlike_117 (by decide) ?_
        exact v_iret dX7_unlike_119 rfl ⟨(Nat.le_of_ble_eq_true rfl), (Nat.le_of_ble_eq_true rfl)⟩ (by omega) (by
      have hde : d = e := by
        rcases Int.lt_trichotomy d e with z | z | z
        · obtain ⟨t, p, z1, -, -⟩ := h5 d (by omega) (by omega)
          have := z1.in
          omega
        · exact z
        · obtain ⟨t, p, -, z2, -⟩ := h5 e (by omega) (by omega)
          have := z2.in
          omega
      exact ⟨_, hY, hO, hK, Or.inr ⟨hc, Or.inr ⟨ht, ul_all (n := d) (by omega) (by omega) (fun j j1 j2 => h5 j j1 (by omega))⟩⟩⟩)
      · refine v_iload dX7_unlike_54 rfl ?_
        refine v_iloadn dX7_unlike_56 rfl ?_
        refine v_icmp_ge 66 dX7_unlike_57 (by decide) (by omega) (by omega) (fun h57 => ?_) (fun h57 => ?_)
        · refine v_iload dX7_unlike_66 rfl ?_
          exact v_iret dX7_unlike_68 rfl ⟨(Nat.le_of_ble_eq_true rfl), (Nat.le_of_ble_eq_true rfl)⟩ (by omega) ⟨_, hY, hO, hK, Or.inr ⟨hc, Or.inr ⟨ht, Or.inr ⟨by omega, h5, by first | exact Or.inl ⟨by omega, by omega⟩ | exact Or.inr (Or.inl ⟨by omega, by omega⟩)⟩⟩⟩⟩
        · refine v_iload dX7_unlike_60 rfl ?_
          refine v_iloadn dX7_unlike_62 rfl ?_
          refine v_icmp_lt 69 dX7_unlike_63 (by decide) (by omega) (by omega) (fun h63 => ?_) (fun h63 => ?_)
          · refine v_aloadn dX7_unlike_69 rfl ?_
            refine v_iloadn dX7_unlike_70 rfl ?_
            refine v_iconst dX7_unlike_71 ?_
            refine v_iload dX7_unlike_72 rfl ?_
            refine v_callV (fX7_acts hsYs hY (by omega) (by omega) (by omega)) lc_X7_144 ⟨(Nat.le_of_ble_eq_true rfl), (Nat.le_of_ble_eq_true rfl)⟩ dX7_unlike_74 rfl rfl (Nat.le_of_ble_eq_true rfl) ⟨(Nat.le_of_ble_eq_true rfl), (Nat.le_of_ble_eq_true rfl)⟩ ⟨_, _, _, _, hY.2.1 0 0 (by decide), rfl⟩ (kI fun r74 M74 hr74 hp74 => ?_)
            obtain ⟨s74, hY, hO74, hK74, hx74, hh74⟩ := hp74
            rw [(acY_k hK c 0).1, (acY_k hK c 0).2, pz] at hh74
            rw [(acY_k hK c 0).1, pz] at hx74
            have hO := hO.tr hO74
            have hK := hK.tr hK74
            have hsYs : srY s74 := srY_k hK hsY
            have pz74 : s74 0 0 0 = si 0 0 0 := hK 0 0 0 (by omega)
            have h0 := hY.2.2.1
            have hrw := hY.2.2.2.1
            have hnm := hY.2.2.2.2.1
            have hsh := hY.2.2.2.2.2.1
            have hmk := hY.2.2.2.2.2.2.1
            have hic := hY.2.2.2.2.2.2.2.1
            have hcn := hY.2.2.2.2.2.2.2.2.1
            have hgt := hY.2.2.2.2.2.2.2.2.2
            refine v_istore dX7_unlike_77 (Nat.le_of_ble_eq_true rfl) ?_
            refine v_aloadn dX7_unlike_79 rfl ?_
            refine v_get dX7_unlike_80 gf_X7_141 (hY.2.1 0 0 (by decide)) rfl ?_
            have hv80 := h0.2.2.2.2.2.2.2
            refine v_istore dX7_unlike_83 (Nat.le_of_ble_eq_true rfl) ?_
            refine v_aloadn dX7_unlike_85 rfl ?_
            refine v_iloadn dX7_unlike_86 rfl ?_
            refine v_iconst dX7_unlike_87 ?_
            refine v_iload dX7_unlike_88 rfl ?_
            refine v_callV (fX7_acts hsYs hY (by omega) (by omega) (by omega)) lc_X7_144 ⟨(Nat.le_of_ble_eq_true rfl), (Nat.le_of_ble_eq_true rfl)⟩ dX7_unlike_90 rfl rfl (Nat.le_of_ble_eq_true rfl) ⟨(Nat.le_of_ble_eq_true rfl), (Nat.le_of_ble_eq_true rfl)⟩ ⟨_, _, _, _, hY.2.1 0 0 (by decide), rfl⟩ (kI fun r90 M90 hr90 hp90 => ?_)
            obtain ⟨s90, hY, hO90, hK90, hx90, hh90⟩ := hp90
            rw [(acY_k hK c 1).1, (acY_k hK c 1).2, pz74] at hh90
            rw [(acY_k hK c 1).1, pz74] at hx90
            have hO := hO.tr hO90
            have hK := hK.tr hK90
            have hsYs : srY s90 := srY_k hK hsY
            have pz90 : s90 0 0 0 = si 0 0 0 := hK 0 0 0 (by omega)
            have h0 := hY.2.2.1
            have hrw := hY.2.2.2.1
            have hnm := hY.2.2.2.2.1
            have hsh := hY.2.2.2.2.2.1
            have hmk := hY.2.2.2.2.2.2.1
            have hic := hY.2.2.2.2.2.2.2.1
            have hcn := hY.2.2.2.2.2.2.2.2.1
            have hgt := hY.2.2.2.2.2.2.2.2.2
            refine v_istore dX7_unlike_93 (Nat.le_of_ble_eq_true rfl) ?_
            refine v_aloadn dX7_unlike_95 rfl ?_
            refine v_iload dX7_unlike_96 rfl ?_
            refine v_aloadn dX7_unlike_98 rfl ?_
            refine v_get dX7_unlike_99 gf_X7_141 (hY.2.1 0 0 (by decide)) rfl ?_
            refine v_callV (tX7_agree hY (by omega) (by omega)) lc_X7_97 ⟨(Nat.le_of_ble_eq_true rfl), (Nat.le_of_ble_eq_true rfl)⟩ dX7_unlike_102 rfl rfl (Nat.le_of_ble_eq_true rfl) ⟨(Nat.le_of_ble_eq_true rfl), (Nat.le_of_ble_eq_true rfl)⟩ ⟨_, _, _, _, hY.2.1 0 0 (by decide), rfl⟩ (kP fun r102 hr102 hp102 => ?_)
            have hag := hp102.1
            rw [show s90 0 0 1 = si 0 0 1 from hK 0 0 1 (by omega)] at hag
            obtain ⟨t0, k1, k2, k3⟩ := hh74 (by omega) (by omega)
            obtain ⟨t1, k4, k5, k6⟩ := hh90 (by omega) (by omega)
            rw [k3, k6] at hag
            have hp102 := hp102.2
            refine v_if_ne 111 dX7_unlike_105 (by decide) (by omega) (fun h105 => ?_) (fun h105 => ?_)
            · have hall : ∀ j, 0 ≤ j → j < i + 1 → ∃ t p, atA (acY si c 0) (si 0 0 0) j t ∧ atA (acY si c 1) (si 0 0 0) j p ∧ agF ((daY si c 0) t) ((daY si c 1) p) (si 0 0 1) ≠ 0 := fun j j1 j2 => by
                rcases (show j < i ∨ j = i by omega) with z | z
                · exact h5 j j1 z
                · rw [z]; exact ⟨t0, t1, k1, k4, by omega⟩
              refine v_iinc dX7_unlike_111 rfl (Nat.le_of_ble_eq_true rfl) ?_
              refine v_goto 42 dX7_unlike_114 (by decide) ?_
              refine wV.locs (lv' := [(0, .ref (fw 0 0)), (1, .int (gI c)), (2, .int (gI d)), (3, .int (gI e)), (4, .int (gI (_)))]) ⟨rfl, rfl, rfl, rfl, rfl, trivial⟩ (ih _ _ _ (by omega) (by omega) hY hO hK (by omega) hall)
            · refine v_iload dX7_unlike_108 rfl ?_
              exact v_iret dX7_unlike_110 rfl ⟨(Nat.le_of_ble_eq_true rfl), (Nat.le_of_ble_eq_true rfl)⟩ (by omega) ⟨_, hY, hO, hK, Or.inr ⟨hc, Or.inr ⟨ht, Or.inr ⟨by omega, h5, Or.inr (Or.inr ⟨t0, t1, k1, k4, by omega⟩)⟩⟩⟩⟩
          · refine v_iload dX7_unlike_66 rfl ?_
            exact v_iret dX7_unlike_68 rfl ⟨(Nat.le_of_ble_eq_true rfl), (Nat.le_of_ble_eq_true rfl)⟩ (by omega) ⟨_, hY, hO, hK, Or.inr ⟨hc, Or.inr ⟨ht, Or.inr ⟨by omega, h5, by first | exact Or.inl ⟨by omega, by omega⟩ | exact Or.inr (Or.inl ⟨by omega, by omega⟩)⟩⟩⟩⟩
set_option maxHeartbeats 4000000 in
set_option maxRecDepth 100000 in
theorem fX7_unlike {G : gG} {fw : Nat → Nat → Nat} {si : sG} {Mi : wM} (hsY : srY si) (hY : wY G fw si Mi) {c : Int} (hc : rng c) : wT G qX7_unlike 0 0 [.ref (fw 0 0), .int (gI c)] Mi (PY G fw Mi (fun x s' => keepY si s' ∧ ((¬ bt 0 c 3 ∧ x = -1) ∨ (bt 0 c 3 ∧ ((si 11 0 c.toNat = 0 ∧ x = -2) ∨ (si 11 0 c.toNat ≠ 0 ∧ ulP (acY si c 0) (acY si c 1) (daY si c 0) (daY si c 1) (si 0 0 1) (si 0 0 0) x)))))) := by
  refine wT.intro (by decide) (Nat.le_of_ble_eq_true rfl) (fun sz => ?_)
  have hO : wO cntY fw Mi Mi := wO.rf
  have hK : keepY si si := keepY.rf
  have h0 := hY.2.2.1
  have hrw := hY.2.2.2.1
  have hnm := hY.2.2.2.2.1
  have hsh := hY.2.2.2.2.2.1
  have hmk := hY.2.2.2.2.2.2.1
  have hic := hY.2.2.2.2.2.2.2.1
  have hcn := hY.2.2.2.2.2.2.2.2.1
  have hgt := hY.2.2.2.2.2.2.2.2.2
  have hsYs := hsY
  refine v_iloadn dX7_unlike_0 rfl ?_
  refine v_iconst dX7_unlike_1 ?_
  refine v_iconst dX7_unlike_2 ?_
  refine v_callS (tX7_in (by omega) (by omega) (by omega)) lc_X7_60 ⟨(Nat.le_of_ble_eq_true rfl), (Nat.le_of_ble_eq_true rfl)⟩ dX7_unlike_3 rfl rfl (Nat.le_of_ble_eq_true rfl) ⟨(Nat.le_of_ble_eq_true rfl), (Nat.le_of_ble_eq_true rfl)⟩ (kP fun r3 hr3 hp3 => ?_)
  refine v_if_ne 11 dX7_unlike_6 (by decide) (by omega) (fun h6 => ?_) (fun h6 => ?_)
  · refine v_aloadn dX7_unlike_11 rfl ?_
    refine v_get dX7_unlike_12 gf_X7_44 (hY.2.1 0 0 (by decide)) rfl ?_
    refine v_iloadn dX7_unlike_15 rfl ?_
    refine v_zald dX7_unlike_16 (hY.2.1 11 0 (by decide)) (by omega) (by omega) (by decide) ?_
    have hicc := hic c.toNat (by omega)
    refine v_if_ne 23 dX7_unlike_17 (by decide) (by omega) (fun h17 => ?_) (fun h17 => ?_)
    · refine v_aloadn dX7_unlike_23 rfl ?_
      refine v_iloadn dX7_unlike_24 rfl ?_
      refine v_iconst dX7_unlike_25 ?_
      refine v_iconst dX7_unlike_26 ?_
      refine v_callV (fX7_acts hsYs hY (by omega) (by omega) (by omega)) lc_X7_144 ⟨(Nat.le_of_ble_eq_true rfl), (Nat.le_of_ble_eq_true rfl)⟩ dX7_unlike_27 rfl rfl (Nat.le_of_ble_eq_true rfl) ⟨(Nat.le_of_ble_eq_true rfl), (Nat.le_of_ble_eq_true rfl)⟩ ⟨_, _, _, _, hY.2.1 0 0 (by decide), rfl⟩ (kI fun r27 M27 hr27 hp27 => ?_)
      obtain ⟨s27, hY, hO27, hK27, hx27, -⟩ := hp27
      have hO := hO.tr hO27
      have hK := hK.tr hK27
      have hsYs : srY s27 := srY_k hK hsY
      have pz27 : s27 0 0 0 = si 0 0 0 := hK 0 0 0 (by omega)
      have hcr27 := cA_rg (Q := (acY si c 0)) (x := si 0 0 0) (by omega)
      have h0 := hY.2.2.1
      have hrw := hY.2.2.2.1
      have hnm := hY.2.2.2.2.1
      have hsh := hY.2.2.2.2.2.1
      have hmk := hY.2.2.2.2.2.2.1
      have hic := hY.2.2.2.2.2.2.2.1
      have hcn := hY.2.2.2.2.2.2.2.2.1
      have hgt := hY.2.2.2.2.2.2.2.2.2
      refine v_istoren dX7_unlike_30 (Nat.le_of_ble_eq_true rfl) ?_
      refine v_aloadn dX7_unlike_31 rfl ?_
      refine v_iloadn dX7_unlike_32 rfl ?_
      refine v_iconst dX7_unlike_33 ?_
      refine v_iconst dX7_unlike_34 ?_
      refine v_callV (fX7_acts hsYs hY (by omega) (by omega) (by omega)) lc_X7_144 ⟨(Nat.le_of_ble_eq_true rfl), (Nat.le_of_ble_eq_true rfl)⟩ dX7_unlike_35 rfl rfl (Nat.le_of_ble_eq_true rfl) ⟨(Nat.le_of_ble_eq_true rfl), (Nat.le_of_ble_eq_true rfl)⟩ ⟨_, _, _, _, hY.2.1 0 0 (by decide), rfl⟩ (kI fun r35 M35 hr35 hp35 => ?_)
      obtain ⟨s35, hY, hO35, hK35, hx35, -⟩ := hp35
      rw [(acY_k hK c 1).1, pz27] at hx35
      have hO := hO.tr hO35
      have hK := hK.tr hK35
      have hsYs : srY s35 := srY_k hK hsY
      have pz35 : s35 0 0 0 = si 0 0 0 := hK 0 0 0 (by omega)
      have hcr35 := cA_rg (Q := (acY si c 1)) (x := si 0 0 0) (by omega)
      have h0 := hY.2.2.1
      have hrw := hY.2.2.2.1
      have hnm := hY.2.2.2.2.1
      have hsh := hY.2.2.2.2.2.1
      have hmk := hY.2.2.2.2.2.2.1
      have hic := hY.2.2.2.2.2.2.2.1
      have hcn := hY.2.2.2.2.2.2.2.2.1
      have hgt := hY.2.2.2.2.2.2.2.2.2
      refine v_istoren dX7_unlike_38 (Nat.le_of_ble_eq_true rfl) ?_
      refine v_iconst dX7_unlike_39 ?_
      refine v_istore dX7_unlike_40 (Nat.le_of_ble_eq_true rfl) ?_
      refine wV.locs (lv' := [(0, .ref (fw 0 0)), (1, .int (gI c)), (2, .int (gI _)), (3, .int (gI _)), (4, .int (gI (0)))]) ⟨rfl, rfl, rfl, rfl, rfl, trivial⟩ (fX7_unlike_loop hsY (by omega) (by omega) (by omega) (by omega) 200010 _ _ _ (by omega) (by omega) hY hO hK (by omega) (fun j j1 j2 => by omega))
    · refine v_bipush dX7_unlike_20 (by decide) ?_
      exact v_iret dX7_unlike_22 rfl ⟨(Nat.le_of_ble_eq_true rfl), (Nat.le_of_ble_eq_true rfl)⟩ (by omega) ⟨si, hY, hO, hK, Or.inr ⟨by omega, Or.inl ⟨by omega, rfl⟩⟩⟩
  · refine v_iconst dX7_unlike_9 ?_
    exact v_iret dX7_unlike_10 rfl ⟨(Nat.le_of_ble_eq_true rfl), (Nat.le_of_ble_eq_true rfl)⟩ (by omega) ⟨si, hY, hO, hK, Or.inl ⟨by omega, by omega⟩⟩
