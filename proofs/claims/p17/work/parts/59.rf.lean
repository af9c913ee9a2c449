/-! a walk over the stretches: spans told so far, the one that is open -/
def spI (D : Int → Prop) (l e N n f t : Int) : Prop := (f = -1 ∧ n = N + cS D l e (min t e) ∧ (min t e = 0 ∨ min t e = e ∨ ¬ D (min t e - 1))) ∨ ((0 ≤ f ∧ f < min t e) ∧ (∀ v, f ≤ v → v < min t e → D v) ∧ (f = 0 ∨ ¬ D (f - 1)) ∧ n = N + cS D l e f)
theorem spI_0 {D : Int → Prop} {l e N : Int} (he : 0 ≤ e) : spI D l e N N (-1) 0 := Or.inl ⟨rfl, by rw [show min 0 e = 0 by omega, cS_0]; omega, Or.inl (by omega)⟩
theorem spI_on1 {D : Int → Prop} {l e N n f t x : Int} (h : spI D l e N n f t) (ht : 0 ≤ t) (hte : t < e) (hx : t < x) (hc : ∀ u, t ≤ u → u < x → (D u ↔ D t)) (hD : D t) (hf : f < 0) : spI D l e N n t x := by
  rcases h with ⟨a1, a2, a3⟩ | ⟨a1, -⟩
  · rw [show min t e = t by omega] at a2 a3
    exact Or.inr ⟨by omega, fun v v1 v2 => (hc v v1 (by omega)).mpr hD, by rcases a3 with c | c | c; exact Or.inl c; omega; exact Or.inr c, a2⟩
  · omega
theorem spI_on2 {D : Int → Prop} {l e N n f t x : Int} (h : spI D l e N n f t) (hte : t < e) (hx : t < x) (hc : ∀ u, t ≤ u → u < x → (D u ↔ D t)) (hD : D t) (hf : 0 ≤ f) : spI D l e N n f x := by
  rcases h with ⟨a1, -⟩ | ⟨a1, a2, a3, a4⟩
  · omega
  · refine Or.inr ⟨by omega, fun v v1 v2 => ?_, a3, a4⟩
    rcases (show v < t ∨ t ≤ v by omega) with c | c
    · exact a2 v v1 (by omega)
    · exact (hc v c (by omega)).mpr hD
theorem spI_off {D : Int → Prop} {l e N n f t x : Int} (hl : 1 ≤ l) (h : spI D l e N n f t) (ht : 0 ≤ t) (hte : t < e) (hx : t < x) (hc : ∀ u, t ≤ u → u < x → (D u ↔ D t)) (hD : ¬ D t) (hf : f < 0) : spI D l e N n f x := by
  rcases h with ⟨a1, a2, a3⟩ | ⟨a1, -⟩
  · rw [show min t e = t by omega] at a2
    have hn : ∀ v, t ≤ v → v < min x e → ¬ D v := fun v v1 v2 z => hD ((hc v v1 (by omega)).mp z)
    exact Or.inl ⟨a1, by rw [c_gap (t := t) hl ht (by omega) hn]; exact a2, Or.inr (Or.inr (hn _ (by omega) (by omega)))⟩
  · omega
theorem spI_end {D : Int → Prop} {l e N n f t x : Int} (hl : 1 ≤ l) (h : spI D l e N n f t) (hte : t < e) (hx : t < x) (hc : ∀ u, t ≤ u → u < x → (D u ↔ D t)) (hD : ¬ D t) (hf : 0 ≤ f) : spI D l e N (n + if l ≤ t - f then 1 else 0) (-1) x ∧ (l ≤ t - f → spP D l e (n - N) f t) := by
  rcases h with ⟨a1, -⟩ | ⟨a1, a2, a3, a4⟩
  · omega
  · rw [show min t e = t by omega] at a1 a2
    have hn : ∀ v, t ≤ v → v < min x e → ¬ D v := fun v v1 v2 z => hD ((hc v v1 (by omega)).mp z)
    refine ⟨Or.inl ⟨rfl, ?_, Or.inr (Or.inr (hn _ (by omega) (by omega)))⟩, fun q => ⟨by omega, a2, a3, Or.inr hD, q, by omega⟩⟩
    rw [c_gap (t := t) hl (by omega) (by omega) hn, c_run (t := t) hl a1.1 a1.2 (by omega) a2 a3 (Or.inr hD)]
    omega
theorem spI_fin1 {D : Int → Prop} {l e N n f t : Int} (h : spI D l e N n f t) (hte : e ≤ t) (hf : f < 0) : n = N + cS D l e e := by
  rcases h with ⟨a1, a2, -⟩ | ⟨a1, -⟩
  · rw [show min t e = e by omega] at a2
    exact a2
  · omega
theorem spI_fin2 {D : Int → Prop} {l e N n f t : Int} (hl : 1 ≤ l) (h : spI D l e N n f t) (hte : e ≤ t) (hf : 0 ≤ f) : (n + if l ≤ e - f then 1 else 0) = N + cS D l e e ∧ (l ≤ e - f → spP D l e (n - N) f e) := by
  rcases h with ⟨a1, -⟩ | ⟨a1, a2, a3, a4⟩
  · omega
  · rw [show min t e = e by omega] at a1 a2
    refine ⟨?_, fun q => ⟨by omega, a2, a3, Or.inl rfl, q, by omega⟩⟩
    rw [c_run (t := e) hl a1.1 a1.2 (by omega) a2 a3 (Or.inl rfl)]
    omega
theorem spI_rg {D : Int → Prop} {l e N n f t : Int} (h : spI D l e N n f t) (ht : 0 ≤ t) (he : 0 ≤ e) : bt (-1) f e ∧ bt N n (N + e) := by
  rcases h with ⟨a1, a2, -⟩ | ⟨a1, -, -, a4⟩
  · have := cS_rg (A := D) (l := l) (d := e) (x := min t e) (by omega)
    omega
  · have := cS_rg (A := D) (l := l) (d := e) (x := f) (by omega)
    omega
theorem spI_lt {D : Int → Prop} {l e N n f t : Int} (h : spI D l e N n f t) (hf : 0 ≤ f) : f < t ∧ f < e := by
  rcases h with ⟨a1, -⟩ | ⟨a1, -⟩ <;> omega
theorem keepY.k {s s' : sG} (h : keepY s s') {k : Nat} (hk : k ≠ 0) : s' k = s k := by
  funext i j
  exact h k i j (by omega)
theorem vY_k {s s' : sG} (h : keepY s s') (r : Nat) (t : Int) : vY s' r t = vY s r t := by
  unfold vY yT yV
  rw [h.k (show (1 : Nat) ≠ 0 by decide), h.k (show (2 : Nat) ≠ 0 by decide), h.k (show (3 : Nat) ≠ 0 by decide)]
theorem srY_k {s s' : sG} (h : keepY s s') (q : srY s) : srY s' := by
  intro r hr
  have := q r hr
  unfold yT at this ⊢
  rw [h.k (show (1 : Nat) ≠ 0 by decide), h.k (show (2 : Nat) ≠ 0 by decide)]
  exact this
theorem dY_k {s s' : sG} (h : keepY s s') (a b t : Int) : dY s' a b t ↔ dY s a b t := by
  have m : ∀ k : Nat, mY s' k t ↔ mY s k t := fun k => by
    unfold mY
    rw [vY_k h, h.k (show (8 : Nat) ≠ 0 by decide), h.k (show (9 : Nat) ≠ 0 by decide), h.k (show (10 : Nat) ≠ 0 by decide)]
  unfold dY
  rw [vY_k h, vY_k h, h.k (show (4 : Nat) ≠ 0 by decide), h.k (show (7 : Nat) ≠ 0 by decide), h 0 0 1 (by omega), h 0 0 8 (by omega)]
  exact and_congr Iff.rfl ⟨fun z k k1 k2 y => z k k1 k2 ((m k).mpr y), fun z k k1 k2 y => z k k1 k2 ((m k).mp y)⟩
def hitP (D : Nat → Int → Prop) (e q : Int) (s : sG) : Prop := ∃ o : Nat, o < 12 ∧ ∃ f t, nD D e o ≤ q ∧ spP (D o) 1 e (q - nD D e o) f t ∧ s 0 0 18 = (o : Int) ∧ s 0 0 19 = f ∧ s 0 0 20 = t
theorem hit_go {D : Nat → Int → Prop} {e q n a f t : Int} {s s' : sG} (ha : bt 0 a 11) (h : q < n → hitP D e q s) (hf1 : n = q → s' 0 0 18 = a ∧ s' 0 0 19 = f ∧ s' 0 0 20 = t) (hf2 : n ≠ q → s' 0 0 18 = s 0 0 18 ∧ s' 0 0 19 = s 0 0 19 ∧ s' 0 0 20 = s 0 0 20) (hn : nD D e a.toNat ≤ n) (hsp : spP (D a.toNat) 1 e (n - nD D e a.toNat) f t) : q < n + 1 → hitP D e q s' := by
  intro hq
  by_cases c : n = q
  · obtain ⟨e1, e2, e3⟩ := hf1 c
    subst c
    exact ⟨a.toNat, by omega, f, t, hn, hsp, by omega, e2, e3⟩
  · obtain ⟨e1, e2, e3⟩ := hf2 c
    obtain ⟨o, o1, f', t', o2, o3, o4, o5, o6⟩ := h (by omega)
    exact ⟨o, o1, f', t', o2, o3, by omega, by omega, by omega⟩
set_option maxHeartbeats 4000000 in
set_option maxRecDepth 100000 in
theorem fX7_found {G : gG} {fw : Nat → Nat → Nat} {si : sG} {Mi : wM} (hY : wY G fw si Mi) {n i a f t : Int} (hn : rng n) (hi : rng i) (ha : rng a) (hf : rng f) (ht : rng t) : wT G qX7_found 0 0 [.ref (fw 0 0), .int (gI n), .int (gI i), .int (gI a), .int (gI f), .int (gI t)] Mi (PY G fw Mi (fun x s' => keepY si s' ∧ x = 1 ∧ (n = i → s' 0 0 18 = a ∧ s' 0 0 19 = f ∧ s' 0 0 20 = t) ∧ (n ≠ i → s' 0 0 18 = si 0 0 18 ∧ s' 0 0 19 = si 0 0 19 ∧ s' 0 0 20 = si 0 0 20))) := by
  refine wT.intro (by decide) (Nat.le_of_ble_eq_true rfl) (fun sz => ?_)
  obtain ⟨hJ, hH, hI⟩ := id hY
  have hO : wO cntY fw Mi Mi := wO.rf
  have hK : keepY si si := keepY.rf
  refine v_iloadn dX7_found_0 rfl ?_
  refine v_iloadn dX7_found_1 rfl ?_
  refine v_icmp_ne 22 dX7_found_2 (by decide) (by omega) (by omega) (fun h2 => ?_) (fun h2 => ?_)
  · refine v_iconst dX7_found_22 ?_
    exact v_iret dX7_found_23 rfl ⟨(Nat.le_of_ble_eq_true rfl), (Nat.le_of_ble_eq_true rfl)⟩ (by omega) ⟨_, ⟨hJ, hH, hI⟩, hO, hK, rfl, fun q => by first | exact absurd q (by omega) | (rw [hs19, hs13, hs7, ups_at, ups_at, ups_at]; exact ⟨rfl, rfl, rfl⟩), fun q => by first | exact absurd q (by omega) | exact ⟨rfl, rfl, rfl⟩⟩
  · refine v_aloadn dX7_found_5 rfl ?_
    refine v_iloadn dX7_found_6 rfl ?_
    refine v_put dX7_found_7 pf_X7_120 (hH 0 0 (by decide)) rfl rfl (Nat.le_of_ble_eq_true rfl) ?_
    generalize hMe7 : wup _ _ _ = M7
    have hO : wO cntY fw Mi M7 := by rw [← hMe7]; exact hO.up (k := 0) (i := 0) (by decide)
    obtain ⟨s7, hs7⟩ : ∃ z, z = ups si 0 0 (18) (a) := ⟨_, rfl⟩
    have hH : wH cntY (cellY G fw) fw s7 M7 := by rw [← hMe7, hs7]; exact wH.up hJ hH (k := 0) (i := 0) (18) (a) (by decide) rfl
    have hI : invY s7 := by rw [hs7]; exact invY_scr hI (by simp) (by omega)
    have hK : keepY si s7 := hK.tr (by rw [hs7]; exact keepY_up (by decide))
    refine v_aloadn dX7_found_10 rfl ?_
    refine v_iload dX7_found_11 rfl ?_
    refine v_put dX7_found_13 pf_X7_123 (hH 0 0 (by decide)) rfl rfl (Nat.le_of_ble_eq_true rfl) ?_
    generalize hMe13 : wup _ _ _ = M13
    have hO : wO cntY fw Mi M13 := by rw [← hMe13]; exact hO.up (k := 0) (i := 0) (by decide)
    obtain ⟨s13, hs13⟩ : ∃ z, z = ups s7 0 0 (19) (f) := ⟨_, rfl⟩
    have hH : wH cntY (cellY G fw) fw s13 M13 := by rw [← hMe13, hs13]; exact wH.up hJ hH (k := 0) (i := 0) (19) (f) (by decide) rfl
    have hI : invY s13 := by rw [hs13]; exact invY_scr hI (by simp) (by omega)
    have hK : keepY si s13 := hK.tr (by rw [hs13]; exact keepY_up (by decide))
    refine v_aloadn dX7_found_16 rfl ?_
    refine v_iload dX7_found_17 rfl ?_
    refine v_put dX7_found_19 pf_X7_126 (hH 0 0 (by decide)) rfl rfl (Nat.le_of_ble_eq_true rfl) ?_
    generalize hMe19 : wup _ _ _ = M19
    have hO : wO cntY fw Mi M19 := by rw [← hMe19]; exact hO.up (k := 0) (i := 0) (by decide)
    obtain ⟨s19, hs19⟩ : ∃ z, z = ups s13 0 0 (20) (t) := ⟨_, rfl⟩
    have hH : wH cntY (cellY G fw) fw s19 M19 := by rw [← hMe19, hs19]; exact wH.up hJ hH (k := 0) (i := 0) (20) (t) (by decide) rfl
    have hI : invY s19 := by rw [hs19]; exact invY_scr hI (by simp) (by omega)
    have hK : keepY si s19 := hK.tr (by rw [hs19]; exact keepY_up (by decide))
    refine v_iconst dX7_found_22 ?_
    exact v_iret dX7_found_23 rfl ⟨(Nat.le_of_ble_eq_true rfl), (Nat.le_of_ble_eq_true rfl)⟩ (by omega) ⟨_, ⟨hJ, hH, hI⟩, hO, hK, rfl, fun q => by first | exact absurd q (by omega) | (rw [hs19, hs13, hs7, ups_at, ups_at, ups_at]; exact ⟨rfl, rfl, rfl⟩), fun q => by first | exact absurd q (by omega) | exact ⟨rfl, rfl, rfl⟩⟩
set_option maxHeartbeats 4000000 in
set_option maxRecDepth 100000 in
theorem fX7_spans_in {sz : Nat} {M0 : wM} {G : gG} {fw : Nat → Nat → Nat} {si : sG} {Mi : wM} (hsY : srY si) (hIi : invY si) {q a w : Int} (hq : rng q) (ha : bt 0 a 11) (hw : bt (-50) w 50) (hwd : w = shY si a.toNat) {Post : Option Value → wM → Prop} (hk : ∀ (s : sG) (M : wM) (n f t : Int), wY G fw s M → wO cntY fw Mi M → keepY si s → (si 0 0 0) ≤ t → bt (-1) f 4000 → bt 0 n 60000 → spI (dfY si a.toNat) 1 (si 0 0 0) (nD (dfY si) (si 0 0 0) a.toNat) n f t → (q < n → 0 ≤ q → hitP (dfY si) (si 0 0 0) q s) → wV G qX7_spans 0 0 sz M0 0 0 104 [(0, .ref (fw 0 0)), (1, .int (gI q)), (2, .int (gI n)), (3, .int (gI a)), (4, .int (gI w)), (5, .int (gI f))] [] M Post) : ∀ (k : Nat) (s : sG) (M : wM) (n f t : Int), 0 ≤ 100050 - t → 100050 - t < (k : Int) → (wY G fw s M) → (wO cntY fw Mi M) → (keepY si s) → (bt 0 t 100050) → (spI (dfY si a.toNat) 1 (si 0 0 0) (nD (dfY si) (si 0 0 0) a.toNat) n f t) → (q < n → 0 ≤ q → hitP (dfY si) (si 0 0 0) q s) → wV G qX7_spans 0 0 sz M0 0 0 29 [(0, .ref (fw 0 0)), (1, .int (gI q)), (2, .int (gI n)), (3, .int (gI a)), (4, .int (gI w)), (5, .int (gI f)), (6, .int (gI t))] [] M (Post) := by
  intro k
  induction k with
  | zero =>
    intros
    omega
  | succ k ih =>
    intro s M n f t hmz hml hY hO hK h1 h4 h5
    have h0 := hY.2.2.1
    have hrw := hY.2.2.2.1
    have hnm := hY.2.2.2.2.1
    have hsh := hY.2.2.2.2.2.1
    have hmk := hY.2.2.2.2.2.2.1
    have hic := hY.2.2.2.2.2.2.2.1
    have hcn := hY.2.2.2.2.2.2.2.2.1
    have hgt := hY.2.2.2.2.2.2.2.2.2
    have hsYs : srY s := srY_k hK hsY
    have p0 : s 0 0 0 = si 0 0 0 := hK 0 0 0 (by omega)
    have hrgs := spI_rg h4 h1.1 (by omega)
    have hlt := spI_lt h4
    have hND := nD_rg (D := dfY si) (e := si 0 0 0) (by omega) a.toNat
    have hNb : (si 0 0 0) * ((a.toNat : Nat) : Int) ≤ 4000 * 12 := Int.mul_le_mul (by omega) (by omega) (by omega) (by omega)
    refine v_iload dX7_spans_29 rfl ?_
    refine v_aloadn dX7_spans_31 rfl ?_
    refine v_get dX7_spans_32 gf_X7_7 (hY.2.1 0 0 (by decide)) rfl ?_
    refine v_icmp_ge 104 dX7_spans_35 (by decide) (by omega) (by omega) (fun h35 => ?_) (fun h35 => ?_)
    · refine wV.locs (lv' := [(0, .ref (fw 0 0)), (1, .int (gI q)), (2, .int (gI n)), (3, .int (gI a)), (4, .int (gI w)), (5, .int (gI f))]) ⟨rfl, rfl, rfl, rfl, rfl, rfl, trivial⟩ (hk _ _ _ _ t hY hO hK (by omega) (by omega) (by omega) h4 h5)
    · refine v_aloadn dX7_spans_38 rfl ?_
      refine v_iloadn dX7_spans_39 rfl ?_
      refine v_iload dX7_spans_40 rfl ?_
      refine v_iload dX7_spans_42 rfl ?_
      refine v_callV (fX7_differs hsYs hY (by omega) (by omega) (by omega)) lc_X7_110 ⟨(Nat.le_of_ble_eq_true rfl), (Nat.le_of_ble_eq_true rfl)⟩ dX7_spans_44 rfl rfl (Nat.le_of_ble_eq_true rfl) ⟨(Nat.le_of_ble_eq_true rfl), (Nat.le_of_ble_eq_true rfl)⟩ ⟨_, _, _, _, hY.2.1 0 0 (by decide), rfl⟩ (kP fun r44 hr44 hp44 => ?_)
      have hdd : ∀ u, (dY s a w u ↔ (dfY si a.toNat) u) := fun u => by rw [dY_k hK]; unfold dfY; rw [show ((a.toNat : Nat) : Int) = a by omega, ← hwd]
      rw [hdd] at hp44
      have hb44 : r44 = 0 ∨ r44 = 1 := hp44.elim (fun z => Or.inr z.1) (fun z => Or.inl z.1)
      have hd1 : r44 = 1 → (dfY si a.toNat) t := fun z => hp44.elim (fun y => y.2) (fun y => absurd y.1 (by omega))
      have hd0 : r44 = 0 → ¬ (dfY si a.toNat) t := fun z => hp44.elim (fun y => absurd y.1 (by omega)) (fun y => y.2)
      clear hp44
      refine v_istore dX7_spans_47 (Nat.le_of_ble_eq_true rfl) ?_
      refine v_iload dX7_spans_49 rfl ?_
      refine v_if_eq 63 dX7_spans_51 (by decide) (by omega) (fun h51 => ?_) (fun h51 => ?_)
      · refine v_iload dX7_spans_63 rfl ?_
        refine v_if_ne 90 dX7_spans_65 (by decide) (by omega) (fun h65 => ?_) (fun h65 => ?_)
        · refine v_aloadn dX7_spans_90 rfl ?_
          refine v_iloadn dX7_spans_91 rfl ?_
          refine v_iload dX7_spans_92 rfl ?_
          refine v_iload dX7_spans_94 rfl ?_
          refine v_callV (fX7_next (srY_k hK hsY) hY (by omega) (by omega) (by omega)) lc_X7_117 ⟨(Nat.le_of_ble_eq_true rfl), (Nat.le_of_ble_eq_true rfl)⟩ dX7_spans_96 rfl rfl (Nat.le_of_ble_eq_true rfl) ⟨(Nat.le_of_ble_eq_true rfl), (Nat.le_of_ble_eq_true rfl)⟩ ⟨_, _, _, _, hY.2.1 0 0 (by decide), rfl⟩ (kP fun r96 hr96 hp96 => ?_)
          have hcc : ∀ u, t ≤ u → u < r96 → ((dfY si a.toNat) u ↔ (dfY si a.toNat) t) := fun u u1 u2 => by have z := hp96.2 u u1 u2; rw [dY_k hK, dY_k hK] at z; unfold dfY; rw [show ((a.toNat : Nat) : Int) = a by omega, ← hwd]; exact z
          have hx96 := hp96.1
          clear hp96
          refine v_istore dX7_spans_99 (Nat.le_of_ble_eq_true rfl) ?_
          refine v_goto 29 dX7_spans_101 (by decide) ?_
          refine wV.locs (lv' := [(0, .ref (fw 0 0)), (1, .int (gI q)), (2, .int (gI _)), (3, .int (gI a)), (4, .int (gI w)), (5, .int (gI _)), (6, .int (gI _))]) ⟨rfl, rfl, rfl, rfl, rfl, rfl, rfl, trivial⟩ (ih _ _ _ _ _ (by omega) (by omega) hY hO hK (by omega) (by first | exact spI_on1 h4 (by omega) (by omega) (by omega) hcc (hd1 (by omega)) (by omega) | exact spI_on2 h4 (by omega) (by omega) hcc (hd1 (by omega)) (by omega) | exact spI_off (by omega) h4 (by omega) (by omega) (by omega) hcc (hd0 (by omega)) (by omega) | (have z := (spI_end (by omega) h4 (by omega) (by omega) hcc (hd0 (by omega)) (by omega)).1; rw [if_pos (by omega)] at z; rw [hx82]; exact z)) (by first | exact h5 | exact fun q1 q2 => by rw [hx82] at q1; exact hit_go ha (fun y => h5 y q2) hf82 hg82 (by omega) hsp82 q1 | (exfalso; omega)))
        · refine v_iload dX7_spans_68 rfl ?_
          refine v_if_lt 90 dX7_spans_70 (by decide) (by omega) (fun h70 => ?_) (fun h70 => ?_)
          · refine v_aloadn dX7_spans_90 rfl ?_
            refine v_iloadn dX7_spans_91 rfl ?_
            refine v_iload dX7_spans_92 rfl ?_
            refine v_iload dX7_spans_94 rfl ?_
            refine v_callV (fX7_next (srY_k hK hsY) hY (by omega) (by omega) (by omega)) lc_X7_117 ⟨(Nat.le_of_ble_eq_true rfl), (Nat.le_of_ble_eq_true rfl)⟩ dX7_spans_96 rfl rfl (Nat.le_of_ble_eq_true rfl) ⟨(Nat.le_of_ble_eq_true rfl), (Nat.le_of_ble_eq_true rfl)⟩ ⟨_, _, _, _, hY.2.1 0 0 (by decide), rfl⟩ (kP fun r96 hr96 hp96 => ?_)
            have hcc : ∀ u, t ≤ u → u < r96 → ((dfY si a.toNat) u ↔ (dfY si a.toNat) t) := fun u u1 u2 => by have z := hp96.2 u u1 u2; rw [dY_k hK, dY_k hK] at z; unfold dfY; rw [show ((a.toNat : Nat) : Int) = a by omega, ← hwd]; exact z
            have hx96 := hp96.1
            clear hp96
            refine v_istore dX7_spans_99 (Nat.le_of_ble_eq_true rfl) ?_
            refine v_goto 29 dX7_spans_101 (by decide) ?_
            refine wV.locs (lv' := [(0, .ref (fw 0 0)), (1, .int (gI q)), (2, .int (gI _)), (3, .int (gI a)), (4, .int (gI w)), (5, .int (gI _)), (6, .int (gI _))]) ⟨rfl, rfl, rfl, rfl, rfl, rfl, rfl, trivial⟩ (ih _ _ _ _ _ (by omega) (by omega) hY hO hK (by omega) (by first | exact spI_on1 h4 (by omega) (by omega) (by omega) hcc (hd1 (by omega)) (by omega) | exact spI_on2 h4 (by omega) (by omega) hcc (hd1 (by omega)) (by omega) | exact spI_off (by omega) h4 (by omega) (by omega) (by omega) hcc (hd0 (by omega)) (by omega) | (have z := (spI_end (by omega) h4 (by omega) (by omega) hcc (hd0 (by omega)) (by omega)).1; rw [if_pos (by omega)] at z; rw [hx82]; exact z)) (by first | exact h5 | exact fun q1 q2 => by rw [hx82] at q1; exact hit_go ha (fun y => h5 y q2) hf82 hg82 (by omega) hsp82 q1 | (exfalso; omega)))
          · refine v_iloadn dX7_spans_73 rfl ?_
            refine v_aloadn dX7_spans_74 rfl ?_
            refine v_iloadn dX7_spans_75 rfl ?_
            refine v_iloadn dX7_spans_76 rfl ?_
            refine v_iloadn dX7_spans_77 rfl ?_
            refine v_iload dX7_spans_78 rfl ?_
            refine v_iload dX7_spans_80 rfl ?_
            refine v_callV (fX7_found hY (by omega) (by omega) (by omega) (by omega) (by omega)) lc_X7_113 ⟨(Nat.le_of_ble_eq_true rfl), (Nat.le_of_ble_eq_true rfl)⟩ dX7_spans_82 rfl rfl (Nat.le_of_ble_eq_true rfl) ⟨(Nat.le_of_ble_eq_true rfl), (Nat.le_of_ble_eq_true rfl)⟩ ⟨_, _, _, _, hY.2.1 0 0 (by decide), rfl⟩ (kI fun r82 M82 hr82 hp82 => ?_)
            obtain ⟨s82, hY, hO82, hK82, hx82, hf82, hg82⟩ := hp82
            have hO := hO.tr hO82
            have hK := hK.tr hK82
            have hsYs : srY s82 := srY_k hK hsY
            have p0 : s82 0 0 0 = si 0 0 0 := hK 0 0 0 (by omega)
            have h0 := hY.2.2.1
            have hrw := hY.2.2.2.1
            have hnm := hY.2.2.2.2.1
            have hsh := hY.2.2.2.2.2.1
            have hmk := hY.2.2.2.2.2.2.1
            have hic := hY.2.2.2.2.2.2.2.1
            have hcn := hY.2.2.2.2.2.2.2.2.1
            have hgt := hY.2.2.2.2.2.2.2.2.2
            have hsp82 : spP (dfY si a.toNat) 1 (si 0 0 0) (n - (nD (dfY si) (si 0 0 0) a.toNat)) f t := (spI_end (x := t + 1) (by omega) h4 (by omega) (by omega) (fun u u1 u2 => by rw [show u = t by omega]) (hd0 (by omega)) (by omega)).2 (by omega)
            refine v_iadd dX7_spans_85 ?_
            refine v_istoren dX7_spans_86 (Nat.le_of_ble_eq_true rfl) ?_
            refine v_iconst dX7_spans_87 ?_
            refine v_istore dX7_spans_88 (Nat.le_of_ble_eq_true rfl) ?_
            refine v_aloadn dX7_spans_90 rfl ?_
            refine v_iloadn dX7_spans_91 rfl ?_
            refine v_iload dX7_spans_92 rfl ?_
            refine v_iload dX7_spans_94 rfl ?_
            refine v_callV (fX7_next (srY_k hK hsY) hY (by omega) (by omega) (by omega)) lc_X7_117 ⟨(Nat.le_of_ble_eq_true rfl), (Nat.le_of_ble_eq_true rfl)⟩ dX7_spans_96 rfl rfl (Nat.le_of_ble_eq_true rfl) ⟨(Nat.le_of_ble_eq_true rfl), (Nat.le_of_ble_eq_true rfl)⟩ ⟨_, _, _, _, hY.2.1 0 0 (by decide), rfl⟩ (kP fun r96 hr96 hp96 => ?_)
            have hcc : ∀ u, t ≤ u → u < r96 → ((dfY si a.toNat) u ↔ (dfY si a.toNat) t) := fun u u1 u2 => by have z := hp96.2 u u1 u2; rw [dY_k hK, dY_k hK] at z; unfold dfY; rw [show ((a.toNat : Nat) : Int) = a by omega, ← hwd]; exact z
            have hx96 := hp96.1
            clear hp96
            refine v_istore dX7_spans_99 (Nat.le_of_ble_eq_true rfl) ?_
            refine v_goto 29 dX7_spans_101 (by decide) ?_
            refine wV.locs (lv' := [(0, .ref (fw 0 0)), (1, .int (gI q)), (2, .int (gI _)), (3, .int (gI a)), (4, .int (gI w)), (5, .int (gI _)), (6, .int (gI _))]) ⟨rfl, rfl, rfl, rfl, rfl, rfl, rfl, trivial⟩ (ih _ _ _ _ _ (by omega) (by omega) hY hO hK (by omega) (by first | exact spI_on1 h4 (by omega) (by omega) (by omega) hcc (hd1 (by omega)) (by omega) | exact spI_on2 h4 (by omega) (by omega) hcc (hd1 (by omega)) (by omega) | exact spI_off (by omega) h4 (by omega) (by omega) (by omega) hcc (hd0 (by omega)) (by omega) | (have z := (spI_end (by omega) h4 (by omega) (by omega) hcc (hd0 (by omega)) (by omega)).1; rw [if_pos (by omega)] at z; rw [hx82]; exact z)) (by first | exact h5 | exact fun q1 q2 => by rw [hx82] at q1; exact hit_go ha (fun y => h5 y q2) hf82 hg82 (by omega) hsp82 q1 | (exfalso; omega)))
      · refine v_iload dX7_spans_54 rfl ?_
        refine v_if_ge 63 dX7_spans_56 (by decide) (by omega) (fun h56 => ?_) (fun h56 => ?_)
        · refine v_iload dX7_spans_63 rfl ?_
          refine v_if_ne 90 dX7_spans_65 (by decide) (by omega) (fun h65 => ?_) (fun h65 => ?_)
          · refine v_aloadn dX7_spans_90 rfl ?_
            refine v_iloadn dX7_spans_91 rfl ?_
            refine v_iload dX7_spans_92 rfl ?_
            refine v_iload dX7_spans_94 rfl ?_
            refine v_callV (fX7_next (srY_k hK hsY) hY (by omega) (by omega) (by omega)) lc_X7_117 ⟨(Nat.le_of_ble_eq_true rfl), (Nat.le_of_ble_eq_true rfl)⟩ dX7_spans_96 rfl rfl (Nat.le_of_ble_eq_true rfl) ⟨(Nat.le_of_ble_eq_true rfl), (Nat.le_of_ble_eq_true rfl)⟩ ⟨_, _, _, _, hY.2.1 0 0 (by decide), rfl⟩ (kP fun r96 hr96 hp96 => ?_)
            have hcc : ∀ u, t ≤ u → u < r96 → ((dfY si a.toNat) u ↔ (dfY si a.toNat) t) := fun u u1 u2 => by have z := hp96.2 u u1 u2; rw [dY_k hK, dY_k hK] at z; unfold dfY; rw [show ((a.toNat : Nat) : Int) = a by omega, ← hwd]; exact z
            have hx96 := hp96.1
            clear hp96
            refine v_istore dX7_spans_99 (Nat.le_of_ble_eq_true rfl) ?_
            refine v_goto 29 dX7_spans_101 (by decide) ?_
            refine wV.locs (lv' := [(0, .ref (fw 0 0)), (1, .int (gI q)), (2, .int (gI _)), (3, .int (gI a)), (4, .int (gI w)), (5, .int (gI _)), (6, .int (gI _))]) ⟨rfl, rfl, rfl, rfl, rfl, rfl, rfl, trivial⟩ (ih _ _ _ _ _ (by omega) (by omega) hY hO hK (by omega) (by first | exact spI_on1 h4 (by omega) (by omega) (by omega) hcc (hd1 (by omega)) (by omega) | exact spI_on2 h4 (by omega) (by omega) hcc (hd1 (by omega)) (by omega) | exact spI_off (by omega) h4 (by omega) (by omega) (by omega) hcc (hd0 (by omega)) (by omega) | (have z := (spI_end (by omega) h4 (by omega) (by omega) hcc (hd0 (by omega)) (by omega)).1; rw [if_pos (by omega)] at z; rw [hx82]; exact z)) (by first | exact h5 | exact fun q1 q2 => by rw [hx82] at q1; exact hit_go ha (fun y => h5 y q2) hf82 hg82 (by omega) hsp82 q1 | (exfalso; omega)))
          · refine v_iload dX7_spans_68 rfl ?_
            refine v_if_lt 90 dX7_spans_70 (by decide) (by omega) (fun h70 => ?_) (fun h70 => ?_)
            · refine v_aloadn dX7_spans_90 rfl ?_
              refine v_iloadn dX7_spans_91 rfl ?_
              refine v_iload dX7_spans_92 rfl ?_
              refine v_iload dX7_spans_94 rfl ?_
              refine v_callV (fX7_next (srY_k hK hsY) hY (by omega) (by omega) (by omega)) lc_X7_117 ⟨(Nat.le_of_ble_eq_true rfl), (Nat.le_of_ble_eq_true rfl)⟩ dX7_spans_96 rfl rfl (Nat.le_of_ble_eq_true rfl) ⟨(Nat.le_of_ble_eq_true rfl), (Nat.le_of_ble_eq_true rfl)⟩ ⟨_, _, _, _, hY.2.1 0 0 (by decide), rfl⟩ (kP fun r96 hr96 hp96 => ?_)
              have hcc : ∀ u, t ≤ u → u < r96 → ((dfY si a.toNat) u ↔ (dfY si a.toNat) t) := fun u u1 u2 => by have z := hp96.2 u u1 u2; rw [dY_k hK, dY_k hK] at z; unfold dfY; rw [show ((a.toNat : Nat) : Int) = a by omega, ← hwd]; exact z
              have hx96 := hp96.1
              clear hp96
              refine v_istore dX7_spans_99 (Nat.le_of_ble_eq_true rfl) ?_
              refine v_goto 29 dX7_spans_101 (by decide) ?_
              refine wV.locs (lv' := [(0, .ref (fw 0 0)), (1, .int (gI q)), (2, .int (gI _)), (3, .int (gI a)), (4, .int (gI w)), (5, .int (gI _)), (6, .int (gI _))]) ⟨rfl, rfl, rfl, rfl, rfl, rfl, rfl, trivial⟩ (ih _ _ _ _ _ (by omega) (by omega) hY hO hK (by omega) (by first | exact spI_on1 h4 (by omega) (by omega) (by omega) hcc (hd1 (by omega)) (by omega) | exact spI_on2 h4 (by omega) (by omega) hcc (hd1 (by omega)) (by omega) | exact spI_off (by omega) h4 (by omega) (by omega) (by omega) hcc (hd0 (by omega)) (by omega) | (have z := (spI_end (by omega) h4 (by omega) (by omega) hcc (hd0 (by omega)) (by omega)).1; rw [if_pos (by omega)] at z; rw [hx82]; exact z)) (by first | exact h5 | exact fun q1 q2 => by rw [hx82] at q1; exact hit_go ha (fun y => h5 y q2) hf82 hg82 (by omega) hsp82 q1 | (exfalso; omega)))
            · refine v_iloadn dX7_spans_73 rfl ?_
              refine v_aloadn dX7_spans_74 rfl ?_
              refine v_iloadn dX7_spans_75 rfl ?_
              refine v_iloadn dX7_spans_76 rfl ?_
              refine v_iloadn dX7_spans_77 rfl ?_
              refine v_iload dX7_spans_78 rfl ?_
              refine v_iload dX7_spans_80 rfl ?_
              refine v_callV (fX7_found hY (by omega) (by omega) (by omega) (by omega) (by omega)) lc_X7_113 ⟨(Nat.le_of_ble_eq_true rfl), (Nat.le_of_ble_eq_true rfl)⟩ dX7_spans_82 rfl rfl (Nat.le_of_ble_eq_true rfl) ⟨(Nat.le_of_ble_eq_true rfl), (Nat.le_of_ble_eq_true rfl)⟩ ⟨_, _, _, _, hY.2.1 0 0 (by decide), rfl⟩ (kI fun r82 M82 hr82 hp82 => ?_)
              obtain ⟨s82, hY, hO82, hK82, hx82, hf82, hg82⟩ := hp82
              have hO := hO.tr hO82
              have hK := hK.tr hK82
              have hsYs : srY s82 := srY_k hK hsY
              have p0 : s82 0 0 0 = si 0 0 0 := hK 0 0 0 (by omega)
              have h0 := hY.2.2.1
              have hrw := hY.2.2.2.1
              have hnm := hY.2.2.2.2.1
              have hsh := hY.2.2.2.2.2.1
              have hmk := hY.2.2.2.2.2.2.1
              have hic := hY.2.2.2.2.2.2.2.1
              have hcn := hY.2.2.2.2.2.2.2.2.1
              have hgt := hY.2.2.2.2.2.2.2.2.2
              have hsp82 : spP (dfY si a.toNat) 1 (si 0 0 0) (n - (nD (dfY si) (si 0 0 0) a.toNat)) f t := (spI_end (x := t + 1) (by omega) h4 (by omega) (by omega) (fun u u1 u2 => by rw [show u = t by omega]) (hd0 (by omega)) (by omega)).2 (by omega)
              refine v_iadd dX7_spans_85 ?_
              refine v_istoren dX7_spans_86 (Nat.le_of_ble_eq_true rfl) ?_
              refine v_iconst dX7_spans_87 ?_
              refine v_istore dX7_spans_88 (Nat.le_of_ble_eq_true rfl) ?_
              refine v_aloadn dX7_spans_90 rfl ?_
              refine v_iloadn dX7_spans_91 rfl ?_
              refine v_iload dX7_spans_92 rfl ?_
              refine v_iload dX7_spans_94 rfl ?_
              refine v_callV (fX7_next (srY_k hK hsY) hY (by omega) (by omega) (by omega)) lc_X7_117 ⟨(Nat.le_of_ble_eq_true rfl), (Nat.le_of_ble_eq_true rfl)⟩ dX7_spans_96 rfl rfl (Nat.le_of_ble_eq_true rfl) ⟨(Nat.le_of_ble_eq_true rfl), (Nat.le_of_ble_eq_true rfl)⟩ ⟨_, _, _, _, hY.2.1 0 0 (by decide), rfl⟩ (kP fun r96 hr96 hp96 => ?_)
              have hcc : ∀ u, t ≤ u → u < r96 → ((dfY si a.toNat) u ↔ (dfY si a.toNat) t) := fun u u1 u2 => by have z := hp96.2 u u1 u2; rw [dY_k hK, dY_k hK] at z; unfold dfY; rw [show ((a.toNat : Nat) : Int) = a by omega, ← hwd]; exact z
              have hx96 := hp96.1
              clear hp96
              refine v_istore dX7_spans_99 (Nat.le_of_ble_eq_true rfl) ?_
              refine v_goto 29 dX7_spans_101 (by decide) ?_
              refine wV.locs (lv' := [(0, .ref (fw 0 0)), (1, .int (gI q)), (2, .int (gI _)), (3, .int (gI a)), (4, .int (gI w)), (5, .int (gI _)), (6, .int (gI _))]) ⟨rfl, rfl, rfl, rfl, rfl, rfl, rfl, trivial⟩ (ih _ _ _ _ _ (by omega) (by omega) hY hO hK (by omega) (by first | exact spI_on1 h4 (by omega) (by omega) (by omega) hcc (hd1 (by omega)) (by omega) | exact spI_on2 h4 (by omega) (by omega) hcc (hd1 (by omega)) (by omega) | exact spI_off (by omega) h4 (by omega) (by omega) (by omega) hcc (hd0 (by omega)) (by omega) | (have z := (spI_end (by omega) h4 (by omega) (by omega) hcc (hd0 (by omega)) (by omega)).1; rw [if_pos (by omega)] at z; rw [hx82]; exact z)) (by first | exact h5 | exact fun q1 q2 => by rw [hx82] at q1; exact hit_go ha (fun y => h5 y q2) hf82 hg82 (by omega) hsp82 q1 | (exfalso; omega)))
        · refine v_iload dX7_spans_59 rfl ?_
          refine v_istore dX7_spans_61 (Nat.le_of_ble_eq_true rfl) ?_
          refine v_iload dX7_spans_63 rfl ?_
          refine v_if_ne 90 dX7_spans_65 (by decide) (by omega) (fun h65 => ?_) (fun h65 => ?_)
          · refine v_aloadn dX7_spans_90 rfl ?_
            refine v_iloadn dX7_spans_91 rfl ?_
            refine v_iload dX7_spans_92 rfl ?_
            refine v_iload dX7_spans_94 rfl ?_
            refine v_callV (fX7_next (srY_k hK hsY) hY (by omega) (by omega) (by omega)) lc_X7_117 ⟨(Nat.le_of_ble_eq_true rfl), (Nat.le_of_ble_eq_true rfl)⟩ dX7_spans_96 rfl rfl (Nat.le_of_ble_eq_true rfl) ⟨(Nat.le_of_ble_eq_true rfl), (Nat.le_of_ble_eq_true rfl)⟩ ⟨_, _, _, _, hY.2.1 0 0 (by decide), rfl⟩ (kP fun r96 hr96 hp96 => ?_)
            have hcc : ∀ u, t ≤ u → u < r96 → ((dfY si a.toNat) u ↔ (dfY si a.toNat) t) := fun u u1 u2 => by have z := hp96.2 u u1 u2; rw [dY_k hK, dY_k hK] at z; unfold dfY; rw [show ((a.toNat : Nat) : Int) = a by omega, ← hwd]; exact z
            have hx96 := hp96.1
            clear hp96
            refine v_istore dX7_spans_99 (Nat.le_of_ble_eq_true rfl) ?_
            refine v_goto 29 dX7_spans_101 (by decide) ?_
            refine wV.locs (lv' := [(0, .ref (fw 0 0)), (1, .int (gI q)), (2, .int (gI _)), (3, .int (gI a)), (4, .int (gI w)), (5, .int (gI _)), (6, .int (gI _))]) ⟨rfl, rfl, rfl, rfl, rfl, rfl, rfl, trivial⟩ (ih _ _ _ _ _ (by omega) (by omega) hY hO hK (by omega) (by first | exact spI_on1 h4 (by omega) (by omega) (by omega) hcc (hd1 (by omega)) (by omega) | exact spI_on2 h4 (by omega) (by omega) hcc (hd1 (by omega)) (by omega) | exact spI_off (by omega) h4 (by omega) (by omega) (by omega) hcc (hd0 (by omega)) (by omega) | (have z := (spI_end (by omega) h4 (by omega) (by omega) hcc (hd0 (by omega)) (by omega)).1; rw [if_pos (by omega)] at z; rw [hx82]; exact z)) (by first | exact h5 | exact fun q1 q2 => by rw [hx82] at q1; exact hit_go ha (fun y => h5 y q2) hf82 hg82 (by omega) hsp82 q1 | (exfalso; omega)))
          · refine v_iload dX7_spans_68 rfl ?_
            refine v_if_lt 90 dX7_spans_70 (by decide) (by omega) (fun h70 => ?_) (fun h70 => ?_)
            · refine v_aloadn dX7_spans_90 rfl ?_
              refine v_iloadn dX7_spans_91 rfl ?_
              refine v_iload dX7_spans_92 rfl ?_
              refine v_iload dX7_spans_94 rfl ?_
              refine v_callV (fX7_next (srY_k hK hsY) hY (by omega) (by omega) (by omega)) lc_X7_117 ⟨(Nat.le_of_ble_eq_true rfl), (Nat.le_of_ble_eq_true rfl)⟩ dX7_spans_96 rfl rfl (Nat.le_of_ble_eq_true rfl) ⟨(Nat.le_of_ble_eq_true rfl), (Nat.le_of_ble_eq_true rfl)⟩ ⟨_, _, _, _, hY.2.1 0 0 (by decide), rfl⟩ (kP fun r96 hr96 hp96 => ?_)
              have hcc : ∀ u, t ≤ u → u < r96 → ((dfY si a.toNat) u ↔ (dfY si a.toNat) t) := fun u u1 u2 => by have z := hp96.2 u u1 u2; rw [dY_k hK, dY_k hK] at z; unfold dfY; rw [show ((a.toNat : Nat) : Int) = a by omega, ← hwd]; exact z
              have hx96 := hp96.1
              clear hp96
              refine v_istore dX7_spans_99 (Nat.le_of_ble_eq_true rfl) ?_
              refine v_goto 29 dX7_spans_101 (by decide) ?_
              refine wV.locs (lv' := [(0, .ref (fw 0 0)), (1, .int (gI q)), (2, .int (gI _)), (3, .int (gI a)), (4, .int (gI w)), (5, .int (gI _)), (6, .int (gI _))]) ⟨rfl, rfl, rfl, rfl, rfl, rfl, rfl, trivial⟩ (ih _ _ _ _ _ (by omega) (by omega) hY hO hK (by omega) (by first | exact spI_on1 h4 (by omega) (by omega) (by omega) hcc (hd1 (by omega)) (by omega) | exact spI_on2 h4 (by omega) (by omega) hcc (hd1 (by omega)) (by omega) | exact spI_off (by omega) h4 (by omega) (by omega) (by omega) hcc (hd0 (by omega)) (by omega) | (have z := (spI_end (by omega) h4 (by omega) (by omega) hcc (hd0 (by omega)) (by omega)).1; rw [if_pos (by omega)] at z; rw [hx82]; exact z)) (by first | exact h5 | exact fun q1 q2 => by rw [hx82] at q1; exact hit_go ha (fun y => h5 y q2) hf82 hg82 (by omega) hsp82 q1 | (exfalso; omega)))
            · refine v_iloadn dX7_spans_73 rfl ?_
              refine v_aloadn dX7_spans_74 rfl ?_
              refine v_iloadn dX7_spans_75 rfl ?_
              refine v_iloadn dX7_spans_76 rfl ?_
              refine v_iloadn dX7_spans_77 rfl ?_
              refine v_iload dX7_spans_78 rfl ?_
              refine v_iload dX7_spans_80 rfl ?_
              refine v_callV (fX7_found hY (by omega) (by omega) (by omega) (by omega) (by omega)) lc_X7_113 ⟨(Nat.le_of_ble_eq_true rfl), (Nat.le_of_ble_eq_true rfl)⟩ dX7_spans_82 rfl rfl (Nat.le_of_ble_eq_true rfl) ⟨(Nat.le_of_ble_eq_true rfl), (Nat.le_of_ble_eq_true rfl)⟩ ⟨_, _, _, _, hY.2.1 0 0 (by decide), rfl⟩ (kI fun r82 M82 hr82 hp82 => ?_)
              obtain ⟨s82, hY, hO82, hK82, hx82, hf82, hg82⟩ := hp82
              have hO := hO.tr hO82
              have hK := hK.tr hK82
              have hsYs : srY s82 := srY_k hK hsY
              have p0 : s82 0 0 0 = si 0 0 0 := hK 0 0 0 (by omega)
              have h0 := hY.2.2.1
              have hrw := hY.2.2.2.1
              have hnm := hY.2.2.2.2.1
              have hsh := hY.2.2.2.2.2.1
              have hmk := hY.2.2.2.2.2.2.1
              have hic := hY.2.2.2.2.2.2.2.1
              have hcn := hY.2.2.2.2.2.2.2.2.1
              have hgt := hY.2.2.2.2.2.2.2.2.2
              have hsp82 : spP (dfY si a.toNat) 1 (si 0 0 0) (n - (nD (dfY si) (si 0 0 0) a.toNat)) f t := (spI_end (x := t + 1) (by omega) h4 (by omega) (by omega) (fun u u1 u2 => by rw [show u = t by omega]) (hd0 (by omega)) (by omega)).2 (by omega)
              refine v_iadd dX7_spans_85 ?_
              refine v_istoren dX7_spans_86 (Nat.le_of_ble_eq_true rfl) ?_
              refine v_iconst dX7_spans_87 ?_
              refine v_istore dX7_spans_88 (Nat.le_of_ble_eq_true rfl) ?_
              refine v_aloadn dX7_spans_90 rfl ?_
              refine v_iloadn dX7_spans_91 rfl ?_
              refine v_iload dX7_spans_92 rfl ?_
              refine v_iload dX7_spans_94 rfl ?_
              refine v_callV (fX7_next (srY_k hK hsY) hY (by omega) (by omega) (by omega)) lc_X7_117 ⟨(Nat.le_of_ble_eq_true rfl), (Nat.le_of_ble_eq_true rfl)⟩ dX7_spans_96 rfl rfl (Nat.le_of_ble_eq_true rfl) ⟨(Nat.le_of_ble_eq_true rfl), (Nat.le_of_ble_eq_true rfl)⟩ ⟨_, _, _, _, hY.2.1 0 0 (by decide), rfl⟩ (kP fun r96 hr96 hp96 => ?_)
              have hcc : ∀ u, t ≤ u → u < r96 → ((dfY si a.toNat) u ↔ (dfY si a.toNat) t) := fun u u1 u2 => by have z := hp96.2 u u1 u2; rw [dY_k hK, dY_k hK] at z; unfold dfY; rw [show ((a.toNat : Nat) : Int) = a by omega, ← hwd]; exact z
              have hx96 := hp96.1
              clear hp96
              refine v_istore dX7_spans_99 (Nat.le_of_ble_eq_true rfl) ?_
              refine v_goto 29 dX7_spans_101 (by decide) ?_
              refine wV.locs (lv' := [(0, .ref (fw 0 0)), (1, .int (gI q)), (2, .int (gI _)), (3, .int (gI a)), (4, .int (gI w)), (5, .int (gI _)), (6, .int (gI _))]) ⟨rfl, rfl, rfl, rfl, rfl, rfl, rfl, trivial⟩ (ih _ _ _ _ _ (by omega) (by omega) hY hO hK (by omega) (by first | exact spI_on1 h4 (by omega) (by omega) (by omega) hcc (hd1 (by omega)) (by omega) | exact spI_on2 h4 (by omega) (by omega) hcc (hd1 (by omega)) (by omega) | exact spI_off (by omega) h4 (by omega) (by omega) (by omega) hcc (hd0 (by omega)) (by omega) | (have z := (spI_end (by omega) h4 (by omega) (by omega) hcc (hd0 (by omega)) (by omega)).1; rw [if_pos (by omega)] at z; rw [hx82]; exact z)) (by first | exact h5 | exact fun q1 q2 => by rw [hx82] at q1; exact hit_go ha (fun y => h5 y q2) hf82 hg82 (by omega) hsp82 q1 | (exfalso; omega)))
set_option maxHeartbeats 4000000 in
set_option maxRecDepth 100000 in
theorem fX7_spans_out {sz : Nat} {M0 : wM} {G : gG} {fw : Nat → Nat → Nat} {si : sG} {Mi : wM} (hsY : srY si) (hIi : invY si) {q : Int} (hq : rng q) : ∀ (k : Nat) (s : sG) (M : wM) (n a : Int), 0 ≤ 12 - a → 12 - a < (k : Int) → (wY G fw s M) → (wO cntY fw Mi M) → (keepY si s) → (bt 0 a 12) → (n = nD (dfY si) (si 0 0 0) a.toNat) → (q < n → 0 ≤ q → hitP (dfY si) (si 0 0 0) q s) → wV G qX7_spans 0 0 sz M0 0 0 4 [(0, .ref (fw 0 0)), (1, .int (gI q)), (2, .int (gI n)), (3, .int (gI a))] [] M (PY G fw Mi (fun x s' => keepY si s' ∧ x = nD (dfY si) (si 0 0 0) 12 ∧ (q < x → 0 ≤ q → hitP (dfY si) (si 0 0 0) q s'))) := by
  intro k
  induction k with
  | zero =>
    intros
    omega
  | succ k ih =>
    intro s M n a hmz hml hY hO hK h1 h2 h3
    have h0 := hY.2.2.1
    have hrw := hY.2.2.2.1
    have hnm := hY.2.2.2.2.1
    have hsh := hY.2.2.2.2.2.1
    have hmk := hY.2.2.2.2.2.2.1
    have hic := hY.2.2.2.2.2.2.2.1
    have hcn := hY.2.2.2.2.2.2.2.2.1
    have hgt := hY.2.2.2.2.2.2.2.2.2
    have hsYs : srY s := srY_k hK hsY
    have p0 : s 0 0 0 = si 0 0 0 := hK 0 0 0 (by omega)
    have hND := nD_rg (D := dfY si) (e := si 0 0 0) (by omega) a.toNat
    have hNb : (si 0 0 0) * ((a.toNat : Nat) : Int) ≤ 4000 * 12 := Int.mul_le_mul (by omega) (by omega) (by omega) (by omega)
    refine v_iloadn dX7_spans_4 rfl ?_
    refine v_bipush dX7_spans_5 (by decide) ?_
    refine v_icmp_ge 131 dX7_spans_7 (by decide) (by omega) (by omega) (fun h7 => ?_) (fun h7 => ?_)
    · refine v_iloadn dX7_spans_131 rfl ?_
      exact v_iret dX7_spans_132 rfl ⟨(Nat.le_of_ble_eq_true rfl), (Nat.le_of_ble_eq_true rfl)⟩ (by omega) ⟨s, hY, hO, hK, by rw [h2, show a.toNat = 12 by omega], h3⟩
    · refine v_aloadn dX7_spans_10 rfl ?_
      refine v_get dX7_spans_11 gf_X7_29 (hY.2.1 0 0 (by decide)) rfl ?_
      refine v_aloadn dX7_spans_14 rfl ?_
      refine v_get dX7_spans_15 gf_X7_26 (hY.2.1 0 0 (by decide)) rfl ?_
      refine v_iloadn dX7_spans_18 rfl ?_
      refine v_iald dX7_spans_19 (hY.2.1 5 0 (by decide)) (by omega) (by omega) (by decide) ?_
      have hga := hnm a.toNat (by omega)
      refine v_iald dX7_spans_20 (hY.2.1 6 0 (by decide)) (by omega) (by omega) (by decide) ?_
      have hsa := hsh (s 5 0 a.toNat).toNat (by omega)
      refine v_istore dX7_spans_21 (Nat.le_of_ble_eq_true rfl) ?_
      refine v_iconst dX7_spans_23 ?_
      refine v_istore dX7_spans_24 (Nat.le_of_ble_eq_true rfl) ?_
      refine v_iconst dX7_spans_26 ?_
      refine v_istore dX7_spans_27 (Nat.le_of_ble_eq_true rfl) ?_
      refine wV.locs (lv' := [(0, .ref (fw 0 0)), (1, .int (gI q)), (2, .int (gI n)), (3, .int (gI a)), (4, .int (gI (s 6 0 (s 5 0 a.toNat).toNat))), (5, .int (gI (-1))), (6, .int (gI 0))]) ⟨rfl, rfl, rfl, rfl, rfl, rfl, rfl, trivial⟩ (fX7_spans_in hsY hIi hq (by omega) (by omega) (by unfold shY; rw [hK.k (show (6 : Nat) ≠ 0 by decide), hK.k (show (5 : Nat) ≠ 0 by decide)]) (fun s M n f t hY hO hK z1 z2 z3 z4 z5 => ?_) 100060 _ _ _ _ _ (by omega) (by omega) hY hO hK (by omega) (by rw [h2]; exact spI_0 (by omega)) h3)
      have h0 := hY.2.2.1
      have hrw := hY.2.2.2.1
      have hnm := hY.2.2.2.2.1
      have hsh := hY.2.2.2.2.2.1
      have hmk := hY.2.2.2.2.2.2.1
      have hic := hY.2.2.2.2.2.2.2.1
      have hcn := hY.2.2.2.2.2.2.2.2.1
      have hgt := hY.2.2.2.2.2.2.2.2.2
      have p0 : s 0 0 0 = si 0 0 0 := hK 0 0 0 (by omega)
      have p0s := p0
      have hnn : ∀ {y : Int}, y = (nD (dfY si) (si 0 0 0) a.toNat) + cS (dfY si a.toNat) 1 (si 0 0 0) (si 0 0 0) → y = nD (dfY si) (si 0 0 0) (a + 1).toNat := fun hy => by rw [show (a + 1).toNat = a.toNat + 1 by omega]; exact hy
      have hrgs := spI_rg z4 (by omega) (by omega)
      have hlt := spI_lt z4
      refine v_iload dX7_spans_104 rfl ?_
      refine v_if_lt 125 dX7_spans_106 (by decide) (by omega) (fun h106 => ?_) (fun h106 => ?_)
      · refine v_iinc dX7_spans_125 rfl (Nat.le_of_ble_eq_true rfl) ?_
        refine v_goto 4 dX7_spans_128 (by decide) ?_
        refine wV.locs (lv' := [(0, .ref (fw 0 0)), (1, .int (gI q)), (2, .int (gI _)), (3, .int (gI _))]) ⟨rfl, rfl, rfl, rfl, trivial⟩ (ih _ _ _ _ (by omega) (by omega) hY hO hK (by omega) (hnn (spI_fin1 z4 z1 (by omega))) z5)
      · refine v_iloadn dX7_spans_109 rfl ?_
        refine v_aloadn dX7_spans_110 rfl ?_
        refine v_iloadn dX7_spans_111 rfl ?_
        refine v_iloadn dX7_spans_112 rfl ?_
        refine v_iloadn dX7_spans_113 rfl ?_
        refine v_iload dX7_spans_114 rfl ?_
        refine v_aloadn dX7_spans_116 rfl ?_
        refine v_get dX7_spans_117 gf_X7_7 (hY.2.1 0 0 (by decide)) rfl ?_
        refine v_callV (fX7_found hY (by omega) (by omega) (by omega) (by omega) (by omega)) lc_X7_113 ⟨(Nat.le_of_ble_eq_true rfl), (Nat.le_of_ble_eq_true rfl)⟩ dX7_spans_120 rfl rfl (Nat.le_of_ble_eq_true rfl) ⟨(Nat.le_of_ble_eq_true rfl), (Nat.le_of_ble_eq_true rfl)⟩ ⟨_, _, _, _, hY.2.1 0 0 (by decide), rfl⟩ (kI fun r120 M120 hr120 hp120 => ?_)
        obtain ⟨s120, hY, hO120, hK120, hx120, hf120, hg120⟩ := hp120
        have hO := hO.tr hO120
        have hK := hK.tr hK120
        have hsYs : srY s120 := srY_k hK hsY
        have p0 : s120 0 0 0 = si 0 0 0 := hK 0 0 0 (by omega)
        have h0 := hY.2.2.1
        have hrw := hY.2.2.2.1
        have hnm := hY.2.2.2.2.1
        have hsh := hY.2.2.2.2.2.1
        have hmk := hY.2.2.2.2.2.2.1
        have hic := hY.2.2.2.2.2.2.2.1
        have hcn := hY.2.2.2.2.2.2.2.2.1
        have hgt := hY.2.2.2.2.2.2.2.2.2
        refine v_iadd dX7_spans_123 ?_
        refine v_istoren dX7_spans_124 (Nat.le_of_ble_eq_true rfl) ?_
        refine v_iinc dX7_spans_125 rfl (Nat.le_of_ble_eq_true rfl) ?_
        refine v_goto 4 dX7_spans_128 (by decide) ?_
        refine wV.locs (lv' := [(0, .ref (fw 0 0)), (1, .int (gI q)), (2, .int (gI _)), (3, .int (gI _))]) ⟨rfl, rfl, rfl, rfl, trivial⟩ (ih _ _ _ _ (by omega) (by omega) hY hO hK (by omega) (hnn (by have z := (spI_fin2 (by omega) z4 z1 (by omega)).1; rw [if_pos (by omega)] at z; rw [hx120]; exact z)) (fun q1 q2 => by rw [hx120] at q1; rw [p0s] at hf120; exact hit_go (by omega) (fun y => z5 y q2) hf120 hg120 (by omega) ((spI_fin2 (by omega) z4 z1 (by omega)).2 (by omega)) q1))
set_option maxHeartbeats 4000000 in
set_option maxRecDepth 100000 in
theorem fX7_spans {G : gG} {fw : Nat → Nat → Nat} {si : sG} {Mi : wM} (hsY : srY si) (hY : wY G fw si Mi) {q : Int} (hq : rng q) : wT G qX7_spans 0 0 [.ref (fw 0 0), .int (gI q)] Mi (PY G fw Mi (fun x s' => keepY si s' ∧ x = nD (dfY si) (si 0 0 0) 12 ∧ (q < x → 0 ≤ q → hitP (dfY si) (si 0 0 0) q s'))) := by
  refine wT.intro (by decide) (Nat.le_of_ble_eq_true rfl) (fun sz => ?_)
  have hO : wO cntY fw Mi Mi := wO.rf
  have hK : keepY si si := keepY.rf
  refine v_iconst dX7_spans_0 ?_
  refine v_istoren dX7_spans_1 (Nat.le_of_ble_eq_true rfl) ?_
  refine v_iconst dX7_spans_2 ?_
  refine v_istoren dX7_spans_3 (Nat.le_of_ble_eq_true rfl) ?_
  refine wV.locs (lv' := [(0, .ref (fw 0 0)), (1, .int (gI q)), (2, .int (gI (0))), (3, .int (gI (0)))]) ⟨rfl, rfl, rfl, rfl, trivial⟩ (fX7_spans_out hsY hY.2.2 hq 20 _ _ _ _ (by omega) (by omega) hY hO hK (by omega) rfl (fun q1 q2 => by omega))
set_option maxHeartbeats 4000000 in
set_option maxRecDepth 100000 in
theorem fX7_differences {G : gG} {fw : Nat → Nat → Nat} {si : sG} {Mi : wM} (hsY : srY si) (hY : wY G fw si Mi) : wT G qX7_differences 0 0 [.ref (fw 0 0)] Mi (PY G fw Mi (fun x s' => keepY si s' ∧ x = nD (dfY si) (si 0 0 0) 12)) := by
  refine wT.intro (by decide) (Nat.le_of_ble_eq_true rfl) (fun sz => ?_)
  have hO : wO cntY fw Mi Mi := wO.rf
  have hK : keepY si si := keepY.rf
  refine v_aloadn dX7_differences_0 rfl ?_
  refine v_iconst dX7_differences_1 ?_
  refine v_callV (fX7_spans hsY hY (by omega)) lc_X7_129 ⟨(Nat.le_of_ble_eq_true rfl), (Nat.le_of_ble_eq_true rfl)⟩ dX7_differences_2 rfl rfl (Nat.le_of_ble_eq_true rfl) ⟨(Nat.le_of_ble_eq_true rfl), (Nat.le_of_ble_eq_true rfl)⟩ ⟨_, _, _, _, hY.2.1 0 0 (by decide), rfl⟩ (kI fun r2 M2 hr2 hp2 => ?_)
  obtain ⟨s2, hY, hO2, hK2, hx2, hh2⟩ := hp2
  have hO := hO.tr hO2
  have hK := hK.tr hK2
  have h0 := hY.2.2.1
  have hrw := hY.2.2.2.1
  have hnm := hY.2.2.2.2.1
  have hsh := hY.2.2.2.2.2.1
  have hmk := hY.2.2.2.2.2.2.1
  have hic := hY.2.2.2.2.2.2.2.1
  have hcn := hY.2.2.2.2.2.2.2.2.1
  have hgt := hY.2.2.2.2.2.2.2.2.2
  exact v_iret dX7_differences_5 rfl ⟨(Nat.le_of_ble_eq_true rfl), (Nat.le_of_ble_eq_true rfl)⟩ (by omega) ⟨_, hY, hO, hK, hx2⟩
set_option maxHeartbeats 4000000 in
set_option maxRecDepth 100000 in
theorem fX7_difference {G : gG} {fw : Nat → Nat → Nat} {si : sG} {Mi : wM} (hsY : srY si) (hY : wY G fw si Mi) {a w : Int} (ha : rng a) (hw : rng w) : wT G qX7_difference 0 0 [.ref (fw 0 0), .int (gI a), .int (gI w)] Mi (PY G fw Mi (fun x s' => keepY si s' ∧ ((¬ (0 ≤ a ∧ bt 0 w 2) ∧ x = -1) ∨ ((0 ≤ a ∧ bt 0 w 2) ∧ dfP (dfY si) (si 0 0 0) a w x)))) := by
  refine wT.intro (by decide) (Nat.le_of_ble_eq_true rfl) (fun sz => ?_)
  have hO : wO cntY fw Mi Mi := wO.rf
  have hK : keepY si si := keepY.rf
  refine v_iloadn dX7_difference_0 rfl ?_
  refine v_if_lt 13 dX7_difference_1 (by decide) (by omega) (fun h1 => ?_) (fun h1 => ?_)
  · refine v_iconst dX7_difference_13 ?_
    exact v_iret dX7_difference_14 rfl ⟨(Nat.le_of_ble_eq_true rfl), (Nat.le_of_ble_eq_true rfl)⟩ (by omega) ⟨si, hY, hO, hK, Or.inl ⟨by omega, by omega⟩⟩
  · refine v_iloadn dX7_difference_4 rfl ?_
    refine v_iconst dX7_difference_5 ?_
    refine v_iconst dX7_difference_6 ?_
    refine v_callS (tX7_in (by omega) (by omega) (by omega)) lc_X7_60 ⟨(Nat.le_of_ble_eq_true rfl), (Nat.le_of_ble_eq_true rfl)⟩ dX7_difference_7 rfl rfl (Nat.le_of_ble_eq_true rfl) ⟨(Nat.le_of_ble_eq_true rfl), (Nat.le_of_ble_eq_true rfl)⟩ (kP fun r7 hr7 hp7 => ?_)
    refine v_if_ne 15 dX7_difference_10 (by decide) (by omega) (fun h10 => ?_) (fun h10 => ?_)
    · refine v_aloadn dX7_difference_15 rfl ?_
      refine v_iloadn dX7_difference_16 rfl ?_
      refine v_callV (fX7_spans hsY hY (by omega)) lc_X7_129 ⟨(Nat.le_of_ble_eq_true rfl), (Nat.le_of_ble_eq_true rfl)⟩ dX7_difference_17 rfl rfl (Nat.le_of_ble_eq_true rfl) ⟨(Nat.le_of_ble_eq_true rfl), (Nat.le_of_ble_eq_true rfl)⟩ ⟨_, _, _, _, hY.2.1 0 0 (by decide), rfl⟩ (kI fun r17 M17 hr17 hp17 => ?_)
      obtain ⟨s17, hY, hO17, hK17, hx17, hh17⟩ := hp17
      have hO := hO.tr hO17
      have hK := hK.tr hK17
      have h0 := hY.2.2.1
      have hrw := hY.2.2.2.1
      have hnm := hY.2.2.2.2.1
      have hsh := hY.2.2.2.2.2.1
      have hmk := hY.2.2.2.2.2.2.1
      have hic := hY.2.2.2.2.2.2.2.1
      have hcn := hY.2.2.2.2.2.2.2.2.1
      have hgt := hY.2.2.2.2.2.2.2.2.2
      refine v_iloadn dX7_difference_20 rfl ?_
      refine v_icmp_gt 27 dX7_difference_21 (by decide) (by omega) (by omega) (fun h21 => ?_) (fun h21 => ?_)
      · refine v_iloadn dX7_difference_27 rfl ?_
        refine v_if_ne 38 dX7_difference_28 (by decide) (by omega) (fun h28 => ?_) (fun h28 => ?_)
        · refine v_iloadn dX7_difference_38 rfl ?_
          refine v_iconst dX7_difference_39 ?_
          refine v_icmp_ne 50 dX7_difference_40 (by decide) (by omega) (by omega) (fun h40 => ?_) (fun h40 => ?_)
          · refine v_aloadn dX7_difference_50 rfl ?_
            refine v_get dX7_difference_51 gf_X7_126 (hY.2.1 0 0 (by decide)) rfl ?_
            exact v_iret dX7_difference_54 rfl ⟨(Nat.le_of_ble_eq_true rfl), (Nat.le_of_ble_eq_true rfl)⟩ (by omega) (by obtain ⟨o, o1, f, t, o2, o3, o4, o5, o6⟩ := hh17 (by omega) (by omega); exact ⟨_, hY, hO, hK, Or.inr ⟨by omega, Or.inr ⟨o, o1, f, t, o2, o3, by first | (rw [if_pos (by omega)]; exact o4) | (rw [if_neg (by omega), if_pos (by omega)]; exact o5) | (rw [if_neg (by omega), if_neg (by omega)]; exact o6)⟩⟩⟩)
          · refine v_aloadn dX7_difference_43 rfl ?_
            refine v_get dX7_difference_44 gf_X7_123 (hY.2.1 0 0 (by decide)) rfl ?_
            refine v_goto 54 dX7_difference_47 (by decide) ?_
            exact v_iret dX7_difference_54 rfl ⟨(Nat.le_of_ble_eq_true rfl), (Nat.le_of_ble_eq_true rfl)⟩ (by omega) (by obtain ⟨o, o1, f, t, o2, o3, o4, o5, o6⟩ := hh17 (by omega) (by omega); exact ⟨_, hY, hO, hK, Or.inr ⟨by omega, Or.inr ⟨o, o1, f, t, o2, o3, by first | (rw [if_pos (by omega)]; exact o4) | (rw [if_neg (by omega), if_pos (by omega)]; exact o5) | (rw [if_neg (by omega), if_neg (by omega)]; exact o6)⟩⟩⟩)
        · refine v_aloadn dX7_difference_31 rfl ?_
          refine v_get dX7_difference_32 gf_X7_120 (hY.2.1 0 0 (by decide)) rfl ?_
          refine v_goto 54 dX7_difference_35 (by decide) ?_
          exact v_iret dX7_difference_54 rfl ⟨(Nat.le_of_ble_eq_true rfl), (Nat.le_of_ble_eq_true rfl)⟩ (by omega) (by obtain ⟨o, o1, f, t, o2, o3, o4, o5, o6⟩ := hh17 (by omega) (by omega); exact ⟨_, hY, hO, hK, Or.inr ⟨by omega, Or.inr ⟨o, o1, f, t, o2, o3, by first | (rw [if_pos (by omega)]; exact o4) | (rw [if_neg (by omega), if_pos (by omega)]; exact o5) | (rw [if_neg (by omega), if_neg (by omega)]; exact o6)⟩⟩⟩)
      · refine v_bipush dX7_difference_24 (by decide) ?_
        exact v_iret dX7_difference_26 rfl ⟨(Nat.le_of_ble_eq_true rfl), (Nat.le_of_ble_eq_true rfl)⟩ (by omega) ⟨_, hY, hO, hK, Or.inr ⟨by omega, Or.inl ⟨by omega, rfl⟩⟩⟩
    · refine v_iconst dX7_difference_13 ?_
      exact v_iret dX7_difference_14 rfl ⟨(Nat.le_of_ble_eq_true rfl), (Nat.le_of_ble_eq_true rfl)⟩ (by omega) ⟨si, hY, hO, hK, Or.inl ⟨by omega, by omega⟩⟩
