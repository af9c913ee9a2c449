def itL (t0 len base step arr : Nat) (F : (Nat → dE) → Nat → (Nat → dE)) (D : Nat → dE) : Nat → Nat → dE
  | 0 => D
  | j + 1 => upD (F (itL t0 len base step arr F D j) (base + step * j)) arr (.inr (.inr (t0, len, j + 1, base, step)))
theorem itL_a {t0 len base step arr : Nat} {F : (Nat → dE) → Nat → (Nat → dE)} {D : Nat → dE} (h : D arr = .inr (.inr (t0, len, 0, base, step))) : ∀ j, itL t0 len base step arr F D j arr = .inr (.inr (t0, len, j, base, step))
  | 0 => h
  | j + 1 => by show upD _ _ _ _ = _; rw [upD_at]
theorem itL_o {t0 len base step arr : Nat} {F : (Nat → dE) → Nat → (Nat → dE)} {D : Nat → dE} {i : Nat} (hF : ∀ D p, i < p → F D p i = D i) (hi : i < base) (ha : i ≠ arr) : ∀ j, itL t0 len base step arr F D j i = D i
  | 0 => rfl
  | j + 1 => by
    show upD _ _ _ _ = _
    rw [upD_ne ha, hF _ _ (by omega)]
    exact itL_o hF hi ha j
def F_row (D : Nat → dE) (p : Nat) : Nat → dE := rowD (upD D p (.inl (4, [.inl none, .inl none, .inr 0]))) p (p + 1)
def F_mask (D : Nat → dE) (p : Nat) : Nat → dE := maskD (upD D p (.inl (2, [.inl none, .inr 0, .inl none, .inr 0]))) p (p + 1)
def F_pair (D : Nat → dE) (p : Nat) : Nat → dE := pairD (upD D p (.inl (3, [.inl none, .inl none, .inl none, .inr 0, .inr 0, .inr 0]))) p (p + 1)
def F_chan (D : Nat → dE) (p : Nat) : Nat → dE := upD D p (.inl (0, [.inr 0, .inr 0, .inr 0, .inr 0, .inr 0]))
def F_gate (D : Nat → dE) (p : Nat) : Nat → dE := upD (upD D 2 (.inr (.inl (0, 12, p - 126 + 1)))) p (.inl (1, [.inr 0, .inr 0, .inr 0]))
theorem F_row_o (D : Nat → dE) (p : Nat) {i : Nat} (h : i < p) : F_row D p i = D i := by unfold F_row rowD; rw [upD_ne (by omega), upD_ne (by omega), upD_ne (by omega), upD_ne (by omega)]
theorem F_mask_o (D : Nat → dE) (p : Nat) {i : Nat} (h : i < p) : F_mask D p i = D i := by unfold F_mask maskD rowD; rw [upD_ne (by omega), upD_ne (by omega), upD_ne (by omega), upD_ne (by omega), upD_ne (by omega), upD_ne (by omega)]
theorem F_pair_o (D : Nat → dE) (p : Nat) {i : Nat} (h : i < p) : F_pair D p i = D i := by unfold F_pair pairD rowD; rw [upD_ne (by omega), upD_ne (by omega), upD_ne (by omega), upD_ne (by omega), upD_ne (by omega), upD_ne (by omega)]
theorem F_chan_o (D : Nat → dE) (p : Nat) {i : Nat} (h : i < p) : F_chan D p i = D i := by unfold F_chan; rw [upD_ne (by omega)]
theorem F_gate_o (D : Nat → dE) (p : Nat) {i : Nat} (h2 : i ≠ 2) (h : i < p) : F_gate D p i = D i := by unfold F_gate; rw [upD_ne (by omega), upD_ne h2]
set_option maxHeartbeats 4000000 in
set_option maxRecDepth 100000 in
theorem tX5_init_loop {sz : Nat} {M0 : wM} {G : gG} {n k t : Nat} {ad : Nat → Nat} {D : Nat → dE} {Post : Option Value → wM → Prop} (hk : k < n) (ht : ad k = t) (hx : D k = .inl (5, [.inl (some (n)), .inr (0), .inr (0), .inr (0), .inr (0)])) (har : D (n) = .inr (.inr (6, 11, 0, n + 1, 4))) (hkk : ∀ ad' M', wB G (n + 1 + 4 * 11) ad' (itL 6 11 (n + 1) 4 (n) F_pair D (11)) M' → wS (n + 1) ad ad' → wV G qX5_init 45 1210 sz M0 (1 + 4 * 11) (11 + 109 * 11) 63 [(0, .ref t), (1, .int (gI ((11 : Nat) : Int)))] [] M' Post) : ∀ (r j : Nat) (ad1 : Nat → Nat) (M1 : wM), r + j = 11 → wB G (n + 1 + 4 * j) ad1 (itL 6 11 (n + 1) 4 (n) F_pair D (j)) M1 → wS (n + 1) ad ad1 → wV G qX5_init 45 1210 sz M0 (1 + 4 * j) (11 + 109 * j) 35 [(0, .ref t), (1, .int (gI (j : Int)))] [] M1 Post := by
  intro r
  induction r with
  | zero =>
    intro j ad1 M1 hr hB hS
    have hj : j = 11 := by omega
    have hDk : itL 6 11 (n + 1) 4 (n) F_pair D (j) k = .inl (5, [.inl (some (n)), .inr (0), .inr (0), .inr (0), .inr (0)]) := (itL_o (fun D p h => F_pair_o D p h) (by omega) (by omega) j).trans hx
    have hDa : itL 6 11 (n + 1) 4 (n) F_pair D (j) (n) = _ := itL_a har j
    refine v_iloadn dX5_init_35 rfl ?_
    refine v_aloadn dX5_init_36 rfl ?_
    refine v_get dX5_init_37 gf_X5_11 (hB.at (k := k) (by omega) ((hS k (by omega)).trans ht) hDk rfl) rfl ?_
    refine v_alen (ty := .int) (n := 11) dX5_init_40 (hB.at (k := n) (by omega) rfl hDa rfl) (by simp) rfl ?_
    refine v_icmp_ge 63 dX5_init_41 (by decide) (by omega) (by omega) (fun hge => ?_) (fun hge => ?_)
    · subst hj; exact hkk _ _ hB hS
    · exfalso; omega
  | succ r ih =>
    intro j ad1 M1 hr hB hS
    have hDk : itL 6 11 (n + 1) 4 (n) F_pair D (j) k = .inl (5, [.inl (some (n)), .inr (0), .inr (0), .inr (0), .inr (0)]) := (itL_o (fun D p h => F_pair_o D p h) (by omega) (by omega) j).trans hx
    have hDa : itL 6 11 (n + 1) 4 (n) F_pair D (j) (n) = _ := itL_a har j
    refine v_iloadn dX5_init_35 rfl ?_
    refine v_aloadn dX5_init_36 rfl ?_
    refine v_get dX5_init_37 gf_X5_11 (hB.at (k := k) (by omega) ((hS k (by omega)).trans ht) hDk rfl) rfl ?_
    refine v_alen (ty := .int) (n := 11) dX5_init_40 (hB.at (k := n) (by omega) rfl hDa rfl) (by simp) rfl ?_
    refine v_icmp_ge 63 dX5_init_41 (by decide) (by omega) (by omega) (fun hge => ?_) (fun hge => ?_)
    · exfalso; omega
    · skip
      obtain ⟨Dj, hDj⟩ : ∃ z, z = itL 6 11 (n + 1) 4 (n) F_pair D (j) := ⟨_, rfl⟩
      rw [← hDj] at hB hDk hDa
      refine v_aloadn dX5_init_44 rfl ?_
      refine v_get dX5_init_45 gf_X5_11 (hB.at (k := k) (by omega) ((hS k (by omega)).trans ht) hDk rfl) rfl ?_
      refine v_iloadn dX5_init_48 rfl ?_
      refine v_new dX5_init_49 ln_X5_9 (by omega) (by omega) (fun a hn => ?_)
      generalize hMe : wup _ _ _ = M2
      obtain ⟨ad2, hB, ha, hS2⟩ : ∃ ad', wB G (n + 1 + 4 * j + 1) ad' (upD Dj (n + 1 + 4 * j) (.inl (3, [.inl none, .inl none, .inl none, .inr (0), .inr (0), .inr (0)]))) M2 ∧ ad' (n + 1 + 4 * j) = a ∧ wS (n + 1 + 4 * j) ad1 ad' := by rw [← hMe]; exact hB.push (.inl (3, [.inl none, .inl none, .inl none, .inr (0), .inr (0), .inr (0)])) hn (fun _ => rfl) rfl
      subst ha
      obtain ⟨D2, hD2⟩ : ∃ z, z = upD Dj (n + 1 + 4 * j) (.inl (3, [.inl none, .inl none, .inl none, .inr (0), .inr (0), .inr (0)])) := ⟨_, rfl⟩
      rw [← hD2] at hB
      refine v_dup dX5_init_52 rfl ?_
      refine v_callIN (tX3_init hB (k := n + 1 + 4 * j) (by omega) rfl (by rw [hD2, upD_at])) lc_X5_30 ⟨(Nat.le_of_ble_eq_true rfl), (Nat.le_of_ble_eq_true rfl)⟩ dX5_init_53 rfl rfl (Nat.le_of_ble_eq_true rfl) ⟨by omega, by omega⟩ (kV fun M3 hp3 => ?_)
      obtain ⟨ad3, hB, hS3⟩ := hp3
      obtain ⟨D3, hD3⟩ : ∃ z, z = pairD D2 (n + 1 + 4 * j) (n + 1 + 4 * j + 1) := ⟨_, rfl⟩
      rw [← hD3] at hB
      have hA3 : D3 (n) = .inr (.inr (6, 11, j, n + 1, 4)) := by rw [hD3]; unfold pairD rowD; rw [upD_ne (by omega), upD_ne (by omega), upD_ne (by omega), upD_ne (by omega), upD_ne (by omega)]; rw [hD2, upD_ne (by omega)]; exact hDa
      have hP3 : ∃ vs, D3 (n + 1 + 4 * j) = .inl (3, vs) := ⟨_, by rw [hD3]; unfold pairD; rw [upD_at]⟩
      obtain ⟨vs, hP3⟩ := hP3
      have hS13 : wS (n + 1 + 4 * j) ad1 ad3 := hS2.tr hS3 (by omega)
      rw [show ad2 (n + 1 + 4 * j) = ad3 (n + 1 + 4 * j) from (hS3 _ (by omega)).symm, show rdV ad1 (.inl (some (n))) = Value.ref (ad3 (n)) from by show Value.ref (ad1 (n)) = Value.ref (ad3 (n)); rw [hS13 (n) (by omega)]]
      refine v_aast (i := j) (t0 := 6) (n := 11) dX5_init_56 (hB.at (k := n) (by omega) rfl hA3 rfl) (hB.at (k := n + 1 + 4 * j) (by omega) rfl hP3 rfl) rfl (Or.inr (Or.inr (Or.inr (Or.inr ⟨rfl, rfl⟩)))) (by omega) (by decide) ?_
      generalize hM4 : wup _ _ _ = M4
      have hB : wB G (n + 1 + 4 * j + 4) ad3 (upD D3 (n) (.inr (.inr (6, 11, j + 1, n + 1, 4)))) M4 := by rw [← hM4]; exact hB.set (k := n) (by omega) rfl (.inr (.inr (6, 11, j + 1, n + 1, 4))) (by rw [rd_up]; rfl) (by simp [rfE] <;> omega)
      rw [show upD D3 (n) (.inr (.inr (6, 11, j + 1, n + 1, 4))) = itL 6 11 (n + 1) 4 (n) F_pair D (j + 1) by rw [hD3, hD2, hDj]; rfl] at hB
      refine v_iinc dX5_init_57 rfl (Nat.le_of_ble_eq_true rfl) ?_
      refine v_goto 35 dX5_init_60 (by decide) ?_
      refine wV.locs (lv' := [(0, .ref t), (1, .int (gI ((j + 1 : Nat) : Int)))]) ⟨rfl, rfl, trivial⟩ (wV.wid (by omega) (by omega) (ih (j + 1) ad3 M4 (by omega) (by rw [show n + 1 + 4 * (j + 1) = n + 1 + 4 * j + 4 by omega]; exact hB) (hS.tr hS13 (by omega))))
def spansD (D : Nat → dE) (k n : Nat) : Nat → dE := itL 6 11 (n + 1) 4 n F_pair (upD (upD D n (.inr (.inr (6, 11, 0, n + 1, 4)))) k (.inl (5, [.inl (some (n)), .inr (0), .inr (0), .inr (0), .inr (0)]))) 11
set_option maxHeartbeats 4000000 in
set_option maxRecDepth 100000 in
theorem tX5_init {G : gG} {n k t : Nat} {ad : Nat → Nat} {D : Nat → dE} {M : wM} (hB : wB G n ad D M) (hk : k < n) (ht : ad k = t) (hDk : D k = .inl (5, [.inl none, .inr (0), .inr (0), .inr (0), .inr (0)])) : wT G qX5_init 45 1210 [.ref t] M (vP fun M' => ∃ ad', wB G (n + 1 + 4 * 11) ad' (spansD D k n) M' ∧ wS n ad ad') := by
  refine wT.intro (by decide) (Nat.le_of_ble_eq_true rfl) (fun sz => ?_)
  have hS : wS n ad ad := wS.rf
  refine v_aloadn dX5_init_0 rfl ?_
  refine v_objInit dX5_init_1 lo_X5 (Nat.le_of_ble_eq_true rfl) (Nat.le_of_ble_eq_true rfl) ?_
  refine v_aloadn dX5_init_4 rfl ?_
  refine v_bipush dX5_init_5 (by decide) ?_
  refine v_newq (n := 11) (t0 := 6) (Cn := "WavePairs$Pair") dX5_init_7 (by simp) lq_X5_9 lao_Pair (by decide) (Nat.le_of_ble_eq_true rfl) (Nat.le_of_ble_eq_true rfl) (fun a7 hn7 => ?_)
  generalize hMe7 : wup _ _ _ = M7
  obtain ⟨ad7, hB, ha7, hS7⟩ : ∃ ad', wB G (n + 1) ad' (upD D (n) (.inr (.inr (6, 11, 0, n + 1, 4)))) M7 ∧ ad' (n) = a7 ∧ wS (n) ad ad' := by rw [← hMe7]; exact hB.push (.inr (.inr (6, 11, 0, n + 1, 4))) hn7 (fun _ => rd_q0) (by simp [rfE, rfV] <;> omega)
  subst ha7
  have hS := hS.tr hS7 (by omega)
  obtain ⟨D7, hD7⟩ : ∃ z, z = upD D (n) (.inr (.inr (6, 11, 0, n + 1, 4))) := ⟨_, rfl⟩
  rw [← hD7] at hB
  have hDk : D7 k = .inl (5, [.inl none, .inr (0), .inr (0), .inr (0), .inr (0)]) := by rw [hD7, upD_ne (by omega)]; exact hDk
  have hArr : D7 (n) = .inr (.inr (6, 11, 0, n + 1, 4)) := by rw [hD7, upD_at]
  refine v_putF dX5_init_10 pf_X5_11 rfl (hB.at (k := k) (by omega) ((hS k hk).trans ht) hDk rfl) rfl rfl (Nat.le_of_ble_eq_true rfl) ?_
  generalize hMe10 : wup _ _ _ = M10
  have hB : wB G (n + 1) ad7 (upD D7 k (.inl (5, [.inl (some (n)), .inr (0), .inr (0), .inr (0), .inr (0)]))) M10 := by rw [← hMe10]; exact hB.set (k := k) (by omega) ((hS k hk).trans ht) (.inl (5, [.inl (some (n)), .inr (0), .inr (0), .inr (0), .inr (0)])) rfl (by simp [rfE, rfV] <;> omega)
  obtain ⟨D10, hD10⟩ : ∃ z, z = upD D7 k (.inl (5, [.inl (some (n)), .inr (0), .inr (0), .inr (0), .inr (0)])) := ⟨_, rfl⟩
  rw [← hD10] at hB
  have hDk : D10 k = .inl (5, [.inl (some (n)), .inr (0), .inr (0), .inr (0), .inr (0)]) := by rw [hD10, upD_at]
  have hArr : D10 (n) = .inr (.inr (6, 11, 0, n + 1, 4)) := by rw [hD10, upD_ne (by omega)]; exact hArr
  refine v_aloadn dX5_init_13 rfl ?_
  refine v_iconst dX5_init_14 ?_
  refine v_put dX5_init_15 pf_X5_17 (hB.at (k := k) (by omega) ((hS k hk).trans ht) hDk rfl) rfl rfl (Nat.le_of_ble_eq_true rfl) ?_
  generalize hMe15 : wup _ _ _ = M15
  have hB : wB G (n + 1) ad7 (upD D10 k (.inl (5, [.inl (some (n)), .inr (0), .inr (0), .inr (0), .inr (0)]))) M15 := by rw [← hMe15]; exact hB.set (k := k) (by omega) ((hS k hk).trans ht) (.inl (5, [.inl (some (n)), .inr (0), .inr (0), .inr (0), .inr (0)])) rfl (by simp [rfE, rfV] <;> omega)
  obtain ⟨D15, hD15⟩ : ∃ z, z = upD D10 k (.inl (5, [.inl (some (n)), .inr (0), .inr (0), .inr (0), .inr (0)])) := ⟨_, rfl⟩
  rw [← hD15] at hB
  have hDk : D15 k = .inl (5, [.inl (some (n)), .inr (0), .inr (0), .inr (0), .inr (0)]) := by rw [hD15, upD_at]
  have hArr : D15 (n) = .inr (.inr (6, 11, 0, n + 1, 4)) := by rw [hD15, upD_ne (by omega)]; exact hArr
  refine v_aloadn dX5_init_18 rfl ?_
  refine v_iconst dX5_init_19 ?_
  refine v_put dX5_init_20 pf_X5_21 (hB.at (k := k) (by omega) ((hS k hk).trans ht) hDk rfl) rfl rfl (Nat.le_of_ble_eq_true rfl) ?_
  generalize hMe20 : wup _ _ _ = M20
  have hB : wB G (n + 1) ad7 (upD D15 k (.inl (5, [.inl (some (n)), .inr (0), .inr (0), .inr (0), .inr (0)]))) M20 := by rw [← hMe20]; exact hB.set (k := k) (by omega) ((hS k hk).trans ht) (.inl (5, [.inl (some (n)), .inr (0), .inr (0), .inr (0), .inr (0)])) rfl (by simp [rfE, rfV] <;> omega)
  obtain ⟨D20, hD20⟩ : ∃ z, z = upD D15 k (.inl (5, [.inl (some (n)), .inr (0), .inr (0), .inr (0), .inr (0)])) := ⟨_, rfl⟩
  rw [← hD20] at hB
  have hDk : D20 k = .inl (5, [.inl (some (n)), .inr (0), .inr (0), .inr (0), .inr (0)]) := by rw [hD20, upD_at]
  have hArr : D20 (n) = .inr (.inr (6, 11, 0, n + 1, 4)) := by rw [hD20, upD_ne (by omega)]; exact hArr
  refine v_aloadn dX5_init_23 rfl ?_
  refine v_iconst dX5_init_24 ?_
  refine v_put dX5_init_25 pf_X5_24 (hB.at (k := k) (by omega) ((hS k hk).trans ht) hDk rfl) rfl rfl (Nat.le_of_ble_eq_true rfl) ?_
  generalize hMe25 : wup _ _ _ = M25
  have hB : wB G (n + 1) ad7 (upD D20 k (.inl (5, [.inl (some (n)), .inr (0), .inr (0), .inr (0), .inr (0)]))) M25 := by rw [← hMe25]; exact hB.set (k := k) (by omega) ((hS k hk).trans ht) (.inl (5, [.inl (some (n)), .inr (0), .inr (0), .inr (0), .inr (0)])) rfl (by simp [rfE, rfV] <;> omega)
  obtain ⟨D25, hD25⟩ : ∃ z, z = upD D20 k (.inl (5, [.inl (some (n)), .inr (0), .inr (0), .inr (0), .inr (0)])) := ⟨_, rfl⟩
  rw [← hD25] at hB
  have hDk : D25 k = .inl (5, [.inl (some (n)), .inr (0), .inr (0), .inr (0), .inr (0)]) := by rw [hD25, upD_at]
  have hArr : D25 (n) = .inr (.inr (6, 11, 0, n + 1, 4)) := by rw [hD25, upD_ne (by omega)]; exact hArr
  refine v_aloadn dX5_init_28 rfl ?_
  refine v_iconst dX5_init_29 ?_
  refine v_put dX5_init_30 pf_X5_27 (hB.at (k := k) (by omega) ((hS k hk).trans ht) hDk rfl) rfl rfl (Nat.le_of_ble_eq_true rfl) ?_
  generalize hMe30 : wup _ _ _ = M30
  have hB : wB G (n + 1) ad7 (upD D25 k (.inl (5, [.inl (some (n)), .inr (0), .inr (0), .inr (0), .inr (0)]))) M30 := by rw [← hMe30]; exact hB.set (k := k) (by omega) ((hS k hk).trans ht) (.inl (5, [.inl (some (n)), .inr (0), .inr (0), .inr (0), .inr (0)])) rfl (by simp [rfE, rfV] <;> omega)
  obtain ⟨D30, hD30⟩ : ∃ z, z = upD D25 k (.inl (5, [.inl (some (n)), .inr (0), .inr (0), .inr (0), .inr (0)])) := ⟨_, rfl⟩
  rw [← hD30] at hB
  have hDk : D30 k = .inl (5, [.inl (some (n)), .inr (0), .inr (0), .inr (0), .inr (0)]) := by rw [hD30, upD_at]
  have hArr : D30 (n) = .inr (.inr (6, 11, 0, n + 1, 4)) := by rw [hD30, upD_ne (by omega)]; exact hArr
  refine v_iconst dX5_init_33 ?_
  refine v_istoren dX5_init_34 (Nat.le_of_ble_eq_true rfl) ?_
  have hDD : D30 = upD (upD D n (.inr (.inr (6, 11, 0, n + 1, 4)))) k (.inl (5, [.inl (some (n)), .inr (0), .inr (0), .inr (0), .inr (0)])) := by funext j; simp only [hD30, hD25, hD20, hD15, hD10, hD7, upD]; (repeat' split) <;> first | rfl | omega
  refine wV.locs (lv' := [(0, .ref t), (1, .int (gI ((0 : Nat) : Int)))]) ⟨rfl, rfl, trivial⟩ (wV.wid (by omega) (by omega) (tX5_init_loop (n := n) (k := k) (ad := ad7) (D := D30) (by omega) ((hS k hk).trans ht) hDk hArr (fun ad' M' hB' hS' => ?_) 11 0 ad7 M30 rfl hB wS.rf))
  exact v_vret dX5_init_63 rfl ⟨by omega, by omega⟩ ⟨ad', by unfold spansD; rw [← hDD]; exact hB', fun i hi => (hS' i (by omega)).trans (hS i hi)⟩
