def xD0 (D : Nat → dE) : Nat → dE := upD (spansD (upD (upD (upD (upD (upD (upD (upD (upD D 1 (.inr (.inr (2, 24, 0, 54, 3)))) 2 (.inr (.inl (0, 12, 0)))) 3 (.inr (.inl (0, 12, 0)))) 4 (.inr (.inl (0, 4, 0)))) 5 (.inr (.inr (3, 10, 0, 138, 4)))) 6 (.inr (.inr (4, 4, 0, 178, 1)))) 7 (.inr (.inr (5, 12, 0, 126, 1)))) 8 (.inl (5, [.inl none, .inr (0), .inr (0), .inr (0), .inr (0)]))) 8 9) 0 (.inl (6, [.inl (some (1)), .inl (some (2)), .inl (some (3)), .inl (some (4)), .inl (some (5)), .inl (some (6)), .inl (some (7)), .inl (some (8)), .inr (0), .inr (1000), .inr (0)]))
def xD (D : Nat → dE) : Nat → dE := itL 4 4 (178) 1 (6) F_chan (itL 3 10 (138) 4 (5) F_mask (itL 5 12 (126) 1 (7) F_gate (itL 2 24 (54) 3 (1) F_row (xD0 D) (24)) (12)) (10)) (4)
theorem upD_upD (D : Nat → dE) (k : Nat) (e e' : dE) : upD (upD D k e) k e' = upD D k e' := by
  funext j
  unfold upD
  by_cases h : j = k
  · rw [if_pos h, if_pos h]
  · rw [if_neg h, if_neg h, if_neg h]
theorem upD_congr {D D' : Nat → dE} {k : Nat} {e : dE} (h : ∀ i, i ≠ k → D i = D' i) : upD D k e = upD D' k e := by
  funext j
  unfold upD
  by_cases q : j = k
  · rw [if_pos q, if_pos q]
  · rw [if_neg q, if_neg q, h j q]
theorem upD_cg {D D' : Nat → dE} {a k : Nat} {e : dE} (h : ∀ i, i ≠ a → D i = D' i) : ∀ i, i ≠ a → upD D k e i = upD D' k e i := fun i hi => by
  unfold upD
  by_cases q : i = k
  · rw [if_pos q, if_pos q]
  · rw [if_neg q, if_neg q, h i hi]
theorem row_cg {D D' : Nat → dE} {a k n : Nat} (h : ∀ i, i ≠ a → D i = D' i) : ∀ i, i ≠ a → rowD D k n i = rowD D' k n i := by unfold rowD; exact upD_cg (upD_cg (upD_cg h))
theorem pair_cg {D D' : Nat → dE} {a p : Nat} (h : ∀ i, i ≠ a → D i = D' i) : ∀ i, i ≠ a → F_pair D p i = F_pair D' p i := by unfold F_pair pairD; exact upD_cg (row_cg (upD_cg (upD_cg h)))
theorem itP_cg {D D' : Nat → dE} {a b t arr : Nat} (h : ∀ i, i ≠ a → D i = D' i) : ∀ j, ∀ i, i ≠ a → itL 6 11 b t arr F_pair D j i = itL 6 11 b t arr F_pair D' j i
  | 0 => h
  | j + 1 => upD_cg (pair_cg (itP_cg h j))
theorem spans_congr {D D' : Nat → dE} {a k n : Nat} (h : ∀ i, i ≠ a → D i = D' i) : ∀ i, i ≠ a → spansD D k n i = spansD D' k n i := by unfold spansD; exact itP_cg (upD_cg (upD_cg h)) 11
set_option maxHeartbeats 4000000 in
set_option maxRecDepth 100000 in
theorem tX6_init {G : gG} {t : Nat} {ad : Nat → Nat} {D : Nat → dE} {M : wM} (hB : wB G 1 ad D M) (ht : ad 0 = t) (hDk : D 0 = .inl (6, [.inl none, .inl none, .inl none, .inl none, .inl none, .inl none, .inl none, .inl none, .inr (0), .inr (0), .inr (0)])) : wT G qX6_init 181 8000 [.ref t] M (vP fun M' => ∃ ad', wB G 182 ad' (xD D) M' ∧ wS 1 ad ad') := by
  refine wT.intro (by decide) (Nat.le_of_ble_eq_true rfl) (fun sz => ?_)
  have hS : wS 1 ad ad := wS.rf
  have hk : 0 < 1 := by decide
  refine v_aloadn dX6_init_0 rfl ?_
  refine v_objInit dX6_init_1 lo_X6 (Nat.le_of_ble_eq_true rfl) (Nat.le_of_ble_eq_true rfl) ?_
  refine v_aloadn dX6_init_4 rfl ?_
  refine v_bipush dX6_init_5 (by decide) ?_
  refine v_newq (n := 24) (t0 := 2) (Cn := "WavePairs$Row") dX6_init_7 (by simp) lq_X6_9 lao_Row (by decide) (Nat.le_of_ble_eq_true rfl) (Nat.le_of_ble_eq_true rfl) (fun a7 hn7 => ?_)
  generalize hMe7 : wup _ _ _ = M7
  obtain ⟨ad7, hB, ha7, hS7⟩ : ∃ ad', wB G (1 + 1) ad' (upD D (1) (.inr (.inr (2, 24, 0, 54, 3)))) M7 ∧ ad' (1) = a7 ∧ wS (1) ad ad' := by rw [← hMe7]; exact hB.push (.inr (.inr (2, 24, 0, 54, 3))) hn7 (fun _ => rd_q0) (by simp [rfE, rfV] <;> omega)
  subst ha7
  have hS := hS.tr hS7 (by omega)
  obtain ⟨D7, hD7⟩ : ∃ z, z = upD D (1) (.inr (.inr (2, 24, 0, 54, 3))) := ⟨_, rfl⟩
  rw [← hD7] at hB
  have hDk : D7 0 = .inl (6, [.inl none, .inl none, .inl none, .inl none, .inl none, .inl none, .inl none, .inl none, .inr (0), .inr (0), .inr (0)]) := by rw [hD7, upD_ne (by omega)]; exact hDk
  have h_rows : D7 (1) = .inr (.inr (2, 24, 0, 54, 3)) := by rw [hD7, upD_at]
  refine v_putF dX6_init_10 pf_X6_11 rfl (hB.at (k := 0) (by omega) ((hS 0 hk).trans ht) hDk rfl) rfl rfl (Nat.le_of_ble_eq_true rfl) ?_
  generalize hMe10 : wup _ _ _ = M10
  have hB : wB G (2) ad7 (upD D7 0 (.inl (6, [.inl (some (1)), .inl none, .inl none, .inl none, .inl none, .inl none, .inl none, .inl none, .inr (0), .inr (0), .inr (0)]))) M10 := by rw [← hMe10]; exact hB.set (k := 0) (by omega) ((hS 0 hk).trans ht) (.inl (6, [.inl (some (1)), .inl none, .inl none, .inl none, .inl none, .inl none, .inl none, .inl none, .inr (0), .inr (0), .inr (0)])) rfl (by simp [rfE, rfV] <;> omega)
  obtain ⟨D10, hD10⟩ : ∃ z, z = upD D7 0 (.inl (6, [.inl (some (1)), .inl none, .inl none, .inl none, .inl none, .inl none, .inl none, .inl none, .inr (0), .inr (0), .inr (0)])) := ⟨_, rfl⟩
  rw [← hD10] at hB
  have hDk : D10 0 = .inl (6, [.inl (some (1)), .inl none, .inl none, .inl none, .inl none, .inl none, .inl none, .inl none, .inr (0), .inr (0), .inr (0)]) := by rw [hD10, upD_at]
  have h_rows : D10 (1) = .inr (.inr (2, 24, 0, 54, 3)) := by rw [hD10, upD_ne (by omega)]; exact h_rows
  refine v_aloadn dX6_init_13 rfl ?_
  refine v_bipush dX6_init_14 (by decide) ?_
  refine v_newi (n := 12) dX6_init_16 (by decide) (Nat.le_of_ble_eq_true rfl) (Nat.le_of_ble_eq_true rfl) lai_I (fun a16 hn16 => ?_)
  generalize hMe16 : wup _ _ _ = M16
  obtain ⟨ad16, hB, ha16, hS16⟩ : ∃ ad', wB G (2 + 1) ad' (upD D10 (2) (.inr (.inl (0, 12, 0)))) M16 ∧ ad' (2) = a16 ∧ wS (2) ad7 ad' := by rw [← hMe16]; exact hB.push (.inr (.inl (0, 12, 0))) hn16 (fun _ => rfl) (by simp [rfE, rfV] <;> omega)
  subst ha16
  have hS := hS.tr hS16 (by omega)
  obtain ⟨D16, hD16⟩ : ∃ z, z = upD D10 (2) (.inr (.inl (0, 12, 0))) := ⟨_, rfl⟩
  rw [← hD16] at hB
  have hDk : D16 0 = .inl (6, [.inl (some (1)), .inl none, .inl none, .inl none, .inl none, .inl none, .inl none, .inl none, .inr (0), .inr (0), .inr (0)]) := by rw [hD16, upD_ne (by omega)]; exact hDk
  have h_rows : D16 (1) = .inr (.inr (2, 24, 0, 54, 3)) := by rw [hD16, upD_ne (by omega)]; exact h_rows
  have h_names : D16 (2) = .inr (.inl (0, 12, 0)) := by rw [hD16, upD_at]
  refine v_putF dX6_init_18 pf_X6_15 rfl (hB.at (k := 0) (by omega) ((hS 0 hk).trans ht) hDk rfl) rfl rfl (Nat.le_of_ble_eq_true rfl) ?_
  generalize hMe18 : wup _ _ _ = M18
  have hB : wB G (3) ad16 (upD D16 0 (.inl (6, [.inl (some (1)), .inl (some (2)), .inl none, .inl none, .inl none, .inl none, .inl none, .inl none, .inr (0), .inr (0), .inr (0)]))) M18 := by rw [← hMe18]; exact hB.set (k := 0) (by omega) ((hS 0 hk).trans ht) (.inl (6, [.inl (some (1)), .inl (some (2)), .inl none, .inl none, .inl none, .inl none, .inl none, .inl none, .inr (0), .inr (0), .inr (0)])) rfl (by simp [rfE, rfV] <;> omega)
  obtain ⟨D18, hD18⟩ : ∃ z, z = upD D16 0 (.inl (6, [.inl (some (1)), .inl (some (2)), .inl none, .inl none, .inl none, .inl none, .inl none, .inl none, .inr (0), .inr (0), .inr (0)])) := ⟨_, rfl⟩
  rw [← hD18] at hB
  have hDk : D18 0 = .inl (6, [.inl (some (1)), .inl (some (2)), .inl none, .inl none, .inl none, .inl none, .inl none, .inl none, .inr (0), .inr (0), .inr (0)]) := by rw [hD18, upD_at]
  have h_rows : D18 (1) = .inr (.inr (2, 24, 0, 54, 3)) := by rw [hD18, upD_ne (by omega)]; exact h_rows
  have h_names : D18 (2) = .inr (.inl (0, 12, 0)) := by rw [hD18, upD_ne (by omega)]; exact h_names
  refine v_aloadn dX6_init_21 rfl ?_
  refine v_bipush dX6_init_22 (by decide) ?_
  refine v_newi (n := 12) dX6_init_24 (by decide) (Nat.le_of_ble_eq_true rfl) (Nat.le_of_ble_eq_true rfl) lai_I (fun a24 hn24 => ?_)
  generalize hMe24 : wup _ _ _ = M24
  obtain ⟨ad24, hB, ha24, hS24⟩ : ∃ ad', wB G (3 + 1) ad' (upD D18 (3) (.inr (.inl (0, 12, 0)))) M24 ∧ ad' (3) = a24 ∧ wS (3) ad16 ad' := by rw [← hMe24]; exact hB.push (.inr (.inl (0, 12, 0))) hn24 (fun _ => rfl) (by simp [rfE, rfV] <;> omega)
  subst ha24
  have hS := hS.tr hS24 (by omega)
  obtain ⟨D24, hD24⟩ : ∃ z, z = upD D18 (3) (.inr (.inl (0, 12, 0))) := ⟨_, rfl⟩
  rw [← hD24] at hB
  have hDk : D24 0 = .inl (6, [.inl (some (1)), .inl (some (2)), .inl none, .inl none, .inl none, .inl none, .inl none, .inl none, .inr (0), .inr (0), .inr (0)]) := by rw [hD24, upD_ne (by omega)]; exact hDk
  have h_rows : D24 (1) = .inr (.inr (2, 24, 0, 54, 3)) := by rw [hD24, upD_ne (by omega)]; exact h_rows
  have h_names : D24 (2) = .inr (.inl (0, 12, 0)) := by rw [hD24, upD_ne (by omega)]; exact h_names
  have h_groups : D24 (3) = .inr (.inl (0, 12, 0)) := by rw [hD24, upD_at]
  refine v_putF dX6_init_26 pf_X6_19 rfl (hB.at (k := 0) (by omega) ((hS 0 hk).trans ht) hDk rfl) rfl rfl (Nat.le_of_ble_eq_true rfl) ?_
  generalize hMe26 : wup _ _ _ = M26
  have hB : wB G (4) ad24 (upD D24 0 (.inl (6, [.inl (some (1)), .inl (some (2)), .inl (some (3)), .inl none, .inl none, .inl none, .inl none, .inl none, .inr (0), .inr (0), .inr (0)]))) M26 := by rw [← hMe26]; exact hB.set (k := 0) (by omega) ((hS 0 hk).trans ht) (.inl (6, [.inl (some (1)), .inl (some (2)), .inl (some (3)), .inl none, .inl none, .inl none, .inl none, .inl none, .inr (0), .inr (0), .inr (0)])) rfl (by simp [rfE, rfV] <;> omega)
  obtain ⟨D26, hD26⟩ : ∃ z, z = upD D24 0 (.inl (6, [.inl (some (1)), .inl (some (2)), .inl (some (3)), .inl none, .inl none, .inl none, .inl none, .inl none, .inr (0), .inr (0), .inr (0)])) := ⟨_, rfl⟩
  rw [← hD26] at hB
  have hDk : D26 0 = .inl (6, [.inl (some (1)), .inl (some (2)), .inl (some (3)), .inl none, .inl none, .inl none, .inl none, .inl none, .inr (0), .inr (0), .inr (0)]) := by rw [hD26, upD_at]
  have h_rows : D26 (1) = .inr (.inr (2, 24, 0, 54, 3)) := by rw [hD26, upD_ne (by omega)]; exact h_rows
  have h_names : D26 (2) = .inr (.inl (0, 12, 0)) := by rw [hD26, upD_ne (by omega)]; exact h_names
  have h_groups : D26 (3) = .inr (.inl (0, 12, 0)) := by rw [hD26, upD_ne (by omega)]; exact h_groups
  refine v_aloadn dX6_init_29 rfl ?_
  refine v_iconst dX6_init_30 ?_
  refine v_newi (n := 4) dX6_init_31 (by decide) (Nat.le_of_ble_eq_true rfl) (Nat.le_of_ble_eq_true rfl) lai_I (fun a31 hn31 => ?_)
  generalize hMe31 : wup _ _ _ = M31
  obtain ⟨ad31, hB, ha31, hS31⟩ : ∃ ad', wB G (4 + 1) ad' (upD D26 (4) (.inr (.inl (0, 4, 0)))) M31 ∧ ad' (4) = a31 ∧ wS (4) ad24 ad' := by rw [← hMe31]; exact hB.push (.inr (.inl (0, 4, 0))) hn31 (fun _ => rfl) (by simp [rfE, rfV] <;> omega)
  subst ha31
  have hS := hS.tr hS31 (by omega)
  obtain ⟨D31, hD31⟩ : ∃ z, z = upD D26 (4) (.inr (.inl (0, 4, 0))) := ⟨_, rfl⟩
  rw [← hD31] at hB
  have hDk : D31 0 = .inl (6, [.inl (some (1)), .inl (some (2)), .inl (some (3)), .inl none, .inl none, .inl none, .inl none, .inl none, .inr (0), .inr (0), .inr (0)]) := by rw [hD31, upD_ne (by omega)]; exact hDk
  have h_rows : D31 (1) = .inr (.inr (2, 24, 0, 54, 3)) := by rw [hD31, upD_ne (by omega)]; exact h_rows
  have h_names : D31 (2) = .inr (.inl (0, 12, 0)) := by rw [hD31, upD_ne (by omega)]; exact h_names
  have h_groups : D31 (3) = .inr (.inl (0, 12, 0)) := by rw [hD31, upD_ne (by omega)]; exact h_groups
  have h_shifts : D31 (4) = .inr (.inl (0, 4, 0)) := by rw [hD31, upD_at]
  refine v_putF dX6_init_33 pf_X6_22 rfl (hB.at (k := 0) (by omega) ((hS 0 hk).trans ht) hDk rfl) rfl rfl (Nat.le_of_ble_eq_true rfl) ?_
  generalize hMe33 : wup _ _ _ = M33
  have hB : wB G (5) ad31 (upD D31 0 (.inl (6, [.inl (some (1)), .inl (some (2)), .inl (some (3)), .inl (some (4)), .inl none, .inl none, .inl none, .inl none, .inr (0), .inr (0), .inr (0)]))) M33 := by rw [← hMe33]; exact hB.set (k := 0) (by omega) ((hS 0 hk).trans ht) (.inl (6, [.inl (some (1)), .inl (some (2)), .inl (some (3)), .inl (some (4)), .inl none, .inl none, .inl none, .inl none, .inr (0), .inr (0), .inr (0)])) rfl (by simp [rfE, rfV] <;> omega)
  obtain ⟨D33, hD33⟩ : ∃ z, z = upD D31 0 (.inl (6, [.inl (some (1)), .inl (some (2)), .inl (some (3)), .inl (some (4)), .inl none, .inl none, .inl none, .inl none, .inr (0), .inr (0), .inr (0)])) := ⟨_, rfl⟩
  rw [← hD33] at hB
  have hDk : D33 0 = .inl (6, [.inl (some (1)), .inl (some (2)), .inl (some (3)), .inl (some (4)), .inl none, .inl none, .inl none, .inl none, .inr (0), .inr (0), .inr (0)]) := by rw [hD33, upD_at]
  have h_rows : D33 (1) = .inr (.inr (2, 24, 0, 54, 3)) := by rw [hD33, upD_ne (by omega)]; exact h_rows
  have h_names : D33 (2) = .inr (.inl (0, 12, 0)) := by rw [hD33, upD_ne (by omega)]; exact h_names
  have h_groups : D33 (3) = .inr (.inl (0, 12, 0)) := by rw [hD33, upD_ne (by omega)]; exact h_groups
  have h_shifts : D33 (4) = .inr (.inl (0, 4, 0)) := by rw [hD33, upD_ne (by omega)]; exact h_shifts
  refine v_aloadn dX6_init_36 rfl ?_
  refine v_bipush dX6_init_37 (by decide) ?_
  refine v_newq (n := 10) (t0 := 3) (Cn := "WavePairs$Mask") dX6_init_39 (by simp) lq_X6_25 lao_Mask (by decide) (Nat.le_of_ble_eq_true rfl) (Nat.le_of_ble_eq_true rfl) (fun a39 hn39 => ?_)
  generalize hMe39 : wup _ _ _ = M39
  obtain ⟨ad39, hB, ha39, hS39⟩ : ∃ ad', wB G (5 + 1) ad' (upD D33 (5) (.inr (.inr (3, 10, 0, 138, 4)))) M39 ∧ ad' (5) = a39 ∧ wS (5) ad31 ad' := by rw [← hMe39]; exact hB.push (.inr (.inr (3, 10, 0, 138, 4))) hn39 (fun _ => rd_q0) (by simp [rfE, rfV] <;> omega)
  subst ha39
  have hS := hS.tr hS39 (by omega)
  obtain ⟨D39, hD39⟩ : ∃ z, z = upD D33 (5) (.inr (.inr (3, 10, 0, 138, 4))) := ⟨_, rfl⟩
  rw [← hD39] at hB
  have hDk : D39 0 = .inl (6, [.inl (some (1)), .inl (some (2)), .inl (some (3)), .inl (some (4)), .inl none, .inl none, .inl none, .inl none, .inr (0), .inr (0), .inr (0)]) := by rw [hD39, upD_ne (by omega)]; exact hDk
  have h_rows : D39 (1) = .inr (.inr (2, 24, 0, 54, 3)) := by rw [hD39, upD_ne (by omega)]; exact h_rows
  have h_names : D39 (2) = .inr (.inl (0, 12, 0)) := by rw [hD39, upD_ne (by omega)]; exact h_names
  have h_groups : D39 (3) = .inr (.inl (0, 12, 0)) := by rw [hD39, upD_ne (by omega)]; exact h_groups
  have h_shifts : D39 (4) = .inr (.inl (0, 4, 0)) := by rw [hD39, upD_ne (by omega)]; exact h_shifts
  have h_masks : D39 (5) = .inr (.inr (3, 10, 0, 138, 4)) := by rw [hD39, upD_at]
  refine v_putF dX6_init_42 pf_X6_27 rfl (hB.at (k := 0) (by omega) ((hS 0 hk).trans ht) hDk rfl) rfl rfl (Nat.le_of_ble_eq_true rfl) ?_
  generalize hMe42 : wup _ _ _ = M42
  have hB : wB G (6) ad39 (upD D39 0 (.inl (6, [.inl (some (1)), .inl (some (2)), .inl (some (3)), .inl (some (4)), .inl (some (5)), .inl none, .inl none, .inl none, .inr (0), .inr (0), .inr (0)]))) M42 := by rw [← hMe42]; exact hB.set (k := 0) (by omega) ((hS 0 hk).trans ht) (.inl (6, [.inl (some (1)), .inl (some (2)), .inl (some (3)), .inl (some (4)), .inl (some (5)), .inl none, .inl none, .inl none, .inr (0), .inr (0), .inr (0)])) rfl (by simp [rfE, rfV] <;> omega)
  obtain ⟨D42, hD42⟩ : ∃ z, z = upD D39 0 (.inl (6, [.inl (some (1)), .inl (some (2)), .inl (some (3)), .inl (some (4)), .inl (some (5)), .inl none, .inl none, .inl none, .inr (0), .inr (0), .inr (0)])) := ⟨_, rfl⟩
  rw [← hD42] at hB
  have hDk : D42 0 = .inl (6, [.inl (some (1)), .inl (some (2)), .inl (some (3)), .inl (some (4)), .inl (some (5)), .inl none, .inl none, .inl none, .inr (0), .inr (0), .inr (0)]) := by rw [hD42, upD_at]
  have h_rows : D42 (1) = .inr (.inr (2, 24, 0, 54, 3)) := by rw [hD42, upD_ne (by omega)]; exact h_rows
  have h_names : D42 (2) = .inr (.inl (0, 12, 0)) := by rw [hD42, upD_ne (by omega)]; exact h_names
  have h_groups : D42 (3) = .inr (.inl (0, 12, 0)) := by rw [hD42, upD_ne (by omega)]; exact h_groups
  have h_shifts : D42 (4) = .inr (.inl (0, 4, 0)) := by rw [hD42, upD_ne (by omega)]; exact h_shifts
  have h_masks : D42 (5) = .inr (.inr (3, 10, 0, 138, 4)) := by rw [hD42, upD_ne (by omega)]; exact h_masks
  refine v_aloadn dX6_init_45 rfl ?_
  refine v_iconst dX6_init_46 ?_
  refine v_newq (n := 4) (t0 := 4) (Cn := "WavePairs$Channel") dX6_init_47 (by simp) lq_X6_31 lao_Channel (by decide) (Nat.le_of_ble_eq_true rfl) (Nat.le_of_ble_eq_true rfl) (fun a47 hn47 => ?_)
  generalize hMe47 : wup _ _ _ = M47
  obtain ⟨ad47, hB, ha47, hS47⟩ : ∃ ad', wB G (6 + 1) ad' (upD D42 (6) (.inr (.inr (4, 4, 0, 178, 1)))) M47 ∧ ad' (6) = a47 ∧ wS (6) ad39 ad' := by rw [← hMe47]; exact hB.push (.inr (.inr (4, 4, 0, 178, 1))) hn47 (fun _ => rd_q0) (by simp [rfE, rfV] <;> omega)
  subst ha47
  have hS := hS.tr hS47 (by omega)
  obtain ⟨D47, hD47⟩ : ∃ z, z = upD D42 (6) (.inr (.inr (4, 4, 0, 178, 1))) := ⟨_, rfl⟩
  rw [← hD47] at hB
  have hDk : D47 0 = .inl (6, [.inl (some (1)), .inl (some (2)), .inl (some (3)), .inl (some (4)), .inl (some (5)), .inl none, .inl none, .inl none, .inr (0), .inr (0), .inr (0)]) := by rw [hD47, upD_ne (by omega)]; exact hDk
  have h_rows : D47 (1) = .inr (.inr (2, 24, 0, 54, 3)) := by rw [hD47, upD_ne (by omega)]; exact h_rows
  have h_names : D47 (2) = .inr (.inl (0, 12, 0)) := by rw [hD47, upD_ne (by omega)]; exact h_names
  have h_groups : D47 (3) = .inr (.inl (0, 12, 0)) := by rw [hD47, upD_ne (by omega)]; exact h_groups
  have h_shifts : D47 (4) = .inr (.inl (0, 4, 0)) := by rw [hD47, upD_ne (by omega)]; exact h_shifts
  have h_masks : D47 (5) = .inr (.inr (3, 10, 0, 138, 4)) := by rw [hD47, upD_ne (by omega)]; exact h_masks
  have h_channels : D47 (6) = .inr (.inr (4, 4, 0, 178, 1)) := by rw [hD47, upD_at]
  refine v_putF dX6_init_50 pf_X6_33 rfl (hB.at (k := 0) (by omega) ((hS 0 hk).trans ht) hDk rfl) rfl rfl (Nat.le_of_ble_eq_true rfl) ?_
  generalize hMe50 : wup _ _ _ = M50
  have hB : wB G (7) ad47 (upD D47 0 (.inl (6, [.inl (some (1)), .inl (some (2)), .inl (some (3)), .inl (some (4)), .inl (some (5)), .inl (some (6)), .inl none, .inl none, .inr (0), .inr (0), .inr (0)]))) M50 := by rw [← hMe50]; exact hB.set (k := 0) (by omega) ((hS 0 hk).trans ht) (.inl (6, [.inl (some (1)), .inl (some (2)), .inl (some (3)), .inl (some (4)), .inl (some (5)), .inl (some (6)), .inl none, .inl none, .inr (0), .inr (0), .inr (0)])) rfl (by simp [rfE, rfV] <;> omega)
  obtain ⟨D50, hD50⟩ : ∃ z, z = upD D47 0 (.inl (6, [.inl (some (1)), .inl (some (2)), .inl (some (3)), .inl (some (4)), .inl (some (5)), .inl (some (6)), .inl none, .inl none, .inr (0), .inr (0), .inr (0)])) := ⟨_, rfl⟩
  rw [← hD50] at hB
  have hDk : D50 0 = .inl (6, [.inl (some (1)), .inl (some (2)), .inl (some (3)), .inl (some (4)), .inl (some (5)), .inl (some (6)), .inl none, .inl none, .inr (0), .inr (0), .inr (0)]) := by rw [hD50, upD_at]
  have h_rows : D50 (1) = .inr (.inr (2, 24, 0, 54, 3)) := by rw [hD50, upD_ne (by omega)]; exact h_rows
  have h_names : D50 (2) = .inr (.inl (0, 12, 0)) := by rw [hD50, upD_ne (by omega)]; exact h_names
  have h_groups : D50 (3) = .inr (.inl (0, 12, 0)) := by rw [hD50, upD_ne (by omega)]; exact h_groups
  have h_shifts : D50 (4) = .inr (.inl (0, 4, 0)) := by rw [hD50, upD_ne (by omega)]; exact h_shifts
  have h_masks : D50 (5) = .inr (.inr (3, 10, 0, 138, 4)) := by rw [hD50, upD_ne (by omega)]; exact h_masks
  have h_channels : D50 (6) = .inr (.inr (4, 4, 0, 178, 1)) := by rw [hD50, upD_ne (by omega)]; exact h_channels
  refine v_aloadn dX6_init_53 rfl ?_
  refine v_bipush dX6_init_54 (by decide) ?_
  refine v_newq (n := 12) (t0 := 5) (Cn := "WavePairs$Gate") dX6_init_56 (by simp) lq_X6_37 lao_Gate (by decide) (Nat.le_of_ble_eq_true rfl) (Nat.le_of_ble_eq_true rfl) (fun a56 hn56 => ?_)
  generalize hMe56 : wup _ _ _ = M56
  obtain ⟨ad56, hB, ha56, hS56⟩ : ∃ ad', wB G (7 + 1) ad' (upD D50 (7) (.inr (.inr (5, 12, 0, 126, 1)))) M56 ∧ ad' (7) = a56 ∧ wS (7) ad47 ad' := by rw [← hMe56]; exact hB.push (.inr (.inr (5, 12, 0, 126, 1))) hn56 (fun _ => rd_q0) (by simp [rfE, rfV] <;> omega)
  subst ha56
  have hS := hS.tr hS56 (by omega)
  obtain ⟨D56, hD56⟩ : ∃ z, z = upD D50 (7) (.inr (.inr (5, 12, 0, 126, 1))) := ⟨_, rfl⟩
  rw [← hD56] at hB
  have hDk : D56 0 = .inl (6, [.inl (some (1)), .inl (some (2)), .inl (some (3)), .inl (some (4)), .inl (some (5)), .inl (some (6)), .inl none, .inl none, .inr (0), .inr (0), .inr (0)]) := by rw [hD56, upD_ne (by omega)]; exact hDk
  have h_rows : D56 (1) = .inr (.inr (2, 24, 0, 54, 3)) := by rw [hD56, upD_ne (by omega)]; exact h_rows
  have h_names : D56 (2) = .inr (.inl (0, 12, 0)) := by rw [hD56, upD_ne (by omega)]; exact h_names
  have h_groups : D56 (3) = .inr (.inl (0, 12, 0)) := by rw [hD56, upD_ne (by omega)]; exact h_groups
  have h_shifts : D56 (4) = .inr (.inl (0, 4, 0)) := by rw [hD56, upD_ne (by omega)]; exact h_shifts
  have h_masks : D56 (5) = .inr (.inr (3, 10, 0, 138, 4)) := by rw [hD56, upD_ne (by omega)]; exact h_masks
  have h_channels : D56 (6) = .inr (.inr (4, 4, 0, 178, 1)) := by rw [hD56, upD_ne (by omega)]; exact h_channels
  have h_gates : D56 (7) = .inr (.inr (5, 12, 0, 126, 1)) := by rw [hD56, upD_at]
  refine v_putF dX6_init_59 pf_X6_39 rfl (hB.at (k := 0) (by omega) ((hS 0 hk).trans ht) hDk rfl) rfl rfl (Nat.le_of_ble_eq_true rfl) ?_
  generalize hMe59 : wup _ _ _ = M59
  have hB : wB G (8) ad56 (upD D56 0 (.inl (6, [.inl (some (1)), .inl (some (2)), .inl (some (3)), .inl (some (4)), .inl (some (5)), .inl (some (6)), .inl (some (7)), .inl none, .inr (0), .inr (0), .inr (0)]))) M59 := by rw [← hMe59]; exact hB.set (k := 0) (by omega) ((hS 0 hk).trans ht) (.inl (6, [.inl (some (1)), .inl (some (2)), .inl (some (3)), .inl (some (4)), .inl (some (5)), .inl (some (6)), .inl (some (7)), .inl none, .inr (0), .inr (0), .inr (0)])) rfl (by simp [rfE, rfV] <;> omega)
  obtain ⟨D59, hD59⟩ : ∃ z, z = upD D56 0 (.inl (6, [.inl (some (1)), .inl (some (2)), .inl (some (3)), .inl (some (4)), .inl (some (5)), .inl (some (6)), .inl (some (7)), .inl none, .inr (0), .inr (0), .inr (0)])) := ⟨_, rfl⟩
  rw [← hD59] at hB
  have hDk : D59 0 = .inl (6, [.inl (some (1)), .inl (some (2)), .inl (some (3)), .inl (some (4)), .inl (some (5)), .inl (some (6)), .inl (some (7)), .inl none, .inr (0), .inr (0), .inr (0)]) := by rw [hD59, upD_at]
  have h_rows : D59 (1) = .inr (.inr (2, 24, 0, 54, 3)) := by rw [hD59, upD_ne (by omega)]; exact h_rows
  have h_names : D59 (2) = .inr (.inl (0, 12, 0)) := by rw [hD59, upD_ne (by omega)]; exact h_names
  have h_groups : D59 (3) = .inr (.inl (0, 12, 0)) := by rw [hD59, upD_ne (by omega)]; exact h_groups
  have h_shifts : D59 (4) = .inr (.inl (0, 4, 0)) := by rw [hD59, upD_ne (by omega)]; exact h_shifts
  have h_masks : D59 (5) = .inr (.inr (3, 10, 0, 138, 4)) := by rw [hD59, upD_ne (by omega)]; exact h_masks
  have h_channels : D59 (6) = .inr (.inr (4, 4, 0, 178, 1)) := by rw [hD59, upD_ne (by omega)]; exact h_channels
  have h_gates : D59 (7) = .inr (.inr (5, 12, 0, 126, 1)) := by rw [hD59, upD_ne (by omega)]; exact h_gates
  refine v_aloadn dX6_init_62 rfl ?_
  refine v_new dX6_init_63 ln_X6_43 (Nat.le_of_ble_eq_true rfl) (Nat.le_of_ble_eq_true rfl) (fun a63 hn63 => ?_)
  generalize hMe63 : wup _ _ _ = M63
  obtain ⟨ad63, hB, ha63, hS63⟩ : ∃ ad', wB G (8 + 1) ad' (upD D59 (8) (.inl (5, [.inl none, .inr (0), .inr (0), .inr (0), .inr (0)]))) M63 ∧ ad' (8) = a63 ∧ wS (8) ad56 ad' := by rw [← hMe63]; exact hB.push (.inl (5, [.inl none, .inr (0), .inr (0), .inr (0), .inr (0)])) hn63 (fun _ => rfl) (by simp [rfE, rfV] <;> omega)
  subst ha63
  have hS := hS.tr hS63 (by omega)
  obtain ⟨D63, hD63⟩ : ∃ z, z = upD D59 (8) (.inl (5, [.inl none, .inr (0), .inr (0), .inr (0), .inr (0)])) := ⟨_, rfl⟩
  rw [← hD63] at hB
  have hDk : D63 0 = .inl (6, [.inl (some (1)), .inl (some (2)), .inl (some (3)), .inl (some (4)), .inl (some (5)), .inl (some (6)), .inl (some (7)), .inl none, .inr (0), .inr (0), .inr (0)]) := by rw [hD63, upD_ne (by omega)]; exact hDk
  have h_rows : D63 (1) = .inr (.inr (2, 24, 0, 54, 3)) := by rw [hD63, upD_ne (by omega)]; exact h_rows
  have h_names : D63 (2) = .inr (.inl (0, 12, 0)) := by rw [hD63, upD_ne (by omega)]; exact h_names
  have h_groups : D63 (3) = .inr (.inl (0, 12, 0)) := by rw [hD63, upD_ne (by omega)]; exact h_groups
  have h_shifts : D63 (4) = .inr (.inl (0, 4, 0)) := by rw [hD63, upD_ne (by omega)]; exact h_shifts
  have h_masks : D63 (5) = .inr (.inr (3, 10, 0, 138, 4)) := by rw [hD63, upD_ne (by omega)]; exact h_masks
  have h_channels : D63 (6) = .inr (.inr (4, 4, 0, 178, 1)) := by rw [hD63, upD_ne (by omega)]; exact h_channels
  have h_gates : D63 (7) = .inr (.inr (5, 12, 0, 126, 1)) := by rw [hD63, upD_ne (by omega)]; exact h_gates
  refine v_dup dX6_init_66 rfl ?_
  refine v_callI (tX5_init hB (k := 8) (by omega) rfl (by rw [hD63, upD_at])) lc_X6_45 ⟨(Nat.le_of_ble_eq_true rfl), (Nat.le_of_ble_eq_true rfl)⟩ dX6_init_67 rfl rfl (Nat.le_of_ble_eq_true rfl) ⟨(Nat.le_of_ble_eq_true rfl), (Nat.le_of_ble_eq_true rfl)⟩ (kV fun M67 hp67 => ?_)
  obtain ⟨ad67, hB, hS67⟩ := hp67
  have hS := hS.tr hS67 (by omega)
  obtain ⟨D67, hD67⟩ : ∃ z, z = spansD D63 8 9 := ⟨_, rfl⟩
  rw [← hD67] at hB
  have hDk : D67 0 = .inl (6, [.inl (some (1)), .inl (some (2)), .inl (some (3)), .inl (some (4)), .inl (some (5)), .inl (some (6)), .inl (some (7)), .inl none, .inr (0), .inr (0), .inr (0)]) := by rw [hD67]; unfold spansD; rw [itL_o (fun D p h => F_pair_o D p h) (by omega) (by omega) 11, upD_ne (by omega), upD_ne (by omega)]; exact hDk
  have h_rows : D67 (1) = .inr (.inr (2, 24, 0, 54, 3)) := by rw [hD67]; unfold spansD; rw [itL_o (fun D p h => F_pair_o D p h) (by omega) (by omega) 11, upD_ne (by omega), upD_ne (by omega)]; exact h_rows
  have h_names : D67 (2) = .inr (.inl (0, 12, 0)) := by rw [hD67]; unfold spansD; rw [itL_o (fun D p h => F_pair_o D p h) (by omega) (by omega) 11, upD_ne (by omega), upD_ne (by omega)]; exact h_names
  have h_groups : D67 (3) = .inr (.inl (0, 12, 0)) := by rw [hD67]; unfold spansD; rw [itL_o (fun D p h => F_pair_o D p h) (by omega) (by omega) 11, upD_ne (by omega), upD_ne (by omega)]; exact h_groups
  have h_shifts : D67 (4) = .inr (.inl (0, 4, 0)) := by rw [hD67]; unfold spansD; rw [itL_o (fun D p h => F_pair_o D p h) (by omega) (by omega) 11, upD_ne (by omega), upD_ne (by omega)]; exact h_shifts
  have h_masks : D67 (5) = .inr (.inr (3, 10, 0, 138, 4)) := by rw [hD67]; unfold spansD; rw [itL_o (fun D p h => F_pair_o D p h) (by omega) (by omega) 11, upD_ne (by omega), upD_ne (by omega)]; exact h_masks
  have h_channels : D67 (6) = .inr (.inr (4, 4, 0, 178, 1)) := by rw [hD67]; unfold spansD; rw [itL_o (fun D p h => F_pair_o D p h) (by omega) (by omega) 11, upD_ne (by omega), upD_ne (by omega)]; exact h_channels
  have h_gates : D67 (7) = .inr (.inr (5, 12, 0, 126, 1)) := by rw [hD67]; unfold spansD; rw [itL_o (fun D p h => F_pair_o D p h) (by omega) (by omega) 11, upD_ne (by omega), upD_ne (by omega)]; exact h_gates
  rw [show ad63 8 = ad67 8 from (hS67 8 (by omega)).symm]
  refine v_putF dX6_init_70 pf_X6_46 rfl (hB.at (k := 0) (by omega) ((hS 0 hk).trans ht) hDk rfl) rfl rfl (Nat.le_of_ble_eq_true rfl) ?_
  generalize hMe70 : wup _ _ _ = M70
  have hB : wB G (54) ad67 (upD D67 0 (.inl (6, [.inl (some (1)), .inl (some (2)), .inl (some (3)), .inl (some (4)), .inl (some (5)), .inl (some (6)), .inl (some (7)), .inl (some (8)), .inr (0), .inr (0), .inr (0)]))) M70 := by rw [← hMe70]; exact hB.set (k := 0) (by omega) ((hS 0 hk).trans ht) (.inl (6, [.inl (some (1)), .inl (some (2)), .inl (some (3)), .inl (some (4)), .inl (some (5)), .inl (some (6)), .inl (some (7)), .inl (some (8)), .inr (0), .inr (0), .inr (0)])) rfl (by simp [rfE, rfV] <;> omega)
  obtain ⟨D70, hD70⟩ : ∃ z, z = upD D67 0 (.inl (6, [.inl (some (1)), .inl (some (2)), .inl (some (3)), .inl (some (4)), .inl (some (5)), .inl (some (6)), .inl (some (7)), .inl (some (8)), .inr (0), .inr (0), .inr (0)])) := ⟨_, rfl⟩
  rw [← hD70] at hB
  have hDk : D70 0 = .inl (6, [.inl (some (1)), .inl (some (2)), .inl (some (3)), .inl (some (4)), .inl (some (5)), .inl (some (6)), .inl (some (7)), .inl (some (8)), .inr (0), .inr (0), .inr (0)]) := by rw [hD70, upD_at]
  have h_rows : D70 (1) = .inr (.inr (2, 24, 0, 54, 3)) := by rw [hD70, upD_ne (by omega)]; exact h_rows
  have h_names : D70 (2) = .inr (.inl (0, 12, 0)) := by rw [hD70, upD_ne (by omega)]; exact h_names
  have h_groups : D70 (3) = .inr (.inl (0, 12, 0)) := by rw [hD70, upD_ne (by omega)]; exact h_groups
  have h_shifts : D70 (4) = .inr (.inl (0, 4, 0)) := by rw [hD70, upD_ne (by omega)]; exact h_shifts
  have h_masks : D70 (5) = .inr (.inr (3, 10, 0, 138, 4)) := by rw [hD70, upD_ne (by omega)]; exact h_masks
  have h_channels : D70 (6) = .inr (.inr (4, 4, 0, 178, 1)) := by rw [hD70, upD_ne (by omega)]; exact h_channels
  have h_gates : D70 (7) = .inr (.inr (5, 12, 0, 126, 1)) := by rw [hD70, upD_ne (by omega)]; exact h_gates
  refine v_aloadn dX6_init_73 rfl ?_
  refine v_iconst dX6_init_74 ?_
  refine v_put dX6_init_75 pf_X6_50 (hB.at (k := 0) (by omega) ((hS 0 hk).trans ht) hDk rfl) rfl rfl (Nat.le_of_ble_eq_true rfl) ?_
  generalize hMe75 : wup _ _ _ = M75
  have hB : wB G (54) ad67 (upD D70 0 (.inl (6, [.inl (some (1)), .inl (some (2)), .inl (some (3)), .inl (some (4)), .inl (some (5)), .inl (some (6)), .inl (some (7)), .inl (some (8)), .inr (0), .inr (0), .inr (0)]))) M75 := by rw [← hMe75]; exact hB.set (k := 0) (by omega) ((hS 0 hk).trans ht) (.inl (6, [.inl (some (1)), .inl (some (2)), .inl (some (3)), .inl (some (4)), .inl (some (5)), .inl (some (6)), .inl (some (7)), .inl (some (8)), .inr (0), .inr (0), .inr (0)])) rfl (by simp [rfE, rfV] <;> omega)
  obtain ⟨D75, hD75⟩ : ∃ z, z = upD D70 0 (.inl (6, [.inl (some (1)), .inl (some (2)), .inl (some (3)), .inl (some (4)), .inl (some (5)), .inl (some (6)), .inl (some (7)), .inl (some (8)), .inr (0), .inr (0), .inr (0)])) := ⟨_, rfl⟩
  rw [← hD75] at hB
  have hDk : D75 0 = .inl (6, [.inl (some (1)), .inl (some (2)), .inl (some (3)), .inl (some (4)), .inl (some (5)), .inl (some (6)), .inl (some (7)), .inl (some (8)), .inr (0), .inr (0), .inr (0)]) := by rw [hD75, upD_at]
  have h_rows : D75 (1) = .inr (.inr (2, 24, 0, 54, 3)) := by rw [hD75, upD_ne (by omega)]; exact h_rows
  have h_names : D75 (2) = .inr (.inl (0, 12, 0)) := by rw [hD75, upD_ne (by omega)]; exact h_names
  have h_groups : D75 (3) = .inr (.inl (0, 12, 0)) := by rw [hD75, upD_ne (by omega)]; exact h_groups
  have h_shifts : D75 (4) = .inr (.inl (0, 4, 0)) := by rw [hD75, upD_ne (by omega)]; exact h_shifts
  have h_masks : D75 (5) = .inr (.inr (3, 10, 0, 138, 4)) := by rw [hD75, upD_ne (by omega)]; exact h_masks
  have h_channels : D75 (6) = .inr (.inr (4, 4, 0, 178, 1)) := by rw [hD75, upD_ne (by omega)]; exact h_channels
  have h_gates : D75 (7) = .inr (.inr (5, 12, 0, 126, 1)) := by rw [hD75, upD_ne (by omega)]; exact h_gates
  refine v_aloadn dX6_init_78 rfl ?_
  refine v_sipush dX6_init_79 (by decide) ?_
  refine v_put dX6_init_82 pf_X6_54 (hB.at (k := 0) (by omega) ((hS 0 hk).trans ht) hDk rfl) rfl rfl (Nat.le_of_ble_eq_true rfl) ?_
  generalize hMe82 : wup _ _ _ = M82
  have hB : wB G (54) ad67 (upD D75 0 (.inl (6, [.inl (some (1)), .inl (some (2)), .inl (some (3)), .inl (some (4)), .inl (some (5)), .inl (some (6)), .inl (some (7)), .inl (some (8)), .inr (0), .inr (1000), .inr (0)]))) M82 := by rw [← hMe82]; exact hB.set (k := 0) (by omega) ((hS 0 hk).trans ht) (.inl (6, [.inl (some (1)), .inl (some (2)), .inl (some (3)), .inl (some (4)), .inl (some (5)), .inl (some (6)), .inl (some (7)), .inl (some (8)), .inr (0), .inr (1000), .inr (0)])) rfl (by simp [rfE, rfV] <;> omega)
  obtain ⟨D82, hD82⟩ : ∃ z, z = upD D75 0 (.inl (6, [.inl (some (1)), .inl (some (2)), .inl (some (3)), .inl (some (4)), .inl (some (5)), .inl (some (6)), .inl (some (7)), .inl (some (8)), .inr (0), .inr (1000), .inr (0)])) := ⟨_, rfl⟩
  rw [← hD82] at hB
  have hDk : D82 0 = .inl (6, [.inl (some (1)), .inl (some (2)), .inl (some (3)), .inl (some (4)), .inl (some (5)), .inl (some (6)), .inl (some (7)), .inl (some (8)), .inr (0), .inr (1000), .inr (0)]) := by rw [hD82, upD_at]
  have h_rows : D82 (1) = .inr (.inr (2, 24, 0, 54, 3)) := by rw [hD82, upD_ne (by omega)]; exact h_rows
  have h_names : D82 (2) = .inr (.inl (0, 12, 0)) := by rw [hD82, upD_ne (by omega)]; exact h_names
  have h_groups : D82 (3) = .inr (.inl (0, 12, 0)) := by rw [hD82, upD_ne (by omega)]; exact h_groups
  have h_shifts : D82 (4) = .inr (.inl (0, 4, 0)) := by rw [hD82, upD_ne (by omega)]; exact h_shifts
  have h_masks : D82 (5) = .inr (.inr (3, 10, 0, 138, 4)) := by rw [hD82, upD_ne (by omega)]; exact h_masks
  have h_channels : D82 (6) = .inr (.inr (4, 4, 0, 178, 1)) := by rw [hD82, upD_ne (by omega)]; exact h_channels
  have h_gates : D82 (7) = .inr (.inr (5, 12, 0, 126, 1)) := by rw [hD82, upD_ne (by omega)]; exact h_gates
  refine v_aloadn dX6_init_85 rfl ?_
  refine v_iconst dX6_init_86 ?_
  refine v_put dX6_init_87 pf_X6_57 (hB.at (k := 0) (by omega) ((hS 0 hk).trans ht) hDk rfl) rfl rfl (Nat.le_of_ble_eq_true rfl) ?_
  generalize hMe87 : wup _ _ _ = M87
  have hB : wB G (54) ad67 (upD D82 0 (.inl (6, [.inl (some (1)), .inl (some (2)), .inl (some (3)), .inl (some (4)), .inl (some (5)), .inl (some (6)), .inl (some (7)), .inl (some (8)), .inr (0), .inr (1000), .inr (0)]))) M87 := by rw [← hMe87]; exact hB.set (k := 0) (by omega) ((hS 0 hk).trans ht) (.inl (6, [.inl (some (1)), .inl (some (2)), .inl (some (3)), .inl (some (4)), .inl (some (5)), .inl (some (6)), .inl (some (7)), .inl (some (8)), .inr (0), .inr (1000), .inr (0)])) rfl (by simp [rfE, rfV] <;> omega)
  obtain ⟨D87, hD87⟩ : ∃ z, z = upD D82 0 (.inl (6, [.inl (some (1)), .inl (some (2)), .inl (some (3)), .inl (some (4)), .inl (some (5)), .inl (some (6)), .inl (some (7)), .inl (some (8)), .inr (0), .inr (1000), .inr (0)])) := ⟨_, rfl⟩
  rw [← hD87] at hB
  have hDk : D87 0 = .inl (6, [.inl (some (1)), .inl (some (2)), .inl (some (3)), .inl (some (4)), .inl (some (5)), .inl (some (6)), .inl (some (7)), .inl (some (8)), .inr (0), .inr (1000), .inr (0)]) := by rw [hD87, upD_at]
  have h_rows : D87 (1) = .inr (.inr (2, 24, 0, 54, 3)) := by rw [hD87, upD_ne (by omega)]; exact h_rows
  have h_names : D87 (2) = .inr (.inl (0, 12, 0)) := by rw [hD87, upD_ne (by omega)]; exact h_names
  have h_groups : D87 (3) = .inr (.inl (0, 12, 0)) := by rw [hD87, upD_ne (by omega)]; exact h_groups
  have h_shifts : D87 (4) = .inr (.inl (0, 4, 0)) := by rw [hD87, upD_ne (by omega)]; exact h_shifts
  have h_masks : D87 (5) = .inr (.inr (3, 10, 0, 138, 4)) := by rw [hD87, upD_ne (by omega)]; exact h_masks
  have h_channels : D87 (6) = .inr (.inr (4, 4, 0, 178, 1)) := by rw [hD87, upD_ne (by omega)]; exact h_channels
  have h_gates : D87 (7) = .inr (.inr (5, 12, 0, 126, 1)) := by rw [hD87, upD_ne (by omega)]; exact h_gates
  refine v_iconst dX6_init_90 ?_
  refine v_istoren dX6_init_91 (Nat.le_of_ble_eq_true rfl) ?_
  refine wV.locs (lv' := [(0, .ref t), (1, .int (gI ((0 : Nat) : Int)))]) ⟨rfl, rfl, trivial⟩ (wV.wid (Nat.le_of_ble_eq_true rfl) (Nat.le_of_ble_eq_true rfl) (tX6_init_rows (ad := ad67) (D := D87) ((hS 0 hk).trans ht) hDk h_rows (fun adr Mr hBr hSr => ?_) 24 0 ad67 M87 rfl hB wS.rf))
  obtain ⟨Dr, hDr⟩ : ∃ z, z = itL 2 24 (54) 3 (1) F_row D87 (24) := ⟨_, rfl⟩
  rw [← hDr] at hBr
  have hxr : Dr 0 = .inl (6, [.inl (some (1)), .inl (some (2)), .inl (some (3)), .inl (some (4)), .inl (some (5)), .inl (some (6)), .inl (some (7)), .inl (some (8)), .inr (0), .inr (1000), .inr (0)]) := by rw [hDr]; exact (itL_o (fun D p h => F_row_o D p h) (by decide) (by decide) 24).trans hDk
  have h_namesr : Dr (2) = .inr (.inl (0, 12, 0)) := by rw [hDr]; exact (itL_o (fun D p h => F_row_o D p h) (by decide) (by decide) 24).trans h_names
  have h_gatesr : Dr (7) = .inr (.inr (5, 12, 0, 126, 1)) := by rw [hDr]; exact (itL_o (fun D p h => F_row_o D p h) (by decide) (by decide) 24).trans h_gates
  have h_masksr : Dr (5) = .inr (.inr (3, 10, 0, 138, 4)) := by rw [hDr]; exact (itL_o (fun D p h => F_row_o D p h) (by decide) (by decide) 24).trans h_masks
  have h_channelsr : Dr (6) = .inr (.inr (4, 4, 0, 178, 1)) := by rw [hDr]; exact (itL_o (fun D p h => F_row_o D p h) (by decide) (by decide) 24).trans h_channels
  refine v_iconst dX6_init_120 ?_
  refine v_istoren dX6_init_121 (Nat.le_of_ble_eq_true rfl) ?_
  refine wV.locs (lv' := [(0, .ref t), (1, .int (gI ((0 : Nat) : Int)))]) ⟨rfl, rfl, trivial⟩ (wV.wid (Nat.le_of_ble_eq_true rfl) (Nat.le_of_ble_eq_true rfl) (tX6_init_gates (ad := adr) (D := Dr) ((hSr 0 (by omega)).trans ((hS 0 hk).trans ht)) hxr h_gatesr h_namesr (fun adg Mg hBg hSg => ?_) 12 0 adr Mr rfl hBr wS.rf))
  obtain ⟨Dg, hDg⟩ : ∃ z, z = itL 5 12 (126) 1 (7) F_gate (Dr) (12) := ⟨_, rfl⟩
  rw [← hDg] at hBg
  have hxg : Dg 0 = .inl (6, [.inl (some (1)), .inl (some (2)), .inl (some (3)), .inl (some (4)), .inl (some (5)), .inl (some (6)), .inl (some (7)), .inl (some (8)), .inr (0), .inr (1000), .inr (0)]) := by rw [hDg]; exact (itL_o (fun D p h => F_gate_o D p (by decide) h) (by decide) (by decide) 12).trans hxr
  have h_masksg : Dg (5) = .inr (.inr (3, 10, 0, 138, 4)) := by rw [hDg]; exact (itL_o (fun D p h => F_gate_o D p (by decide) h) (by decide) (by decide) 12).trans h_masksr
  have h_channelsg : Dg (6) = .inr (.inr (4, 4, 0, 178, 1)) := by rw [hDg]; exact (itL_o (fun D p h => F_gate_o D p (by decide) h) (by decide) (by decide) 12).trans h_channelsr
  refine v_iconst dX6_init_154 ?_
  refine v_istoren dX6_init_155 (Nat.le_of_ble_eq_true rfl) ?_
  refine wV.locs (lv' := [(0, .ref t), (1, .int (gI ((0 : Nat) : Int)))]) ⟨rfl, rfl, trivial⟩ (wV.wid (Nat.le_of_ble_eq_true rfl) (Nat.le_of_ble_eq_true rfl) (tX6_init_masks (ad := adg) (D := Dg) ((hSg 0 (by omega)).trans ((hSr 0 (by omega)).trans ((hS 0 hk).trans ht))) hxg h_masksg (fun adm Mm hBm hSm => ?_) 10 0 adg Mg rfl hBg wS.rf))
  obtain ⟨Dm, hDm⟩ : ∃ z, z = itL 3 10 (138) 4 (5) F_mask (Dg) (10) := ⟨_, rfl⟩
  rw [← hDm] at hBm
  have hxm : Dm 0 = .inl (6, [.inl (some (1)), .inl (some (2)), .inl (some (3)), .inl (some (4)), .inl (some (5)), .inl (some (6)), .inl (some (7)), .inl (some (8)), .inr (0), .inr (1000), .inr (0)]) := by rw [hDm]; exact (itL_o (fun D p h => F_mask_o D p h) (by decide) (by decide) 10).trans hxg
  have h_channelsm : Dm (6) = .inr (.inr (4, 4, 0, 178, 1)) := by rw [hDm]; exact (itL_o (fun D p h => F_mask_o D p h) (by decide) (by decide) 10).trans h_channelsg
  refine v_iconst dX6_init_184 ?_
  refine v_istoren dX6_init_185 (Nat.le_of_ble_eq_true rfl) ?_
  refine wV.locs (lv' := [(0, .ref t), (1, .int (gI ((0 : Nat) : Int)))]) ⟨rfl, rfl, trivial⟩ (wV.wid (Nat.le_of_ble_eq_true rfl) (Nat.le_of_ble_eq_true rfl) (tX6_init_chans (ad := adm) (D := Dm) ((hSm 0 (by omega)).trans ((hSg 0 (by omega)).trans ((hSr 0 (by omega)).trans ((hS 0 hk).trans ht)))) hxm h_channelsm (fun adc Mc hBc hSc => ?_) 4 0 adm Mm rfl hBm wS.rf))
  have e63 : ∀ i, i ≠ 0 → D63 i = (upD (upD (upD (upD (upD (upD (upD (upD D 1 (.inr (.inr (2, 24, 0, 54, 3)))) 2 (.inr (.inl (0, 12, 0)))) 3 (.inr (.inl (0, 12, 0)))) 4 (.inr (.inl (0, 4, 0)))) 5 (.inr (.inr (3, 10, 0, 138, 4)))) 6 (.inr (.inr (4, 4, 0, 178, 1)))) 7 (.inr (.inr (5, 12, 0, 126, 1)))) 8 (.inl (5, [.inl none, .inr (0), .inr (0), .inr (0), .inr (0)]))) i := fun i hi => by
    simp only [hD63, hD59, hD56, hD50, hD47, hD42, hD39, hD33, hD31, hD26, hD24, hD18, hD16, hD10, hD7, upD]; (repeat' split) <;> first | rfl | omega
  have e87 : D87 = xD0 D := by
    unfold xD0
    rw [hD87, hD82, hD75, hD70, hD67, upD_upD, upD_upD, upD_upD]
    exact upD_congr (spans_congr e63)
  exact v_vret dX6_init_214 rfl ⟨(Nat.le_of_ble_eq_true rfl), (Nat.le_of_ble_eq_true rfl)⟩ ⟨adc, by unfold xD; rw [← e87, ← hDr, ← hDg, ← hDm]; exact hBc, fun i hi => (hSc i (by omega)).trans ((hSm i (by omega)).trans ((hSg i (by omega)).trans ((hSr i (by omega)).trans (hS i hi))))⟩
