def oRow (a b : Nat) : dE := .inl (4, [.inl (some a), .inl (some b), .inr 0])
def rowD (D : Nat → dE) (k n : Nat) : Nat → dE := upD (upD (upD D n (.inr (.inl (0, 50, 0)))) (n + 1) (.inr (.inl (0, 50, 0)))) k (oRow n (n + 1))
set_option maxHeartbeats 4000000 in
set_option maxRecDepth 100000 in
theorem tX4_init {G : gG} {n k t : Nat} {ad : Nat → Nat} {D : Nat → dE} {M : wM} (hB : wB G n ad D M) (hk : k < n) (ht : ad k = t) (hDk : D k = .inl (4, [.inl none, .inl none, .inr (0)])) : wT G qX4_init 2 100 [.ref t] M (vP fun M' => ∃ ad', wB G (n + 2) ad' (rowD D k n) M' ∧ wS n ad ad') := by
  refine wT.intro (by decide) (Nat.le_of_ble_eq_true rfl) (fun sz => ?_)
  have hS : wS n ad ad := wS.rf
  refine v_aloadn dX4_init_0 rfl ?_
  refine v_objInit dX4_init_1 lo_X4 (Nat.le_of_ble_eq_true rfl) (Nat.le_of_ble_eq_true rfl) ?_
  refine v_aloadn dX4_init_4 rfl ?_
  refine v_bipush dX4_init_5 (by decide) ?_
  refine v_newi (n := 50) dX4_init_7 (by decide) (Nat.le_of_ble_eq_true rfl) (Nat.le_of_ble_eq_true rfl) lai_I (fun a7 hn7 => ?_)
  generalize hMe7 : wup _ _ _ = M7
  obtain ⟨ad7, hB, ha7, hS7⟩ : ∃ ad', wB G (n + 1) ad' (upD D (n) (.inr (.inl (0, 50, 0)))) M7 ∧ ad' (n) = a7 ∧ wS (n) ad ad' := by rw [← hMe7]; exact hB.push (.inr (.inl (0, 50, 0))) hn7 (fun _ => rfl) (by simp [rfE, rfV] <;> omega)
  subst ha7
  have hS := hS.tr hS7 (by omega)
  obtain ⟨D7, hD7⟩ : ∃ z, z = upD D (n) (.inr (.inl (0, 50, 0))) := ⟨_, rfl⟩
  rw [← hD7] at hB
  have hDk : D7 k = .inl (4, [.inl none, .inl none, .inr (0)]) := by rw [hD7, upD_ne (by omega)]; exact hDk
  refine v_putF dX4_init_9 pf_X4_9 rfl (hB.at (k := k) (by omega) ((hS k hk).trans ht) hDk rfl) rfl rfl (Nat.le_of_ble_eq_true rfl) ?_
  generalize hMe9 : wup _ _ _ = M9
  have hB : wB G (n + 1) ad7 (upD D7 k (.inl (4, [.inl (some (n)), .inl none, .inr (0)]))) M9 := by rw [← hMe9]; exact hB.set (k := k) (by omega) ((hS k hk).trans ht) (.inl (4, [.inl (some (n)), .inl none, .inr (0)])) rfl (by simp [rfE, rfV] <;> omega)
  obtain ⟨D9, hD9⟩ : ∃ z, z = upD D7 k (.inl (4, [.inl (some (n)), .inl none, .inr (0)])) := ⟨_, rfl⟩
  rw [← hD9] at hB
  have hDk : D9 k = .inl (4, [.inl (some (n)), .inl none, .inr (0)]) := by rw [hD9, upD_at]
  refine v_aloadn dX4_init_12 rfl ?_
  refine v_bipush dX4_init_13 (by decide) ?_
  refine v_newi (n := 50) dX4_init_15 (by decide) (Nat.le_of_ble_eq_true rfl) (Nat.le_of_ble_eq_true rfl) lai_I (fun a15 hn15 => ?_)
  generalize hMe15 : wup _ _ _ = M15
  obtain ⟨ad15, hB, ha15, hS15⟩ : ∃ ad', wB G (n + 1 + 1) ad' (upD D9 (n + 1) (.inr (.inl (0, 50, 0)))) M15 ∧ ad' (n + 1) = a15 ∧ wS (n + 1) ad7 ad' := by rw [← hMe15]; exact hB.push (.inr (.inl (0, 50, 0))) hn15 (fun _ => rfl) (by simp [rfE, rfV] <;> omega)
  subst ha15
  have hS := hS.tr hS15 (by omega)
  obtain ⟨D15, hD15⟩ : ∃ z, z = upD D9 (n + 1) (.inr (.inl (0, 50, 0))) := ⟨_, rfl⟩
  rw [← hD15] at hB
  have hDk : D15 k = .inl (4, [.inl (some (n)), .inl none, .inr (0)]) := by rw [hD15, upD_ne (by omega)]; exact hDk
  refine v_putF dX4_init_17 pf_X4_15 rfl (hB.at (k := k) (by omega) ((hS k hk).trans ht) hDk rfl) rfl rfl (Nat.le_of_ble_eq_true rfl) ?_
  generalize hMe17 : wup _ _ _ = M17
  have hB : wB G (n + 1 + 1) ad15 (upD D15 k (.inl (4, [.inl (some (n)), .inl (some (n + 1)), .inr (0)]))) M17 := by rw [← hMe17]; exact hB.set (k := k) (by omega) ((hS k hk).trans ht) (.inl (4, [.inl (some (n)), .inl (some (n + 1)), .inr (0)])) rfl (by simp [rfE, rfV] <;> omega)
  obtain ⟨D17, hD17⟩ : ∃ z, z = upD D15 k (.inl (4, [.inl (some (n)), .inl (some (n + 1)), .inr (0)])) := ⟨_, rfl⟩
  rw [← hD17] at hB
  have hDk : D17 k = .inl (4, [.inl (some (n)), .inl (some (n + 1)), .inr (0)]) := by rw [hD17, upD_at]
  refine v_aloadn dX4_init_20 rfl ?_
  refine v_iconst dX4_init_21 ?_
  refine v_put dX4_init_22 pf_X4_18 (hB.at (k := k) (by omega) ((hS k hk).trans ht) hDk rfl) rfl rfl (Nat.le_of_ble_eq_true rfl) ?_
  generalize hMe22 : wup _ _ _ = M22
  have hB : wB G (n + 1 + 1) ad15 (upD D17 k (.inl (4, [.inl (some (n)), .inl (some (n + 1)), .inr (0)]))) M22 := by rw [← hMe22]; exact hB.set (k := k) (by omega) ((hS k hk).trans ht) (.inl (4, [.inl (some (n)), .inl (some (n + 1)), .inr (0)])) rfl (by simp [rfE, rfV] <;> omega)
  obtain ⟨D22, hD22⟩ : ∃ z, z = upD D17 k (.inl (4, [.inl (some (n)), .inl (some (n + 1)), .inr (0)])) := ⟨_, rfl⟩
  rw [← hD22] at hB
  have hDk : D22 k = .inl (4, [.inl (some (n)), .inl (some (n + 1)), .inr (0)]) := by rw [hD22, upD_at]
  exact v_vret dX4_init_25 rfl ⟨(Nat.le_of_ble_eq_true rfl), (Nat.le_of_ble_eq_true rfl)⟩ ⟨ad15, by rw [show rowD D k n = D22 by unfold rowD oRow; funext j; simp only [hD22, hD17, hD15, hD9, hD7, upD]; (repeat' split) <;> first | rfl | omega]; exact hB, hS⟩
set_option maxHeartbeats 4000000 in
set_option maxRecDepth 100000 in
theorem tX0_init {G : gG} {n k t : Nat} {ad : Nat → Nat} {D : Nat → dE} {M : wM} (hB : wB G n ad D M) (hk : k < n) (ht : ad k = t) (hDk : D k = .inl (0, [.inr (0), .inr (0), .inr (0), .inr (0), .inr (0)])) : wT G qX0_init 0 0 [.ref t] M (vP fun M' => ∃ ad', wB G n ad' D M' ∧ wS n ad ad') := by
  refine wT.intro (by decide) (Nat.le_of_ble_eq_true rfl) (fun sz => ?_)
  have hS : wS n ad ad := wS.rf
  have hDo := hDk
  refine v_aloadn dX0_init_0 rfl ?_
  refine v_objInit dX0_init_1 lo_X0 (Nat.le_of_ble_eq_true rfl) (Nat.le_of_ble_eq_true rfl) ?_
  refine v_aloadn dX0_init_4 rfl ?_
  refine v_iconst dX0_init_5 ?_
  refine v_put dX0_init_6 pf_X0_7 (hB.at (k := k) (by omega) ((hS k hk).trans ht) hDk rfl) rfl rfl (Nat.le_of_ble_eq_true rfl) ?_
  generalize hMe6 : wup _ _ _ = M6
  have hB : wB G (n) ad (upD D k (.inl (0, [.inr (0), .inr (0), .inr (0), .inr (0), .inr (0)]))) M6 := by rw [← hMe6]; exact hB.set (k := k) (by omega) ((hS k hk).trans ht) (.inl (0, [.inr (0), .inr (0), .inr (0), .inr (0), .inr (0)])) rfl (by simp [rfE, rfV] <;> omega)
  obtain ⟨D6, hD6⟩ : ∃ z, z = upD D k (.inl (0, [.inr (0), .inr (0), .inr (0), .inr (0), .inr (0)])) := ⟨_, rfl⟩
  rw [← hD6] at hB
  have hDk : D6 k = .inl (0, [.inr (0), .inr (0), .inr (0), .inr (0), .inr (0)]) := by rw [hD6, upD_at]
  refine v_aloadn dX0_init_9 rfl ?_
  refine v_iconst dX0_init_10 ?_
  refine v_put dX0_init_11 pf_X0_13 (hB.at (k := k) (by omega) ((hS k hk).trans ht) hDk rfl) rfl rfl (Nat.le_of_ble_eq_true rfl) ?_
  generalize hMe11 : wup _ _ _ = M11
  have hB : wB G (n) ad (upD D6 k (.inl (0, [.inr (0), .inr (0), .inr (0), .inr (0), .inr (0)]))) M11 := by rw [← hMe11]; exact hB.set (k := k) (by omega) ((hS k hk).trans ht) (.inl (0, [.inr (0), .inr (0), .inr (0), .inr (0), .inr (0)])) rfl (by simp [rfE, rfV] <;> omega)
  obtain ⟨D11, hD11⟩ : ∃ z, z = upD D6 k (.inl (0, [.inr (0), .inr (0), .inr (0), .inr (0), .inr (0)])) := ⟨_, rfl⟩
  rw [← hD11] at hB
  have hDk : D11 k = .inl (0, [.inr (0), .inr (0), .inr (0), .inr (0), .inr (0)]) := by rw [hD11, upD_at]
  refine v_aloadn dX0_init_14 rfl ?_
  refine v_iconst dX0_init_15 ?_
  refine v_put dX0_init_16 pf_X0_17 (hB.at (k := k) (by omega) ((hS k hk).trans ht) hDk rfl) rfl rfl (Nat.le_of_ble_eq_true rfl) ?_
  generalize hMe16 : wup _ _ _ = M16
  have hB : wB G (n) ad (upD D11 k (.inl (0, [.inr (0), .inr (0), .inr (0), .inr (0), .inr (0)]))) M16 := by rw [← hMe16]; exact hB.set (k := k) (by omega) ((hS k hk).trans ht) (.inl (0, [.inr (0), .inr (0), .inr (0), .inr (0), .inr (0)])) rfl (by simp [rfE, rfV] <;> omega)
  obtain ⟨D16, hD16⟩ : ∃ z, z = upD D11 k (.inl (0, [.inr (0), .inr (0), .inr (0), .inr (0), .inr (0)])) := ⟨_, rfl⟩
  rw [← hD16] at hB
  have hDk : D16 k = .inl (0, [.inr (0), .inr (0), .inr (0), .inr (0), .inr (0)]) := by rw [hD16, upD_at]
  refine v_aloadn dX0_init_19 rfl ?_
  refine v_iconst dX0_init_20 ?_
  refine v_put dX0_init_21 pf_X0_20 (hB.at (k := k) (by omega) ((hS k hk).trans ht) hDk rfl) rfl rfl (Nat.le_of_ble_eq_true rfl) ?_
  generalize hMe21 : wup _ _ _ = M21
  have hB : wB G (n) ad (upD D16 k (.inl (0, [.inr (0), .inr (0), .inr (0), .inr (0), .inr (0)]))) M21 := by rw [← hMe21]; exact hB.set (k := k) (by omega) ((hS k hk).trans ht) (.inl (0, [.inr (0), .inr (0), .inr (0), .inr (0), .inr (0)])) rfl (by simp [rfE, rfV] <;> omega)
  obtain ⟨D21, hD21⟩ : ∃ z, z = upD D16 k (.inl (0, [.inr (0), .inr (0), .inr (0), .inr (0), .inr (0)])) := ⟨_, rfl⟩
  rw [← hD21] at hB
  have hDk : D21 k = .inl (0, [.inr (0), .inr (0), .inr (0), .inr (0), .inr (0)]) := by rw [hD21, upD_at]
  refine v_aloadn dX0_init_24 rfl ?_
  refine v_iconst dX0_init_25 ?_
  refine v_put dX0_init_26 pf_X0_23 (hB.at (k := k) (by omega) ((hS k hk).trans ht) hDk rfl) rfl rfl (Nat.le_of_ble_eq_true rfl) ?_
  generalize hMe26 : wup _ _ _ = M26
  have hB : wB G (n) ad (upD D21 k (.inl (0, [.inr (0), .inr (0), .inr (0), .inr (0), .inr (0)]))) M26 := by rw [← hMe26]; exact hB.set (k := k) (by omega) ((hS k hk).trans ht) (.inl (0, [.inr (0), .inr (0), .inr (0), .inr (0), .inr (0)])) rfl (by simp [rfE, rfV] <;> omega)
  obtain ⟨D26, hD26⟩ : ∃ z, z = upD D21 k (.inl (0, [.inr (0), .inr (0), .inr (0), .inr (0), .inr (0)])) := ⟨_, rfl⟩
  rw [← hD26] at hB
  have hDk : D26 k = .inl (0, [.inr (0), .inr (0), .inr (0), .inr (0), .inr (0)]) := by rw [hD26, upD_at]
  exact v_vret dX0_init_29 rfl ⟨(Nat.le_of_ble_eq_true rfl), (Nat.le_of_ble_eq_true rfl)⟩ ⟨ad, by rw [show D = D26 by funext j; simp only [hD26, hD21, hD16, hD11, hD6, upD]; split <;> first | (rename_i h; rw [h]; exact hDo) | rfl]; exact hB, hS⟩
set_option maxHeartbeats 4000000 in
set_option maxRecDepth 100000 in
theorem tX1_init {G : gG} {n k t : Nat} {ad : Nat → Nat} {D : Nat → dE} {M : wM} (hB : wB G n ad D M) (hk : k < n) (ht : ad k = t) (hDk : D k = .inl (1, [.inr (0), .inr (0), .inr (0)])) : wT G qX1_init 0 0 [.ref t] M (vP fun M' => ∃ ad', wB G n ad' D M' ∧ wS n ad ad') := by
  refine wT.intro (by decide) (Nat.le_of_ble_eq_true rfl) (fun sz => ?_)
  have hS : wS n ad ad := wS.rf
  have hDo := hDk
  refine v_aloadn dX1_init_0 rfl ?_
  refine v_objInit dX1_init_1 lo_X1 (Nat.le_of_ble_eq_true rfl) (Nat.le_of_ble_eq_true rfl) ?_
  refine v_aloadn dX1_init_4 rfl ?_
  refine v_iconst dX1_init_5 ?_
  refine v_put dX1_init_6 pf_X1_9 (hB.at (k := k) (by omega) ((hS k hk).trans ht) hDk rfl) rfl rfl (Nat.le_of_ble_eq_true rfl) ?_
  generalize hMe6 : wup _ _ _ = M6
  have hB : wB G (n) ad (upD D k (.inl (1, [.inr (0), .inr (0), .inr (0)]))) M6 := by rw [← hMe6]; exact hB.set (k := k) (by omega) ((hS k hk).trans ht) (.inl (1, [.inr (0), .inr (0), .inr (0)])) rfl (by simp [rfE, rfV] <;> omega)
  obtain ⟨D6, hD6⟩ : ∃ z, z = upD D k (.inl (1, [.inr (0), .inr (0), .inr (0)])) := ⟨_, rfl⟩
  rw [← hD6] at hB
  have hDk : D6 k = .inl (1, [.inr (0), .inr (0), .inr (0)]) := by rw [hD6, upD_at]
  refine v_aloadn dX1_init_9 rfl ?_
  refine v_iconst dX1_init_10 ?_
  refine v_put dX1_init_11 pf_X1_15 (hB.at (k := k) (by omega) ((hS k hk).trans ht) hDk rfl) rfl rfl (Nat.le_of_ble_eq_true rfl) ?_
  generalize hMe11 : wup _ _ _ = M11
  have hB : wB G (n) ad (upD D6 k (.inl (1, [.inr (0), .inr (0), .inr (0)]))) M11 := by rw [← hMe11]; exact hB.set (k := k) (by omega) ((hS k hk).trans ht) (.inl (1, [.inr (0), .inr (0), .inr (0)])) rfl (by simp [rfE, rfV] <;> omega)
  obtain ⟨D11, hD11⟩ : ∃ z, z = upD D6 k (.inl (1, [.inr (0), .inr (0), .inr (0)])) := ⟨_, rfl⟩
  rw [← hD11] at hB
  have hDk : D11 k = .inl (1, [.inr (0), .inr (0), .inr (0)]) := by rw [hD11, upD_at]
  refine v_aloadn dX1_init_14 rfl ?_
  refine v_iconst dX1_init_15 ?_
  refine v_put dX1_init_16 pf_X1_18 (hB.at (k := k) (by omega) ((hS k hk).trans ht) hDk rfl) rfl rfl (Nat.le_of_ble_eq_true rfl) ?_
  generalize hMe16 : wup _ _ _ = M16
  have hB : wB G (n) ad (upD D11 k (.inl (1, [.inr (0), .inr (0), .inr (0)]))) M16 := by rw [← hMe16]; exact hB.set (k := k) (by omega) ((hS k hk).trans ht) (.inl (1, [.inr (0), .inr (0), .inr (0)])) rfl (by simp [rfE, rfV] <;> omega)
  obtain ⟨D16, hD16⟩ : ∃ z, z = upD D11 k (.inl (1, [.inr (0), .inr (0), .inr (0)])) := ⟨_, rfl⟩
  rw [← hD16] at hB
  have hDk : D16 k = .inl (1, [.inr (0), .inr (0), .inr (0)]) := by rw [hD16, upD_at]
  exact v_vret dX1_init_19 rfl ⟨(Nat.le_of_ble_eq_true rfl), (Nat.le_of_ble_eq_true rfl)⟩ ⟨ad, by rw [show D = D16 by funext j; simp only [hD16, hD11, hD6, upD]; split <;> first | (rename_i h; rw [h]; exact hDo) | rfl]; exact hB, hS⟩
