section WID
variable {G : gG} {q : mD} {mc ms sz kc ks pc kc2 ks2 : Nat} {M0 M : wM} {lv : List (Nat × Value)} {st : List Value} {Post : Option Value → wM → Prop}
theorem wV.wid (h1 : kc ≤ kc2) (h2 : ks ≤ ks2) (k : wV G q mc ms sz M0 kc2 ks2 pc lv st M Post) : wV G q mc ms sz M0 kc ks pc lv st M Post := fun p e s m args below meth c H locs ls C hsz hW hm hS hl => W.widen h1 h2 (k p e s m args below meth c H locs ls C hsz hW hm hS hl)
end WID
theorem rd_q0 {G : gG} {ad : Nat → Nat} {t0 n b t : Nat} : rdE G ad (.inr (.inr (t0, n, 0, b, t))) = .inl (G.2.2 t0, n, .inr (.inr (.inr (.inr (fun _ => none))))) := by simp [rdE]
def maskD (D : Nat → dE) (k n : Nat) : Nat → dE := upD (rowD (upD D n (.inl (4, [.inl none, .inl none, .inr (0)]))) n (n + 1)) k (.inl (2, [.inl (some (n)), .inr (0), .inl (some (n)), .inr (1)]))
def pairD (D : Nat → dE) (k n : Nat) : Nat → dE := upD (rowD (upD D n (.inl (4, [.inl none, .inl none, .inr (0)]))) n (n + 1)) k (.inl (3, [.inl (some (n)), .inl (some (n)), .inl (some (n)), .inr (0), .inr (0), .inr (1)]))
set_option maxHeartbeats 4000000 in
set_option maxRecDepth 100000 in
theorem tX2_init {G : gG} {n k t : Nat} {ad : Nat → Nat} {D : Nat → dE} {M : wM} (hB : wB G n ad D M) (hk : k < n) (ht : ad k = t) (hDk : D k = .inl (2, [.inl none, .inr (0), .inl none, .inr (0)])) : wT G qX2_init 3 103 [.ref t] M (vP fun M' => ∃ ad', wB G (n + 3) ad' (maskD D k n) M' ∧ wS n ad ad') := by
  refine wT.intro (by decide) (Nat.le_of_ble_eq_true rfl) (fun sz => ?_)
  have hS : wS n ad ad := wS.rf
  refine v_aloadn dX2_init_0 rfl ?_
  refine v_objInit dX2_init_1 lo_X2 (Nat.le_of_ble_eq_true rfl) (Nat.le_of_ble_eq_true rfl) ?_
  refine v_aloadn dX2_init_4 rfl ?_
  refine v_new dX2_init_5 ln_X2_7 (Nat.le_of_ble_eq_true rfl) (Nat.le_of_ble_eq_true rfl) (fun a5 hn5 => ?_)
  generalize hMe5 : wup _ _ _ = M5
  obtain ⟨ad5, hB, ha5, hS5⟩ : ∃ ad', wB G (n + 1) ad' (upD D (n) (.inl (4, [.inl none, .inl none, .inr (0)]))) M5 ∧ ad' (n) = a5 ∧ wS (n) ad ad' := by rw [← hMe5]; exact hB.push (.inl (4, [.inl none, .inl none, .inr (0)])) hn5 (fun _ => rfl) (by simp [rfE, rfV] <;> omega)
  subst ha5
  have hS := hS.tr hS5 (by omega)
  obtain ⟨D5, hD5⟩ : ∃ z, z = upD D (n) (.inl (4, [.inl none, .inl none, .inr (0)])) := ⟨_, rfl⟩
  rw [← hD5] at hB
  have hDk : D5 k = .inl (2, [.inl none, .inr (0), .inl none, .inr (0)]) := by rw [hD5, upD_ne (by omega)]; exact hDk
  refine v_dup dX2_init_8 rfl ?_
  refine v_callIN (tX4_init hB (k := n) (by omega) rfl (by rw [hD5, upD_at])) lc_X2_9 ⟨(Nat.le_of_ble_eq_true rfl), (Nat.le_of_ble_eq_true rfl)⟩ dX2_init_9 rfl rfl (Nat.le_of_ble_eq_true rfl) ⟨(Nat.le_of_ble_eq_true rfl), (Nat.le_of_ble_eq_true rfl)⟩ (kV fun M9 hp9 => ?_)
  obtain ⟨ad9, hB, hS9⟩ := hp9
  have hS := hS.tr hS9 (by omega)
  obtain ⟨D9, hD9⟩ : ∃ z, z = rowD D5 n (n + 1) := ⟨_, rfl⟩
  rw [← hD9] at hB
  have hDk : D9 k = .inl (2, [.inl none, .inr (0), .inl none, .inr (0)]) := by rw [hD9]; unfold rowD; rw [upD_ne (by omega), upD_ne (by omega), upD_ne (by omega)]; exact hDk
  rw [show ad5 n = ad9 n from (hS9 n (by omega)).symm]
  refine v_putF dX2_init_12 pf_X2_10 rfl (hB.at (k := k) (by omega) ((hS k hk).trans ht) hDk rfl) rfl rfl (Nat.le_of_ble_eq_true rfl) ?_
  generalize hMe12 : wup _ _ _ = M12
  have hB : wB G (n + 3) ad9 (upD D9 k (.inl (2, [.inl (some (n)), .inr (0), .inl none, .inr (0)]))) M12 := by rw [← hMe12]; exact hB.set (k := k) (by omega) ((hS k hk).trans ht) (.inl (2, [.inl (some (n)), .inr (0), .inl none, .inr (0)])) rfl (by simp [rfE, rfV] <;> omega)
  obtain ⟨D12, hD12⟩ : ∃ z, z = upD D9 k (.inl (2, [.inl (some (n)), .inr (0), .inl none, .inr (0)])) := ⟨_, rfl⟩
  rw [← hD12] at hB
  have hDk : D12 k = .inl (2, [.inl (some (n)), .inr (0), .inl none, .inr (0)]) := by rw [hD12, upD_at]
  refine v_aloadn dX2_init_15 rfl ?_
  refine v_iconst dX2_init_16 ?_
  refine v_put dX2_init_17 pf_X2_16 (hB.at (k := k) (by omega) ((hS k hk).trans ht) hDk rfl) rfl rfl (Nat.le_of_ble_eq_true rfl) ?_
  generalize hMe17 : wup _ _ _ = M17
  have hB : wB G (n + 3) ad9 (upD D12 k (.inl (2, [.inl (some (n)), .inr (0), .inl none, .inr (0)]))) M17 := by rw [← hMe17]; exact hB.set (k := k) (by omega) ((hS k hk).trans ht) (.inl (2, [.inl (some (n)), .inr (0), .inl none, .inr (0)])) rfl (by simp [rfE, rfV] <;> omega)
  obtain ⟨D17, hD17⟩ : ∃ z, z = upD D12 k (.inl (2, [.inl (some (n)), .inr (0), .inl none, .inr (0)])) := ⟨_, rfl⟩
  rw [← hD17] at hB
  have hDk : D17 k = .inl (2, [.inl (some (n)), .inr (0), .inl none, .inr (0)]) := by rw [hD17, upD_at]
  refine v_aloadn dX2_init_20 rfl ?_
  refine v_aloadn dX2_init_21 rfl ?_
  refine v_get dX2_init_22 gf_X2_10 (hB.at (k := k) (by omega) ((hS k hk).trans ht) hDk rfl) rfl ?_
  refine v_put dX2_init_25 pf_X2_20 (hB.at (k := k) (by omega) ((hS k hk).trans ht) hDk rfl) rfl rfl (Nat.le_of_ble_eq_true rfl) ?_
  generalize hMe25 : wup _ _ _ = M25
  have hB : wB G (n + 3) ad9 (upD D17 k (.inl (2, [.inl (some (n)), .inr (0), .inl (some (n)), .inr (0)]))) M25 := by rw [← hMe25]; exact hB.set (k := k) (by omega) ((hS k hk).trans ht) (.inl (2, [.inl (some (n)), .inr (0), .inl (some (n)), .inr (0)])) rfl (by simp [rfE, rfV] <;> omega)
  obtain ⟨D25, hD25⟩ : ∃ z, z = upD D17 k (.inl (2, [.inl (some (n)), .inr (0), .inl (some (n)), .inr (0)])) := ⟨_, rfl⟩
  rw [← hD25] at hB
  have hDk : D25 k = .inl (2, [.inl (some (n)), .inr (0), .inl (some (n)), .inr (0)]) := by rw [hD25, upD_at]
  refine v_aloadn dX2_init_28 rfl ?_
  refine v_iconst dX2_init_29 ?_
  refine v_put dX2_init_30 pf_X2_23 (hB.at (k := k) (by omega) ((hS k hk).trans ht) hDk rfl) rfl rfl (Nat.le_of_ble_eq_true rfl) ?_
  generalize hMe30 : wup _ _ _ = M30
  have hB : wB G (n + 3) ad9 (upD D25 k (.inl (2, [.inl (some (n)), .inr (0), .inl (some (n)), .inr (1)]))) M30 := by rw [← hMe30]; exact hB.set (k := k) (by omega) ((hS k hk).trans ht) (.inl (2, [.inl (some (n)), .inr (0), .inl (some (n)), .inr (1)])) rfl (by simp [rfE, rfV] <;> omega)
  obtain ⟨D30, hD30⟩ : ∃ z, z = upD D25 k (.inl (2, [.inl (some (n)), .inr (0), .inl (some (n)), .inr (1)])) := ⟨_, rfl⟩
  rw [← hD30] at hB
  have hDk : D30 k = .inl (2, [.inl (some (n)), .inr (0), .inl (some (n)), .inr (1)]) := by rw [hD30, upD_at]
  exact v_vret dX2_init_33 rfl ⟨(Nat.le_of_ble_eq_true rfl), (Nat.le_of_ble_eq_true rfl)⟩ ⟨ad9, by rw [show maskD D k n = D30 by unfold maskD; funext j; simp only [hD30, hD25, hD17, hD12, hD9, hD5]; unfold rowD; simp only [upD]; (repeat' split) <;> first | rfl | omega]; exact hB, hS⟩
set_option maxHeartbeats 4000000 in
set_option maxRecDepth 100000 in
theorem tX3_init {G : gG} {n k t : Nat} {ad : Nat → Nat} {D : Nat → dE} {M : wM} (hB : wB G n ad D M) (hk : k < n) (ht : ad k = t) (hDk : D k = .inl (3, [.inl none, .inl none, .inl none, .inr (0), .inr (0), .inr (0)])) : wT G qX3_init 3 103 [.ref t] M (vP fun M' => ∃ ad', wB G (n + 3) ad' (pairD D k n) M' ∧ wS n ad ad') := by
  refine wT.intro (by decide) (Nat.le_of_ble_eq_true rfl) (fun sz => ?_)
  have hS : wS n ad ad := wS.rf
  refine v_aloadn dX3_init_0 rfl ?_
  refine v_objInit dX3_init_1 lo_X3 (Nat.le_of_ble_eq_true rfl) (Nat.le_of_ble_eq_true rfl) ?_
  refine v_aloadn dX3_init_4 rfl ?_
  refine v_new dX3_init_5 ln_X3_9 (Nat.le_of_ble_eq_true rfl) (Nat.le_of_ble_eq_true rfl) (fun a5 hn5 => ?_)
  generalize hMe5 : wup _ _ _ = M5
  obtain ⟨ad5, hB, ha5, hS5⟩ : ∃ ad', wB G (n + 1) ad' (upD D (n) (.inl (4, [.inl none, .inl none, .inr (0)]))) M5 ∧ ad' (n) = a5 ∧ wS (n) ad ad' := by rw [← hMe5]; exact hB.push (.inl (4, [.inl none, .inl none, .inr (0)])) hn5 (fun _ => rfl) (by simp [rfE, rfV] <;> omega)
  subst ha5
  have hS := hS.tr hS5 (by omega)
  obtain ⟨D5, hD5⟩ : ∃ z, z = upD D (n) (.inl (4, [.inl none, .inl none, .inr (0)])) := ⟨_, rfl⟩
  rw [← hD5] at hB
  have hDk : D5 k = .inl (3, [.inl none, .inl none, .inl none, .inr (0), .inr (0), .inr (0)]) := by rw [hD5, upD_ne (by omega)]; exact hDk
  refine v_dup dX3_init_8 rfl ?_
  refine v_callIN (tX4_init hB (k := n) (by omega) rfl (by rw [hD5, upD_at])) lc_X3_11 ⟨(Nat.le_of_ble_eq_true rfl), (Nat.le_of_ble_eq_true rfl)⟩ dX3_init_9 rfl rfl (Nat.le_of_ble_eq_true rfl) ⟨(Nat.le_of_ble_eq_true rfl), (Nat.le_of_ble_eq_true rfl)⟩ (kV fun M9 hp9 => ?_)
  obtain ⟨ad9, hB, hS9⟩ := hp9
  have hS := hS.tr hS9 (by omega)
  obtain ⟨D9, hD9⟩ : ∃ z, z = rowD D5 n (n + 1) := ⟨_, rfl⟩
  rw [← hD9] at hB
  have hDk : D9 k = .inl (3, [.inl none, .inl none, .inl none, .inr (0), .inr (0), .inr (0)]) := by rw [hD9]; unfold rowD; rw [upD_ne (by omega), upD_ne (by omega), upD_ne (by omega)]; exact hDk
  rw [show ad5 n = ad9 n from (hS9 n (by omega)).symm]
  refine v_putF dX3_init_12 pf_X3_12 rfl (hB.at (k := k) (by omega) ((hS k hk).trans ht) hDk rfl) rfl rfl (Nat.le_of_ble_eq_true rfl) ?_
  generalize hMe12 : wup _ _ _ = M12
  have hB : wB G (n + 3) ad9 (upD D9 k (.inl (3, [.inl (some (n)), .inl none, .inl none, .inr (0), .inr (0), .inr (0)]))) M12 := by rw [← hMe12]; exact hB.set (k := k) (by omega) ((hS k hk).trans ht) (.inl (3, [.inl (some (n)), .inl none, .inl none, .inr (0), .inr (0), .inr (0)])) rfl (by simp [rfE, rfV] <;> omega)
  obtain ⟨D12, hD12⟩ : ∃ z, z = upD D9 k (.inl (3, [.inl (some (n)), .inl none, .inl none, .inr (0), .inr (0), .inr (0)])) := ⟨_, rfl⟩
  rw [← hD12] at hB
  have hDk : D12 k = .inl (3, [.inl (some (n)), .inl none, .inl none, .inr (0), .inr (0), .inr (0)]) := by rw [hD12, upD_at]
  refine v_aloadn dX3_init_15 rfl ?_
  refine v_aloadn dX3_init_16 rfl ?_
  refine v_get dX3_init_17 gf_X3_12 (hB.at (k := k) (by omega) ((hS k hk).trans ht) hDk rfl) rfl ?_
  refine v_put dX3_init_20 pf_X3_18 (hB.at (k := k) (by omega) ((hS k hk).trans ht) hDk rfl) rfl rfl (Nat.le_of_ble_eq_true rfl) ?_
  generalize hMe20 : wup _ _ _ = M20
  have hB : wB G (n + 3) ad9 (upD D12 k (.inl (3, [.inl (some (n)), .inl (some (n)), .inl none, .inr (0), .inr (0), .inr (0)]))) M20 := by rw [← hMe20]; exact hB.set (k := k) (by omega) ((hS k hk).trans ht) (.inl (3, [.inl (some (n)), .inl (some (n)), .inl none, .inr (0), .inr (0), .inr (0)])) rfl (by simp [rfE, rfV] <;> omega)
  obtain ⟨D20, hD20⟩ : ∃ z, z = upD D12 k (.inl (3, [.inl (some (n)), .inl (some (n)), .inl none, .inr (0), .inr (0), .inr (0)])) := ⟨_, rfl⟩
  rw [← hD20] at hB
  have hDk : D20 k = .inl (3, [.inl (some (n)), .inl (some (n)), .inl none, .inr (0), .inr (0), .inr (0)]) := by rw [hD20, upD_at]
  refine v_aloadn dX3_init_23 rfl ?_
  refine v_aloadn dX3_init_24 rfl ?_
  refine v_get dX3_init_25 gf_X3_12 (hB.at (k := k) (by omega) ((hS k hk).trans ht) hDk rfl) rfl ?_
  refine v_put dX3_init_28 pf_X3_21 (hB.at (k := k) (by omega) ((hS k hk).trans ht) hDk rfl) rfl rfl (Nat.le_of_ble_eq_true rfl) ?_
  generalize hMe28 : wup _ _ _ = M28
  have hB : wB G (n + 3) ad9 (upD D20 k (.inl (3, [.inl (some (n)), .inl (some (n)), .inl (some (n)), .inr (0), .inr (0), .inr (0)]))) M28 := by rw [← hMe28]; exact hB.set (k := k) (by omega) ((hS k hk).trans ht) (.inl (3, [.inl (some (n)), .inl (some (n)), .inl (some (n)), .inr (0), .inr (0), .inr (0)])) rfl (by simp [rfE, rfV] <;> omega)
  obtain ⟨D28, hD28⟩ : ∃ z, z = upD D20 k (.inl (3, [.inl (some (n)), .inl (some (n)), .inl (some (n)), .inr (0), .inr (0), .inr (0)])) := ⟨_, rfl⟩
  rw [← hD28] at hB
  have hDk : D28 k = .inl (3, [.inl (some (n)), .inl (some (n)), .inl (some (n)), .inr (0), .inr (0), .inr (0)]) := by rw [hD28, upD_at]
  refine v_aloadn dX3_init_31 rfl ?_
  refine v_iconst dX3_init_32 ?_
  refine v_put dX3_init_33 pf_X3_24 (hB.at (k := k) (by omega) ((hS k hk).trans ht) hDk rfl) rfl rfl (Nat.le_of_ble_eq_true rfl) ?_
  generalize hMe33 : wup _ _ _ = M33
  have hB : wB G (n + 3) ad9 (upD D28 k (.inl (3, [.inl (some (n)), .inl (some (n)), .inl (some (n)), .inr (0), .inr (0), .inr (0)]))) M33 := by rw [← hMe33]; exact hB.set (k := k) (by omega) ((hS k hk).trans ht) (.inl (3, [.inl (some (n)), .inl (some (n)), .inl (some (n)), .inr (0), .inr (0), .inr (0)])) rfl (by simp [rfE, rfV] <;> omega)
  obtain ⟨D33, hD33⟩ : ∃ z, z = upD D28 k (.inl (3, [.inl (some (n)), .inl (some (n)), .inl (some (n)), .inr (0), .inr (0), .inr (0)])) := ⟨_, rfl⟩
  rw [← hD33] at hB
  have hDk : D33 k = .inl (3, [.inl (some (n)), .inl (some (n)), .inl (some (n)), .inr (0), .inr (0), .inr (0)]) := by rw [hD33, upD_at]
  refine v_aloadn dX3_init_36 rfl ?_
  refine v_iconst dX3_init_37 ?_
  refine v_put dX3_init_38 pf_X3_28 (hB.at (k := k) (by omega) ((hS k hk).trans ht) hDk rfl) rfl rfl (Nat.le_of_ble_eq_true rfl) ?_
  generalize hMe38 : wup _ _ _ = M38
  have hB : wB G (n + 3) ad9 (upD D33 k (.inl (3, [.inl (some (n)), .inl (some (n)), .inl (some (n)), .inr (0), .inr (0), .inr (0)]))) M38 := by rw [← hMe38]; exact hB.set (k := k) (by omega) ((hS k hk).trans ht) (.inl (3, [.inl (some (n)), .inl (some (n)), .inl (some (n)), .inr (0), .inr (0), .inr (0)])) rfl (by simp [rfE, rfV] <;> omega)
  obtain ⟨D38, hD38⟩ : ∃ z, z = upD D33 k (.inl (3, [.inl (some (n)), .inl (some (n)), .inl (some (n)), .inr (0), .inr (0), .inr (0)])) := ⟨_, rfl⟩
  rw [← hD38] at hB
  have hDk : D38 k = .inl (3, [.inl (some (n)), .inl (some (n)), .inl (some (n)), .inr (0), .inr (0), .inr (0)]) := by rw [hD38, upD_at]
  refine v_aloadn dX3_init_41 rfl ?_
  refine v_iconst dX3_init_42 ?_
  refine v_put dX3_init_43 pf_X3_32 (hB.at (k := k) (by omega) ((hS k hk).trans ht) hDk rfl) rfl rfl (Nat.le_of_ble_eq_true rfl) ?_
  generalize hMe43 : wup _ _ _ = M43
  have hB : wB G (n + 3) ad9 (upD D38 k (.inl (3, [.inl (some (n)), .inl (some (n)), .inl (some (n)), .inr (0), .inr (0), .inr (1)]))) M43 := by rw [← hMe43]; exact hB.set (k := k) (by omega) ((hS k hk).trans ht) (.inl (3, [.inl (some (n)), .inl (some (n)), .inl (some (n)), .inr (0), .inr (0), .inr (1)])) rfl (by simp [rfE, rfV] <;> omega)
  obtain ⟨D43, hD43⟩ : ∃ z, z = upD D38 k (.inl (3, [.inl (some (n)), .inl (some (n)), .inl (some (n)), .inr (0), .inr (0), .inr (1)])) := ⟨_, rfl⟩
  rw [← hD43] at hB
  have hDk : D43 k = .inl (3, [.inl (some (n)), .inl (some (n)), .inl (some (n)), .inr (0), .inr (0), .inr (1)]) := by rw [hD43, upD_at]
  exact v_vret dX3_init_46 rfl ⟨(Nat.le_of_ble_eq_true rfl), (Nat.le_of_ble_eq_true rfl)⟩ ⟨ad9, by rw [show pairD D k n = D43 by unfold pairD; funext j; simp only [hD43, hD38, hD33, hD28, hD20, hD12, hD9, hD5]; unfold rowD; simp only [upD]; (repeat' split) <;> first | rfl | omega]; exact hB, hS⟩
