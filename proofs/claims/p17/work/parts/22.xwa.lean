set_option maxHeartbeats 4000000 in
set_option maxRecDepth 100000 in
theorem tX4_put {G : gG} {fw : Nat → Nat → Nat} {s : sG} {M : wM} (hX : wX G fw s M) {i : Nat} (hi : i < 45) {t v : Int} (ht : bt 0 t 4000) (hv : bt 0 v 256) : wT G qX4_put 0 0 [.ref (fw 10 i), .int (gI t), .int (gI v)] M (vP fun M' => ∃ s', wX G fw s' M' ∧ wO cntX fw M M' ∧ ((s 10 i 2 < 50 ∧ s' = ups (ups (ups s 11 i (s 10 i 2).toNat t) 12 i (s 10 i 2).toNat v) 10 i 2 (s 10 i 2 + 1)) ∨ (s 10 i 2 = 50 ∧ s' = s))) := by
  refine wT.intro (by decide) (Nat.le_of_ble_eq_true rfl) (fun sz => ?_)
  obtain ⟨hJ, hH, hI⟩ := id hX
  have hO : wO cntX fw M M := wO.rf
  have hok := hI.2.2.2.2.1 i hi
  have hn0 := hok.1
  have hn1 := hok.2.1
  refine v_aloadn dX4_put_0 rfl ?_
  refine v_get dX4_put_1 gf_X4_18 (hH 10 i hi) rfl ?_
  refine v_bipush dX4_put_4 (by decide) ?_
  refine v_icmp_ge 39 dX4_put_6 (by decide) (by omega) (by omega) (fun h6 => ?_) (fun h6 => ?_)
  · exact v_vret dX4_put_39 rfl ⟨(Nat.le_of_ble_eq_true rfl), (Nat.le_of_ble_eq_true rfl)⟩ ⟨s, hX, wO.rf, Or.inr ⟨by omega, rfl⟩⟩
  · refine v_aloadn dX4_put_9 rfl ?_
    refine v_get dX4_put_10 gf_X4_9 (hH 10 i hi) rfl ?_
    refine v_aloadn dX4_put_13 rfl ?_
    refine v_get dX4_put_14 gf_X4_18 (hH 10 i hi) rfl ?_
    refine v_iloadn dX4_put_17 rfl ?_
    refine v_iast dX4_put_18 (hH 11 i hi) (by omega) (by omega) (by decide) ?_
    generalize hMe18 : wup _ _ _ = M18
    have hO : wO cntX fw M M18 := by rw [← hMe18]; exact hO.up (k := 11) (i := i) hi
    obtain ⟨s18, hs18⟩ : ∃ z, z = ups s 11 i ((s 10 i 2).toNat) (t) := ⟨_, rfl⟩
    have hH : wH cntX (cellX G fw) fw s18 M18 := by rw [← hMe18, hs18]; exact wH.up hJ hH (k := 11) (i := i) ((s 10 i 2).toNat) (t) hi rfl
    have e18 : s18 10 i 2 = s 10 i 2 := by rw [hs18, ups_kf _ (by decide)]
    refine v_aloadn dX4_put_19 rfl ?_
    refine v_get dX4_put_20 gf_X4_15 (hH 10 i hi) rfl ?_
    refine v_aloadn dX4_put_23 rfl ?_
    refine v_get dX4_put_24 gf_X4_18 (hH 10 i hi) rfl ?_
    refine v_iloadn dX4_put_27 rfl ?_
    refine v_iast dX4_put_28 (hH 12 i hi) (by omega) (by omega) (by decide) ?_
    generalize hMe28 : wup _ _ _ = M28
    have hO : wO cntX fw M M28 := by rw [← hMe28]; exact hO.up (k := 12) (i := i) hi
    obtain ⟨s28, hs28⟩ : ∃ z, z = ups s18 12 i ((s18 10 i 2).toNat) (v) := ⟨_, rfl⟩
    have hH : wH cntX (cellX G fw) fw s28 M28 := by rw [← hMe28, hs28]; exact wH.up hJ hH (k := 12) (i := i) ((s18 10 i 2).toNat) (v) hi rfl
    have e28 : s28 10 i 2 = s 10 i 2 := by rw [hs28, ups_kf _ (by decide), e18]
    refine v_aloadn dX4_put_29 rfl ?_
    refine v_dup dX4_put_30 rfl ?_
    refine v_get dX4_put_31 gf_X4_18 (hH 10 i hi) rfl ?_
    refine v_iconst dX4_put_34 ?_
    refine v_iadd dX4_put_35 ?_
    refine v_put dX4_put_36 pf_X4_18 (hH 10 i hi) rfl rfl (Nat.le_of_ble_eq_true rfl) ?_
    generalize hMe36 : wup _ _ _ = M36
    have hO : wO cntX fw M M36 := by rw [← hMe36]; exact hO.up (k := 10) (i := i) hi
    obtain ⟨s36, hs36⟩ : ∃ z, z = ups s28 10 i (2) (s28 10 i 2 + 1) := ⟨_, rfl⟩
    have hH : wH cntX (cellX G fw) fw s36 M36 := by rw [← hMe36, hs36]; exact wH.up hJ hH (k := 10) (i := i) (2) (s28 10 i 2 + 1) hi rfl
    exact v_vret dX4_put_39 rfl ⟨(Nat.le_of_ble_eq_true rfl), (Nat.le_of_ble_eq_true rfl)⟩ ⟨s36, ⟨hJ, hH, invX_row hI i (fun k i' hq => by rw [hs36, hs28, hs18]; simp only [ups]; rw [if_neg (by omega), if_neg (by omega), if_neg (by omega)]) (by rw [hs36, hs28, hs18]; simp only [ups, upz]; simpa [upz] using hok.push (by omega) ht hv)⟩, hO, Or.inl ⟨by omega, by rw [hs36, e28, hs28, e18, hs18]⟩⟩
set_option maxHeartbeats 4000000 in
set_option maxRecDepth 100000 in
theorem tX4_clear {G : gG} {fw : Nat → Nat → Nat} {s : sG} {M : wM} (hX : wX G fw s M) {i : Nat} (hi : i < 45) : wT G qX4_clear 0 0 [.ref (fw 10 i)] M (vP fun M' => ∃ s', wX G fw s' M' ∧ wO cntX fw M M' ∧ s' = ups s 10 i 2 0) := by
  refine wT.intro (by decide) (Nat.le_of_ble_eq_true rfl) (fun sz => ?_)
  obtain ⟨hJ, hH, hI⟩ := id hX
  have hO : wO cntX fw M M := wO.rf
  refine v_aloadn dX4_clear_0 rfl ?_
  refine v_iconst dX4_clear_1 ?_
  refine v_put dX4_clear_2 pf_X4_18 (hH 10 i hi) rfl rfl (Nat.le_of_ble_eq_true rfl) ?_
  generalize hMe2 : wup _ _ _ = M2
  have hO : wO cntX fw M M2 := by rw [← hMe2]; exact hO.up (k := 10) (i := i) hi
  obtain ⟨s2, hs2⟩ : ∃ z, z = ups s 10 i (2) (0) := ⟨_, rfl⟩
  have hH : wH cntX (cellX G fw) fw s2 M2 := by rw [← hMe2, hs2]; exact wH.up hJ hH (k := 10) (i := i) (2) (0) hi rfl
  exact v_vret dX4_clear_5 rfl ⟨(Nat.le_of_ble_eq_true rfl), (Nat.le_of_ble_eq_true rfl)⟩ ⟨s2, ⟨hJ, hH, invX_row hI i (fun k i' hq => by rw [hs2]; simp only [ups]; rw [if_neg (by omega)]) (by rw [hs2, ups_at, ups_kf _ (by decide), ups_kf _ (by decide)]; exact (hI.2.2.2.2.1 i hi).less (by simp [upz]) (by simp [upz]; exact (hI.2.2.2.2.1 i hi).1))⟩, hO, hs2⟩
set_option maxHeartbeats 4000000 in
set_option maxRecDepth 100000 in
theorem tX4_dropFrom {G : gG} {fw : Nat → Nat → Nat} {s : sG} {M : wM} (hX : wX G fw s M) {i : Nat} (hi : i < 45) {t : Int} (ht : bt 0 t 4000) : wT G qX4_dropFrom 0 0 [.ref (fw 10 i), .int (gI t)] M (iP fun x M' => ∃ s' z, wX G fw s' M' ∧ wO cntX fw M M' ∧ lateP (s 10 i 2) (s 11 i) (t - 1) z ∧ s' = ups s 10 i 2 (z + 1) ∧ x = s 10 i 2 - (z + 1)) := by
  refine wT.intro (by decide) (Nat.le_of_ble_eq_true rfl) (fun sz => ?_)
  obtain ⟨hJ, hH, hI⟩ := id hX
  have hO : wO cntX fw M M := wO.rf
  have hok := hI.2.2.2.2.1 i hi
  have hn0 := hok.1
  have hn1 := hok.2.1
  refine v_aloadn dX4_dropFrom_0 rfl ?_
  refine v_get dX4_dropFrom_1 gf_X4_18 (hH 10 i hi) rfl ?_
  refine v_istoren dX4_dropFrom_4 (Nat.le_of_ble_eq_true rfl) ?_
  refine v_aloadn dX4_dropFrom_5 rfl ?_
  refine v_aloadn dX4_dropFrom_6 rfl ?_
  refine v_iloadn dX4_dropFrom_7 rfl ?_
  refine v_iconst dX4_dropFrom_8 ?_
  refine v_isub dX4_dropFrom_9 ?_
  refine v_callV (tX4_latest (hX.row hi) (by omega)) lc_X4_22 ⟨(Nat.le_of_ble_eq_true rfl), (Nat.le_of_ble_eq_true rfl)⟩ dX4_dropFrom_10 rfl rfl (Nat.le_of_ble_eq_true rfl) ⟨(Nat.le_of_ble_eq_true rfl), (Nat.le_of_ble_eq_true rfl)⟩ ⟨_, _, _, _, (hH 10 i hi), rfl⟩ (kP fun r10 hr10 hp10 => ?_)
  have hq10 := hp10; unfold lateP at hq10
  refine v_iconst dX4_dropFrom_13 ?_
  refine v_iadd dX4_dropFrom_14 ?_
  refine v_put dX4_dropFrom_15 pf_X4_18 (hH 10 i hi) rfl rfl (Nat.le_of_ble_eq_true rfl) ?_
  generalize hMe15 : wup _ _ _ = M15
  have hO : wO cntX fw M M15 := by rw [← hMe15]; exact hO.up (k := 10) (i := i) hi
  obtain ⟨s15, hs15⟩ : ∃ z, z = ups s 10 i (2) (r10 + 1) := ⟨_, rfl⟩
  have hH : wH cntX (cellX G fw) fw s15 M15 := by rw [← hMe15, hs15]; exact wH.up hJ hH (k := 10) (i := i) (2) (r10 + 1) hi rfl
  have e15 : s15 10 i 2 = r10 + 1 := by rw [hs15, ups_at]; rfl
  refine v_iloadn dX4_dropFrom_18 rfl ?_
  refine v_aloadn dX4_dropFrom_19 rfl ?_
  refine v_get dX4_dropFrom_20 gf_X4_18 (hH 10 i hi) rfl ?_
  refine v_isub dX4_dropFrom_23 ?_
  exact v_iret dX4_dropFrom_24 rfl ⟨(Nat.le_of_ble_eq_true rfl), (Nat.le_of_ble_eq_true rfl)⟩ (by omega) ⟨s15, r10, ⟨hJ, hH, invX_row hI i (fun k i' hq => by rw [hs15]; simp only [ups]; rw [if_neg (by omega)]) (by rw [e15, hs15, ups_kf _ (by decide), ups_kf _ (by decide)]; exact hok.less (by omega) (by omega))⟩, hO, hp10, hs15, by omega⟩
set_option maxHeartbeats 4000000 in
set_option maxRecDepth 100000 in
theorem tX2_coverWhile {G : gG} {fw : Nat → Nat → Nat} {s : sG} {M : wM} (hX : wX G fw s M) {i j : Nat} (hi : i < 10) (hj : j < 45) {a v : Int} (ha : bt 0 a 11) (hv : bt 0 v 256) : wT G qX2_coverWhile 0 0 [.ref (fw 13 i), .int (gI a), .ref (fw 10 j), .int (gI v)] M (vP fun M' => ∃ s', wX G fw s' M' ∧ wO cntX fw M M' ∧ s' = ups (ups (ups s 13 i 1 a) 13 i 2 (j : Int)) 13 i 3 v) := by
  refine wT.intro (by decide) (Nat.le_of_ble_eq_true rfl) (fun sz => ?_)
  obtain ⟨hJ, hH, hI⟩ := id hX
  have hO : wO cntX fw M M := wO.rf
  refine v_aloadn dX2_coverWhile_0 rfl ?_
  refine v_iloadn dX2_coverWhile_1 rfl ?_
  refine v_put dX2_coverWhile_2 pf_X2_16 (hH 13 i hi) rfl rfl (Nat.le_of_ble_eq_true rfl) ?_
  generalize hMe2 : wup _ _ _ = M2
  have hO : wO cntX fw M M2 := by rw [← hMe2]; exact hO.up (k := 13) (i := i) hi
  obtain ⟨s2, hs2⟩ : ∃ z, z = ups s 13 i (1) (a) := ⟨_, rfl⟩
  have hH : wH cntX (cellX G fw) fw s2 M2 := by rw [← hMe2, hs2]; exact wH.up hJ hH (k := 13) (i := i) (1) (a) hi rfl
  refine v_aloadn dX2_coverWhile_5 rfl ?_
  refine v_aloadn dX2_coverWhile_6 rfl ?_
  refine v_put dX2_coverWhile_7 pf_X2_20 (hH 13 i hi) rfl rfl (Nat.le_of_ble_eq_true rfl) ?_
  generalize hMe7 : wup _ _ _ = M7
  have hO : wO cntX fw M M7 := by rw [← hMe7]; exact hO.up (k := 13) (i := i) hi
  obtain ⟨s7, hs7⟩ : ∃ z, z = ups s2 13 i (2) ((j : Int)) := ⟨_, rfl⟩
  have hH : wH cntX (cellX G fw) fw s7 M7 := by rw [← hMe7, hs7]; exact wH.up hJ hH (k := 13) (i := i) (2) ((j : Int)) hi rfl
  refine v_aloadn dX2_coverWhile_10 rfl ?_
  refine v_iloadn dX2_coverWhile_11 rfl ?_
  refine v_put dX2_coverWhile_12 pf_X2_23 (hH 13 i hi) rfl rfl (Nat.le_of_ble_eq_true rfl) ?_
  generalize hMe12 : wup _ _ _ = M12
  have hO : wO cntX fw M M12 := by rw [← hMe12]; exact hO.up (k := 13) (i := i) hi
  obtain ⟨s12, hs12⟩ : ∃ z, z = ups s7 13 i (3) (v) := ⟨_, rfl⟩
  have hH : wH cntX (cellX G fw) fw s12 M12 := by rw [← hMe12, hs12]; exact wH.up hJ hH (k := 13) (i := i) (3) (v) hi rfl
  exact v_vret dX2_coverWhile_15 rfl ⟨(Nat.le_of_ble_eq_true rfl), (Nat.le_of_ble_eq_true rfl)⟩ ⟨s12, ⟨hJ, hH, invX_mask hI i (fun k i' hq => by rw [hs12, hs7, hs2]; simp only [ups]; rw [if_neg hq, if_neg hq, if_neg hq]) (by rw [hs12, hs7, hs2]; simp [ups_at, upz] <;> omega)⟩, hO, by rw [hs12, hs7, hs2]⟩
