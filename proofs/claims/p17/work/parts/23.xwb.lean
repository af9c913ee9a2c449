set_option maxHeartbeats 4000000 in
set_option maxRecDepth 100000 in
theorem tX2_coverTicks {G : gG} {fw : Nat → Nat → Nat} {s : sG} {M : wM} (hX : wX G fw s M) {i : Nat} (hi : i < 10) {c a b : Int} (hc : bt 0 c 11) (ha : bt 0 a 4000) (hb : bt 0 b 4000) : wT G qX2_coverTicks 0 0 [.ref (fw 13 i), .int (gI c), .int (gI a), .int (gI b)] M (vP fun M' => ∃ s', wX G fw s' M' ∧ wO cntX fw M M' ∧ ∀ k i', ¬ (10 ≤ k ∧ k ≤ 12 ∧ i' = 24 + i) → ¬ (k = 13 ∧ i' = i) → s' k i' = s k i') := by
  refine wT.intro (by decide) (Nat.le_of_ble_eq_true rfl) (fun sz => ?_)
  refine v_aloadn dX2_coverTicks_0 rfl ?_
  refine v_get dX2_coverTicks_1 gf_X2_10 (hX.2.1 13 i hi) rfl ?_
  refine v_callV (tX4_clear hX (i := 24 + i) (by omega)) lc_X2_26 ⟨(Nat.le_of_ble_eq_true rfl), (Nat.le_of_ble_eq_true rfl)⟩ dX2_coverTicks_4 rfl rfl (Nat.le_of_ble_eq_true rfl) ⟨(Nat.le_of_ble_eq_true rfl), (Nat.le_of_ble_eq_true rfl)⟩ ⟨_, _, _, _, hX.2.1 10 (24 + i) (by simp [cntX]; omega), rfl⟩ (kV fun M4 hp4 => ?_)
  obtain ⟨sa, hXa, hOa, hsa⟩ := hp4
  refine v_aloadn dX2_coverTicks_7 rfl ?_
  refine v_get dX2_coverTicks_8 gf_X2_10 (hXa.2.1 13 i hi) rfl ?_
  refine v_iloadn dX2_coverTicks_11 rfl ?_
  refine v_iconst dX2_coverTicks_12 ?_
  refine v_callV (tX4_put hXa (i := 24 + i) (by omega) (by omega) (by omega)) lc_X2_29 ⟨(Nat.le_of_ble_eq_true rfl), (Nat.le_of_ble_eq_true rfl)⟩ dX2_coverTicks_13 rfl rfl (Nat.le_of_ble_eq_true rfl) ⟨(Nat.le_of_ble_eq_true rfl), (Nat.le_of_ble_eq_true rfl)⟩ ⟨_, _, _, _, hXa.2.1 10 (24 + i) (by simp [cntX]; omega), rfl⟩ (kV fun M13 hp13 => ?_)
  obtain ⟨sb, hXb, hOb, hsb⟩ := hp13
  refine v_aloadn dX2_coverTicks_16 rfl ?_
  refine v_get dX2_coverTicks_17 gf_X2_10 (hXb.2.1 13 i hi) rfl ?_
  refine v_iloadn dX2_coverTicks_20 rfl ?_
  refine v_iconst dX2_coverTicks_21 ?_
  refine v_callV (tX4_put hXb (i := 24 + i) (by omega) (by omega) (by omega)) lc_X2_29 ⟨(Nat.le_of_ble_eq_true rfl), (Nat.le_of_ble_eq_true rfl)⟩ dX2_coverTicks_22 rfl rfl (Nat.le_of_ble_eq_true rfl) ⟨(Nat.le_of_ble_eq_true rfl), (Nat.le_of_ble_eq_true rfl)⟩ ⟨_, _, _, _, hXb.2.1 10 (24 + i) (by simp [cntX]; omega), rfl⟩ (kV fun M22 hp22 => ?_)
  obtain ⟨sc, hXc, hOc, hsc⟩ := hp22
  refine v_aloadn dX2_coverTicks_25 rfl ?_
  refine v_iloadn dX2_coverTicks_26 rfl ?_
  refine v_aloadn dX2_coverTicks_27 rfl ?_
  refine v_get dX2_coverTicks_28 gf_X2_10 (hXc.2.1 13 i hi) rfl ?_
  refine v_iconst dX2_coverTicks_31 ?_
  refine v_callV (tX2_coverWhile hXc (j := 24 + i) hi (by omega) hc (by omega)) lc_X2_33 ⟨(Nat.le_of_ble_eq_true rfl), (Nat.le_of_ble_eq_true rfl)⟩ dX2_coverTicks_32 rfl rfl (Nat.le_of_ble_eq_true rfl) ⟨(Nat.le_of_ble_eq_true rfl), (Nat.le_of_ble_eq_true rfl)⟩ ⟨_, _, _, _, hXc.2.1 13 i hi, rfl⟩ (kV fun M32 hp32 => ?_)
  obtain ⟨sd, hXd, hOd, hsd⟩ := hp32
  exact v_vret dX2_coverTicks_35 rfl ⟨(Nat.le_of_ble_eq_true rfl), (Nat.le_of_ble_eq_true rfl)⟩ ⟨sd, hXd, ((hOa.tr hOb).tr hOc).tr hOd, fun k i' h1 h2 => by
    rw [hsd]; simp only [ups]; rw [if_neg h2, if_neg h2, if_neg h2]
    have ec : sc k i' = sb k i' := by
      rcases hsc with ⟨-, h⟩ | ⟨-, h⟩
      · rw [h]; simp only [ups]; rw [if_neg (by omega), if_neg (by omega), if_neg (by omega)]
      · rw [h]
    have eb : sb k i' = sa k i' := by
      rcases hsb with ⟨-, h⟩ | ⟨-, h⟩
      · rw [h]; simp only [ups]; rw [if_neg (by omega), if_neg (by omega), if_neg (by omega)]
      · rw [h]
    rw [ec, eb, hsa]; simp only [ups]; rw [if_neg (by omega)]⟩
set_option maxHeartbeats 4000000 in
set_option maxRecDepth 100000 in
theorem tX0_tell {G : gG} {fw : Nat → Nat → Nat} {s : sG} {M : wM} (hX : wX G fw s M) {i : Nat} (hi : i < 4) {a b c d : Int} (ha : bt 0 a 11) (hb : bt 0 b 11) (hc : bt 0 c 11) (hd : bt 0 d 11) : wT G qX0_tell 0 0 [.ref (fw 14 i), .int (gI a), .int (gI b), .int (gI c), .int (gI d)] M (vP fun M' => ∃ s', wX G fw s' M' ∧ wO cntX fw M M' ∧ s' = ups (ups (ups (ups (ups s 14 i 0 1) 14 i 1 a) 14 i 2 b) 14 i 3 c) 14 i 4 d) := by
  refine wT.intro (by decide) (Nat.le_of_ble_eq_true rfl) (fun sz => ?_)
  obtain ⟨hJ, hH, hI⟩ := id hX
  have hO : wO cntX fw M M := wO.rf
  refine v_aloadn dX0_tell_0 rfl ?_
  refine v_iconst dX0_tell_1 ?_
  refine v_put dX0_tell_2 pf_X0_7 (hH 14 i hi) rfl rfl (Nat.le_of_ble_eq_true rfl) ?_
  generalize hMe2 : wup _ _ _ = M2
  have hO : wO cntX fw M M2 := by rw [← hMe2]; exact hO.up (k := 14) (i := i) hi
  obtain ⟨s2, hs2⟩ : ∃ z, z = ups s 14 i (0) (1) := ⟨_, rfl⟩
  have hH : wH cntX (cellX G fw) fw s2 M2 := by rw [← hMe2, hs2]; exact wH.up hJ hH (k := 14) (i := i) (0) (1) hi rfl
  refine v_aloadn dX0_tell_5 rfl ?_
  refine v_iloadn dX0_tell_6 rfl ?_
  refine v_put dX0_tell_7 pf_X0_13 (hH 14 i hi) rfl rfl (Nat.le_of_ble_eq_true rfl) ?_
  generalize hMe7 : wup _ _ _ = M7
  have hO : wO cntX fw M M7 := by rw [← hMe7]; exact hO.up (k := 14) (i := i) hi
  obtain ⟨s7, hs7⟩ : ∃ z, z = ups s2 14 i (1) (a) := ⟨_, rfl⟩
  have hH : wH cntX (cellX G fw) fw s7 M7 := by rw [← hMe7, hs7]; exact wH.up hJ hH (k := 14) (i := i) (1) (a) hi rfl
  refine v_aloadn dX0_tell_10 rfl ?_
  refine v_iloadn dX0_tell_11 rfl ?_
  refine v_put dX0_tell_12 pf_X0_17 (hH 14 i hi) rfl rfl (Nat.le_of_ble_eq_true rfl) ?_
  generalize hMe12 : wup _ _ _ = M12
  have hO : wO cntX fw M M12 := by rw [← hMe12]; exact hO.up (k := 14) (i := i) hi
  obtain ⟨s12, hs12⟩ : ∃ z, z = ups s7 14 i (2) (b) := ⟨_, rfl⟩
  have hH : wH cntX (cellX G fw) fw s12 M12 := by rw [← hMe12, hs12]; exact wH.up hJ hH (k := 14) (i := i) (2) (b) hi rfl
  refine v_aloadn dX0_tell_15 rfl ?_
  refine v_iloadn dX0_tell_16 rfl ?_
  refine v_put dX0_tell_17 pf_X0_20 (hH 14 i hi) rfl rfl (Nat.le_of_ble_eq_true rfl) ?_
  generalize hMe17 : wup _ _ _ = M17
  have hO : wO cntX fw M M17 := by rw [← hMe17]; exact hO.up (k := 14) (i := i) hi
  obtain ⟨s17, hs17⟩ : ∃ z, z = ups s12 14 i (3) (c) := ⟨_, rfl⟩
  have hH : wH cntX (cellX G fw) fw s17 M17 := by rw [← hMe17, hs17]; exact wH.up hJ hH (k := 14) (i := i) (3) (c) hi rfl
  refine v_aloadn dX0_tell_20 rfl ?_
  refine v_iload dX0_tell_21 rfl ?_
  refine v_put dX0_tell_23 pf_X0_23 (hH 14 i hi) rfl rfl (Nat.le_of_ble_eq_true rfl) ?_
  generalize hMe23 : wup _ _ _ = M23
  have hO : wO cntX fw M M23 := by rw [← hMe23]; exact hO.up (k := 14) (i := i) hi
  obtain ⟨s23, hs23⟩ : ∃ z, z = ups s17 14 i (4) (d) := ⟨_, rfl⟩
  have hH : wH cntX (cellX G fw) fw s23 M23 := by rw [← hMe23, hs23]; exact wH.up hJ hH (k := 14) (i := i) (4) (d) hi rfl
  exact v_vret dX0_tell_26 rfl ⟨(Nat.le_of_ble_eq_true rfl), (Nat.le_of_ble_eq_true rfl)⟩ ⟨s23, ⟨hJ, hH, invX_chan hI i (fun k i' hq => by rw [hs23, hs17, hs12, hs7, hs2]; simp only [ups]; rw [if_neg hq, if_neg hq, if_neg hq, if_neg hq, if_neg hq]) (by rw [hs23, hs17, hs12, hs7, hs2]; simp [ups_at, upz] <;> omega)⟩, hO, by rw [hs23, hs17, hs12, hs7, hs2]⟩
set_option maxHeartbeats 4000000 in
set_option maxRecDepth 100000 in
theorem tX1_tell {G : gG} {fw : Nat → Nat → Nat} {s : sG} {M : wM} (hX : wX G fw s M) {i : Nat} (hi : i < 12) {a b c : Int} (ha : bt 0 a 6) (hb : bt 0 b 11) (hc : bt 0 c 11) : wT G qX1_tell 0 0 [.ref (fw 15 i), .int (gI a), .int (gI b), .int (gI c)] M (vP fun M' => ∃ s', wX G fw s' M' ∧ wO cntX fw M M' ∧ s' = ups (ups (ups s 15 i 0 a) 15 i 1 b) 15 i 2 c) := by
  refine wT.intro (by decide) (Nat.le_of_ble_eq_true rfl) (fun sz => ?_)
  obtain ⟨hJ, hH, hI⟩ := id hX
  have hO : wO cntX fw M M := wO.rf
  refine v_aloadn dX1_tell_0 rfl ?_
  refine v_iloadn dX1_tell_1 rfl ?_
  refine v_put dX1_tell_2 pf_X1_9 (hH 15 i hi) rfl rfl (Nat.le_of_ble_eq_true rfl) ?_
  generalize hMe2 : wup _ _ _ = M2
  have hO : wO cntX fw M M2 := by rw [← hMe2]; exact hO.up (k := 15) (i := i) hi
  obtain ⟨s2, hs2⟩ : ∃ z, z = ups s 15 i (0) (a) := ⟨_, rfl⟩
  have hH : wH cntX (cellX G fw) fw s2 M2 := by rw [← hMe2, hs2]; exact wH.up hJ hH (k := 15) (i := i) (0) (a) hi rfl
  refine v_aloadn dX1_tell_5 rfl ?_
  refine v_iloadn dX1_tell_6 rfl ?_
  refine v_put dX1_tell_7 pf_X1_15 (hH 15 i hi) rfl rfl (Nat.le_of_ble_eq_true rfl) ?_
  generalize hMe7 : wup _ _ _ = M7
  have hO : wO cntX fw M M7 := by rw [← hMe7]; exact hO.up (k := 15) (i := i) hi
  obtain ⟨s7, hs7⟩ : ∃ z, z = ups s2 15 i (1) (b) := ⟨_, rfl⟩
  have hH : wH cntX (cellX G fw) fw s7 M7 := by rw [← hMe7, hs7]; exact wH.up hJ hH (k := 15) (i := i) (1) (b) hi rfl
  refine v_aloadn dX1_tell_10 rfl ?_
  refine v_iloadn dX1_tell_11 rfl ?_
  refine v_put dX1_tell_12 pf_X1_18 (hH 15 i hi) rfl rfl (Nat.le_of_ble_eq_true rfl) ?_
  generalize hMe12 : wup _ _ _ = M12
  have hO : wO cntX fw M M12 := by rw [← hMe12]; exact hO.up (k := 15) (i := i) hi
  obtain ⟨s12, hs12⟩ : ∃ z, z = ups s7 15 i (2) (c) := ⟨_, rfl⟩
  have hH : wH cntX (cellX G fw) fw s12 M12 := by rw [← hMe12, hs12]; exact wH.up hJ hH (k := 15) (i := i) (2) (c) hi rfl
  exact v_vret dX1_tell_15 rfl ⟨(Nat.le_of_ble_eq_true rfl), (Nat.le_of_ble_eq_true rfl)⟩ ⟨s12, ⟨hJ, hH, invX_gate hI i (fun k i' hq => by rw [hs12, hs7, hs2]; simp only [ups]; rw [if_neg hq, if_neg hq, if_neg hq]) (by rw [hs12, hs7, hs2]; simp [ups_at, upz] <;> omega)⟩, hO, by rw [hs12, hs7, hs2]⟩
set_option maxHeartbeats 4000000 in
set_option maxRecDepth 100000 in
theorem tX3_wantUnlike {G : gG} {fw : Nat → Nat → Nat} {s : sG} {M : wM} (hX : wX G fw s M) {i j k : Nat} (hi : i < 11) (hj : j < 45) (hk : k < 45) {a b : Int} (ha : bt (-50) a 50) (hb : bt 0 b 1) : wT G qX3_wantUnlike 0 0 [.ref (fw 16 i), .ref (fw 10 j), .ref (fw 10 k), .int (gI a), .int (gI b)] M (vP fun M' => ∃ s', wX G fw s' M' ∧ wO cntX fw M M' ∧ s' = ups (ups (ups (ups (ups s 16 i 1 (j : Int)) 16 i 2 (k : Int)) 16 i 3 a) 16 i 4 b) 16 i 5 0) := by
  refine wT.intro (by decide) (Nat.le_of_ble_eq_true rfl) (fun sz => ?_)
  obtain ⟨hJ, hH, hI⟩ := id hX
  have hO : wO cntX fw M M := wO.rf
  refine v_aloadn dX3_wantUnlike_0 rfl ?_
  refine v_aloadn dX3_wantUnlike_1 rfl ?_
  refine v_put dX3_wantUnlike_2 pf_X3_18 (hH 16 i hi) rfl rfl (Nat.le_of_ble_eq_true rfl) ?_
  generalize hMe2 : wup _ _ _ = M2
  have hO : wO cntX fw M M2 := by rw [← hMe2]; exact hO.up (k := 16) (i := i) hi
  obtain ⟨s2, hs2⟩ : ∃ z, z = ups s 16 i (1) ((j : Int)) := ⟨_, rfl⟩
  have hH : wH cntX (cellX G fw) fw s2 M2 := by rw [← hMe2, hs2]; exact wH.up hJ hH (k := 16) (i := i) (1) ((j : Int)) hi rfl
  refine v_aloadn dX3_wantUnlike_5 rfl ?_
  refine v_aloadn dX3_wantUnlike_6 rfl ?_
  refine v_put dX3_wantUnlike_7 pf_X3_21 (hH 16 i hi) rfl rfl (Nat.le_of_ble_eq_true rfl) ?_
  generalize hMe7 : wup _ _ _ = M7
  have hO : wO cntX fw M M7 := by rw [← hMe7]; exact hO.up (k := 16) (i := i) hi
  obtain ⟨s7, hs7⟩ : ∃ z, z = ups s2 16 i (2) ((k : Int)) := ⟨_, rfl⟩
  have hH : wH cntX (cellX G fw) fw s7 M7 := by rw [← hMe7, hs7]; exact wH.up hJ hH (k := 16) (i := i) (2) ((k : Int)) hi rfl
  refine v_aloadn dX3_wantUnlike_10 rfl ?_
  refine v_iloadn dX3_wantUnlike_11 rfl ?_
  refine v_put dX3_wantUnlike_12 pf_X3_24 (hH 16 i hi) rfl rfl (Nat.le_of_ble_eq_true rfl) ?_
  generalize hMe12 : wup _ _ _ = M12
  have hO : wO cntX fw M M12 := by rw [← hMe12]; exact hO.up (k := 16) (i := i) hi
  obtain ⟨s12, hs12⟩ : ∃ z, z = ups s7 16 i (3) (a) := ⟨_, rfl⟩
  have hH : wH cntX (cellX G fw) fw s12 M12 := by rw [← hMe12, hs12]; exact wH.up hJ hH (k := 16) (i := i) (3) (a) hi rfl
  refine v_aloadn dX3_wantUnlike_15 rfl ?_
  refine v_iload dX3_wantUnlike_16 rfl ?_
  refine v_put dX3_wantUnlike_18 pf_X3_28 (hH 16 i hi) (by rcases (show b = 0 ∨ b = 1 by omega) with h | h <;> rw [h] <;> decide) (by rcases (show b = 0 ∨ b = 1 by omega) with h | h <;> rw [h] <;> decide) (Nat.le_of_ble_eq_true rfl) ?_
  generalize hMe18 : wup _ _ _ = M18
  have hO : wO cntX fw M M18 := by rw [← hMe18]; exact hO.up (k := 16) (i := i) hi
  obtain ⟨s18, hs18⟩ : ∃ z, z = ups s12 16 i (4) (b) := ⟨_, rfl⟩
  have hH : wH cntX (cellX G fw) fw s18 M18 := by rw [← hMe18, hs18]; exact wH.up hJ hH (k := 16) (i := i) (4) (b) hi rfl
  refine v_aloadn dX3_wantUnlike_21 rfl ?_
  refine v_iconst dX3_wantUnlike_22 ?_
  refine v_put dX3_wantUnlike_23 pf_X3_32 (hH 16 i hi) rfl rfl (Nat.le_of_ble_eq_true rfl) ?_
  generalize hMe23 : wup _ _ _ = M23
  have hO : wO cntX fw M M23 := by rw [← hMe23]; exact hO.up (k := 16) (i := i) hi
  obtain ⟨s23, hs23⟩ : ∃ z, z = ups s18 16 i (5) (0) := ⟨_, rfl⟩
  have hH : wH cntX (cellX G fw) fw s23 M23 := by rw [← hMe23, hs23]; exact wH.up hJ hH (k := 16) (i := i) (5) (0) hi rfl
  exact v_vret dX3_wantUnlike_26 rfl ⟨(Nat.le_of_ble_eq_true rfl), (Nat.le_of_ble_eq_true rfl)⟩ ⟨s23, ⟨hJ, hH, invX_pair hI i (fun k i' hq => by rw [hs23, hs18, hs12, hs7, hs2]; simp only [ups]; rw [if_neg hq, if_neg hq, if_neg hq, if_neg hq, if_neg hq]) (by rw [hs23, hs18, hs12, hs7, hs2]; simp [ups_at, upz] <;> omega)⟩, hO, by rw [hs23, hs18, hs12, hs7, hs2]⟩
theorem keepX_put {s s' : sG} {i n : Nat} {t v : Int} {b c d : Int} (hi : 34 ≤ i) (h : (b < 50 ∧ s' = ups (ups (ups s 11 i n t) 12 i n v) 10 i 2 c) ∨ (d = 50 ∧ s' = s)) : keepX s s' ∧ s' 8 = s 8 ∧ s' 16 = s 16 := by
  rcases h with ⟨-, h⟩ | ⟨-, h⟩
  · rw [h]
    refine ⟨fun k i' hq => ?_, ?_, ?_⟩
    · unfold scrX at hq
      simp only [ups]
      rw [if_neg (by omega), if_neg (by omega), if_neg (by omega)]
    · rw [ups_kf _ (by decide), ups_kf _ (by decide), ups_kf _ (by decide)]
    · rw [ups_kf _ (by decide), ups_kf _ (by decide), ups_kf _ (by decide)]
  · rw [h]
    exact ⟨keepX.rf, rfl, rfl⟩
set_option maxHeartbeats 4000000 in
set_option maxRecDepth 100000 in
theorem tX3_wantValue {G : gG} {fw : Nat → Nat → Nat} {s : sG} {M : wM} (hX : wX G fw s M) {i j : Nat} (hi : i < 11) (hj : j < 45) {v : Int} (hv : bt 0 v 256) : wT G qX3_wantValue 0 0 [.ref (fw 16 i), .ref (fw 10 j), .int (gI v)] M (vP fun M' => ∃ s', wX G fw s' M' ∧ wO cntX fw M M' ∧ keepX s s' ∧ s' 8 = s 8) := by
  refine wT.intro (by decide) (Nat.le_of_ble_eq_true rfl) (fun sz => ?_)
  refine v_aloadn dX3_wantValue_0 rfl ?_
  refine v_get dX3_wantValue_1 gf_X3_12 (hX.2.1 16 i hi) rfl ?_
  refine v_callV (tX4_clear hX (i := 34 + i) (by omega)) lc_X3_35 ⟨(Nat.le_of_ble_eq_true rfl), (Nat.le_of_ble_eq_true rfl)⟩ dX3_wantValue_4 rfl rfl (Nat.le_of_ble_eq_true rfl) ⟨(Nat.le_of_ble_eq_true rfl), (Nat.le_of_ble_eq_true rfl)⟩ ⟨_, _, _, _, hX.2.1 10 (34 + i) (by simp [cntX]; omega), rfl⟩ (kV fun M4 hp4 => ?_)
  obtain ⟨sa, hXa, hOa, hsa⟩ := hp4
  refine v_aloadn dX3_wantValue_7 rfl ?_
  refine v_get dX3_wantValue_8 gf_X3_12 (hXa.2.1 16 i hi) rfl ?_
  refine v_iconst dX3_wantValue_11 ?_
  refine v_iloadn dX3_wantValue_12 rfl ?_
  refine v_callV (tX4_put hXa (i := 34 + i) (by omega) (by omega) (by omega)) lc_X3_38 ⟨(Nat.le_of_ble_eq_true rfl), (Nat.le_of_ble_eq_true rfl)⟩ dX3_wantValue_13 rfl rfl (Nat.le_of_ble_eq_true rfl) ⟨(Nat.le_of_ble_eq_true rfl), (Nat.le_of_ble_eq_true rfl)⟩ ⟨_, _, _, _, hXa.2.1 10 (34 + i) (by simp [cntX]; omega), rfl⟩ (kV fun M13 hp13 => ?_)
  obtain ⟨sb, hXb, hOb, hsb⟩ := hp13
  obtain ⟨hJ, hH, hI⟩ := id hXb
  have hO : wO cntX fw M M13 := hOa.tr hOb
  obtain ⟨kb1, kb2, kb3⟩ := keepX_put (i := 34 + i) (by omega) hsb
  refine v_aloadn dX3_wantValue_16 rfl ?_
  refine v_aloadn dX3_wantValue_17 rfl ?_
  refine v_put dX3_wantValue_18 pf_X3_18 (hH 16 i hi) rfl rfl (Nat.le_of_ble_eq_true rfl) ?_
  generalize hMe18 : wup _ _ _ = M18
  have hO : wO cntX fw M M18 := by rw [← hMe18]; exact hO.up (k := 16) (i := i) hi
  obtain ⟨s18, hs18⟩ : ∃ z, z = ups sb 16 i (1) ((j : Int)) := ⟨_, rfl⟩
  have hH : wH cntX (cellX G fw) fw s18 M18 := by rw [← hMe18, hs18]; exact wH.up hJ hH (k := 16) (i := i) (1) ((j : Int)) hi rfl
  refine v_aloadn dX3_wantValue_21 rfl ?_
  refine v_aloadn dX3_wantValue_22 rfl ?_
  refine v_get dX3_wantValue_23 gf_X3_12 (hH 16 i hi) rfl ?_
  refine v_put dX3_wantValue_26 pf_X3_21 (hH 16 i hi) rfl rfl (Nat.le_of_ble_eq_true rfl) ?_
  generalize hMe26 : wup _ _ _ = M26
  have hO : wO cntX fw M M26 := by rw [← hMe26]; exact hO.up (k := 16) (i := i) hi
  obtain ⟨s26, hs26⟩ : ∃ z, z = ups s18 16 i (2) (((34 + i : Nat) : Int)) := ⟨_, rfl⟩
  have hH : wH cntX (cellX G fw) fw s26 M26 := by rw [← hMe26, hs26]; exact wH.up hJ hH (k := 16) (i := i) (2) (((34 + i : Nat) : Int)) hi rfl
  refine v_aloadn dX3_wantValue_29 rfl ?_
  refine v_iconst dX3_wantValue_30 ?_
  refine v_put dX3_wantValue_31 pf_X3_24 (hH 16 i hi) rfl rfl (Nat.le_of_ble_eq_true rfl) ?_
  generalize hMe31 : wup _ _ _ = M31
  have hO : wO cntX fw M M31 := by rw [← hMe31]; exact hO.up (k := 16) (i := i) hi
  obtain ⟨s31, hs31⟩ : ∃ z, z = ups s26 16 i (3) (0) := ⟨_, rfl⟩
  have hH : wH cntX (cellX G fw) fw s31 M31 := by rw [← hMe31, hs31]; exact wH.up hJ hH (k := 16) (i := i) (3) (0) hi rfl
  refine v_aloadn dX3_wantValue_34 rfl ?_
  refine v_iconst dX3_wantValue_35 ?_
  refine v_put dX3_wantValue_36 pf_X3_28 (hH 16 i hi) rfl rfl (Nat.le_of_ble_eq_true rfl) ?_
  generalize hMe36 : wup _ _ _ = M36
  have hO : wO cntX fw M M36 := by rw [← hMe36]; exact hO.up (k := 16) (i := i) hi
  obtain ⟨s36, hs36⟩ : ∃ z, z = ups s31 16 i (4) (0) := ⟨_, rfl⟩
  have hH : wH cntX (cellX G fw) fw s36 M36 := by rw [← hMe36, hs36]; exact wH.up hJ hH (k := 16) (i := i) (4) (0) hi rfl
  refine v_aloadn dX3_wantValue_39 rfl ?_
  refine v_iconst dX3_wantValue_40 ?_
  refine v_put dX3_wantValue_41 pf_X3_32 (hH 16 i hi) rfl rfl (Nat.le_of_ble_eq_true rfl) ?_
  generalize hMe41 : wup _ _ _ = M41
  have hO : wO cntX fw M M41 := by rw [← hMe41]; exact hO.up (k := 16) (i := i) hi
  obtain ⟨s41, hs41⟩ : ∃ z, z = ups s36 16 i (5) (1) := ⟨_, rfl⟩
  have hH : wH cntX (cellX G fw) fw s41 M41 := by rw [← hMe41, hs41]; exact wH.up hJ hH (k := 16) (i := i) (5) (1) hi rfl
  exact v_vret dX3_wantValue_44 rfl ⟨(Nat.le_of_ble_eq_true rfl), (Nat.le_of_ble_eq_true rfl)⟩ ⟨s41, ⟨hJ, hH, invX_pair hI i (fun k i' hq => by rw [hs41, hs36, hs31, hs26, hs18]; simp only [ups]; rw [if_neg hq, if_neg hq, if_neg hq, if_neg hq, if_neg hq]) (by rw [hs41, hs36, hs31, hs26, hs18]; simp [ups_at, upz] <;> omega)⟩, hO, keepX.tr (keepX.tr (s1 := sa) (fun k i' hq => by unfold scrX at hq; rw [hsa]; simp only [ups]; rw [if_neg (by omega)]) kb1) (fun k i' hq => by unfold scrX at hq; rw [hs41, hs36, hs31, hs26, hs18]; simp only [ups]; rw [if_neg (by omega), if_neg (by omega), if_neg (by omega), if_neg (by omega), if_neg (by omega)]), by rw [hs41, hs36, hs31, hs26, hs18, ups_kf _ (by decide), ups_kf _ (by decide), ups_kf _ (by decide), ups_kf _ (by decide), ups_kf _ (by decide), kb2, hsa, ups_kf _ (by decide)]⟩
set_option maxHeartbeats 4000000 in
set_option maxRecDepth 100000 in
theorem tX3_wantValueNot {G : gG} {fw : Nat → Nat → Nat} {s : sG} {M : wM} (hX : wX G fw s M) {i j : Nat} (hi : i < 11) (hj : j < 45) {v : Int} (hv : bt 0 v 256) : wT G qX3_wantValueNot 0 0 [.ref (fw 16 i), .ref (fw 10 j), .int (gI v)] M (vP fun M' => ∃ s', wX G fw s' M' ∧ wO cntX fw M M' ∧ keepX s s' ∧ s' 8 = s 8) := by
  refine wT.intro (by decide) (Nat.le_of_ble_eq_true rfl) (fun sz => ?_)
  refine v_aloadn dX3_wantValueNot_0 rfl ?_
  refine v_aloadn dX3_wantValueNot_1 rfl ?_
  refine v_iloadn dX3_wantValueNot_2 rfl ?_
  refine v_callV (tX3_wantValue hX hi hj hv) lc_X3_42 ⟨(Nat.le_of_ble_eq_true rfl), (Nat.le_of_ble_eq_true rfl)⟩ dX3_wantValueNot_3 rfl rfl (Nat.le_of_ble_eq_true rfl) ⟨(Nat.le_of_ble_eq_true rfl), (Nat.le_of_ble_eq_true rfl)⟩ ⟨_, _, _, _, hX.2.1 16 i hi, rfl⟩ (kV fun M3 hp3 => ?_)
  obtain ⟨sa, hXa, hOa, hka, hsa⟩ := hp3
  obtain ⟨hJ, hH, hI⟩ := id hXa
  have hO : wO cntX fw M M3 := hOa
  refine v_aloadn dX3_wantValueNot_6 rfl ?_
  refine v_iconst dX3_wantValueNot_7 ?_
  refine v_put dX3_wantValueNot_8 pf_X3_32 (hH 16 i hi) rfl rfl (Nat.le_of_ble_eq_true rfl) ?_
  generalize hMe8 : wup _ _ _ = M8
  have hO : wO cntX fw M M8 := by rw [← hMe8]; exact hO.up (k := 16) (i := i) hi
  obtain ⟨s8, hs8⟩ : ∃ z, z = ups sa 16 i (5) (0) := ⟨_, rfl⟩
  have hH : wH cntX (cellX G fw) fw s8 M8 := by rw [← hMe8, hs8]; exact wH.up hJ hH (k := 16) (i := i) (5) (0) hi rfl
  exact v_vret dX3_wantValueNot_11 rfl ⟨(Nat.le_of_ble_eq_true rfl), (Nat.le_of_ble_eq_true rfl)⟩ ⟨s8, ⟨hJ, hH, invX_pair hI i (fun k i' hq => by rw [hs8]; simp only [ups]; rw [if_neg hq]) (by have := hI.2.2.2.2.2.2.2.2 i hi; rw [hs8]; simp [ups_at, upz] <;> omega)⟩, hO, hka.tr (fun k i' hq => by unfold scrX at hq; rw [hs8]; simp only [ups]; rw [if_neg (by omega)]), by rw [hs8, ups_kf _ (by decide), hsa]⟩
