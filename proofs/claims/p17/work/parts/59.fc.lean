/-! masks and channels, exactly -/
def ctS (s : sG) (i : Nat) (c a b : Int) : sG := ups (ups (ups (putS (putS (ups s 10 (24 + i) 2 0) (24 + i) a 1) (24 + i) b 0) 13 i 1 c) 13 i 2 ((24 + i : Nat) : Int)) 13 i 3 1
set_option maxHeartbeats 4000000 in
set_option maxRecDepth 100000 in
theorem fX2_coverTicks {G : gG} {fw : Nat → Nat → Nat} {s : sG} {M : wM} (hX : wX G fw s M) {i : Nat} (hi : i < 10) {c a b : Int} (hc : bt 0 c 11) (ha : bt 0 a 4000) (hb : bt 0 b 4000) : wT G qX2_coverTicks 0 0 [.ref (fw 13 i), .int (gI c), .int (gI a), .int (gI b)] M (vP fun M' => ∃ s', wX G fw s' M' ∧ wO cntX fw M M' ∧ s' = ctS s i c a b) := by
  refine wT.intro (by decide) (Nat.le_of_ble_eq_true rfl) (fun sz => ?_)
  refine v_aloadn dX2_coverTicks_0 rfl ?_
  refine v_get dX2_coverTicks_1 gf_X2_10 (hX.2.1 13 i hi) rfl ?_
  refine v_callV (tX4_clear hX (i := 24 + i) (by omega)) lc_X2_26 ⟨(Nat.le_of_ble_eq_true rfl), (Nat.le_of_ble_eq_true rfl)⟩ dX2_coverTicks_4 rfl rfl (Nat.le_of_ble_eq_true rfl) ⟨(Nat.le_of_ble_eq_true rfl), (Nat.le_of_ble_eq_true rfl)⟩ ⟨_, _, _, _, hX.2.1 10 (24 + i) (by simp [cntX]; omega), rfl⟩ (kV fun M4 hp4 => ?_)
  obtain ⟨sa, hXa, hOa, hsa⟩ := hp4
  have ea : sa 10 (24 + i) 2 = 0 := by rw [hsa, ups_at]; rfl
  refine v_aloadn dX2_coverTicks_7 rfl ?_
  refine v_get dX2_coverTicks_8 gf_X2_10 (hXa.2.1 13 i hi) rfl ?_
  refine v_iloadn dX2_coverTicks_11 rfl ?_
  refine v_iconst dX2_coverTicks_12 ?_
  refine v_callV (tX4_put hXa (i := 24 + i) (by omega) (by omega) (by omega)) lc_X2_29 ⟨(Nat.le_of_ble_eq_true rfl), (Nat.le_of_ble_eq_true rfl)⟩ dX2_coverTicks_13 rfl rfl (Nat.le_of_ble_eq_true rfl) ⟨(Nat.le_of_ble_eq_true rfl), (Nat.le_of_ble_eq_true rfl)⟩ ⟨_, _, _, _, hXa.2.1 10 (24 + i) (by simp [cntX]; omega), rfl⟩ (kV fun M13 hp13 => ?_)
  obtain ⟨sb, hXb, hOb, hsb⟩ := hp13
  have hsb : sb = putS sa (24 + i) a 1 := hsb.elim (fun h => h.2) (fun h => absurd h.1 (by omega))
  have eb : sb 10 (24 + i) 2 = 1 := by rw [hsb, putS_n, ea]; rfl
  refine v_aloadn dX2_coverTicks_16 rfl ?_
  refine v_get dX2_coverTicks_17 gf_X2_10 (hXb.2.1 13 i hi) rfl ?_
  refine v_iloadn dX2_coverTicks_20 rfl ?_
  refine v_iconst dX2_coverTicks_21 ?_
  refine v_callV (tX4_put hXb (i := 24 + i) (by omega) (by omega) (by omega)) lc_X2_29 ⟨(Nat.le_of_ble_eq_true rfl), (Nat.le_of_ble_eq_true rfl)⟩ dX2_coverTicks_22 rfl rfl (Nat.le_of_ble_eq_true rfl) ⟨(Nat.le_of_ble_eq_true rfl), (Nat.le_of_ble_eq_true rfl)⟩ ⟨_, _, _, _, hXb.2.1 10 (24 + i) (by simp [cntX]; omega), rfl⟩ (kV fun M22 hp22 => ?_)
  obtain ⟨sc, hXc, hOc, hsc⟩ := hp22
  have hsc : sc = putS sb (24 + i) b 0 := hsc.elim (fun h => h.2) (fun h => absurd h.1 (by omega))
  refine v_aloadn dX2_coverTicks_25 rfl ?_
  refine v_iloadn dX2_coverTicks_26 rfl ?_
  refine v_aloadn dX2_coverTicks_27 rfl ?_
  refine v_get dX2_coverTicks_28 gf_X2_10 (hXc.2.1 13 i hi) rfl ?_
  refine v_iconst dX2_coverTicks_31 ?_
  refine v_callV (tX2_coverWhile hXc (j := 24 + i) hi (by omega) hc (by omega)) lc_X2_33 ⟨(Nat.le_of_ble_eq_true rfl), (Nat.le_of_ble_eq_true rfl)⟩ dX2_coverTicks_32 rfl rfl (Nat.le_of_ble_eq_true rfl) ⟨(Nat.le_of_ble_eq_true rfl), (Nat.le_of_ble_eq_true rfl)⟩ ⟨_, _, _, _, hXc.2.1 13 i hi, rfl⟩ (kV fun M32 hp32 => ?_)
  obtain ⟨sd, hXd, hOd, hsd⟩ := hp32
  exact v_vret dX2_coverTicks_35 rfl ⟨(Nat.le_of_ble_eq_true rfl), (Nat.le_of_ble_eq_true rfl)⟩ ⟨sd, hXd, ((hOa.tr hOb).tr hOc).tr hOd, by rw [hsd, hsc, hsb, hsa]; rfl⟩
theorem ctS_0 (s : sG) (i : Nat) (c a b : Int) : ctS s i c a b 0 = s 0 := by
  unfold ctS
  rw [ups_kf _ (by decide), ups_kf _ (by decide), ups_kf _ (by decide), putS_k _ _ _ (by decide), putS_k _ _ _ (by decide), ups_kf _ (by decide)]
set_option maxHeartbeats 4000000 in
set_option maxRecDepth 100000 in
theorem fX6_mask {G : gG} {fw : Nat → Nat → Nat} {s : sG} {M : wM} (hX : wX G fw s M) {a b c : Int} (ha : rng a) (hb : rng b) (hc : rng c) : wT G qX6_mask 0 0 [.ref (fw 0 0), .int (gI a), .int (gI b), .int (gI c)] M (PX G fw M (fun x s' => (bt 0 a 11 ∧ 0 ≤ b ∧ b < c ∧ c ≤ 4000 ∧ s 0 0 8 < 10 ∧ x = s 0 0 8 + 1 ∧ s' = ups (ctS s (s 0 0 8).toNat a b c) 0 0 8 (s 0 0 8 + 1)) ∨ (bt 0 a 11 ∧ 0 ≤ b ∧ b < c ∧ c ≤ 4000 ∧ s 0 0 8 = 10 ∧ x = -3 ∧ s' = s) ∨ (¬ (bt 0 a 11 ∧ 0 ≤ b ∧ b < c ∧ c ≤ 4000) ∧ x = -1 ∧ s' = s))) := by
  refine wT.intro (by decide) (Nat.le_of_ble_eq_true rfl) (fun sz => ?_)
  obtain ⟨hJ, hH, hI⟩ := id hX
  have hO : wO cntX fw M M := wO.rf
  have h0 := hX.2.2.1
  have hnm := hX.2.2.2.1
  have hsh := hX.2.2.2.2.1
  have h8 := hX.2.2.2.2.2.1
  refine v_iloadn dX6_mask_0 rfl ?_
  refine v_callS (tX6_isNoSignal (by omega)) lc_X6_117 ⟨(Nat.le_of_ble_eq_true rfl), (Nat.le_of_ble_eq_true rfl)⟩ dX6_mask_1 rfl rfl (Nat.le_of_ble_eq_true rfl) ⟨(Nat.le_of_ble_eq_true rfl), (Nat.le_of_ble_eq_true rfl)⟩ (kP fun r1 hr1 hp1 => ?_)
  refine v_if_ne 23 dX6_mask_4 (by decide) (by omega) (fun h4 => ?_) (fun h4 => ?_)
  · refine v_iconst dX6_mask_23 ?_
    exact v_iret dX6_mask_24 rfl ⟨(Nat.le_of_ble_eq_true rfl), (Nat.le_of_ble_eq_true rfl)⟩ (by omega) ⟨s, hX, wO.rf, Or.inr (Or.inr ⟨by omega, by omega, rfl⟩)⟩
  · refine v_iloadn dX6_mask_7 rfl ?_
    refine v_if_lt 23 dX6_mask_8 (by decide) (by omega) (fun h8 => ?_) (fun h8 => ?_)
    · refine v_iconst dX6_mask_23 ?_
      exact v_iret dX6_mask_24 rfl ⟨(Nat.le_of_ble_eq_true rfl), (Nat.le_of_ble_eq_true rfl)⟩ (by omega) ⟨s, hX, wO.rf, Or.inr (Or.inr ⟨by omega, by omega, rfl⟩)⟩
    · refine v_iloadn dX6_mask_11 rfl ?_
      refine v_iloadn dX6_mask_12 rfl ?_
      refine v_icmp_ge 23 dX6_mask_13 (by decide) (by omega) (by omega) (fun h13 => ?_) (fun h13 => ?_)
      · refine v_iconst dX6_mask_23 ?_
        exact v_iret dX6_mask_24 rfl ⟨(Nat.le_of_ble_eq_true rfl), (Nat.le_of_ble_eq_true rfl)⟩ (by omega) ⟨s, hX, wO.rf, Or.inr (Or.inr ⟨by omega, by omega, rfl⟩)⟩
      · refine v_iloadn dX6_mask_16 rfl ?_
        refine v_sipush dX6_mask_17 (by decide) ?_
        refine v_icmp_le 25 dX6_mask_20 (by decide) (by omega) (by omega) (fun h20 => ?_) (fun h20 => ?_)
        · refine v_aloadn dX6_mask_25 rfl ?_
          refine v_get dX6_mask_26 gf_X6_50 (hH 0 0 (by decide)) rfl ?_
          refine v_bipush dX6_mask_29 (by decide) ?_
          refine v_icmp_lt 37 dX6_mask_31 (by decide) (by omega) (by omega) (fun h31 => ?_) (fun h31 => ?_)
          · refine v_aloadn dX6_mask_37 rfl ?_
            refine v_get dX6_mask_38 gf_X6_27 (hH 0 0 (by decide)) rfl ?_
            refine v_aloadn dX6_mask_41 rfl ?_
            refine v_get dX6_mask_42 gf_X6_50 (hH 0 0 (by decide)) rfl ?_
            refine v_aald2 (Cn := "WavePairs$Mask") dX6_mask_45 (hH 5 0 (by decide)) (by simp) (by omega) (by omega) (by decide) ?_
            refine v_iloadn dX6_mask_46 rfl ?_
            refine v_iloadn dX6_mask_47 rfl ?_
            refine v_iloadn dX6_mask_48 rfl ?_
            refine v_callV (fX2_coverTicks hX (by omega) (by omega) (by omega) (by omega)) lc_X6_120 ⟨(Nat.le_of_ble_eq_true rfl), (Nat.le_of_ble_eq_true rfl)⟩ dX6_mask_49 rfl rfl (Nat.le_of_ble_eq_true rfl) ⟨(Nat.le_of_ble_eq_true rfl), (Nat.le_of_ble_eq_true rfl)⟩ ⟨_, _, _, _, hX.2.1 13 _ (by simp [cntX]; omega), rfl⟩ (kV fun M49 hp49 => ?_)
            obtain ⟨s49, hX49, hO, hf49⟩ := hp49
            obtain ⟨hJ, hH, hI⟩ := id hX49
            have e49 : s49 0 0 8 = s 0 0 8 := by rw [hf49, ctS_0]
            refine v_aloadn dX6_mask_52 rfl ?_
            refine v_dup dX6_mask_53 rfl ?_
            refine v_get dX6_mask_54 gf_X6_50 (hH 0 0 (by decide)) rfl ?_
            refine v_iconst dX6_mask_57 ?_
            refine v_iadd dX6_mask_58 ?_
            refine v_put dX6_mask_59 pf_X6_50 (hH 0 0 (by decide)) rfl rfl (Nat.le_of_ble_eq_true rfl) ?_
            generalize hMe59 : wup _ _ _ = M59
            have hO : wO cntX fw M M59 := by rw [← hMe59]; exact hO.up (k := 0) (i := 0) (by decide)
            obtain ⟨s59, hs59⟩ : ∃ z, z = ups s49 0 0 (8) (s49 0 0 8 + 1) := ⟨_, rfl⟩
            have hH : wH cntX (cellX G fw) fw s59 M59 := by rw [← hMe59, hs59]; exact wH.up hJ hH (k := 0) (i := 0) (8) (s49 0 0 8 + 1) (by decide) rfl
            have e59 : s59 0 0 8 = s 0 0 8 + 1 := by rw [hs59, ups_at]; show s49 0 0 8 + 1 = _; omega
            refine v_aloadn dX6_mask_62 rfl ?_
            refine v_get dX6_mask_63 gf_X6_50 (hH 0 0 (by decide)) rfl ?_
            exact v_iret dX6_mask_66 rfl ⟨(Nat.le_of_ble_eq_true rfl), (Nat.le_of_ble_eq_true rfl)⟩ (by omega) ⟨s59, ⟨hJ, hH, invX_z hI (fun k hk => by rw [hs59]; exact ups_kf _ hk) (by have h0 := hI.1; rw [hs59]; simp [ups_at, upz] <;> omega)⟩, hO, Or.inl ⟨by omega, by omega, by omega, by omega, by omega, by omega, by rw [hs59, e49, hf49]⟩⟩
          · refine v_bipush dX6_mask_34 (by decide) ?_
            exact v_iret dX6_mask_36 rfl ⟨(Nat.le_of_ble_eq_true rfl), (Nat.le_of_ble_eq_true rfl)⟩ (by omega) ⟨s, hX, wO.rf, Or.inr (Or.inl ⟨by omega, by omega, by omega, by omega, by omega, by omega, rfl⟩)⟩
        · refine v_iconst dX6_mask_23 ?_
          exact v_iret dX6_mask_24 rfl ⟨(Nat.le_of_ble_eq_true rfl), (Nat.le_of_ble_eq_true rfl)⟩ (by omega) ⟨s, hX, wO.rf, Or.inr (Or.inr ⟨by omega, by omega, rfl⟩)⟩
set_option maxHeartbeats 4000000 in
set_option maxRecDepth 100000 in
theorem fX6_maskWhile {G : gG} {fw : Nat → Nat → Nat} {s : sG} {M : wM} (hX : wX G fw s M) {a b c : Int} (ha : rng a) (hb : rng b) (hc : rng c) : wT G qX6_maskWhile 0 0 [.ref (fw 0 0), .int (gI a), .int (gI b), .int (gI c)] M (PX G fw M (fun x s' => (bt 0 a 11 ∧ bt 0 b 11 ∧ bt 0 c 256 ∧ s 0 0 8 < 10 ∧ x = s 0 0 8 + 1 ∧ s' = ups (ups (ups (ups s 13 (s 0 0 8).toNat 1 a) 13 (s 0 0 8).toNat 2 b) 13 (s 0 0 8).toNat 3 c) 0 0 8 (s 0 0 8 + 1)) ∨ (bt 0 a 11 ∧ bt 0 b 11 ∧ bt 0 c 256 ∧ s 0 0 8 = 10 ∧ x = -3 ∧ s' = s) ∨ (¬ (bt 0 a 11 ∧ bt 0 b 11 ∧ bt 0 c 256) ∧ x = -1 ∧ s' = s))) := by
  refine wT.intro (by decide) (Nat.le_of_ble_eq_true rfl) (fun sz => ?_)
  obtain ⟨hJ, hH, hI⟩ := id hX
  have hO : wO cntX fw M M := wO.rf
  have h0 := hX.2.2.1
  have hnm := hX.2.2.2.1
  have hsh := hX.2.2.2.2.1
  have h8 := hX.2.2.2.2.2.1
  refine v_iloadn dX6_maskWhile_0 rfl ?_
  refine v_callS (tX6_isNoSignal (by omega)) lc_X6_117 ⟨(Nat.le_of_ble_eq_true rfl), (Nat.le_of_ble_eq_true rfl)⟩ dX6_maskWhile_1 rfl rfl (Nat.le_of_ble_eq_true rfl) ⟨(Nat.le_of_ble_eq_true rfl), (Nat.le_of_ble_eq_true rfl)⟩ (kP fun r1 hr1 hp1 => ?_)
  refine v_if_ne 21 dX6_maskWhile_4 (by decide) (by omega) (fun h4 => ?_) (fun h4 => ?_)
  · refine v_iconst dX6_maskWhile_21 ?_
    exact v_iret dX6_maskWhile_22 rfl ⟨(Nat.le_of_ble_eq_true rfl), (Nat.le_of_ble_eq_true rfl)⟩ (by omega) ⟨s, hX, wO.rf, Or.inr (Or.inr ⟨by omega, by omega, rfl⟩)⟩
  · refine v_iloadn dX6_maskWhile_7 rfl ?_
    refine v_callS (tX6_isNoSignal (by omega)) lc_X6_117 ⟨(Nat.le_of_ble_eq_true rfl), (Nat.le_of_ble_eq_true rfl)⟩ dX6_maskWhile_8 rfl rfl (Nat.le_of_ble_eq_true rfl) ⟨(Nat.le_of_ble_eq_true rfl), (Nat.le_of_ble_eq_true rfl)⟩ (kP fun r8 hr8 hp8 => ?_)
    refine v_if_ne 21 dX6_maskWhile_11 (by decide) (by omega) (fun h11 => ?_) (fun h11 => ?_)
    · refine v_iconst dX6_maskWhile_21 ?_
      exact v_iret dX6_maskWhile_22 rfl ⟨(Nat.le_of_ble_eq_true rfl), (Nat.le_of_ble_eq_true rfl)⟩ (by omega) ⟨s, hX, wO.rf, Or.inr (Or.inr ⟨by omega, by omega, rfl⟩)⟩
    · refine v_iloadn dX6_maskWhile_14 rfl ?_
      refine v_callS (tX6_isNoValue (by omega)) lc_X6_73 ⟨(Nat.le_of_ble_eq_true rfl), (Nat.le_of_ble_eq_true rfl)⟩ dX6_maskWhile_15 rfl rfl (Nat.le_of_ble_eq_true rfl) ⟨(Nat.le_of_ble_eq_true rfl), (Nat.le_of_ble_eq_true rfl)⟩ (kP fun r15 hr15 hp15 => ?_)
      refine v_if_eq 23 dX6_maskWhile_18 (by decide) (by omega) (fun h18 => ?_) (fun h18 => ?_)
      · refine v_aloadn dX6_maskWhile_23 rfl ?_
        refine v_get dX6_maskWhile_24 gf_X6_50 (hH 0 0 (by decide)) rfl ?_
        refine v_bipush dX6_maskWhile_27 (by decide) ?_
        refine v_icmp_lt 35 dX6_maskWhile_29 (by decide) (by omega) (by omega) (fun h29 => ?_) (fun h29 => ?_)
        · refine v_aloadn dX6_maskWhile_35 rfl ?_
          refine v_get dX6_maskWhile_36 gf_X6_27 (hH 0 0 (by decide)) rfl ?_
          refine v_aloadn dX6_maskWhile_39 rfl ?_
          refine v_get dX6_maskWhile_40 gf_X6_50 (hH 0 0 (by decide)) rfl ?_
          refine v_aald2 (Cn := "WavePairs$Mask") dX6_maskWhile_43 (hH 5 0 (by decide)) (by simp) (by omega) (by omega) (by decide) ?_
          refine v_iloadn dX6_maskWhile_44 rfl ?_
          refine v_aloadn dX6_maskWhile_45 rfl ?_
          refine v_iconst dX6_maskWhile_46 ?_
          refine v_iloadn dX6_maskWhile_47 rfl ?_
          refine v_callV (tX6_rowOf hX (by omega) (by omega)) lc_X6_77 ⟨(Nat.le_of_ble_eq_true rfl), (Nat.le_of_ble_eq_true rfl)⟩ dX6_maskWhile_48 rfl rfl (Nat.le_of_ble_eq_true rfl) ⟨(Nat.le_of_ble_eq_true rfl), (Nat.le_of_ble_eq_true rfl)⟩ ⟨_, _, _, _, (hH 0 0 (by decide)), rfl⟩ (kRp fun r48 hp48 => ?_)
          subst hp48
          refine v_iloadn dX6_maskWhile_51 rfl ?_
          refine v_callV (tX2_coverWhile hX (by omega) (by omega) (by omega) (by omega)) lc_X6_124 ⟨(Nat.le_of_ble_eq_true rfl), (Nat.le_of_ble_eq_true rfl)⟩ dX6_maskWhile_52 rfl rfl (Nat.le_of_ble_eq_true rfl) ⟨(Nat.le_of_ble_eq_true rfl), (Nat.le_of_ble_eq_true rfl)⟩ ⟨_, _, _, _, hX.2.1 13 _ (by simp [cntX]; omega), rfl⟩ (kV fun M52 hp52 => ?_)
          obtain ⟨s52, hX52, hO, hf52⟩ := hp52
          obtain ⟨hJ, hH, hI⟩ := id hX52
          rw [show (((0 * 12 + b).toNat : Nat) : Int) = b by omega] at hf52
          have e52 : s52 0 0 8 = s 0 0 8 := by rw [hf52, ups_kf _ (by decide), ups_kf _ (by decide), ups_kf _ (by decide)]
          refine v_aloadn dX6_maskWhile_55 rfl ?_
          refine v_dup dX6_maskWhile_56 rfl ?_
          refine v_get dX6_maskWhile_57 gf_X6_50 (hH 0 0 (by decide)) rfl ?_
          refine v_iconst dX6_maskWhile_60 ?_
          refine v_iadd dX6_maskWhile_61 ?_
          refine v_put dX6_maskWhile_62 pf_X6_50 (hH 0 0 (by decide)) rfl rfl (Nat.le_of_ble_eq_true rfl) ?_
          generalize hMe62 : wup _ _ _ = M62
          have hO : wO cntX fw M M62 := by rw [← hMe62]; exact hO.up (k := 0) (i := 0) (by decide)
          obtain ⟨s62, hs62⟩ : ∃ z, z = ups s52 0 0 (8) (s52 0 0 8 + 1) := ⟨_, rfl⟩
          have hH : wH cntX (cellX G fw) fw s62 M62 := by rw [← hMe62, hs62]; exact wH.up hJ hH (k := 0) (i := 0) (8) (s52 0 0 8 + 1) (by decide) rfl
          have e62 : s62 0 0 8 = s 0 0 8 + 1 := by rw [hs62, ups_at]; show s52 0 0 8 + 1 = _; omega
          refine v_aloadn dX6_maskWhile_65 rfl ?_
          refine v_get dX6_maskWhile_66 gf_X6_50 (hH 0 0 (by decide)) rfl ?_
          exact v_iret dX6_maskWhile_69 rfl ⟨(Nat.le_of_ble_eq_true rfl), (Nat.le_of_ble_eq_true rfl)⟩ (by omega) ⟨s62, ⟨hJ, hH, invX_z hI (fun k hk => by rw [hs62]; exact ups_kf _ hk) (by have h0 := hI.1; rw [hs62]; simp [ups_at, upz] <;> omega)⟩, hO, Or.inl ⟨by omega, by omega, by omega, by omega, by omega, by rw [hs62, e52, hf52]⟩⟩
        · refine v_bipush dX6_maskWhile_32 (by decide) ?_
          exact v_iret dX6_maskWhile_34 rfl ⟨(Nat.le_of_ble_eq_true rfl), (Nat.le_of_ble_eq_true rfl)⟩ (by omega) ⟨s, hX, wO.rf, Or.inr (Or.inl ⟨by omega, by omega, by omega, by omega, by omega, rfl⟩)⟩
      · refine v_iconst dX6_maskWhile_21 ?_
        exact v_iret dX6_maskWhile_22 rfl ⟨(Nat.le_of_ble_eq_true rfl), (Nat.le_of_ble_eq_true rfl)⟩ (by omega) ⟨s, hX, wO.rf, Or.inr (Or.inr ⟨by omega, by omega, rfl⟩)⟩
set_option maxHeartbeats 4000000 in
set_option maxRecDepth 100000 in
theorem fX7_channel {G : gG} {fw : Nat → Nat → Nat} {s : sG} {M : wM} (hY : wY G fw s M) {a b c d e : Int} (ha : rng a) (hb : rng b) (hc : rng c) (hd : rng d) (he : rng e) : wT G qX7_channel 0 0 [.ref (fw 0 0), .int (gI a), .int (gI b), .int (gI c), .int (gI d), .int (gI e)] M (PY G fw M (fun x s' => ((bt 0 a 3 ∧ bt 0 b 11 ∧ bt 0 c 11 ∧ bt 0 d 11 ∧ bt 0 e 11) ∧ x = 0 ∧ s' = ups (ups (ups (ups (ups s 11 0 a.toNat 1) 12 0 (4 * a).toNat b) 12 0 (4 * a + 1).toNat c) 12 0 (4 * a + 2).toNat d) 12 0 (4 * a + 3).toNat e) ∨ (¬ (bt 0 a 3 ∧ bt 0 b 11 ∧ bt 0 c 11 ∧ bt 0 d 11 ∧ bt 0 e 11) ∧ x = -1 ∧ s' = s))) := by
  refine wT.intro (by decide) (Nat.le_of_ble_eq_true rfl) (fun sz => ?_)
  obtain ⟨hJ, hH, hI⟩ := id hY
  have hO : wO cntY fw M M := wO.rf
  have h0 := hY.2.2.1
  have hrw := hY.2.2.2.1
  have hnm := hY.2.2.2.2.1
  have hsh := hY.2.2.2.2.2.1
  have hmk := hY.2.2.2.2.2.2.1
  have hic := hY.2.2.2.2.2.2.2.1
  have hcn := hY.2.2.2.2.2.2.2.2.1
  have hgt := hY.2.2.2.2.2.2.2.2.2
  refine v_iloadn dX7_channel_0 rfl ?_
  refine v_iconst dX7_channel_1 ?_
  refine v_iconst dX7_channel_2 ?_
  refine v_callS (tX7_in (by omega) (by omega) (by omega)) lc_X7_60 ⟨(Nat.le_of_ble_eq_true rfl), (Nat.le_of_ble_eq_true rfl)⟩ dX7_channel_3 rfl rfl (Nat.le_of_ble_eq_true rfl) ⟨(Nat.le_of_ble_eq_true rfl), (Nat.le_of_ble_eq_true rfl)⟩ (kP fun r3 hr3 hp3 => ?_)
  refine v_if_eq 39 dX7_channel_6 (by decide) (by omega) (fun h6 => ?_) (fun h6 => ?_)
  · refine v_iconst dX7_channel_39 ?_
    exact v_iret dX7_channel_40 rfl ⟨(Nat.le_of_ble_eq_true rfl), (Nat.le_of_ble_eq_true rfl)⟩ (by omega) ⟨s, hY, wO.rf, Or.inr ⟨by omega, by omega, rfl⟩⟩
  · refine v_iloadn dX7_channel_9 rfl ?_
    refine v_callS (tX7_isSignal (by omega)) lc_X7_64 ⟨(Nat.le_of_ble_eq_true rfl), (Nat.le_of_ble_eq_true rfl)⟩ dX7_channel_10 rfl rfl (Nat.le_of_ble_eq_true rfl) ⟨(Nat.le_of_ble_eq_true rfl), (Nat.le_of_ble_eq_true rfl)⟩ (kP fun r10 hr10 hp10 => ?_)
    refine v_if_eq 39 dX7_channel_13 (by decide) (by omega) (fun h13 => ?_) (fun h13 => ?_)
    · refine v_iconst dX7_channel_39 ?_
      exact v_iret dX7_channel_40 rfl ⟨(Nat.le_of_ble_eq_true rfl), (Nat.le_of_ble_eq_true rfl)⟩ (by omega) ⟨s, hY, wO.rf, Or.inr ⟨by omega, by omega, rfl⟩⟩
    · refine v_iloadn dX7_channel_16 rfl ?_
      refine v_callS (tX7_isSignal (by omega)) lc_X7_64 ⟨(Nat.le_of_ble_eq_true rfl), (Nat.le_of_ble_eq_true rfl)⟩ dX7_channel_17 rfl rfl (Nat.le_of_ble_eq_true rfl) ⟨(Nat.le_of_ble_eq_true rfl), (Nat.le_of_ble_eq_true rfl)⟩ (kP fun r17 hr17 hp17 => ?_)
      refine v_if_eq 39 dX7_channel_20 (by decide) (by omega) (fun h20 => ?_) (fun h20 => ?_)
      · refine v_iconst dX7_channel_39 ?_
        exact v_iret dX7_channel_40 rfl ⟨(Nat.le_of_ble_eq_true rfl), (Nat.le_of_ble_eq_true rfl)⟩ (by omega) ⟨s, hY, wO.rf, Or.inr ⟨by omega, by omega, rfl⟩⟩
      · refine v_iload dX7_channel_23 rfl ?_
        refine v_callS (tX7_isSignal (by omega)) lc_X7_64 ⟨(Nat.le_of_ble_eq_true rfl), (Nat.le_of_ble_eq_true rfl)⟩ dX7_channel_25 rfl rfl (Nat.le_of_ble_eq_true rfl) ⟨(Nat.le_of_ble_eq_true rfl), (Nat.le_of_ble_eq_true rfl)⟩ (kP fun r25 hr25 hp25 => ?_)
        refine v_if_eq 39 dX7_channel_28 (by decide) (by omega) (fun h28 => ?_) (fun h28 => ?_)
        · refine v_iconst dX7_channel_39 ?_
          exact v_iret dX7_channel_40 rfl ⟨(Nat.le_of_ble_eq_true rfl), (Nat.le_of_ble_eq_true rfl)⟩ (by omega) ⟨s, hY, wO.rf, Or.inr ⟨by omega, by omega, rfl⟩⟩
        · refine v_iload dX7_channel_31 rfl ?_
          refine v_callS (tX7_isSignal (by omega)) lc_X7_64 ⟨(Nat.le_of_ble_eq_true rfl), (Nat.le_of_ble_eq_true rfl)⟩ dX7_channel_33 rfl rfl (Nat.le_of_ble_eq_true rfl) ⟨(Nat.le_of_ble_eq_true rfl), (Nat.le_of_ble_eq_true rfl)⟩ (kP fun r33 hr33 hp33 => ?_)
          refine v_if_ne 41 dX7_channel_36 (by decide) (by omega) (fun h36 => ?_) (fun h36 => ?_)
          · refine v_aloadn dX7_channel_41 rfl ?_
            refine v_get dX7_channel_42 gf_X7_44 (hH 0 0 (by decide)) rfl ?_
            refine v_iloadn dX7_channel_45 rfl ?_
            refine v_iconst dX7_channel_46 ?_
            refine v_zast dX7_channel_47 (hH 11 0 (by decide)) (by omega) (by omega) (by decide) (by simp) ?_
            generalize hMe47 : wup _ _ _ = M47
            have hO : wO cntY fw M M47 := by rw [← hMe47]; exact hO.up (k := 11) (i := 0) (by decide)
            obtain ⟨s47, hs47⟩ : ∃ z, z = ups s 11 0 (a.toNat) (1) := ⟨_, rfl⟩
            have hH : wH cntY (cellY G fw) fw s47 M47 := by rw [← hMe47, hs47]; exact wH.up hJ hH (k := 11) (i := 0) (a.toNat) (1) (by decide) rfl
            refine v_aloadn dX7_channel_48 rfl ?_
            refine v_get dX7_channel_49 gf_X7_48 (hH 0 0 (by decide)) rfl ?_
            refine v_iconst dX7_channel_52 ?_
            refine v_iloadn dX7_channel_53 rfl ?_
            refine v_imul dX7_channel_54 ?_
            refine v_iloadn dX7_channel_55 rfl ?_
            refine v_iast dX7_channel_56 (hH 12 0 (by decide)) (by omega) (by omega) (by decide) ?_
            generalize hMe56 : wup _ _ _ = M56
            have hO : wO cntY fw M M56 := by rw [← hMe56]; exact hO.up (k := 12) (i := 0) (by decide)
            obtain ⟨s56, hs56⟩ : ∃ z, z = ups s47 12 0 ((4 * a).toNat) (b) := ⟨_, rfl⟩
            have hH : wH cntY (cellY G fw) fw s56 M56 := by rw [← hMe56, hs56]; exact wH.up hJ hH (k := 12) (i := 0) ((4 * a).toNat) (b) (by decide) rfl
            refine v_aloadn dX7_channel_57 rfl ?_
            refine v_get dX7_channel_58 gf_X7_48 (hH 0 0 (by decide)) rfl ?_
            refine v_iconst dX7_channel_61 ?_
            refine v_iloadn dX7_channel_62 rfl ?_
            refine v_imul dX7_channel_63 ?_
            refine v_iconst dX7_channel_64 ?_
            refine v_iadd dX7_channel_65 ?_
            refine v_iloadn dX7_channel_66 rfl ?_
            refine v_iast dX7_channel_67 (hH 12 0 (by decide)) (by omega) (by omega) (by decide) ?_
            generalize hMe67 : wup _ _ _ = M67
            have hO : wO cntY fw M M67 := by rw [← hMe67]; exact hO.up (k := 12) (i := 0) (by decide)
            obtain ⟨s67, hs67⟩ : ∃ z, z = ups s56 12 0 ((4 * a + 1).toNat) (c) := ⟨_, rfl⟩
            have hH : wH cntY (cellY G fw) fw s67 M67 := by rw [← hMe67, hs67]; exact wH.up hJ hH (k := 12) (i := 0) ((4 * a + 1).toNat) (c) (by decide) rfl
            refine v_aloadn dX7_channel_68 rfl ?_
            refine v_get dX7_channel_69 gf_X7_48 (hH 0 0 (by decide)) rfl ?_
            refine v_iconst dX7_channel_72 ?_
            refine v_iloadn dX7_channel_73 rfl ?_
            refine v_imul dX7_channel_74 ?_
            refine v_iconst dX7_channel_75 ?_
            refine v_iadd dX7_channel_76 ?_
            refine v_iload dX7_channel_77 rfl ?_
            refine v_iast dX7_channel_79 (hH 12 0 (by decide)) (by omega) (by omega) (by decide) ?_
            generalize hMe79 : wup _ _ _ = M79
            have hO : wO cntY fw M M79 := by rw [← hMe79]; exact hO.up (k := 12) (i := 0) (by decide)
            obtain ⟨s79, hs79⟩ : ∃ z, z = ups s67 12 0 ((4 * a + 2).toNat) (d) := ⟨_, rfl⟩
            have hH : wH cntY (cellY G fw) fw s79 M79 := by rw [← hMe79, hs79]; exact wH.up hJ hH (k := 12) (i := 0) ((4 * a + 2).toNat) (d) (by decide) rfl
            refine v_aloadn dX7_channel_80 rfl ?_
            refine v_get dX7_channel_81 gf_X7_48 (hH 0 0 (by decide)) rfl ?_
            refine v_iconst dX7_channel_84 ?_
            refine v_iloadn dX7_channel_85 rfl ?_
            refine v_imul dX7_channel_86 ?_
            refine v_iconst dX7_channel_87 ?_
            refine v_iadd dX7_channel_88 ?_
            refine v_iload dX7_channel_89 rfl ?_
            refine v_iast dX7_channel_91 (hH 12 0 (by decide)) (by omega) (by omega) (by decide) ?_
            generalize hMe91 : wup _ _ _ = M91
            have hO : wO cntY fw M M91 := by rw [← hMe91]; exact hO.up (k := 12) (i := 0) (by decide)
            obtain ⟨s91, hs91⟩ : ∃ z, z = ups s79 12 0 ((4 * a + 3).toNat) (e) := ⟨_, rfl⟩
            have hH : wH cntY (cellY G fw) fw s91 M91 := by rw [← hMe91, hs91]; exact wH.up hJ hH (k := 12) (i := 0) ((4 * a + 3).toNat) (e) (by decide) rfl
            refine v_iconst dX7_channel_92 ?_
            exact v_iret dX7_channel_93 rfl ⟨(Nat.le_of_ble_eq_true rfl), (Nat.le_of_ble_eq_true rfl)⟩ (by omega) ⟨s91, ⟨hJ, hH, invY_b hI (fun k h1 h2 => by rw [hs91, hs79, hs67, hs56, hs47, ups_kf _ h2, ups_kf _ h2, ups_kf _ h2, ups_kf _ h2, ups_kf _ h1]) (fun i hi => by have h1 := hic i hi; rw [hs91, hs79, hs67, hs56, hs47]; simp only [ups_kf _ (show (11 : Nat) ≠ 12 by decide), ups_at, upz]; split <;> omega) (fun i hi => by have h1 := hcn i hi; rw [hs91, hs79, hs67, hs56, hs47]; simp only [ups_at, ups_kf _ (show (12 : Nat) ≠ 11 by decide), upz]; (repeat' split) <;> omega)⟩, hO, Or.inl ⟨by omega, rfl, by rw [hs91, hs79, hs67, hs56, hs47]⟩⟩
          · refine v_iconst dX7_channel_39 ?_
            exact v_iret dX7_channel_40 rfl ⟨(Nat.le_of_ble_eq_true rfl), (Nat.le_of_ble_eq_true rfl)⟩ (by omega) ⟨s, hY, wO.rf, Or.inr ⟨by omega, by omega, rfl⟩⟩
