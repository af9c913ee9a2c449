def mainEq (s s' : sG) : Prop := s' 2 = s 2 ∧ s' 3 = s 3 ∧ s' 4 = s 4 ∧ (∀ i, i < 24 → s' 10 i = s 10 i ∧ s' 11 i = s 11 i ∧ s' 12 i = s 12 i) ∧ s' 0 0 9 = s 0 0 9 ∧ s' 0 0 10 = s 0 0 10
theorem mainEq.rf {s : sG} : mainEq s s := ⟨rfl, rfl, rfl, fun _ _ => ⟨rfl, rfl, rfl⟩, rfl, rfl⟩
set_option maxHeartbeats 4000000 in
set_option maxRecDepth 100000 in
theorem tX6_mask {G : gG} {fw : Nat → Nat → Nat} {s : sG} {M : wM} (hX : wX G fw s M) {a b c : Int} (ha : rng a) (hb : rng b) (hc : rng c) : wT G qX6_mask 0 0 [.ref (fw 0 0), .int (gI a), .int (gI b), .int (gI c)] M (PX G fw M (fun x s' => (bt 0 a 11 ∧ 0 ≤ b ∧ b < c ∧ c ≤ 4000 ∧ s 0 0 8 < 10 ∧ x = s 0 0 8 + 1 ∧ s' 0 0 8 = s 0 0 8 + 1 ∧ mainEq s s') ∨ (bt 0 a 11 ∧ 0 ≤ b ∧ b < c ∧ c ≤ 4000 ∧ s 0 0 8 = 10 ∧ x = -3 ∧ s' = s) ∨ (¬ (bt 0 a 11 ∧ 0 ≤ b ∧ b < c ∧ c ≤ 4000) ∧ x = -1 ∧ s' = s))) := by
  refine wT.intro (by decide) (Nat.le_of_ble_eq_true rfl) (fun sz => ?_)
  obtain ⟨hJ, hH, hI⟩ := id hX
  have hO : wO cntX fw M M := wO.rf
  have h0 := hX.2.2.1
  have hnm := hX.2.2.2.1
  have hsh := hX.2.2.2.2.1
  have h8 := hX.2.2.2.2.2.1
  refine v_iloadn dX6_mask_0 rfl ?_
  refine v_callS (tX6_isNoSignal (by omega)) lc_X6_117 ⟨(Nat.le_of_ble_eq_true rfl), (Nat.le_of_ble_eq_true rfl)⟩ dX6_mask_1 rfl rfl (Nat.le_of_ble_eq_true rfl) ⟨(Nat.le_of_ble_eq_true rfl), (Nat.le_of_ble_eq_true rfl)⟩ (kP fun r1 hr1 hp1 => ?_)
  refine v_if_ne 23 dX6_mask_4 (by decide) (by omega) (fun h4 => ?_) (fun h4 => ?_)
  · refine v_iconst dX6_mask_23 ?_
    exact v_iret dX6_mask_24 rfl ⟨(Nat.le_of_ble_eq_true rfl), (Nat.le_of_ble_eq_true rfl)⟩ (by omega) ⟨s, hX, wO.rf, Or.inr (Or.inr ⟨by omega, by omega, rfl⟩)⟩
  · refine v_iloadn dX6_mask_7 rfl ?_
    refine v_if_lt 23 dX6_mask_8 (by decide) (by omega) (fun h8 => ?_) (fun h8 => ?_)
    · refine v_iconst dX6_mask_23 ?_
      exact v_iret dX6_mask_24 rfl ⟨(Nat.le_of_ble_eq_true rfl), (Nat.le_of_ble_eq_true rfl)⟩ (by omega) ⟨s, hX, wO.rf, Or.inr (Or.inr ⟨by omega, by omega, rfl⟩)⟩
    · refine v_iloadn dX6_mask_11 rfl ?_
      refine v_iloadn dX6_mask_12 rfl ?_
      refine v_icmp_ge 23 dX6_mask_13 (by decide) (by omega) (by omega) (fun h13 => ?_) (fun h13 => ?_)
      · refine v_iconst dX6_mask_23 ?_
        exact v_iret dX6_mask_24 rfl ⟨(Nat.le_of_ble_eq_true rfl), (Nat.le_of_ble_eq_true rfl)⟩ (by omega) ⟨s, hX, wO.rf, Or.inr (Or.inr ⟨by omega, by omega, rfl⟩)⟩
      · refine v_iloadn dX6_mask_16 rfl ?_
        refine v_sipush dX6_mask_17 (by decide) ?_
        refine v_icmp_le 25 dX6_mask_20 (by decide) (by omega) (by omega) (fun h20 => ?_) (fun h20 => ?_)
        · refine v_aloadn dX6_mask_25 rfl ?_
          refine v_get dX6_mask_26 gf_X6_50 (hH 0 0 (by decide)) rfl ?_
          refine v_bipush dX6_mask_29 (by decide) ?_
          refine v_icmp_lt 37 dX6_mask_31 (by decide) (by omega) (by omega) (fun h31 => ?_) (fun h31 => ?_)
          · refine v_aloadn dX6_mask_37 rfl ?_
            refine v_get dX6_mask_38 gf_X6_27 (hH 0 0 (by decide)) rfl ?_
            refine v_aloadn dX6_mask_41 rfl ?_
            refine v_get dX6_mask_42 gf_X6_50 (hH 0 0 (by decide)) rfl ?_
            refine v_aald2 (Cn := "WavePairs$Mask") dX6_mask_45 (hH 5 0 (by decide)) (by simp) (by omega) (by omega) (by decide) ?_
            refine v_iloadn dX6_mask_46 rfl ?_
            refine v_iloadn dX6_mask_47 rfl ?_
            refine v_iloadn dX6_mask_48 rfl ?_
            refine v_callV (tX2_coverTicks hX (by omega) (by omega) (by omega) (by omega)) lc_X6_120 ⟨(Nat.le_of_ble_eq_true rfl), (Nat.le_of_ble_eq_true rfl)⟩ dX6_mask_49 rfl rfl (Nat.le_of_ble_eq_true rfl) ⟨(Nat.le_of_ble_eq_true rfl), (Nat.le_of_ble_eq_true rfl)⟩ ⟨_, _, _, _, hX.2.1 13 _ (by simp [cntX]; omega), rfl⟩ (kV fun M49 hp49 => ?_)
            obtain ⟨s49, hX49, hO, hf49⟩ := hp49
            obtain ⟨hJ, hH, hI⟩ := id hX49
            have q0 : s49 0 = s 0 := by funext i'; exact hf49 0 i' (by omega) (by omega)
            have q2 : s49 2 = s 2 := by funext i'; exact hf49 2 i' (by omega) (by omega)
            have q3 : s49 3 = s 3 := by funext i'; exact hf49 3 i' (by omega) (by omega)
            have q4 : s49 4 = s 4 := by funext i'; exact hf49 4 i' (by omega) (by omega)
            have e49 : s49 0 0 8 = s 0 0 8 := by rw [q0]
            have qr : ∀ i, i < 24 → s49 10 i = s 10 i ∧ s49 11 i = s 11 i ∧ s49 12 i = s 12 i := fun i hi => ⟨hf49 10 i (by omega) (by omega), hf49 11 i (by omega) (by omega), hf49 12 i (by omega) (by omega)⟩
            refine v_aloadn dX6_mask_52 rfl ?_
            refine v_dup dX6_mask_53 rfl ?_
            refine v_get dX6_mask_54 gf_X6_50 (hH 0 0 (by decide)) rfl ?_
            refine v_iconst dX6_mask_57 ?_
            refine v_iadd dX6_mask_58 ?_
            refine v_put dX6_mask_59 pf_X6_50 (hH 0 0 (by decide)) rfl rfl (Nat.le_of_ble_eq_true rfl) ?_
            generalize hMe59 : wup _ _ _ = M59
            have hO : wO cntX fw M M59 := by rw [← hMe59]; exact hO.up (k := 0) (i := 0) (by decide)
            obtain ⟨s59, hs59⟩ : ∃ z, z = ups s49 0 0 (8) (s49 0 0 8 + 1) := ⟨_, rfl⟩
            have hH : wH cntX (cellX G fw) fw s59 M59 := by rw [← hMe59, hs59]; exact wH.up hJ hH (k := 0) (i := 0) (8) (s49 0 0 8 + 1) (by decide) rfl
            have e59 : s59 0 0 8 = s 0 0 8 + 1 := by rw [hs59, ups_at]; show s49 0 0 8 + 1 = _; omega
            refine v_aloadn dX6_mask_62 rfl ?_
            refine v_get dX6_mask_63 gf_X6_50 (hH 0 0 (by decide)) rfl ?_
            exact v_iret dX6_mask_66 rfl ⟨(Nat.le_of_ble_eq_true rfl), (Nat.le_of_ble_eq_true rfl)⟩ (by omega) ⟨s59, ⟨hJ, hH, invX_z hI (fun k hk => by rw [hs59]; exact ups_kf _ hk) (by have h0 := hI.1; rw [hs59]; simp [ups_at, upz] <;> omega)⟩, hO, Or.inl ⟨by omega, by omega, by omega, by omega, by omega, by omega, by omega, ⟨by rw [hs59, ups_kf _ (by decide), q2], by rw [hs59, ups_kf _ (by decide), q3], by rw [hs59, ups_kf _ (by decide), q4], fun i hi => ⟨by rw [hs59, ups_kf _ (by decide)]; exact (qr i hi).1, by rw [hs59, ups_kf _ (by decide)]; exact (qr i hi).2.1, by rw [hs59, ups_kf _ (by decide)]; exact (qr i hi).2.2⟩, by rw [hs59, ups_at]; show s49 0 0 9 = _; rw [q0], by rw [hs59, ups_at]; show s49 0 0 10 = _; rw [q0]⟩⟩⟩
          · refine v_bipush dX6_mask_34 (by decide) ?_
            exact v_iret dX6_mask_36 rfl ⟨(Nat.le_of_ble_eq_true rfl), (Nat.le_of_ble_eq_true rfl)⟩ (by omega) ⟨s, hX, wO.rf, Or.inr (Or.inl ⟨by omega, by omega, by omega, by omega, by omega, by omega, rfl⟩)⟩
        · refine v_iconst dX6_mask_23 ?_
          exact v_iret dX6_mask_24 rfl ⟨(Nat.le_of_ble_eq_true rfl), (Nat.le_of_ble_eq_true rfl)⟩ (by omega) ⟨s, hX, wO.rf, Or.inr (Or.inr ⟨by omega, by omega, rfl⟩)⟩
set_option maxHeartbeats 4000000 in
set_option maxRecDepth 100000 in
theorem tX6_maskWhile {G : gG} {fw : Nat → Nat → Nat} {s : sG} {M : wM} (hX : wX G fw s M) {a b c : Int} (ha : rng a) (hb : rng b) (hc : rng c) : wT G qX6_maskWhile 0 0 [.ref (fw 0 0), .int (gI a), .int (gI b), .int (gI c)] M (PX G fw M (fun x s' => (bt 0 a 11 ∧ bt 0 b 11 ∧ bt 0 c 256 ∧ s 0 0 8 < 10 ∧ x = s 0 0 8 + 1 ∧ s' 0 0 8 = s 0 0 8 + 1 ∧ mainEq s s') ∨ (bt 0 a 11 ∧ bt 0 b 11 ∧ bt 0 c 256 ∧ s 0 0 8 = 10 ∧ x = -3 ∧ s' = s) ∨ (¬ (bt 0 a 11 ∧ bt 0 b 11 ∧ bt 0 c 256) ∧ x = -1 ∧ s' = s))) := by
  refine wT.intro (by decide) (Nat.le_of_ble_eq_true rfl) (fun sz => ?_)
  obtain ⟨hJ, hH, hI⟩ := id hX
  have hO : wO cntX fw M M := wO.rf
  have h0 := hX.2.2.1
  have hnm := hX.2.2.2.1
  have hsh := hX.2.2.2.2.1
  have h8 := hX.2.2.2.2.2.1
  refine v_iloadn dX6_maskWhile_0 rfl ?_
  refine v_callS (tX6_isNoSignal (by omega)) lc_X6_117 ⟨(Nat.le_of_ble_eq_true rfl), (Nat.le_of_ble_eq_true rfl)⟩ dX6_maskWhile_1 rfl rfl (Nat.le_of_ble_eq_true rfl) ⟨(Nat.le_of_ble_eq_true rfl), (Nat.le_of_ble_eq_true rfl)⟩ (kP fun r1 hr1 hp1 => ?_)
  refine v_if_ne 21 dX6_maskWhile_4 (by decide) (by omega) (fun h4 => ?_) (fun h4 => ?_)
  · refine v_iconst dX6_maskWhile_21 ?_
    exact v_iret dX6_maskWhile_22 rfl ⟨(Nat.le_of_ble_eq_true rfl), (Nat.le_of_ble_eq_true rfl)⟩ (by omega) ⟨s, hX, wO.rf, Or.inr (Or.inr ⟨by omega, by omega, rfl⟩)⟩
  · refine v_iloadn dX6_maskWhile_7 rfl ?_
    refine v_callS (tX6_isNoSignal (by omega)) lc_X6_117 ⟨(Nat.le_of_ble_eq_true rfl), (Nat.le_of_ble_eq_true rfl)⟩ dX6_maskWhile_8 rfl rfl (Nat.le_of_ble_eq_true rfl) ⟨(Nat.le_of_ble_eq_true rfl), (Nat.le_of_ble_eq_true rfl)⟩ (kP fun r8 hr8 hp8 => ?_)
    refine v_if_ne 21 dX6_maskWhile_11 (by decide) (by omega) (fun h11 => ?_) (fun h11 => ?_)
    · refine v_iconst dX6_maskWhile_21 ?_
      exact v_iret dX6_maskWhile_22 rfl ⟨(Nat.le_of_ble_eq_true rfl), (Nat.le_of_ble_eq_true rfl)⟩ (by omega) ⟨s, hX, wO.rf, Or.inr (Or.inr ⟨by omega, by omega, rfl⟩)⟩
    · refine v_iloadn dX6_maskWhile_14 rfl ?_
      refine v_callS (tX6_isNoValue (by omega)) lc_X6_73 ⟨(Nat.le_of_ble_eq_true rfl), (Nat.le_of_ble_eq_true rfl)⟩ dX6_maskWhile_15 rfl rfl (Nat.le_of_ble_eq_true rfl) ⟨(Nat.le_of_ble_eq_true rfl), (Nat.le_of_ble_eq_true rfl)⟩ (kP fun r15 hr15 hp15 => ?_)
      refine v_if_eq 23 dX6_maskWhile_18 (by decide) (by omega) (fun h18 => ?_) (fun h18 => ?_)
      · refine v_aloadn dX6_maskWhile_23 rfl ?_
        refine v_get dX6_maskWhile_24 gf_X6_50 (hH 0 0 (by decide)) rfl ?_
        refine v_bipush dX6_maskWhile_27 (by decide) ?_
        refine v_icmp_lt 35 dX6_maskWhile_29 (by decide) (by omega) (by omega) (fun h29 => ?_) (fun h29 => ?_)
        · refine v_aloadn dX6_maskWhile_35 rfl ?_
          refine v_get dX6_maskWhile_36 gf_X6_27 (hH 0 0 (by decide)) rfl ?_
          refine v_aloadn dX6_maskWhile_39 rfl ?_
          refine v_get dX6_maskWhile_40 gf_X6_50 (hH 0 0 (by decide)) rfl ?_
          refine v_aald2 (Cn := "WavePairs$Mask") dX6_maskWhile_43 (hH 5 0 (by decide)) (by simp) (by omega) (by omega) (by decide) ?_
          refine v_iloadn dX6_maskWhile_44 rfl ?_
          refine v_aloadn dX6_maskWhile_45 rfl ?_
          refine v_iconst dX6_maskWhile_46 ?_
          refine v_iloadn dX6_maskWhile_47 rfl ?_
          refine v_callV (tX6_rowOf hX (by omega) (by omega)) lc_X6_77 ⟨(Nat.le_of_ble_eq_true rfl), (Nat.le_of_ble_eq_true rfl)⟩ dX6_maskWhile_48 rfl rfl (Nat.le_of_ble_eq_true rfl) ⟨(Nat.le_of_ble_eq_true rfl), (Nat.le_of_ble_eq_true rfl)⟩ ⟨_, _, _, _, (hH 0 0 (by decide)), rfl⟩ (kRp fun r48 hp48 => ?_)
          subst hp48
          refine v_iloadn dX6_maskWhile_51 rfl ?_
          refine v_callV (tX2_coverWhile hX (by omega) (by omega) (by omega) (by omega)) lc_X6_124 ⟨(Nat.le_of_ble_eq_true rfl), (Nat.le_of_ble_eq_true rfl)⟩ dX6_maskWhile_52 rfl rfl (Nat.le_of_ble_eq_true rfl) ⟨(Nat.le_of_ble_eq_true rfl), (Nat.le_of_ble_eq_true rfl)⟩ ⟨_, _, _, _, hX.2.1 13 _ (by simp [cntX]; omega), rfl⟩ (kV fun M52 hp52 => ?_)
          obtain ⟨s52, hX52, hO, hf52⟩ := hp52
          obtain ⟨hJ, hH, hI⟩ := id hX52
          have q0 : s52 0 = s 0 := by rw [hf52, ups_kf _ (by decide), ups_kf _ (by decide), ups_kf _ (by decide)]
          have q2 : s52 2 = s 2 := by rw [hf52, ups_kf _ (by decide), ups_kf _ (by decide), ups_kf _ (by decide)]
          have q3 : s52 3 = s 3 := by rw [hf52, ups_kf _ (by decide), ups_kf _ (by decide), ups_kf _ (by decide)]
          have q4 : s52 4 = s 4 := by rw [hf52, ups_kf _ (by decide), ups_kf _ (by decide), ups_kf _ (by decide)]
          have e52 : s52 0 0 8 = s 0 0 8 := by rw [q0]
          have qr : ∀ i, i < 24 → s52 10 i = s 10 i ∧ s52 11 i = s 11 i ∧ s52 12 i = s 12 i := fun i hi => ⟨by rw [hf52, ups_kf _ (by decide), ups_kf _ (by decide), ups_kf _ (by decide)], by rw [hf52, ups_kf _ (by decide), ups_kf _ (by decide), ups_kf _ (by decide)], by rw [hf52, ups_kf _ (by decide), ups_kf _ (by decide), ups_kf _ (by decide)]⟩
          refine v_aloadn dX6_maskWhile_55 rfl ?_
          refine v_dup dX6_maskWhile_56 rfl ?_
          refine v_get dX6_maskWhile_57 gf_X6_50 (hH 0 0 (by decide)) rfl ?_
          refine v_iconst dX6_maskWhile_60 ?_
          refine v_iadd dX6_maskWhile_61 ?_
          refine v_put dX6_maskWhile_62 pf_X6_50 (hH 0 0 (by decide)) rfl rfl (Nat.le_of_ble_eq_true rfl) ?_
          generalize hMe62 : wup _ _ _ = M62
          have hO : wO cntX fw M M62 := by rw [← hMe62]; exact hO.up (k := 0) (i := 0) (by decide)
          obtain ⟨s62, hs62⟩ : ∃ z, z = ups s52 0 0 (8) (s52 0 0 8 + 1) := ⟨_, rfl⟩
          have hH : wH cntX (cellX G fw) fw s62 M62 := by rw [← hMe62, hs62]; exact wH.up hJ hH (k := 0) (i := 0) (8) (s52 0 0 8 + 1) (by decide) rfl
          have e62 : s62 0 0 8 = s 0 0 8 + 1 := by rw [hs62, ups_at]; show s52 0 0 8 + 1 = _; omega
          refine v_aloadn dX6_maskWhile_65 rfl ?_
          refine v_get dX6_maskWhile_66 gf_X6_50 (hH 0 0 (by decide)) rfl ?_
          exact v_iret dX6_maskWhile_69 rfl ⟨(Nat.le_of_ble_eq_true rfl), (Nat.le_of_ble_eq_true rfl)⟩ (by omega) ⟨s62, ⟨hJ, hH, invX_z hI (fun k hk => by rw [hs62]; exact ups_kf _ hk) (by have h0 := hI.1; rw [hs62]; simp [ups_at, upz] <;> omega)⟩, hO, Or.inl ⟨by omega, by omega, by omega, by omega, by omega, by omega, ⟨by rw [hs62, ups_kf _ (by decide), q2], by rw [hs62, ups_kf _ (by decide), q3], by rw [hs62, ups_kf _ (by decide), q4], fun i hi => ⟨by rw [hs62, ups_kf _ (by decide)]; exact (qr i hi).1, by rw [hs62, ups_kf _ (by decide)]; exact (qr i hi).2.1, by rw [hs62, ups_kf _ (by decide)]; exact (qr i hi).2.2⟩, by rw [hs62, ups_at]; show s52 0 0 9 = _; rw [q0], by rw [hs62, ups_at]; show s52 0 0 10 = _; rw [q0]⟩⟩⟩
        · refine v_bipush dX6_maskWhile_32 (by decide) ?_
          exact v_iret dX6_maskWhile_34 rfl ⟨(Nat.le_of_ble_eq_true rfl), (Nat.le_of_ble_eq_true rfl)⟩ (by omega) ⟨s, hX, wO.rf, Or.inr (Or.inl ⟨by omega, by omega, by omega, by omega, by omega, rfl⟩)⟩
      · refine v_iconst dX6_maskWhile_21 ?_
        exact v_iret dX6_maskWhile_22 rfl ⟨(Nat.le_of_ble_eq_true rfl), (Nat.le_of_ble_eq_true rfl)⟩ (by omega) ⟨s, hX, wO.rf, Or.inr (Or.inr ⟨by omega, by omega, rfl⟩)⟩
set_option maxHeartbeats 4000000 in
set_option maxRecDepth 100000 in
theorem tX6_channel {G : gG} {fw : Nat → Nat → Nat} {s : sG} {M : wM} (hX : wX G fw s M) {a b c d e : Int} (ha : rng a) (hb : rng b) (hc : rng c) (hd : rng d) (he : rng e) : wT G qX6_channel 0 0 [.ref (fw 0 0), .int (gI a), .int (gI b), .int (gI c), .int (gI d), .int (gI e)] M (PX G fw M (fun x s' => ((bt 0 a 3 ∧ bt 0 b 11 ∧ bt 0 c 11 ∧ bt 0 d 11 ∧ bt 0 e 11) ∧ x = 0 ∧ s' = ups (ups (ups (ups (ups s 14 a.toNat 0 1) 14 a.toNat 1 b) 14 a.toNat 2 c) 14 a.toNat 3 d) 14 a.toNat 4 e) ∨ (¬ (bt 0 a 3 ∧ bt 0 b 11 ∧ bt 0 c 11 ∧ bt 0 d 11 ∧ bt 0 e 11) ∧ x = -1 ∧ s' = s))) := by
  refine wT.intro (by decide) (Nat.le_of_ble_eq_true rfl) (fun sz => ?_)
  obtain ⟨hJ, hH, hI⟩ := id hX
  have hO : wO cntX fw M M := wO.rf
  have h0 := hX.2.2.1
  have hnm := hX.2.2.2.1
  have hsh := hX.2.2.2.2.1
  have h8 := hX.2.2.2.2.2.1
  refine v_iloadn dX6_channel_0 rfl ?_
  refine v_iconst dX6_channel_1 ?_
  refine v_iconst dX6_channel_2 ?_
  refine v_callS (tX6_outside (by omega) (by omega) (by omega)) lc_X6_69 ⟨(Nat.le_of_ble_eq_true rfl), (Nat.le_of_ble_eq_true rfl)⟩ dX6_channel_3 rfl rfl (Nat.le_of_ble_eq_true rfl) ⟨(Nat.le_of_ble_eq_true rfl), (Nat.le_of_ble_eq_true rfl)⟩ (kP fun r3 hr3 hp3 => ?_)
  refine v_if_ne 39 dX6_channel_6 (by decide) (by omega) (fun h6 => ?_) (fun h6 => ?_)
  · refine v_iconst dX6_channel_39 ?_
    exact v_iret dX6_channel_40 rfl ⟨(Nat.le_of_ble_eq_true rfl), (Nat.le_of_ble_eq_true rfl)⟩ (by omega) ⟨s, hX, wO.rf, Or.inr ⟨by omega, by omega, rfl⟩⟩
  · refine v_iloadn dX6_channel_9 rfl ?_
    refine v_callS (tX6_isNoSignal (by omega)) lc_X6_117 ⟨(Nat.le_of_ble_eq_true rfl), (Nat.le_of_ble_eq_true rfl)⟩ dX6_channel_10 rfl rfl (Nat.le_of_ble_eq_true rfl) ⟨(Nat.le_of_ble_eq_true rfl), (Nat.le_of_ble_eq_true rfl)⟩ (kP fun r10 hr10 hp10 => ?_)
    refine v_if_ne 39 dX6_channel_13 (by decide) (by omega) (fun h13 => ?_) (fun h13 => ?_)
    · refine v_iconst dX6_channel_39 ?_
      exact v_iret dX6_channel_40 rfl ⟨(Nat.le_of_ble_eq_true rfl), (Nat.le_of_ble_eq_true rfl)⟩ (by omega) ⟨s, hX, wO.rf, Or.inr ⟨by omega, by omega, rfl⟩⟩
    · refine v_iloadn dX6_channel_16 rfl ?_
      refine v_callS (tX6_isNoSignal (by omega)) lc_X6_117 ⟨(Nat.le_of_ble_eq_true rfl), (Nat.le_of_ble_eq_true rfl)⟩ dX6_channel_17 rfl rfl (Nat.le_of_ble_eq_true rfl) ⟨(Nat.le_of_ble_eq_true rfl), (Nat.le_of_ble_eq_true rfl)⟩ (kP fun r17 hr17 hp17 => ?_)
      refine v_if_ne 39 dX6_channel_20 (by decide) (by omega) (fun h20 => ?_) (fun h20 => ?_)
      · refine v_iconst dX6_channel_39 ?_
        exact v_iret dX6_channel_40 rfl ⟨(Nat.le_of_ble_eq_true rfl), (Nat.le_of_ble_eq_true rfl)⟩ (by omega) ⟨s, hX, wO.rf, Or.inr ⟨by omega, by omega, rfl⟩⟩
      · refine v_iload dX6_channel_23 rfl ?_
        refine v_callS (tX6_isNoSignal (by omega)) lc_X6_117 ⟨(Nat.le_of_ble_eq_true rfl), (Nat.le_of_ble_eq_true rfl)⟩ dX6_channel_25 rfl rfl (Nat.le_of_ble_eq_true rfl) ⟨(Nat.le_of_ble_eq_true rfl), (Nat.le_of_ble_eq_true rfl)⟩ (kP fun r25 hr25 hp25 => ?_)
        refine v_if_ne 39 dX6_channel_28 (by decide) (by omega) (fun h28 => ?_) (fun h28 => ?_)
        · refine v_iconst dX6_channel_39 ?_
          exact v_iret dX6_channel_40 rfl ⟨(Nat.le_of_ble_eq_true rfl), (Nat.le_of_ble_eq_true rfl)⟩ (by omega) ⟨s, hX, wO.rf, Or.inr ⟨by omega, by omega, rfl⟩⟩
        · refine v_iload dX6_channel_31 rfl ?_
          refine v_callS (tX6_isNoSignal (by omega)) lc_X6_117 ⟨(Nat.le_of_ble_eq_true rfl), (Nat.le_of_ble_eq_true rfl)⟩ dX6_channel_33 rfl rfl (Nat.le_of_ble_eq_true rfl) ⟨(Nat.le_of_ble_eq_true rfl), (Nat.le_of_ble_eq_true rfl)⟩ (kP fun r33 hr33 hp33 => ?_)
          refine v_if_eq 41 dX6_channel_36 (by decide) (by omega) (fun h36 => ?_) (fun h36 => ?_)
          · refine v_aloadn dX6_channel_41 rfl ?_
            refine v_get dX6_channel_42 gf_X6_33 (hH 0 0 (by decide)) rfl ?_
            refine v_iloadn dX6_channel_45 rfl ?_
            refine v_aald2 (Cn := "WavePairs$Channel") dX6_channel_46 (hH 6 0 (by decide)) (by simp) (by omega) (by omega) (by decide) ?_
            refine v_iloadn dX6_channel_47 rfl ?_
            refine v_iloadn dX6_channel_48 rfl ?_
            refine v_iload dX6_channel_49 rfl ?_
            refine v_iload dX6_channel_51 rfl ?_
            refine v_callV (tX0_tell hX (by omega) (by omega) (by omega) (by omega) (by omega)) lc_X6_177 ⟨(Nat.le_of_ble_eq_true rfl), (Nat.le_of_ble_eq_true rfl)⟩ dX6_channel_53 rfl rfl (Nat.le_of_ble_eq_true rfl) ⟨(Nat.le_of_ble_eq_true rfl), (Nat.le_of_ble_eq_true rfl)⟩ ⟨_, _, _, _, hX.2.1 14 _ (by simp [cntX]; omega), rfl⟩ (kV fun M53 hp53 => ?_)
            obtain ⟨s53, hX53, hO53, hs53⟩ := hp53
            refine v_iconst dX6_channel_56 ?_
            exact v_iret dX6_channel_57 rfl ⟨(Nat.le_of_ble_eq_true rfl), (Nat.le_of_ble_eq_true rfl)⟩ (by omega) ⟨s53, hX53, hO53, Or.inl ⟨by omega, rfl, hs53⟩⟩
          · refine v_iconst dX6_channel_39 ?_
            exact v_iret dX6_channel_40 rfl ⟨(Nat.le_of_ble_eq_true rfl), (Nat.le_of_ble_eq_true rfl)⟩ (by omega) ⟨s, hX, wO.rf, Or.inr ⟨by omega, by omega, rfl⟩⟩
set_option maxHeartbeats 4000000 in
set_option maxRecDepth 100000 in
theorem tX6_gate {G : gG} {fw : Nat → Nat → Nat} {s : sG} {M : wM} (hX : wX G fw s M) {a k b c : Int} (ha : rng a) (hk : rng k) (hb : rng b) (hc : rng c) : wT G qX6_gate 0 0 [.ref (fw 0 0), .int (gI a), .int (gI k), .int (gI b), .int (gI c)] M (PX G fw M (fun x s' => ((bt 0 a 11 ∧ bt 0 k 6 ∧ bt 0 b 11 ∧ ¬ (k ≠ 0 ∧ b = a) ∧ ¬ (1 < k ∧ (¬ bt 0 c 11 ∨ c = a))) ∧ x = s 15 a.toNat 0 ∧ s' = ups (ups (ups s 15 a.toNat 0 k) 15 a.toNat 1 b) 15 a.toNat 2 (if 1 < k then c else b)) ∨ (¬ (bt 0 a 11 ∧ bt 0 k 6 ∧ bt 0 b 11 ∧ ¬ (k ≠ 0 ∧ b = a) ∧ ¬ (1 < k ∧ (¬ bt 0 c 11 ∨ c = a))) ∧ x = -1 ∧ s' = s))) := by
  refine wT.intro (by decide) (Nat.le_of_ble_eq_true rfl) (fun sz => ?_)
  obtain ⟨hJ, hH, hI⟩ := id hX
  have hO : wO cntX fw M M := wO.rf
  have h0 := hX.2.2.1
  have hnm := hX.2.2.2.1
  have hsh := hX.2.2.2.2.1
  have h8 := hX.2.2.2.2.2.1
  refine v_iloadn dX6_gate_0 rfl ?_
  refine v_callS (tX6_isNoSignal (by omega)) lc_X6_117 ⟨(Nat.le_of_ble_eq_true rfl), (Nat.le_of_ble_eq_true rfl)⟩ dX6_gate_1 rfl rfl (Nat.le_of_ble_eq_true rfl) ⟨(Nat.le_of_ble_eq_true rfl), (Nat.le_of_ble_eq_true rfl)⟩ (kP fun r1 hr1 hp1 => ?_)
  refine v_if_ne 24 dX6_gate_4 (by decide) (by omega) (fun h4 => ?_) (fun h4 => ?_)
  · refine v_iconst dX6_gate_24 ?_
    exact v_iret dX6_gate_25 rfl ⟨(Nat.le_of_ble_eq_true rfl), (Nat.le_of_ble_eq_true rfl)⟩ (by omega) ⟨s, hX, wO.rf, Or.inr ⟨by omega, by omega, rfl⟩⟩
  · refine v_iloadn dX6_gate_7 rfl ?_
    refine v_iconst dX6_gate_8 ?_
    refine v_bipush dX6_gate_9 (by decide) ?_
    refine v_callS (tX6_outside (by omega) (by omega) (by omega)) lc_X6_69 ⟨(Nat.le_of_ble_eq_true rfl), (Nat.le_of_ble_eq_true rfl)⟩ dX6_gate_11 rfl rfl (Nat.le_of_ble_eq_true rfl) ⟨(Nat.le_of_ble_eq_true rfl), (Nat.le_of_ble_eq_true rfl)⟩ (kP fun r11 hr11 hp11 => ?_)
    refine v_if_ne 24 dX6_gate_14 (by decide) (by omega) (fun h14 => ?_) (fun h14 => ?_)
    · refine v_iconst dX6_gate_24 ?_
      exact v_iret dX6_gate_25 rfl ⟨(Nat.le_of_ble_eq_true rfl), (Nat.le_of_ble_eq_true rfl)⟩ (by omega) ⟨s, hX, wO.rf, Or.inr ⟨by omega, by omega, rfl⟩⟩
    · refine v_iloadn dX6_gate_17 rfl ?_
      refine v_callS (tX6_isNoSignal (by omega)) lc_X6_117 ⟨(Nat.le_of_ble_eq_true rfl), (Nat.le_of_ble_eq_true rfl)⟩ dX6_gate_18 rfl rfl (Nat.le_of_ble_eq_true rfl) ⟨(Nat.le_of_ble_eq_true rfl), (Nat.le_of_ble_eq_true rfl)⟩ (kP fun r18 hr18 hp18 => ?_)
      refine v_if_eq 26 dX6_gate_21 (by decide) (by omega) (fun h21 => ?_) (fun h21 => ?_)
      · refine v_iloadn dX6_gate_26 rfl ?_
        refine v_if_eq 37 dX6_gate_27 (by decide) (by omega) (fun h27 => ?_) (fun h27 => ?_)
        · refine v_iloadn dX6_gate_37 rfl ?_
          refine v_iconst dX6_gate_38 ?_
          refine v_icmp_le 58 dX6_gate_39 (by decide) (by omega) (by omega) (fun h39 => ?_) (fun h39 => ?_)
          · refine v_aloadn dX6_gate_58 rfl ?_
            refine v_get dX6_gate_59 gf_X6_39 (hH 0 0 (by decide)) rfl ?_
            refine v_iloadn dX6_gate_62 rfl ?_
            refine v_aald2 (Cn := "WavePairs$Gate") dX6_gate_63 (hH 7 0 (by decide)) (by simp) (by omega) (by omega) (by decide) ?_
            refine v_getN dX6_gate_64 gf_X6_227 (hH 15 _ (by simp [cntX]; omega)) rfl ?_
            have hg := hX.2.2.2.2.2.2.2.2.2.1 a.toNat (by omega)
            refine v_istore dX6_gate_67 (Nat.le_of_ble_eq_true rfl) ?_
            refine v_aloadn dX6_gate_69 rfl ?_
            refine v_get dX6_gate_70 gf_X6_39 (hH 0 0 (by decide)) rfl ?_
            refine v_iloadn dX6_gate_73 rfl ?_
            refine v_aald2 (Cn := "WavePairs$Gate") dX6_gate_74 (hH 7 0 (by decide)) (by simp) (by omega) (by omega) (by decide) ?_
            refine v_iloadn dX6_gate_75 rfl ?_
            refine v_iloadn dX6_gate_76 rfl ?_
            refine v_iloadn dX6_gate_77 rfl ?_
            refine v_iconst dX6_gate_78 ?_
            refine v_icmp_le 87 dX6_gate_79 (by decide) (by omega) (by omega) (fun h79 => ?_) (fun h79 => ?_)
            · refine v_iloadn dX6_gate_87 rfl ?_
              refine v_callV (tX1_tell hX (by omega) (by omega) (by omega) (by omega)) lc_X6_230 ⟨(Nat.le_of_ble_eq_true rfl), (Nat.le_of_ble_eq_true rfl)⟩ dX6_gate_88 rfl rfl (Nat.le_of_ble_eq_true rfl) ⟨(Nat.le_of_ble_eq_true rfl), (Nat.le_of_ble_eq_true rfl)⟩ ⟨_, _, _, _, hX.2.1 15 _ (by simp [cntX]; omega), rfl⟩ (kV fun M88 hp88 => ?_)
              obtain ⟨s88, hX88, hO88, hs88⟩ := hp88
              refine v_iload dX6_gate_91 rfl ?_
              exact v_iret dX6_gate_93 rfl ⟨(Nat.le_of_ble_eq_true rfl), (Nat.le_of_ble_eq_true rfl)⟩ (by omega) ⟨s88, hX88, hO88, Or.inl ⟨by omega, rfl, by rw [hs88]; congr 1; split <;> omega⟩⟩
            · refine v_iload dX6_gate_82 rfl ?_
              refine v_goto 88 dX6_gate_84 (by decide) ?_
              refine v_callV (tX1_tell hX (by omega) (by omega) (by omega) (by omega)) lc_X6_230 ⟨(Nat.le_of_ble_eq_true rfl), (Nat.le_of_ble_eq_true rfl)⟩ dX6_gate_88 rfl rfl (Nat.le_of_ble_eq_true rfl) ⟨(Nat.le_of_ble_eq_true rfl), (Nat.le_of_ble_eq_true rfl)⟩ ⟨_, _, _, _, hX.2.1 15 _ (by simp [cntX]; omega), rfl⟩ (kV fun M88 hp88 => ?_)
              obtain ⟨s88, hX88, hO88, hs88⟩ := hp88
              refine v_iload dX6_gate_91 rfl ?_
              exact v_iret dX6_gate_93 rfl ⟨(Nat.le_of_ble_eq_true rfl), (Nat.le_of_ble_eq_true rfl)⟩ (by omega) ⟨s88, hX88, hO88, Or.inl ⟨by omega, rfl, by rw [hs88]; congr 1; split <;> omega⟩⟩
          · refine v_iload dX6_gate_42 rfl ?_
            refine v_callS (tX6_isNoSignal (by omega)) lc_X6_117 ⟨(Nat.le_of_ble_eq_true rfl), (Nat.le_of_ble_eq_true rfl)⟩ dX6_gate_44 rfl rfl (Nat.le_of_ble_eq_true rfl) ⟨(Nat.le_of_ble_eq_true rfl), (Nat.le_of_ble_eq_true rfl)⟩ (kP fun r44 hr44 hp44 => ?_)
            refine v_if_ne 56 dX6_gate_47 (by decide) (by omega) (fun h47 => ?_) (fun h47 => ?_)
            · refine v_iconst dX6_gate_56 ?_
              exact v_iret dX6_gate_57 rfl ⟨(Nat.le_of_ble_eq_true rfl), (Nat.le_of_ble_eq_true rfl)⟩ (by omega) ⟨s, hX, wO.rf, Or.inr ⟨by omega, by omega, rfl⟩⟩
            · refine v_iload dX6_gate_50 rfl ?_
              refine v_iloadn dX6_gate_52 rfl ?_
              refine v_icmp_ne 58 dX6_gate_53 (by decide) (by omega) (by omega) (fun h53 => ?_) (fun h53 => ?_)
              · refine v_aloadn dX6_gate_58 rfl ?_
                refine v_get dX6_gate_59 gf_X6_39 (hH 0 0 (by decide)) rfl ?_
                refine v_iloadn dX6_gate_62 rfl ?_
                refine v_aald2 (Cn := "WavePairs$Gate") dX6_gate_63 (hH 7 0 (by decide)) (by simp) (by omega) (by omega) (by decide) ?_
                refine v_getN dX6_gate_64 gf_X6_227 (hH 15 _ (by simp [cntX]; omega)) rfl ?_
                have hg := hX.2.2.2.2.2.2.2.2.2.1 a.toNat (by omega)
                refine v_istore dX6_gate_67 (Nat.le_of_ble_eq_true rfl) ?_
                refine v_aloadn dX6_gate_69 rfl ?_
                refine v_get dX6_gate_70 gf_X6_39 (hH 0 0 (by decide)) rfl ?_
                refine v_iloadn dX6_gate_73 rfl ?_
                refine v_aald2 (Cn := "WavePairs$Gate") dX6_gate_74 (hH 7 0 (by decide)) (by simp) (by omega) (by omega) (by decide) ?_
                refine v_iloadn dX6_gate_75 rfl ?_
                refine v_iloadn dX6_gate_76 rfl ?_
                refine v_iloadn dX6_gate_77 rfl ?_
                refine v_iconst dX6_gate_78 ?_
                refine v_icmp_le 87 dX6_gate_79 (by decide) (by omega) (by omega) (fun h79 => ?_) (fun h79 => ?_)
                · refine v_iloadn dX6_gate_87 rfl ?_
                  refine v_callV (tX1_tell hX (by omega) (by omega) (by omega) (by omega)) lc_X6_230 ⟨(Nat.le_of_ble_eq_true rfl), (Nat.le_of_ble_eq_true rfl)⟩ dX6_gate_88 rfl rfl (Nat.le_of_ble_eq_true rfl) ⟨(Nat.le_of_ble_eq_true rfl), (Nat.le_of_ble_eq_true rfl)⟩ ⟨_, _, _, _, hX.2.1 15 _ (by simp [cntX]; omega), rfl⟩ (kV fun M88 hp88 => ?_)
                  obtain ⟨s88, hX88, hO88, hs88⟩ := hp88
                  refine v_iload dX6_gate_91 rfl ?_
                  exact v_iret dX6_gate_93 rfl ⟨(Nat.le_of_ble_eq_true rfl), (Nat.le_of_ble_eq_true rfl)⟩ (by omega) ⟨s88, hX88, hO88, Or.inl ⟨by omega, rfl, by rw [hs88]; congr 1; split <;> omega⟩⟩
                · refine v_iload dX6_gate_82 rfl ?_
                  refine v_goto 88 dX6_gate_84 (by decide) ?_
                  refine v_callV (tX1_tell hX (by omega) (by omega) (by omega) (by omega)) lc_X6_230 ⟨(Nat.le_of_ble_eq_true rfl), (Nat.le_of_ble_eq_true rfl)⟩ dX6_gate_88 rfl rfl (Nat.le_of_ble_eq_true rfl) ⟨(Nat.le_of_ble_eq_true rfl), (Nat.le_of_ble_eq_true rfl)⟩ ⟨_, _, _, _, hX.2.1 15 _ (by simp [cntX]; omega), rfl⟩ (kV fun M88 hp88 => ?_)
                  obtain ⟨s88, hX88, hO88, hs88⟩ := hp88
                  refine v_iload dX6_gate_91 rfl ?_
                  exact v_iret dX6_gate_93 rfl ⟨(Nat.le_of_ble_eq_true rfl), (Nat.le_of_ble_eq_true rfl)⟩ (by omega) ⟨s88, hX88, hO88, Or.inl ⟨by omega, rfl, by rw [hs88]; congr 1; split <;> omega⟩⟩
              · refine v_iconst dX6_gate_56 ?_
                exact v_iret dX6_gate_57 rfl ⟨(Nat.le_of_ble_eq_true rfl), (Nat.le_of_ble_eq_true rfl)⟩ (by omega) ⟨s, hX, wO.rf, Or.inr ⟨by omega, by omega, rfl⟩⟩
        · refine v_iloadn dX6_gate_30 rfl ?_
          refine v_iloadn dX6_gate_31 rfl ?_
          refine v_icmp_ne 37 dX6_gate_32 (by decide) (by omega) (by omega) (fun h32 => ?_) (fun h32 => ?_)
          · refine v_iloadn dX6_gate_37 rfl ?_
            refine v_iconst dX6_gate_38 ?_
            refine v_icmp_le 58 dX6_gate_39 (by decide) (by omega) (by omega) (fun h39 => ?_) (fun h39 => ?_)
            · refine v_aloadn dX6_gate_58 rfl ?_
              refine v_get dX6_gate_59 gf_X6_39 (hH 0 0 (by decide)) rfl ?_
              refine v_iloadn dX6_gate_62 rfl ?_
              refine v_aald2 (Cn := "WavePairs$Gate") dX6_gate_63 (hH 7 0 (by decide)) (by simp) (by omega) (by omega) (by decide) ?_
              refine v_getN dX6_gate_64 gf_X6_227 (hH 15 _ (by simp [cntX]; omega)) rfl ?_
              have hg := hX.2.2.2.2.2.2.2.2.2.1 a.toNat (by omega)
              refine v_istore dX6_gate_67 (Nat.le_of_ble_eq_true rfl) ?_
              refine v_aloadn dX6_gate_69 rfl ?_
              refine v_get dX6_gate_70 gf_X6_39 (hH 0 0 (by decide)) rfl ?_
              refine v_iloadn dX6_gate_73 rfl ?_
              refine v_aald2 (Cn := "WavePairs$Gate") dX6_gate_74 (hH 7 0 (by decide)) (by simp) (by omega) (by omega) (by decide) ?_
              refine v_iloadn dX6_gate_75 rfl ?_
              refine v_iloadn dX6_gate_76 rfl ?_
              refine v_iloadn dX6_gate_77 rfl ?_
              refine v_iconst dX6_gate_78 ?_
              refine v_icmp_le 87 dX6_gate_79 (by decide) (by omega) (by omega) (fun h79 => ?_) (fun h79 => ?_)
              · refine v_iloadn dX6_gate_87 rfl ?_
                refine v_callV (tX1_tell hX (by omega) (by omega) (by omega) (by omega)) lc_X6_230 ⟨(Nat.le_of_ble_eq_true rfl), (Nat.le_of_ble_eq_true rfl)⟩ dX6_gate_88 rfl rfl (Nat.le_of_ble_eq_true rfl) ⟨(Nat.le_of_ble_eq_true rfl), (Nat.le_of_ble_eq_true rfl)⟩ ⟨_, _, _, _, hX.2.1 15 _ (by simp [cntX]; omega), rfl⟩ (kV fun M88 hp88 => ?_)
                obtain ⟨s88, hX88, hO88, hs88⟩ := hp88
                refine v_iload dX6_gate_91 rfl ?_
                exact v_iret dX6_gate_93 rfl ⟨(Nat.le_of_ble_eq_true rfl), (Nat.le_of_ble_eq_true rfl)⟩ (by omega) ⟨s88, hX88, hO88, Or.inl ⟨by omega, rfl, by rw [hs88]; congr 1; split <;> omega⟩⟩
              · refine v_iload dX6_gate_82 rfl ?_
                refine v_goto 88 dX6_gate_84 (by decide) ?_
                refine v_callV (tX1_tell hX (by omega) (by omega) (by omega) (by omega)) lc_X6_230 ⟨(Nat.le_of_ble_eq_true rfl), (Nat.le_of_ble_eq_true rfl)⟩ dX6_gate_88 rfl rfl (Nat.le_of_ble_eq_true rfl) ⟨(Nat.le_of_ble_eq_true rfl), (Nat.le_of_ble_eq_true rfl)⟩ ⟨_, _, _, _, hX.2.1 15 _ (by simp [cntX]; omega), rfl⟩ (kV fun M88 hp88 => ?_)
                obtain ⟨s88, hX88, hO88, hs88⟩ := hp88
                refine v_iload dX6_gate_91 rfl ?_
                exact v_iret dX6_gate_93 rfl ⟨(Nat.le_of_ble_eq_true rfl), (Nat.le_of_ble_eq_true rfl)⟩ (by omega) ⟨s88, hX88, hO88, Or.inl ⟨by omega, rfl, by rw [hs88]; congr 1; split <;> omega⟩⟩
            · refine v_iload dX6_gate_42 rfl ?_
              refine v_callS (tX6_isNoSignal (by omega)) lc_X6_117 ⟨(Nat.le_of_ble_eq_true rfl), (Nat.le_of_ble_eq_true rfl)⟩ dX6_gate_44 rfl rfl (Nat.le_of_ble_eq_true rfl) ⟨(Nat.le_of_ble_eq_true rfl), (Nat.le_of_ble_eq_true rfl)⟩ (kP fun r44 hr44 hp44 => ?_)
              refine v_if_ne 56 dX6_gate_47 (by decide) (by omega) (fun h47 => ?_) (fun h47 => ?_)
              · refine v_iconst dX6_gate_56 ?_
                exact v_iret dX6_gate_57 rfl ⟨(Nat.le_of_ble_eq_true rfl), (Nat.le_of_ble_eq_true rfl)⟩ (by omega) ⟨s, hX, wO.rf, Or.inr ⟨by omega, by omega, rfl⟩⟩
              · refine v_iload dX6_gate_50 rfl ?_
                refine v_iloadn dX6_gate_52 rfl ?_
                refine v_icmp_ne 58 dX6_gate_53 (by decide) (by omega) (by omega) (fun h53 => ?_) (fun h53 => ?_)
                · refine v_aloadn dX6_gate_58 rfl ?_
                  refine v_get dX6_gate_59 gf_X6_39 (hH 0 0 (by decide)) rfl ?_
                  refine v_iloadn dX6_gate_62 rfl ?_
                  refine v_aald2 (Cn := "WavePairs$Gate") dX6_gate_63 (hH 7 0 (by decide)) (by simp) (by omega) (by omega) (by decide) ?_
                  refine v_getN dX6_gate_64 gf_X6_227 (hH 15 _ (by simp [cntX]; omega)) rfl ?_
                  have hg := hX.2.2.2.2.2.2.2.2.2.1 a.toNat (by omega)
                  refine v_istore dX6_gate_67 (Nat.le_of_ble_eq_true rfl) ?_
                  refine v_aloadn dX6_gate_69 rfl ?_
                  refine v_get dX6_gate_70 gf_X6_39 (hH 0 0 (by decide)) rfl ?_
                  refine v_iloadn dX6_gate_73 rfl ?_
                  refine v_aald2 (Cn := "WavePairs$Gate") dX6_gate_74 (hH 7 0 (by decide)) (by simp) (by omega) (by omega) (by decide) ?_
                  refine v_iloadn dX6_gate_75 rfl ?_
                  refine v_iloadn dX6_gate_76 rfl ?_
                  refine v_iloadn dX6_gate_77 rfl ?_
                  refine v_iconst dX6_gate_78 ?_
                  refine v_icmp_le 87 dX6_gate_79 (by decide) (by omega) (by omega) (fun h79 => ?_) (fun h79 => ?_)
                  · refine v_iloadn dX6_gate_87 rfl ?_
                    refine v_callV (tX1_tell hX (by omega) (by omega) (by omega) (by omega)) lc_X6_230 ⟨(Nat.le_of_ble_eq_true rfl), (Nat.le_of_ble_eq_true rfl)⟩ dX6_gate_88 rfl rfl (Nat.le_of_ble_eq_true rfl) ⟨(Nat.le_of_ble_eq_true rfl), (Nat.le_of_ble_eq_true rfl)⟩ ⟨_, _, _, _, hX.2.1 15 _ (by simp [cntX]; omega), rfl⟩ (kV fun M88 hp88 => ?_)
                    obtain ⟨s88, hX88, hO88, hs88⟩ := hp88
                    refine v_iload dX6_gate_91 rfl ?_
                    exact v_iret dX6_gate_93 rfl ⟨(Nat.le_of_ble_eq_true rfl), (Nat.le_of_ble_eq_true rfl)⟩ (by omega) ⟨s88, hX88, hO88, Or.inl ⟨by omega, rfl, by rw [hs88]; congr 1; split <;> omega⟩⟩
                  · refine v_iload dX6_gate_82 rfl ?_
                    refine v_goto 88 dX6_gate_84 (by decide) ?_
                    refine v_callV (tX1_tell hX (by omega) (by omega) (by omega) (by omega)) lc_X6_230 ⟨(Nat.le_of_ble_eq_true rfl), (Nat.le_of_ble_eq_true rfl)⟩ dX6_gate_88 rfl rfl (Nat.le_of_ble_eq_true rfl) ⟨(Nat.le_of_ble_eq_true rfl), (Nat.le_of_ble_eq_true rfl)⟩ ⟨_, _, _, _, hX.2.1 15 _ (by simp [cntX]; omega), rfl⟩ (kV fun M88 hp88 => ?_)
                    obtain ⟨s88, hX88, hO88, hs88⟩ := hp88
                    refine v_iload dX6_gate_91 rfl ?_
                    exact v_iret dX6_gate_93 rfl ⟨(Nat.le_of_ble_eq_true rfl), (Nat.le_of_ble_eq_true rfl)⟩ (by omega) ⟨s88, hX88, hO88, Or.inl ⟨by omega, rfl, by rw [hs88]; congr 1; split <;> omega⟩⟩
                · refine v_iconst dX6_gate_56 ?_
                  exact v_iret dX6_gate_57 rfl ⟨(Nat.le_of_ble_eq_true rfl), (Nat.le_of_ble_eq_true rfl)⟩ (by omega) ⟨s, hX, wO.rf, Or.inr ⟨by omega, by omega, rfl⟩⟩
          · refine v_iconst dX6_gate_35 ?_
            exact v_iret dX6_gate_36 rfl ⟨(Nat.le_of_ble_eq_true rfl), (Nat.le_of_ble_eq_true rfl)⟩ (by omega) ⟨s, hX, wO.rf, Or.inr ⟨by omega, by omega, rfl⟩⟩
      · refine v_iconst dX6_gate_24 ?_
        exact v_iret dX6_gate_25 rfl ⟨(Nat.le_of_ble_eq_true rfl), (Nat.le_of_ble_eq_true rfl)⟩ (by omega) ⟨s, hX, wO.rf, Or.inr ⟨by omega, by omega, rfl⟩⟩
