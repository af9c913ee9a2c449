set_option maxHeartbeats 4000000 in
set_option maxRecDepth 100000 in
theorem tX7_rule {G : gG} {fw : Nat → Nat → Nat} {s : sG} {M : wM} (hY : wY G fw s M) {a v : Int} (ha : rng a) (hv : rng v) : wT G qX7_rule 0 0 [.ref (fw 0 0), .int (gI a), .int (gI v)] M (PY G fw M (fun x s' => (a = 0 ∧ bt 1 v 4000 ∧ x = s 0 0 0 ∧ s' = ups (ups s 0 0 0 v) 0 0 1 (s 0 0 1)) ∨ (a = 1 ∧ bt 0 v 1 ∧ x = s 0 0 1 ∧ s' = ups (ups s 0 0 0 (s 0 0 0)) 0 0 1 v) ∨ (¬ (a = 0 ∧ bt 1 v 4000) ∧ ¬ (a = 1 ∧ bt 0 v 1) ∧ x = -1 ∧ s' = s))) := by
  refine wT.intro (by decide) (Nat.le_of_ble_eq_true rfl) (fun sz => ?_)
  obtain ⟨hJ, hH, hI⟩ := id hY
  have hO : wO cntY fw M M := wO.rf
  have h0 := hY.2.2.1
  have hrw := hY.2.2.2.1
  have hnm := hY.2.2.2.2.1
  have hsh := hY.2.2.2.2.2.1
  have hmk := hY.2.2.2.2.2.2.1
  have hic := hY.2.2.2.2.2.2.2.1
  have hcn := hY.2.2.2.2.2.2.2.2.1
  have hgt := hY.2.2.2.2.2.2.2.2.2
  rcases (show a = 0 ∨ a = 1 ∨ (a ≠ 0 ∧ a ≠ 1) by omega) with rfl | rfl | hne
  · skip
    refine v_iloadn dX7_rule_0 rfl ?_
    refine v_iconst dX7_rule_1 ?_
    refine v_iconst dX7_rule_2 ?_
    refine v_callS (tX7_in (by omega) (by omega) (by omega)) lc_X7_60 ⟨(Nat.le_of_ble_eq_true rfl), (Nat.le_of_ble_eq_true rfl)⟩ dX7_rule_3 rfl rfl (Nat.le_of_ble_eq_true rfl) ⟨(Nat.le_of_ble_eq_true rfl), (Nat.le_of_ble_eq_true rfl)⟩ (kP fun r3 hr3 hp3 => ?_)
    refine v_if_eq 36 dX7_rule_6 (by decide) (by omega) (fun h6 => ?_) (fun h6 => ?_)
    · refine v_iconst dX7_rule_36 ?_
      exact v_iret dX7_rule_37 rfl ⟨(Nat.le_of_ble_eq_true rfl), (Nat.le_of_ble_eq_true rfl)⟩ (by omega) ⟨s, hY, wO.rf, Or.inr (Or.inr ⟨by omega, by omega, by omega, rfl⟩)⟩
    · refine v_iloadn dX7_rule_9 rfl ?_
      refine v_iloadn dX7_rule_10 rfl ?_
      refine v_if_ne 18 dX7_rule_11 (by decide) (by omega) (fun h11 => ?_) (fun h11 => ?_)
      · exfalso; omega
      · refine v_iconst dX7_rule_14 ?_
        refine v_goto 19 dX7_rule_15 (by decide) ?_
        refine v_iloadn dX7_rule_19 rfl ?_
        refine v_if_ne 29 dX7_rule_20 (by decide) (by omega) (fun h20 => ?_) (fun h20 => ?_)
        · exfalso; omega
        · refine v_sipush dX7_rule_23 (by decide) ?_
          refine v_goto 30 dX7_rule_26 (by decide) ?_
          refine v_callS (tX7_in (by omega) (by omega) (by omega)) lc_X7_60 ⟨(Nat.le_of_ble_eq_true rfl), (Nat.le_of_ble_eq_true rfl)⟩ dX7_rule_30 rfl rfl (Nat.le_of_ble_eq_true rfl) ⟨(Nat.le_of_ble_eq_true rfl), (Nat.le_of_ble_eq_true rfl)⟩ (kP fun r30 hr30 hp30 => ?_)
          refine v_if_ne 38 dX7_rule_33 (by decide) (by omega) (fun h33 => ?_) (fun h33 => ?_)
          · refine v_iloadn dX7_rule_38 rfl ?_
            refine v_if_ne 49 dX7_rule_39 (by decide) (by omega) (fun h39 => ?_) (fun h39 => ?_)
            · exfalso; omega
            · refine v_aloadn dX7_rule_42 rfl ?_
              refine v_get dX7_rule_43 gf_X7_7 (hH 0 0 (by decide)) rfl ?_
              refine v_goto 53 dX7_rule_46 (by decide) ?_
              refine v_istoren dX7_rule_53 (Nat.le_of_ble_eq_true rfl) ?_
              refine v_aloadn dX7_rule_54 rfl ?_
              refine v_iloadn dX7_rule_55 rfl ?_
              refine v_if_ne 63 dX7_rule_56 (by decide) (by omega) (fun h56 => ?_) (fun h56 => ?_)
              · exfalso; omega
              · refine v_iloadn dX7_rule_59 rfl ?_
                refine v_goto 67 dX7_rule_60 (by decide) ?_
                refine v_put dX7_rule_67 pf_X7_7 (hH 0 0 (by decide)) rfl rfl (Nat.le_of_ble_eq_true rfl) ?_
                generalize hMe67 : wup _ _ _ = M67
                have hO : wO cntY fw M M67 := by rw [← hMe67]; exact hO.up (k := 0) (i := 0) (by decide)
                obtain ⟨s67, hs67⟩ : ∃ z, z = ups s 0 0 (0) (v) := ⟨_, rfl⟩
                have hH : wH cntY (cellY G fw) fw s67 M67 := by rw [← hMe67, hs67]; exact wH.up hJ hH (k := 0) (i := 0) (0) (v) (by decide) rfl
                have e67 : s67 0 0 1 = s 0 0 1 := by rw [hs67, ups_at]; rfl
                refine v_aloadn dX7_rule_70 rfl ?_
                refine v_iloadn dX7_rule_71 rfl ?_
                refine v_iconst dX7_rule_72 ?_
                refine v_icmp_ne 80 dX7_rule_73 (by decide) (by omega) (by omega) (fun h73 => ?_) (fun h73 => ?_)
                · refine v_aloadn dX7_rule_80 rfl ?_
                  refine v_get dX7_rule_81 gf_X7_87 (hH 0 0 (by decide)) rfl ?_
                  refine v_put dX7_rule_84 pf_X7_87 (hH 0 0 (by decide)) rfl rfl (Nat.le_of_ble_eq_true rfl) ?_
                  generalize hMe84 : wup _ _ _ = M84
                  have hO : wO cntY fw M M84 := by rw [← hMe84]; exact hO.up (k := 0) (i := 0) (by decide)
                  obtain ⟨s84, hs84⟩ : ∃ z, z = ups s67 0 0 (1) (s67 0 0 1) := ⟨_, rfl⟩
                  have hH : wH cntY (cellY G fw) fw s84 M84 := by rw [← hMe84, hs84]; exact wH.up hJ hH (k := 0) (i := 0) (1) (s67 0 0 1) (by decide) rfl
                  refine v_iloadn dX7_rule_87 rfl ?_
                  exact v_iret dX7_rule_88 rfl ⟨(Nat.le_of_ble_eq_true rfl), (Nat.le_of_ble_eq_true rfl)⟩ (by omega) ⟨s84, ⟨hJ, hH, invY_z hI (fun k hk => by rw [hs84, hs67]; repeat rw [ups_kf _ hk]) (by rw [hs84, hs67]; simp [ups_at, upz] <;> omega) (fun i hi => by have hmi := hmk i (by revert hi; rw [hs84, hs67]; simp [ups_at, upz]); rw [hs84, hs67]; simp only [ups_kf _ (show (7 : Nat) ≠ 0 by decide), ups_kf _ (show (8 : Nat) ≠ 0 by decide), ups_kf _ (show (9 : Nat) ≠ 0 by decide), ups_kf _ (show (10 : Nat) ≠ 0 by decide)]; exact hmi)⟩, hO, Or.inl ⟨rfl, by omega, rfl, by rw [hs84, e67, hs67]⟩⟩
                · exfalso; omega
          · refine v_iconst dX7_rule_36 ?_
            exact v_iret dX7_rule_37 rfl ⟨(Nat.le_of_ble_eq_true rfl), (Nat.le_of_ble_eq_true rfl)⟩ (by omega) ⟨s, hY, wO.rf, Or.inr (Or.inr ⟨by omega, by omega, by omega, rfl⟩)⟩
  · skip
    refine v_iloadn dX7_rule_0 rfl ?_
    refine v_iconst dX7_rule_1 ?_
    refine v_iconst dX7_rule_2 ?_
    refine v_callS (tX7_in (by omega) (by omega) (by omega)) lc_X7_60 ⟨(Nat.le_of_ble_eq_true rfl), (Nat.le_of_ble_eq_true rfl)⟩ dX7_rule_3 rfl rfl (Nat.le_of_ble_eq_true rfl) ⟨(Nat.le_of_ble_eq_true rfl), (Nat.le_of_ble_eq_true rfl)⟩ (kP fun r3 hr3 hp3 => ?_)
    refine v_if_eq 36 dX7_rule_6 (by decide) (by omega) (fun h6 => ?_) (fun h6 => ?_)
    · refine v_iconst dX7_rule_36 ?_
      exact v_iret dX7_rule_37 rfl ⟨(Nat.le_of_ble_eq_true rfl), (Nat.le_of_ble_eq_true rfl)⟩ (by omega) ⟨s, hY, wO.rf, Or.inr (Or.inr ⟨by omega, by omega, by omega, rfl⟩)⟩
    · refine v_iloadn dX7_rule_9 rfl ?_
      refine v_iloadn dX7_rule_10 rfl ?_
      refine v_if_ne 18 dX7_rule_11 (by decide) (by omega) (fun h11 => ?_) (fun h11 => ?_)
      · refine v_iconst dX7_rule_18 ?_
        refine v_iloadn dX7_rule_19 rfl ?_
        refine v_if_ne 29 dX7_rule_20 (by decide) (by omega) (fun h20 => ?_) (fun h20 => ?_)
        · refine v_iconst dX7_rule_29 ?_
          refine v_callS (tX7_in (by omega) (by omega) (by omega)) lc_X7_60 ⟨(Nat.le_of_ble_eq_true rfl), (Nat.le_of_ble_eq_true rfl)⟩ dX7_rule_30 rfl rfl (Nat.le_of_ble_eq_true rfl) ⟨(Nat.le_of_ble_eq_true rfl), (Nat.le_of_ble_eq_true rfl)⟩ (kP fun r30 hr30 hp30 => ?_)
          refine v_if_ne 38 dX7_rule_33 (by decide) (by omega) (fun h33 => ?_) (fun h33 => ?_)
          · refine v_iloadn dX7_rule_38 rfl ?_
            refine v_if_ne 49 dX7_rule_39 (by decide) (by omega) (fun h39 => ?_) (fun h39 => ?_)
            · refine v_aloadn dX7_rule_49 rfl ?_
              refine v_get dX7_rule_50 gf_X7_87 (hH 0 0 (by decide)) rfl ?_
              refine v_istoren dX7_rule_53 (Nat.le_of_ble_eq_true rfl) ?_
              refine v_aloadn dX7_rule_54 rfl ?_
              refine v_iloadn dX7_rule_55 rfl ?_
              refine v_if_ne 63 dX7_rule_56 (by decide) (by omega) (fun h56 => ?_) (fun h56 => ?_)
              · refine v_aloadn dX7_rule_63 rfl ?_
                refine v_get dX7_rule_64 gf_X7_7 (hH 0 0 (by decide)) rfl ?_
                refine v_put dX7_rule_67 pf_X7_7 (hH 0 0 (by decide)) rfl rfl (Nat.le_of_ble_eq_true rfl) ?_
                generalize hMe67 : wup _ _ _ = M67
                have hO : wO cntY fw M M67 := by rw [← hMe67]; exact hO.up (k := 0) (i := 0) (by decide)
                obtain ⟨s67, hs67⟩ : ∃ z, z = ups s 0 0 (0) (s 0 0 0) := ⟨_, rfl⟩
                have hH : wH cntY (cellY G fw) fw s67 M67 := by rw [← hMe67, hs67]; exact wH.up hJ hH (k := 0) (i := 0) (0) (s 0 0 0) (by decide) rfl
                have e67 : s67 0 0 1 = s 0 0 1 := by rw [hs67, ups_at]; rfl
                refine v_aloadn dX7_rule_70 rfl ?_
                refine v_iloadn dX7_rule_71 rfl ?_
                refine v_iconst dX7_rule_72 ?_
                refine v_icmp_ne 80 dX7_rule_73 (by decide) (by omega) (by omega) (fun h73 => ?_) (fun h73 => ?_)
                · exfalso; omega
                · refine v_iloadn dX7_rule_76 rfl ?_
                  refine v_goto 84 dX7_rule_77 (by decide) ?_
                  refine v_put dX7_rule_84 pf_X7_87 (hH 0 0 (by decide)) rfl rfl (Nat.le_of_ble_eq_true rfl) ?_
                  generalize hMe84 : wup _ _ _ = M84
                  have hO : wO cntY fw M M84 := by rw [← hMe84]; exact hO.up (k := 0) (i := 0) (by decide)
                  obtain ⟨s84, hs84⟩ : ∃ z, z = ups s67 0 0 (1) (v) := ⟨_, rfl⟩
                  have hH : wH cntY (cellY G fw) fw s84 M84 := by rw [← hMe84, hs84]; exact wH.up hJ hH (k := 0) (i := 0) (1) (v) (by decide) rfl
                  refine v_iloadn dX7_rule_87 rfl ?_
                  exact v_iret dX7_rule_88 rfl ⟨(Nat.le_of_ble_eq_true rfl), (Nat.le_of_ble_eq_true rfl)⟩ (by omega) ⟨s84, ⟨hJ, hH, invY_z hI (fun k hk => by rw [hs84, hs67]; repeat rw [ups_kf _ hk]) (by rw [hs84, hs67]; simp [ups_at, upz] <;> omega) (fun i hi => by have hmi := hmk i (by revert hi; rw [hs84, hs67]; simp [ups_at, upz]); rw [hs84, hs67]; simp only [ups_kf _ (show (7 : Nat) ≠ 0 by decide), ups_kf _ (show (8 : Nat) ≠ 0 by decide), ups_kf _ (show (9 : Nat) ≠ 0 by decide), ups_kf _ (show (10 : Nat) ≠ 0 by decide)]; exact hmi)⟩, hO, Or.inr (Or.inl ⟨rfl, by omega, rfl, by rw [hs84, hs67]⟩)⟩
              · exfalso; omega
            · exfalso; omega
          · refine v_iconst dX7_rule_36 ?_
            exact v_iret dX7_rule_37 rfl ⟨(Nat.le_of_ble_eq_true rfl), (Nat.le_of_ble_eq_true rfl)⟩ (by omega) ⟨s, hY, wO.rf, Or.inr (Or.inr ⟨by omega, by omega, by omega, rfl⟩)⟩
        · exfalso; omega
      · exfalso; omega
  · skip
    refine v_iloadn dX7_rule_0 rfl ?_
    refine v_iconst dX7_rule_1 ?_
    refine v_iconst dX7_rule_2 ?_
    refine v_callS (tX7_in (by omega) (by omega) (by omega)) lc_X7_60 ⟨(Nat.le_of_ble_eq_true rfl), (Nat.le_of_ble_eq_true rfl)⟩ dX7_rule_3 rfl rfl (Nat.le_of_ble_eq_true rfl) ⟨(Nat.le_of_ble_eq_true rfl), (Nat.le_of_ble_eq_true rfl)⟩ (kP fun r3 hr3 hp3 => ?_)
    refine v_if_eq 36 dX7_rule_6 (by decide) (by omega) (fun h6 => ?_) (fun h6 => ?_)
    · refine v_iconst dX7_rule_36 ?_
      exact v_iret dX7_rule_37 rfl ⟨(Nat.le_of_ble_eq_true rfl), (Nat.le_of_ble_eq_true rfl)⟩ (by omega) ⟨s, hY, wO.rf, Or.inr (Or.inr ⟨by omega, by omega, by omega, rfl⟩)⟩
    · exfalso; omega
set_option maxHeartbeats 4000000 in
set_option maxRecDepth 100000 in
theorem tX7_call {G : gG} {fw : Nat → Nat → Nat} {s : sG} {M : wM} (hY : wY G fw s M) {a w v : Int} (ha : rng a) (hw : rng w) (hv : rng v) : wT G qX7_call 0 0 [.ref (fw 0 0), .int (gI a), .int (gI w), .int (gI v)] M (PY G fw M (fun x s' => (bt 0 a 11 ∧ w = 0 ∧ bt 0 v 11 ∧ x = s 4 0 a.toNat ∧ s' = ups (ups s 4 0 a.toNat v) 5 0 a.toNat (s 5 0 a.toNat)) ∨ (bt 0 a 11 ∧ w = 1 ∧ bt 0 v 3 ∧ x = s 5 0 a.toNat ∧ s' = ups (ups s 4 0 a.toNat (s 4 0 a.toNat)) 5 0 a.toNat v) ∨ (¬ (bt 0 a 11 ∧ w = 0 ∧ bt 0 v 11) ∧ ¬ (bt 0 a 11 ∧ w = 1 ∧ bt 0 v 3) ∧ x = -1 ∧ s' = s))) := by
  refine wT.intro (by decide) (Nat.le_of_ble_eq_true rfl) (fun sz => ?_)
  obtain ⟨hJ, hH, hI⟩ := id hY
  have hO : wO cntY fw M M := wO.rf
  have h0 := hY.2.2.1
  have hrw := hY.2.2.2.1
  have hnm := hY.2.2.2.2.1
  have hsh := hY.2.2.2.2.2.1
  have hmk := hY.2.2.2.2.2.2.1
  have hic := hY.2.2.2.2.2.2.2.1
  have hcn := hY.2.2.2.2.2.2.2.2.1
  have hgt := hY.2.2.2.2.2.2.2.2.2
  rcases (show w = 0 ∨ w = 1 ∨ (w ≠ 0 ∧ w ≠ 1) by omega) with rfl | rfl | hne
  · skip
    refine v_iloadn dX7_call_0 rfl ?_
    refine v_callS (tX7_isSignal (by omega)) lc_X7_64 ⟨(Nat.le_of_ble_eq_true rfl), (Nat.le_of_ble_eq_true rfl)⟩ dX7_call_1 rfl rfl (Nat.le_of_ble_eq_true rfl) ⟨(Nat.le_of_ble_eq_true rfl), (Nat.le_of_ble_eq_true rfl)⟩ (kP fun r1 hr1 hp1 => ?_)
    refine v_if_eq 34 dX7_call_4 (by decide) (by omega) (fun h4 => ?_) (fun h4 => ?_)
    · refine v_iconst dX7_call_34 ?_
      exact v_iret dX7_call_35 rfl ⟨(Nat.le_of_ble_eq_true rfl), (Nat.le_of_ble_eq_true rfl)⟩ (by omega) ⟨s, hY, wO.rf, Or.inr (Or.inr ⟨by omega, by omega, by omega, rfl⟩)⟩
    · refine v_iloadn dX7_call_7 rfl ?_
      refine v_iconst dX7_call_8 ?_
      refine v_iconst dX7_call_9 ?_
      refine v_callS (tX7_in (by omega) (by omega) (by omega)) lc_X7_60 ⟨(Nat.le_of_ble_eq_true rfl), (Nat.le_of_ble_eq_true rfl)⟩ dX7_call_10 rfl rfl (Nat.le_of_ble_eq_true rfl) ⟨(Nat.le_of_ble_eq_true rfl), (Nat.le_of_ble_eq_true rfl)⟩ (kP fun r10 hr10 hp10 => ?_)
      refine v_if_eq 34 dX7_call_13 (by decide) (by omega) (fun h13 => ?_) (fun h13 => ?_)
      · refine v_iconst dX7_call_34 ?_
        exact v_iret dX7_call_35 rfl ⟨(Nat.le_of_ble_eq_true rfl), (Nat.le_of_ble_eq_true rfl)⟩ (by omega) ⟨s, hY, wO.rf, Or.inr (Or.inr ⟨by omega, by omega, by omega, rfl⟩)⟩
      · refine v_iloadn dX7_call_16 rfl ?_
        refine v_iconst dX7_call_17 ?_
        refine v_iloadn dX7_call_18 rfl ?_
        refine v_if_ne 27 dX7_call_19 (by decide) (by omega) (fun h19 => ?_) (fun h19 => ?_)
        · exfalso; omega
        · refine v_bipush dX7_call_22 (by decide) ?_
          refine v_goto 28 dX7_call_24 (by decide) ?_
          refine v_callS (tX7_in (by omega) (by omega) (by omega)) lc_X7_60 ⟨(Nat.le_of_ble_eq_true rfl), (Nat.le_of_ble_eq_true rfl)⟩ dX7_call_28 rfl rfl (Nat.le_of_ble_eq_true rfl) ⟨(Nat.le_of_ble_eq_true rfl), (Nat.le_of_ble_eq_true rfl)⟩ (kP fun r28 hr28 hp28 => ?_)
          refine v_if_ne 36 dX7_call_31 (by decide) (by omega) (fun h31 => ?_) (fun h31 => ?_)
          · refine v_iloadn dX7_call_36 rfl ?_
            refine v_if_ne 49 dX7_call_37 (by decide) (by omega) (fun h37 => ?_) (fun h37 => ?_)
            · exfalso; omega
            · refine v_aloadn dX7_call_40 rfl ?_
              refine v_get dX7_call_41 gf_X7_23 (hH 0 0 (by decide)) rfl ?_
              refine v_iloadn dX7_call_44 rfl ?_
              refine v_iald dX7_call_45 (hH 4 0 (by decide)) (by omega) (by omega) (by decide) ?_
              have hna := hnm a.toNat (by omega)
              refine v_goto 55 dX7_call_46 (by decide) ?_
              refine v_istore dX7_call_55 (Nat.le_of_ble_eq_true rfl) ?_
              refine v_aloadn dX7_call_57 rfl ?_
              refine v_get dX7_call_58 gf_X7_23 (hH 0 0 (by decide)) rfl ?_
              refine v_iloadn dX7_call_61 rfl ?_
              refine v_iloadn dX7_call_62 rfl ?_
              refine v_if_ne 70 dX7_call_63 (by decide) (by omega) (fun h63 => ?_) (fun h63 => ?_)
              · exfalso; omega
              · refine v_iloadn dX7_call_66 rfl ?_
                refine v_goto 76 dX7_call_67 (by decide) ?_
                refine v_iast dX7_call_76 (hH 4 0 (by decide)) (by omega) (by omega) (by decide) ?_
                generalize hMe76 : wup _ _ _ = M76
                have hO : wO cntY fw M M76 := by rw [← hMe76]; exact hO.up (k := 4) (i := 0) (by decide)
                obtain ⟨s76, hs76⟩ : ∃ z, z = ups s 4 0 (a.toNat) (v) := ⟨_, rfl⟩
                have hH : wH cntY (cellY G fw) fw s76 M76 := by rw [← hMe76, hs76]; exact wH.up hJ hH (k := 4) (i := 0) (a.toNat) (v) (by decide) rfl
                have e76 : s76 5 0 a.toNat = s 5 0 a.toNat := by rw [hs76, ups_kf _ (by decide)]
                refine v_aloadn dX7_call_77 rfl ?_
                refine v_get dX7_call_78 gf_X7_26 (hH 0 0 (by decide)) rfl ?_
                refine v_iloadn dX7_call_81 rfl ?_
                refine v_iloadn dX7_call_82 rfl ?_
                refine v_iconst dX7_call_83 ?_
                refine v_icmp_ne 91 dX7_call_84 (by decide) (by omega) (by omega) (fun h84 => ?_) (fun h84 => ?_)
                · refine v_aloadn dX7_call_91 rfl ?_
                  refine v_get dX7_call_92 gf_X7_26 (hH 0 0 (by decide)) rfl ?_
                  refine v_iloadn dX7_call_95 rfl ?_
                  refine v_iald dX7_call_96 (hH 5 0 (by decide)) (by omega) (by omega) (by decide) ?_
                  refine v_iast dX7_call_97 (hH 5 0 (by decide)) (by omega) (by omega) (by decide) ?_
                  generalize hMe97 : wup _ _ _ = M97
                  have hO : wO cntY fw M M97 := by rw [← hMe97]; exact hO.up (k := 5) (i := 0) (by decide)
                  obtain ⟨s97, hs97⟩ : ∃ z, z = ups s76 5 0 (a.toNat) (s76 5 0 a.toNat) := ⟨_, rfl⟩
                  have hH : wH cntY (cellY G fw) fw s97 M97 := by rw [← hMe97, hs97]; exact wH.up hJ hH (k := 5) (i := 0) (a.toNat) (s76 5 0 a.toNat) (by decide) rfl
                  refine v_iload dX7_call_98 rfl ?_
                  exact v_iret dX7_call_100 rfl ⟨(Nat.le_of_ble_eq_true rfl), (Nat.le_of_ble_eq_true rfl)⟩ (by omega) ⟨s97, ⟨hJ, hH, invY_n hI (fun k h1 h2 => by rw [hs97, hs76, ups_kf _ h2, ups_kf _ h1]) (fun j hj => by have h1 := hnm j hj; have h2 := hnm a.toNat (by omega); rw [hs97, e76, hs76]; by_cases q : j = a.toNat <;> simp [ups, upz, q] <;> omega)⟩, hO, Or.inl ⟨by omega, rfl, by omega, rfl, by rw [hs97, e76, hs76]⟩⟩
                · exfalso; omega
          · refine v_iconst dX7_call_34 ?_
            exact v_iret dX7_call_35 rfl ⟨(Nat.le_of_ble_eq_true rfl), (Nat.le_of_ble_eq_true rfl)⟩ (by omega) ⟨s, hY, wO.rf, Or.inr (Or.inr ⟨by omega, by omega, by omega, rfl⟩)⟩
  · skip
    refine v_iloadn dX7_call_0 rfl ?_
    refine v_callS (tX7_isSignal (by omega)) lc_X7_64 ⟨(Nat.le_of_ble_eq_true rfl), (Nat.le_of_ble_eq_true rfl)⟩ dX7_call_1 rfl rfl (Nat.le_of_ble_eq_true rfl) ⟨(Nat.le_of_ble_eq_true rfl), (Nat.le_of_ble_eq_true rfl)⟩ (kP fun r1 hr1 hp1 => ?_)
    refine v_if_eq 34 dX7_call_4 (by decide) (by omega) (fun h4 => ?_) (fun h4 => ?_)
    · refine v_iconst dX7_call_34 ?_
      exact v_iret dX7_call_35 rfl ⟨(Nat.le_of_ble_eq_true rfl), (Nat.le_of_ble_eq_true rfl)⟩ (by omega) ⟨s, hY, wO.rf, Or.inr (Or.inr ⟨by omega, by omega, by omega, rfl⟩)⟩
    · refine v_iloadn dX7_call_7 rfl ?_
      refine v_iconst dX7_call_8 ?_
      refine v_iconst dX7_call_9 ?_
      refine v_callS (tX7_in (by omega) (by omega) (by omega)) lc_X7_60 ⟨(Nat.le_of_ble_eq_true rfl), (Nat.le_of_ble_eq_true rfl)⟩ dX7_call_10 rfl rfl (Nat.le_of_ble_eq_true rfl) ⟨(Nat.le_of_ble_eq_true rfl), (Nat.le_of_ble_eq_true rfl)⟩ (kP fun r10 hr10 hp10 => ?_)
      refine v_if_eq 34 dX7_call_13 (by decide) (by omega) (fun h13 => ?_) (fun h13 => ?_)
      · refine v_iconst dX7_call_34 ?_
        exact v_iret dX7_call_35 rfl ⟨(Nat.le_of_ble_eq_true rfl), (Nat.le_of_ble_eq_true rfl)⟩ (by omega) ⟨s, hY, wO.rf, Or.inr (Or.inr ⟨by omega, by omega, by omega, rfl⟩)⟩
      · refine v_iloadn dX7_call_16 rfl ?_
        refine v_iconst dX7_call_17 ?_
        refine v_iloadn dX7_call_18 rfl ?_
        refine v_if_ne 27 dX7_call_19 (by decide) (by omega) (fun h19 => ?_) (fun h19 => ?_)
        · refine v_iconst dX7_call_27 ?_
          refine v_callS (tX7_in (by omega) (by omega) (by omega)) lc_X7_60 ⟨(Nat.le_of_ble_eq_true rfl), (Nat.le_of_ble_eq_true rfl)⟩ dX7_call_28 rfl rfl (Nat.le_of_ble_eq_true rfl) ⟨(Nat.le_of_ble_eq_true rfl), (Nat.le_of_ble_eq_true rfl)⟩ (kP fun r28 hr28 hp28 => ?_)
          refine v_if_ne 36 dX7_call_31 (by decide) (by omega) (fun h31 => ?_) (fun h31 => ?_)
          · refine v_iloadn dX7_call_36 rfl ?_
            refine v_if_ne 49 dX7_call_37 (by decide) (by omega) (fun h37 => ?_) (fun h37 => ?_)
            · refine v_aloadn dX7_call_49 rfl ?_
              refine v_get dX7_call_50 gf_X7_26 (hH 0 0 (by decide)) rfl ?_
              refine v_iloadn dX7_call_53 rfl ?_
              refine v_iald dX7_call_54 (hH 5 0 (by decide)) (by omega) (by omega) (by decide) ?_
              have hna := hnm a.toNat (by omega)
              refine v_istore dX7_call_55 (Nat.le_of_ble_eq_true rfl) ?_
              refine v_aloadn dX7_call_57 rfl ?_
              refine v_get dX7_call_58 gf_X7_23 (hH 0 0 (by decide)) rfl ?_
              refine v_iloadn dX7_call_61 rfl ?_
              refine v_iloadn dX7_call_62 rfl ?_
              refine v_if_ne 70 dX7_call_63 (by decide) (by omega) (fun h63 => ?_) (fun h63 => ?_)
              · refine v_aloadn dX7_call_70 rfl ?_
                refine v_get dX7_call_71 gf_X7_23 (hH 0 0 (by decide)) rfl ?_
                refine v_iloadn dX7_call_74 rfl ?_
                refine v_iald dX7_call_75 (hH 4 0 (by decide)) (by omega) (by omega) (by decide) ?_
                refine v_iast dX7_call_76 (hH 4 0 (by decide)) (by omega) (by omega) (by decide) ?_
                generalize hMe76 : wup _ _ _ = M76
                have hO : wO cntY fw M M76 := by rw [← hMe76]; exact hO.up (k := 4) (i := 0) (by decide)
                obtain ⟨s76, hs76⟩ : ∃ z, z = ups s 4 0 (a.toNat) (s 4 0 a.toNat) := ⟨_, rfl⟩
                have hH : wH cntY (cellY G fw) fw s76 M76 := by rw [← hMe76, hs76]; exact wH.up hJ hH (k := 4) (i := 0) (a.toNat) (s 4 0 a.toNat) (by decide) rfl
                have e76 : s76 5 0 a.toNat = s 5 0 a.toNat := by rw [hs76, ups_kf _ (by decide)]
                refine v_aloadn dX7_call_77 rfl ?_
                refine v_get dX7_call_78 gf_X7_26 (hH 0 0 (by decide)) rfl ?_
                refine v_iloadn dX7_call_81 rfl ?_
                refine v_iloadn dX7_call_82 rfl ?_
                refine v_iconst dX7_call_83 ?_
                refine v_icmp_ne 91 dX7_call_84 (by decide) (by omega) (by omega) (fun h84 => ?_) (fun h84 => ?_)
                · exfalso; omega
                · refine v_iloadn dX7_call_87 rfl ?_
                  refine v_goto 97 dX7_call_88 (by decide) ?_
                  refine v_iast dX7_call_97 (hH 5 0 (by decide)) (by omega) (by omega) (by decide) ?_
                  generalize hMe97 : wup _ _ _ = M97
                  have hO : wO cntY fw M M97 := by rw [← hMe97]; exact hO.up (k := 5) (i := 0) (by decide)
                  obtain ⟨s97, hs97⟩ : ∃ z, z = ups s76 5 0 (a.toNat) (v) := ⟨_, rfl⟩
                  have hH : wH cntY (cellY G fw) fw s97 M97 := by rw [← hMe97, hs97]; exact wH.up hJ hH (k := 5) (i := 0) (a.toNat) (v) (by decide) rfl
                  refine v_iload dX7_call_98 rfl ?_
                  exact v_iret dX7_call_100 rfl ⟨(Nat.le_of_ble_eq_true rfl), (Nat.le_of_ble_eq_true rfl)⟩ (by omega) ⟨s97, ⟨hJ, hH, invY_n hI (fun k h1 h2 => by rw [hs97, hs76, ups_kf _ h2, ups_kf _ h1]) (fun j hj => by have h1 := hnm j hj; have h2 := hnm a.toNat (by omega); rw [hs97, hs76]; by_cases q : j = a.toNat <;> simp [ups, upz, q] <;> omega)⟩, hO, Or.inr (Or.inl ⟨by omega, rfl, by omega, rfl, by rw [hs97, hs76]⟩)⟩
              · exfalso; omega
            · exfalso; omega
          · refine v_iconst dX7_call_34 ?_
            exact v_iret dX7_call_35 rfl ⟨(Nat.le_of_ble_eq_true rfl), (Nat.le_of_ble_eq_true rfl)⟩ (by omega) ⟨s, hY, wO.rf, Or.inr (Or.inr ⟨by omega, by omega, by omega, rfl⟩)⟩
        · exfalso; omega
  · skip
    refine v_iloadn dX7_call_0 rfl ?_
    refine v_callS (tX7_isSignal (by omega)) lc_X7_64 ⟨(Nat.le_of_ble_eq_true rfl), (Nat.le_of_ble_eq_true rfl)⟩ dX7_call_1 rfl rfl (Nat.le_of_ble_eq_true rfl) ⟨(Nat.le_of_ble_eq_true rfl), (Nat.le_of_ble_eq_true rfl)⟩ (kP fun r1 hr1 hp1 => ?_)
    refine v_if_eq 34 dX7_call_4 (by decide) (by omega) (fun h4 => ?_) (fun h4 => ?_)
    · refine v_iconst dX7_call_34 ?_
      exact v_iret dX7_call_35 rfl ⟨(Nat.le_of_ble_eq_true rfl), (Nat.le_of_ble_eq_true rfl)⟩ (by omega) ⟨s, hY, wO.rf, Or.inr (Or.inr ⟨by omega, by omega, by omega, rfl⟩)⟩
    · refine v_iloadn dX7_call_7 rfl ?_
      refine v_iconst dX7_call_8 ?_
      refine v_iconst dX7_call_9 ?_
      refine v_callS (tX7_in (by omega) (by omega) (by omega)) lc_X7_60 ⟨(Nat.le_of_ble_eq_true rfl), (Nat.le_of_ble_eq_true rfl)⟩ dX7_call_10 rfl rfl (Nat.le_of_ble_eq_true rfl) ⟨(Nat.le_of_ble_eq_true rfl), (Nat.le_of_ble_eq_true rfl)⟩ (kP fun r10 hr10 hp10 => ?_)
      refine v_if_eq 34 dX7_call_13 (by decide) (by omega) (fun h13 => ?_) (fun h13 => ?_)
      · refine v_iconst dX7_call_34 ?_
        exact v_iret dX7_call_35 rfl ⟨(Nat.le_of_ble_eq_true rfl), (Nat.le_of_ble_eq_true rfl)⟩ (by omega) ⟨s, hY, wO.rf, Or.inr (Or.inr ⟨by omega, by omega, by omega, rfl⟩)⟩
      · exfalso; omega
set_option maxHeartbeats 4000000 in
set_option maxRecDepth 100000 in
theorem tX7_shift {G : gG} {fw : Nat → Nat → Nat} {s : sG} {M : wM} (hY : wY G fw s M) {a v : Int} (ha : rng a) (hv : rng v) : wT G qX7_shift 0 0 [.ref (fw 0 0), .int (gI a), .int (gI v)] M (PY G fw M (fun x s' => (bt 0 a 3 ∧ bt (-50) v 50 ∧ x = s 6 0 a.toNat ∧ s' = ups s 6 0 a.toNat v) ∨ (¬ (bt 0 a 3 ∧ bt (-50) v 50) ∧ x = -1000 ∧ s' = s))) := by
  refine wT.intro (by decide) (Nat.le_of_ble_eq_true rfl) (fun sz => ?_)
  obtain ⟨hJ, hH, hI⟩ := id hY
  have hO : wO cntY fw M M := wO.rf
  have h0 := hY.2.2.1
  have hrw := hY.2.2.2.1
  have hnm := hY.2.2.2.2.1
  have hsh := hY.2.2.2.2.2.1
  have hmk := hY.2.2.2.2.2.2.1
  have hic := hY.2.2.2.2.2.2.2.1
  have hcn := hY.2.2.2.2.2.2.2.2.1
  have hgt := hY.2.2.2.2.2.2.2.2.2
  refine v_iloadn dX7_shift_0 rfl ?_
  refine v_iconst dX7_shift_1 ?_
  refine v_iconst dX7_shift_2 ?_
  refine v_callS (tX7_in (by omega) (by omega) (by omega)) lc_X7_60 ⟨(Nat.le_of_ble_eq_true rfl), (Nat.le_of_ble_eq_true rfl)⟩ dX7_shift_3 rfl rfl (Nat.le_of_ble_eq_true rfl) ⟨(Nat.le_of_ble_eq_true rfl), (Nat.le_of_ble_eq_true rfl)⟩ (kP fun r3 hr3 hp3 => ?_)
  refine v_if_eq 20 dX7_shift_6 (by decide) (by omega) (fun h6 => ?_) (fun h6 => ?_)
  · refine v_sipush dX7_shift_20 (by decide) ?_
    exact v_iret dX7_shift_23 rfl ⟨(Nat.le_of_ble_eq_true rfl), (Nat.le_of_ble_eq_true rfl)⟩ (by omega) ⟨s, hY, wO.rf, Or.inr ⟨by omega, by omega, rfl⟩⟩
  · refine v_iloadn dX7_shift_9 rfl ?_
    refine v_bipush dX7_shift_10 (by decide) ?_
    refine v_bipush dX7_shift_12 (by decide) ?_
    refine v_callS (tX7_in (by omega) (by omega) (by omega)) lc_X7_60 ⟨(Nat.le_of_ble_eq_true rfl), (Nat.le_of_ble_eq_true rfl)⟩ dX7_shift_14 rfl rfl (Nat.le_of_ble_eq_true rfl) ⟨(Nat.le_of_ble_eq_true rfl), (Nat.le_of_ble_eq_true rfl)⟩ (kP fun r14 hr14 hp14 => ?_)
    refine v_if_ne 24 dX7_shift_17 (by decide) (by omega) (fun h17 => ?_) (fun h17 => ?_)
    · refine v_aloadn dX7_shift_24 rfl ?_
      refine v_get dX7_shift_25 gf_X7_29 (hH 0 0 (by decide)) rfl ?_
      refine v_iloadn dX7_shift_28 rfl ?_
      refine v_iald dX7_shift_29 (hH 6 0 (by decide)) (by omega) (by omega) (by decide) ?_
      have hna := hsh a.toNat (by omega)
      refine v_istoren dX7_shift_30 (Nat.le_of_ble_eq_true rfl) ?_
      refine v_aloadn dX7_shift_31 rfl ?_
      refine v_get dX7_shift_32 gf_X7_29 (hH 0 0 (by decide)) rfl ?_
      refine v_iloadn dX7_shift_35 rfl ?_
      refine v_iloadn dX7_shift_36 rfl ?_
      refine v_iast dX7_shift_37 (hH 6 0 (by decide)) (by omega) (by omega) (by decide) ?_
      generalize hMe37 : wup _ _ _ = M37
      have hO : wO cntY fw M M37 := by rw [← hMe37]; exact hO.up (k := 6) (i := 0) (by decide)
      obtain ⟨s37, hs37⟩ : ∃ z, z = ups s 6 0 (a.toNat) (v) := ⟨_, rfl⟩
      have hH : wH cntY (cellY G fw) fw s37 M37 := by rw [← hMe37, hs37]; exact wH.up hJ hH (k := 6) (i := 0) (a.toNat) (v) (by decide) rfl
      refine v_iloadn dX7_shift_38 rfl ?_
      exact v_iret dX7_shift_39 rfl ⟨(Nat.le_of_ble_eq_true rfl), (Nat.le_of_ble_eq_true rfl)⟩ (by omega) ⟨s37, ⟨hJ, hH, invY_h hI (fun k hk => by rw [hs37]; exact ups_kf _ hk) (fun j hj => by have h1 := hsh j hj; rw [hs37]; by_cases q : j = a.toNat <;> simp [ups, upz, q] <;> omega)⟩, hO, Or.inl ⟨by omega, by omega, rfl, hs37⟩⟩
    · refine v_sipush dX7_shift_20 (by decide) ?_
      exact v_iret dX7_shift_23 rfl ⟨(Nat.le_of_ble_eq_true rfl), (Nat.le_of_ble_eq_true rfl)⟩ (by omega) ⟨s, hY, wO.rf, Or.inr ⟨by omega, by omega, rfl⟩⟩
set_option maxHeartbeats 4000000 in
set_option maxRecDepth 100000 in
theorem tX7_noMasks {G : gG} {fw : Nat → Nat → Nat} {s : sG} {M : wM} (hY : wY G fw s M) : wT G qX7_noMasks 0 0 [.ref (fw 0 0)] M (PY G fw M (fun x s' => x = s 0 0 8 ∧ s' = ups s 0 0 8 0)) := by
  refine wT.intro (by decide) (Nat.le_of_ble_eq_true rfl) (fun sz => ?_)
  obtain ⟨hJ, hH, hI⟩ := id hY
  have hO : wO cntY fw M M := wO.rf
  have h0 := hY.2.2.1
  have hrw := hY.2.2.2.1
  have hnm := hY.2.2.2.2.1
  have hsh := hY.2.2.2.2.2.1
  have hmk := hY.2.2.2.2.2.2.1
  have hic := hY.2.2.2.2.2.2.2.1
  have hcn := hY.2.2.2.2.2.2.2.2.1
  have hgt := hY.2.2.2.2.2.2.2.2.2
  refine v_aloadn dX7_noMasks_0 rfl ?_
  refine v_get dX7_noMasks_1 gf_X7_90 (hH 0 0 (by decide)) rfl ?_
  refine v_istoren dX7_noMasks_4 (Nat.le_of_ble_eq_true rfl) ?_
  refine v_aloadn dX7_noMasks_5 rfl ?_
  refine v_iconst dX7_noMasks_6 ?_
  refine v_put dX7_noMasks_7 pf_X7_90 (hH 0 0 (by decide)) rfl rfl (Nat.le_of_ble_eq_true rfl) ?_
  generalize hMe7 : wup _ _ _ = M7
  have hO : wO cntY fw M M7 := by rw [← hMe7]; exact hO.up (k := 0) (i := 0) (by decide)
  obtain ⟨s7, hs7⟩ : ∃ z, z = ups s 0 0 (8) (0) := ⟨_, rfl⟩
  have hH : wH cntY (cellY G fw) fw s7 M7 := by rw [← hMe7, hs7]; exact wH.up hJ hH (k := 0) (i := 0) (8) (0) (by decide) rfl
  refine v_iloadn dX7_noMasks_10 rfl ?_
  exact v_iret dX7_noMasks_11 rfl ⟨(Nat.le_of_ble_eq_true rfl), (Nat.le_of_ble_eq_true rfl)⟩ (by omega) ⟨s7, ⟨hJ, hH, invY_z hI (fun k hk => by rw [hs7]; exact ups_kf _ hk) (by rw [hs7]; simp [ups_at, upz] <;> omega) (fun i hi => by rw [hs7, ups_at] at hi; simp [upz] at hi; omega)⟩, hO, rfl, hs7⟩
def mkS (s : sG) (a b c d : Int) : sG := ups (ups (ups (ups (ups s 7 0 (s 0 0 8).toNat a) 10 0 (s 0 0 8).toNat b) 8 0 (s 0 0 8).toNat c) 9 0 (s 0 0 8).toNat d) 0 0 8 (s 0 0 8 + 1)
theorem mkS_0 (s : sG) (a b c d : Int) : mkS s a b c d 0 0 = upz (s 0 0) 8 (s 0 0 8 + 1) := by
  unfold mkS
  rw [ups_at, ups_kf _ (by decide), ups_kf _ (by decide), ups_kf _ (by decide), ups_kf _ (by decide)]
theorem mkS_o (s : sG) (a b c d : Int) {k : Nat} (h0 : k ≠ 0) (h7 : k ≠ 7) (h8 : k ≠ 8) (h9 : k ≠ 9) (h10 : k ≠ 10) : mkS s a b c d k = s k := by
  unfold mkS
  rw [ups_kf _ h0, ups_kf _ h9, ups_kf _ h8, ups_kf _ h10, ups_kf _ h7]
theorem invY_mk {s : sG} (hI : invY s) {a b c d : Int} (hm : s 0 0 8 < 10) (ha : bt 0 a 11) (hb : bt (-1) b 11) (hc : bt 0 c 4000) (hd : bt 0 d 4000) : invY (mkS s a b c d) := by
  have h0 := hI.1
  have hmk := hI.2.2.2.2.1
  refine invY_m hI (fun k h0 h7 h8 h9 h10 => mkS_o s a b c d h0 h7 h8 h9 h10) (by rw [mkS_0]; simp [upz] <;> omega) (fun i hi => ?_)
  rw [mkS_0] at hi
  have hi : (i : Int) < s 0 0 8 + 1 := hi
  have e7 : mkS s a b c d 7 0 = upz (s 7 0) (s 0 0 8).toNat a := by unfold mkS; rw [ups_kf _ (by decide), ups_kf _ (by decide), ups_kf _ (by decide), ups_kf _ (by decide), ups_at]
  have e10 : mkS s a b c d 10 0 = upz (s 10 0) (s 0 0 8).toNat b := by unfold mkS; rw [ups_kf _ (by decide), ups_kf _ (by decide), ups_kf _ (by decide), ups_at, ups_kf _ (by decide)]
  have e8 : mkS s a b c d 8 0 = upz (s 8 0) (s 0 0 8).toNat c := by unfold mkS; rw [ups_kf _ (by decide), ups_kf _ (by decide), ups_at, ups_kf _ (by decide), ups_kf _ (by decide)]
  have e9 : mkS s a b c d 9 0 = upz (s 9 0) (s 0 0 8).toNat d := by unfold mkS; rw [ups_kf _ (by decide), ups_at, ups_kf _ (by decide), ups_kf _ (by decide), ups_kf _ (by decide)]
  rw [e7, e8, e9, e10]
  unfold upz
  by_cases q : i = (s 0 0 8).toNat
  · rw [if_pos q, if_pos q, if_pos q, if_pos q]
    exact ⟨ha, hc, hd, hb⟩
  · rw [if_neg q, if_neg q, if_neg q, if_neg q]
    exact hmk i (by omega)
set_option maxHeartbeats 4000000 in
set_option maxRecDepth 100000 in
theorem tX7_masked {G : gG} {fw : Nat → Nat → Nat} {s : sG} {M : wM} (hY : wY G fw s M) {a b c d : Int} (ha : bt 0 a 11) (hb : bt (-1) b 11) (hc : bt 0 c 4000) (hd : bt 0 d 4000) : wT G qX7_masked 0 0 [.ref (fw 0 0), .int (gI a), .int (gI b), .int (gI c), .int (gI d)] M (PY G fw M (fun x s' => (s 0 0 8 < 10 ∧ x = s 0 0 8 + 1 ∧ s' = mkS s a b c d) ∨ (s 0 0 8 = 10 ∧ x = -3 ∧ s' = s))) := by
  refine wT.intro (by decide) (Nat.le_of_ble_eq_true rfl) (fun sz => ?_)
  obtain ⟨hJ, hH, hI⟩ := id hY
  have hO : wO cntY fw M M := wO.rf
  have h0 := hY.2.2.1
  have hrw := hY.2.2.2.1
  have hnm := hY.2.2.2.2.1
  have hsh := hY.2.2.2.2.2.1
  have hmk := hY.2.2.2.2.2.2.1
  have hic := hY.2.2.2.2.2.2.2.1
  have hcn := hY.2.2.2.2.2.2.2.2.1
  have hgt := hY.2.2.2.2.2.2.2.2.2
  refine v_aloadn dX7_masked_0 rfl ?_
  refine v_get dX7_masked_1 gf_X7_90 (hH 0 0 (by decide)) rfl ?_
  refine v_bipush dX7_masked_4 (by decide) ?_
  refine v_icmp_ne 12 dX7_masked_6 (by decide) (by omega) (by omega) (fun h6 => ?_) (fun h6 => ?_)
  · refine v_aloadn dX7_masked_12 rfl ?_
    refine v_get dX7_masked_13 gf_X7_32 (hH 0 0 (by decide)) rfl ?_
    refine v_aloadn dX7_masked_16 rfl ?_
    refine v_get dX7_masked_17 gf_X7_90 (hH 0 0 (by decide)) rfl ?_
    refine v_iloadn dX7_masked_20 rfl ?_
    refine v_iast dX7_masked_21 (hH 7 0 (by decide)) (by omega) (by omega) (by decide) ?_
    generalize hMe21 : wup _ _ _ = M21
    have hO : wO cntY fw M M21 := by rw [← hMe21]; exact hO.up (k := 7) (i := 0) (by decide)
    obtain ⟨s21, hs21⟩ : ∃ z, z = ups s 7 0 ((s 0 0 8).toNat) (a) := ⟨_, rfl⟩
    have hH : wH cntY (cellY G fw) fw s21 M21 := by rw [← hMe21, hs21]; exact wH.up hJ hH (k := 7) (i := 0) ((s 0 0 8).toNat) (a) (by decide) rfl
    have e21 : s21 0 0 8 = s 0 0 8 := by rw [hs21, ups_kf _ (by decide)]
    refine v_aloadn dX7_masked_22 rfl ?_
    refine v_get dX7_masked_23 gf_X7_41 (hH 0 0 (by decide)) rfl ?_
    refine v_aloadn dX7_masked_26 rfl ?_
    refine v_get dX7_masked_27 gf_X7_90 (hH 0 0 (by decide)) rfl ?_
    refine v_iloadn dX7_masked_30 rfl ?_
    refine v_iast dX7_masked_31 (hH 10 0 (by decide)) (by omega) (by omega) (by decide) ?_
    generalize hMe31 : wup _ _ _ = M31
    have hO : wO cntY fw M M31 := by rw [← hMe31]; exact hO.up (k := 10) (i := 0) (by decide)
    obtain ⟨s31, hs31⟩ : ∃ z, z = ups s21 10 0 ((s21 0 0 8).toNat) (b) := ⟨_, rfl⟩
    have hH : wH cntY (cellY G fw) fw s31 M31 := by rw [← hMe31, hs31]; exact wH.up hJ hH (k := 10) (i := 0) ((s21 0 0 8).toNat) (b) (by decide) rfl
    have e31 : s31 0 0 8 = s 0 0 8 := by rw [hs31, ups_kf _ (by decide), e21]
    refine v_aloadn dX7_masked_32 rfl ?_
    refine v_get dX7_masked_33 gf_X7_35 (hH 0 0 (by decide)) rfl ?_
    refine v_aloadn dX7_masked_36 rfl ?_
    refine v_get dX7_masked_37 gf_X7_90 (hH 0 0 (by decide)) rfl ?_
    refine v_iloadn dX7_masked_40 rfl ?_
    refine v_iast dX7_masked_41 (hH 8 0 (by decide)) (by omega) (by omega) (by decide) ?_
    generalize hMe41 : wup _ _ _ = M41
    have hO : wO cntY fw M M41 := by rw [← hMe41]; exact hO.up (k := 8) (i := 0) (by decide)
    obtain ⟨s41, hs41⟩ : ∃ z, z = ups s31 8 0 ((s31 0 0 8).toNat) (c) := ⟨_, rfl⟩
    have hH : wH cntY (cellY G fw) fw s41 M41 := by rw [← hMe41, hs41]; exact wH.up hJ hH (k := 8) (i := 0) ((s31 0 0 8).toNat) (c) (by decide) rfl
    have e41 : s41 0 0 8 = s 0 0 8 := by rw [hs41, ups_kf _ (by decide), e31]
    refine v_aloadn dX7_masked_42 rfl ?_
    refine v_get dX7_masked_43 gf_X7_38 (hH 0 0 (by decide)) rfl ?_
    refine v_aloadn dX7_masked_46 rfl ?_
    refine v_get dX7_masked_47 gf_X7_90 (hH 0 0 (by decide)) rfl ?_
    refine v_iload dX7_masked_50 rfl ?_
    refine v_iast dX7_masked_52 (hH 9 0 (by decide)) (by omega) (by omega) (by decide) ?_
    generalize hMe52 : wup _ _ _ = M52
    have hO : wO cntY fw M M52 := by rw [← hMe52]; exact hO.up (k := 9) (i := 0) (by decide)
    obtain ⟨s52, hs52⟩ : ∃ z, z = ups s41 9 0 ((s41 0 0 8).toNat) (d) := ⟨_, rfl⟩
    have hH : wH cntY (cellY G fw) fw s52 M52 := by rw [← hMe52, hs52]; exact wH.up hJ hH (k := 9) (i := 0) ((s41 0 0 8).toNat) (d) (by decide) rfl
    have e52 : s52 0 0 8 = s 0 0 8 := by rw [hs52, ups_kf _ (by decide), e41]
    refine v_aloadn dX7_masked_53 rfl ?_
    refine v_dup dX7_masked_54 rfl ?_
    refine v_get dX7_masked_55 gf_X7_90 (hH 0 0 (by decide)) rfl ?_
    refine v_iconst dX7_masked_58 ?_
    refine v_iadd dX7_masked_59 ?_
    refine v_put dX7_masked_60 pf_X7_90 (hH 0 0 (by decide)) rfl rfl (Nat.le_of_ble_eq_true rfl) ?_
    generalize hMe60 : wup _ _ _ = M60
    have hO : wO cntY fw M M60 := by rw [← hMe60]; exact hO.up (k := 0) (i := 0) (by decide)
    obtain ⟨s60, hs60⟩ : ∃ z, z = ups s52 0 0 (8) (s52 0 0 8 + 1) := ⟨_, rfl⟩
    have hH : wH cntY (cellY G fw) fw s60 M60 := by rw [← hMe60, hs60]; exact wH.up hJ hH (k := 0) (i := 0) (8) (s52 0 0 8 + 1) (by decide) rfl
    have ef : s60 = mkS s a b c d := by rw [hs60, e52, hs52, e41, hs41, e31, hs31, e21, hs21]; rfl
    have e60 : s60 0 0 8 = s 0 0 8 + 1 := by rw [ef, mkS_0]; rfl
    refine v_aloadn dX7_masked_63 rfl ?_
    refine v_get dX7_masked_64 gf_X7_90 (hH 0 0 (by decide)) rfl ?_
    exact v_iret dX7_masked_67 rfl ⟨(Nat.le_of_ble_eq_true rfl), (Nat.le_of_ble_eq_true rfl)⟩ (by omega) ⟨s60, ⟨hJ, hH, by rw [ef]; exact invY_mk hI (by omega) ha hb hc hd⟩, hO, Or.inl ⟨by omega, by omega, ef⟩⟩
  · refine v_bipush dX7_masked_9 (by decide) ?_
    exact v_iret dX7_masked_11 rfl ⟨(Nat.le_of_ble_eq_true rfl), (Nat.le_of_ble_eq_true rfl)⟩ (by omega) ⟨s, hY, wO.rf, Or.inr ⟨by omega, by omega, rfl⟩⟩
set_option maxHeartbeats 4000000 in
set_option maxRecDepth 100000 in
theorem tX7_mask {G : gG} {fw : Nat → Nat → Nat} {s : sG} {M : wM} (hY : wY G fw s M) {a b c : Int} (ha : rng a) (hb : rng b) (hc : rng c) : wT G qX7_mask 0 0 [.ref (fw 0 0), .int (gI a), .int (gI b), .int (gI c)] M (PY G fw M (fun x s' => ((bt 0 a 11 ∧ 0 ≤ b ∧ b < c ∧ c ≤ 4000) ∧ ((s 0 0 8 < 10 ∧ x = s 0 0 8 + 1 ∧ s' = mkS s a (-1) b c) ∨ (s 0 0 8 = 10 ∧ x = -3 ∧ s' = s))) ∨ (¬ (bt 0 a 11 ∧ 0 ≤ b ∧ b < c ∧ c ≤ 4000) ∧ x = -1 ∧ s' = s))) := by
  refine wT.intro (by decide) (Nat.le_of_ble_eq_true rfl) (fun sz => ?_)
  have h0 := hY.2.2.1
  have hrw := hY.2.2.2.1
  have hnm := hY.2.2.2.2.1
  have hsh := hY.2.2.2.2.2.1
  have hmk := hY.2.2.2.2.2.2.1
  have hic := hY.2.2.2.2.2.2.2.1
  have hcn := hY.2.2.2.2.2.2.2.2.1
  have hgt := hY.2.2.2.2.2.2.2.2.2
  refine v_iloadn dX7_mask_0 rfl ?_
  refine v_callS (tX7_isSignal (by omega)) lc_X7_64 ⟨(Nat.le_of_ble_eq_true rfl), (Nat.le_of_ble_eq_true rfl)⟩ dX7_mask_1 rfl rfl (Nat.le_of_ble_eq_true rfl) ⟨(Nat.le_of_ble_eq_true rfl), (Nat.le_of_ble_eq_true rfl)⟩ (kP fun r1 hr1 hp1 => ?_)
  refine v_if_eq 34 dX7_mask_4 (by decide) (by omega) (fun h4 => ?_) (fun h4 => ?_)
  · refine v_iconst dX7_mask_34 ?_
    exact v_iret dX7_mask_35 rfl ⟨(Nat.le_of_ble_eq_true rfl), (Nat.le_of_ble_eq_true rfl)⟩ (by first | exact hr28 | omega) (by first | exact ⟨s28, hY28, hO28, Or.inl ⟨by omega, hs28⟩⟩ | exact ⟨s, hY, wO.rf, Or.inr ⟨by omega, by omega, rfl⟩⟩)
  · refine v_iloadn dX7_mask_7 rfl ?_
    refine v_if_lt 34 dX7_mask_8 (by decide) (by omega) (fun h8 => ?_) (fun h8 => ?_)
    · refine v_iconst dX7_mask_34 ?_
      exact v_iret dX7_mask_35 rfl ⟨(Nat.le_of_ble_eq_true rfl), (Nat.le_of_ble_eq_true rfl)⟩ (by first | exact hr28 | omega) (by first | exact ⟨s28, hY28, hO28, Or.inl ⟨by omega, hs28⟩⟩ | exact ⟨s, hY, wO.rf, Or.inr ⟨by omega, by omega, rfl⟩⟩)
    · refine v_iloadn dX7_mask_11 rfl ?_
      refine v_iloadn dX7_mask_12 rfl ?_
      refine v_icmp_ge 34 dX7_mask_13 (by decide) (by omega) (by omega) (fun h13 => ?_) (fun h13 => ?_)
      · refine v_iconst dX7_mask_34 ?_
        exact v_iret dX7_mask_35 rfl ⟨(Nat.le_of_ble_eq_true rfl), (Nat.le_of_ble_eq_true rfl)⟩ (by first | exact hr28 | omega) (by first | exact ⟨s28, hY28, hO28, Or.inl ⟨by omega, hs28⟩⟩ | exact ⟨s, hY, wO.rf, Or.inr ⟨by omega, by omega, rfl⟩⟩)
      · refine v_iloadn dX7_mask_16 rfl ?_
        refine v_sipush dX7_mask_17 (by decide) ?_
        refine v_icmp_gt 34 dX7_mask_20 (by decide) (by omega) (by omega) (fun h20 => ?_) (fun h20 => ?_)
        · refine v_iconst dX7_mask_34 ?_
          exact v_iret dX7_mask_35 rfl ⟨(Nat.le_of_ble_eq_true rfl), (Nat.le_of_ble_eq_true rfl)⟩ (by first | exact hr28 | omega) (by first | exact ⟨s28, hY28, hO28, Or.inl ⟨by omega, hs28⟩⟩ | exact ⟨s, hY, wO.rf, Or.inr ⟨by omega, by omega, rfl⟩⟩)
        · refine v_aloadn dX7_mask_23 rfl ?_
          refine v_iloadn dX7_mask_24 rfl ?_
          refine v_iconst dX7_mask_25 ?_
          refine v_iloadn dX7_mask_26 rfl ?_
          refine v_iloadn dX7_mask_27 rfl ?_
          refine v_callV (tX7_masked hY (by omega) (by omega) (by omega) (by omega)) lc_X7_93 ⟨(Nat.le_of_ble_eq_true rfl), (Nat.le_of_ble_eq_true rfl)⟩ dX7_mask_28 rfl rfl (Nat.le_of_ble_eq_true rfl) ⟨(Nat.le_of_ble_eq_true rfl), (Nat.le_of_ble_eq_true rfl)⟩ ⟨_, _, _, _, hY.2.1 0 0 (by decide), rfl⟩ (kI fun r28 M28 hr28 hp28 => ?_)
          obtain ⟨s28, hY28, hO28, hs28⟩ := hp28
          refine v_goto 35 dX7_mask_31 (by decide) ?_
          exact v_iret dX7_mask_35 rfl ⟨(Nat.le_of_ble_eq_true rfl), (Nat.le_of_ble_eq_true rfl)⟩ (by first | exact hr28 | omega) (by first | exact ⟨s28, hY28, hO28, Or.inl ⟨by omega, hs28⟩⟩ | exact ⟨s, hY, wO.rf, Or.inr ⟨by omega, by omega, rfl⟩⟩)
set_option maxHeartbeats 4000000 in
set_option maxRecDepth 100000 in
theorem tX7_maskWhile {G : gG} {fw : Nat → Nat → Nat} {s : sG} {M : wM} (hY : wY G fw s M) {a b c : Int} (ha : rng a) (hb : rng b) (hc : rng c) : wT G qX7_maskWhile 0 0 [.ref (fw 0 0), .int (gI a), .int (gI b), .int (gI c)] M (PY G fw M (fun x s' => ((bt 0 a 11 ∧ bt 0 b 11 ∧ bt 0 c 256) ∧ ((s 0 0 8 < 10 ∧ x = s 0 0 8 + 1 ∧ s' = mkS s a b c 0) ∨ (s 0 0 8 = 10 ∧ x = -3 ∧ s' = s))) ∨ (¬ (bt 0 a 11 ∧ bt 0 b 11 ∧ bt 0 c 256) ∧ x = -1 ∧ s' = s))) := by
  refine wT.intro (by decide) (Nat.le_of_ble_eq_true rfl) (fun sz => ?_)
  have h0 := hY.2.2.1
  have hrw := hY.2.2.2.1
  have hnm := hY.2.2.2.2.1
  have hsh := hY.2.2.2.2.2.1
  have hmk := hY.2.2.2.2.2.2.1
  have hic := hY.2.2.2.2.2.2.2.1
  have hcn := hY.2.2.2.2.2.2.2.2.1
  have hgt := hY.2.2.2.2.2.2.2.2.2
  refine v_iloadn dX7_maskWhile_0 rfl ?_
  refine v_callS (tX7_isSignal (by omega)) lc_X7_64 ⟨(Nat.le_of_ble_eq_true rfl), (Nat.le_of_ble_eq_true rfl)⟩ dX7_maskWhile_1 rfl rfl (Nat.le_of_ble_eq_true rfl) ⟨(Nat.le_of_ble_eq_true rfl), (Nat.le_of_ble_eq_true rfl)⟩ (kP fun r1 hr1 hp1 => ?_)
  refine v_if_eq 36 dX7_maskWhile_4 (by decide) (by omega) (fun h4 => ?_) (fun h4 => ?_)
  · refine v_iconst dX7_maskWhile_36 ?_
    exact v_iret dX7_maskWhile_37 rfl ⟨(Nat.le_of_ble_eq_true rfl), (Nat.le_of_ble_eq_true rfl)⟩ (by first | exact hr30 | omega) (by first | exact ⟨s30, hY30, hO30, Or.inl ⟨by omega, hs30⟩⟩ | exact ⟨s, hY, wO.rf, Or.inr ⟨by omega, by omega, rfl⟩⟩)
  · refine v_iloadn dX7_maskWhile_7 rfl ?_
    refine v_callS (tX7_isSignal (by omega)) lc_X7_64 ⟨(Nat.le_of_ble_eq_true rfl), (Nat.le_of_ble_eq_true rfl)⟩ dX7_maskWhile_8 rfl rfl (Nat.le_of_ble_eq_true rfl) ⟨(Nat.le_of_ble_eq_true rfl), (Nat.le_of_ble_eq_true rfl)⟩ (kP fun r8 hr8 hp8 => ?_)
    refine v_if_eq 36 dX7_maskWhile_11 (by decide) (by omega) (fun h11 => ?_) (fun h11 => ?_)
    · refine v_iconst dX7_maskWhile_36 ?_
      exact v_iret dX7_maskWhile_37 rfl ⟨(Nat.le_of_ble_eq_true rfl), (Nat.le_of_ble_eq_true rfl)⟩ (by first | exact hr30 | omega) (by first | exact ⟨s30, hY30, hO30, Or.inl ⟨by omega, hs30⟩⟩ | exact ⟨s, hY, wO.rf, Or.inr ⟨by omega, by omega, rfl⟩⟩)
    · refine v_iloadn dX7_maskWhile_14 rfl ?_
      refine v_iconst dX7_maskWhile_15 ?_
      refine v_sipush dX7_maskWhile_16 (by decide) ?_
      refine v_callS (tX7_in (by omega) (by omega) (by omega)) lc_X7_60 ⟨(Nat.le_of_ble_eq_true rfl), (Nat.le_of_ble_eq_true rfl)⟩ dX7_maskWhile_19 rfl rfl (Nat.le_of_ble_eq_true rfl) ⟨(Nat.le_of_ble_eq_true rfl), (Nat.le_of_ble_eq_true rfl)⟩ (kP fun r19 hr19 hp19 => ?_)
      refine v_if_eq 36 dX7_maskWhile_22 (by decide) (by omega) (fun h22 => ?_) (fun h22 => ?_)
      · refine v_iconst dX7_maskWhile_36 ?_
        exact v_iret dX7_maskWhile_37 rfl ⟨(Nat.le_of_ble_eq_true rfl), (Nat.le_of_ble_eq_true rfl)⟩ (by first | exact hr30 | omega) (by first | exact ⟨s30, hY30, hO30, Or.inl ⟨by omega, hs30⟩⟩ | exact ⟨s, hY, wO.rf, Or.inr ⟨by omega, by omega, rfl⟩⟩)
      · refine v_aloadn dX7_maskWhile_25 rfl ?_
        refine v_iloadn dX7_maskWhile_26 rfl ?_
        refine v_iloadn dX7_maskWhile_27 rfl ?_
        refine v_iloadn dX7_maskWhile_28 rfl ?_
        refine v_iconst dX7_maskWhile_29 ?_
        refine v_callV (tX7_masked hY (by omega) (by omega) (by omega) (by omega)) lc_X7_93 ⟨(Nat.le_of_ble_eq_true rfl), (Nat.le_of_ble_eq_true rfl)⟩ dX7_maskWhile_30 rfl rfl (Nat.le_of_ble_eq_true rfl) ⟨(Nat.le_of_ble_eq_true rfl), (Nat.le_of_ble_eq_true rfl)⟩ ⟨_, _, _, _, hY.2.1 0 0 (by decide), rfl⟩ (kI fun r30 M30 hr30 hp30 => ?_)
        obtain ⟨s30, hY30, hO30, hs30⟩ := hp30
        refine v_goto 37 dX7_maskWhile_33 (by decide) ?_
        exact v_iret dX7_maskWhile_37 rfl ⟨(Nat.le_of_ble_eq_true rfl), (Nat.le_of_ble_eq_true rfl)⟩ (by first | exact hr30 | omega) (by first | exact ⟨s30, hY30, hO30, Or.inl ⟨by omega, hs30⟩⟩ | exact ⟨s, hY, wO.rf, Or.inr ⟨by omega, by omega, rfl⟩⟩)
set_option maxHeartbeats 4000000 in
set_option maxRecDepth 100000 in
theorem tX7_channel {G : gG} {fw : Nat → Nat → Nat} {s : sG} {M : wM} (hY : wY G fw s M) {a b c d e : Int} (ha : rng a) (hb : rng b) (hc : rng c) (hd : rng d) (he : rng e) : wT G qX7_channel 0 0 [.ref (fw 0 0), .int (gI a), .int (gI b), .int (gI c), .int (gI d), .int (gI e)] M (PY G fw M (fun x s' => ((bt 0 a 3 ∧ bt 0 b 11 ∧ bt 0 c 11 ∧ bt 0 d 11 ∧ bt 0 e 11) ∧ x = 0 ∧ ∀ k, k ≠ 11 → k ≠ 12 → s' k = s k) ∨ (¬ (bt 0 a 3 ∧ bt 0 b 11 ∧ bt 0 c 11 ∧ bt 0 d 11 ∧ bt 0 e 11) ∧ x = -1 ∧ s' = s))) := by
  refine wT.intro (by decide) (Nat.le_of_ble_eq_true rfl) (fun sz => ?_)
  obtain ⟨hJ, hH, hI⟩ := id hY
  have hO : wO cntY fw M M := wO.rf
  have h0 := hY.2.2.1
  have hrw := hY.2.2.2.1
  have hnm := hY.2.2.2.2.1
  have hsh := hY.2.2.2.2.2.1
  have hmk := hY.2.2.2.2.2.2.1
  have hic := hY.2.2.2.2.2.2.2.1
  have hcn := hY.2.2.2.2.2.2.2.2.1
  have hgt := hY.2.2.2.2.2.2.2.2.2
  refine v_iloadn dX7_channel_0 rfl ?_
  refine v_iconst dX7_channel_1 ?_
  refine v_iconst dX7_channel_2 ?_
  refine v_callS (tX7_in (by omega) (by omega) (by omega)) lc_X7_60 ⟨(Nat.le_of_ble_eq_true rfl), (Nat.le_of_ble_eq_true rfl)⟩ dX7_channel_3 rfl rfl (Nat.le_of_ble_eq_true rfl) ⟨(Nat.le_of_ble_eq_true rfl), (Nat.le_of_ble_eq_true rfl)⟩ (kP fun r3 hr3 hp3 => ?_)
  refine v_if_eq 39 dX7_channel_6 (by decide) (by omega) (fun h6 => ?_) (fun h6 => ?_)
  · refine v_iconst dX7_channel_39 ?_
    exact v_iret dX7_channel_40 rfl ⟨(Nat.le_of_ble_eq_true rfl), (Nat.le_of_ble_eq_true rfl)⟩ (by omega) ⟨s, hY, wO.rf, Or.inr ⟨by omega, by omega, rfl⟩⟩
  · refine v_iloadn dX7_channel_9 rfl ?_
    refine v_callS (tX7_isSignal (by omega)) lc_X7_64 ⟨(Nat.le_of_ble_eq_true rfl), (Nat.le_of_ble_eq_true rfl)⟩ dX7_channel_10 rfl rfl (Nat.le_of_ble_eq_true rfl) ⟨(Nat.le_of_ble_eq_true rfl), (Nat.le_of_ble_eq_true rfl)⟩ (kP fun r10 hr10 hp10 => ?_)
    refine v_if_eq 39 dX7_channel_13 (by decide) (by omega) (fun h13 => ?_) (fun h13 => ?_)
    · refine v_iconst dX7_channel_39 ?_
      exact v_iret dX7_channel_40 rfl ⟨(Nat.le_of_ble_eq_true rfl), (Nat.le_of_ble_eq_true rfl)⟩ (by omega) ⟨s, hY, wO.rf, Or.inr ⟨by omega, by omega, rfl⟩⟩
    · refine v_iloadn dX7_channel_16 rfl ?_
      refine v_callS (tX7_isSignal (by omega)) lc_X7_64 ⟨(Nat.le_of_ble_eq_true rfl), (Nat.le_of_ble_eq_true rfl)⟩ dX7_channel_17 rfl rfl (Nat.le_of_ble_eq_true rfl) ⟨(Nat.le_of_ble_eq_true rfl), (Nat.le_of_ble_eq_true rfl)⟩ (kP fun r17 hr17 hp17 => ?_)
      refine v_if_eq 39 dX7_channel_20 (by decide) (by omega) (fun h20 => ?_) (fun h20 => ?_)
      · refine v_iconst dX7_channel_39 ?_
        exact v_iret dX7_channel_40 rfl ⟨(Nat.le_of_ble_eq_true rfl), (Nat.le_of_ble_eq_true rfl)⟩ (by omega) ⟨s, hY, wO.rf, Or.inr ⟨by omega, by omega, rfl⟩⟩
      · refine v_iload dX7_channel_23 rfl ?_
        refine v_callS (tX7_isSignal (by omega)) lc_X7_64 ⟨(Nat.le_of_ble_eq_true rfl), (Nat.le_of_ble_eq_true rfl)⟩ dX7_channel_25 rfl rfl (Nat.le_of_ble_eq_true rfl) ⟨(Nat.le_of_ble_eq_true rfl), (Nat.le_of_ble_eq_true rfl)⟩ (kP fun r25 hr25 hp25 => ?_)
        refine v_if_eq 39 dX7_channel_28 (by decide) (by omega) (fun h28 => ?_) (fun h28 => ?_)
        · refine v_iconst dX7_channel_39 ?_
          exact v_iret dX7_channel_40 rfl ⟨(Nat.le_of_ble_eq_true rfl), (Nat.le_of_ble_eq_true rfl)⟩ (by omega) ⟨s, hY, wO.rf, Or.inr ⟨by omega, by omega, rfl⟩⟩
        · refine v_iload dX7_channel_31 rfl ?_
          refine v_callS (tX7_isSignal (by omega)) lc_X7_64 ⟨(Nat.le_of_ble_eq_true rfl), (Nat.le_of_ble_eq_true rfl)⟩ dX7_channel_33 rfl rfl (Nat.le_of_ble_eq_true rfl) ⟨(Nat.le_of_ble_eq_true rfl), (Nat.le_of_ble_eq_true rfl)⟩ (kP fun r33 hr33 hp33 => ?_)
          refine v_if_ne 41 dX7_channel_36 (by decide) (by omega) (fun h36 => ?_) (fun h36 => ?_)
          · refine v_aloadn dX7_channel_41 rfl ?_
            refine v_get dX7_channel_42 gf_X7_44 (hH 0 0 (by decide)) rfl ?_
            refine v_iloadn dX7_channel_45 rfl ?_
            refine v_iconst dX7_channel_46 ?_
            refine v_zast dX7_channel_47 (hH 11 0 (by decide)) (by omega) (by omega) (by decide) (by simp) ?_
            generalize hMe47 : wup _ _ _ = M47
            have hO : wO cntY fw M M47 := by rw [← hMe47]; exact hO.up (k := 11) (i := 0) (by decide)
            obtain ⟨s47, hs47⟩ : ∃ z, z = ups s 11 0 (a.toNat) (1) := ⟨_, rfl⟩
            have hH : wH cntY (cellY G fw) fw s47 M47 := by rw [← hMe47, hs47]; exact wH.up hJ hH (k := 11) (i := 0) (a.toNat) (1) (by decide) rfl
            refine v_aloadn dX7_channel_48 rfl ?_
            refine v_get dX7_channel_49 gf_X7_48 (hH 0 0 (by decide)) rfl ?_
            refine v_iconst dX7_channel_52 ?_
            refine v_iloadn dX7_channel_53 rfl ?_
            refine v_imul dX7_channel_54 ?_
            refine v_iloadn dX7_channel_55 rfl ?_
            refine v_iast dX7_channel_56 (hH 12 0 (by decide)) (by omega) (by omega) (by decide) ?_
            generalize hMe56 : wup _ _ _ = M56
            have hO : wO cntY fw M M56 := by rw [← hMe56]; exact hO.up (k := 12) (i := 0) (by decide)
            obtain ⟨s56, hs56⟩ : ∃ z, z = ups s47 12 0 ((4 * a).toNat) (b) := ⟨_, rfl⟩
            have hH : wH cntY (cellY G fw) fw s56 M56 := by rw [← hMe56, hs56]; exact wH.up hJ hH (k := 12) (i := 0) ((4 * a).toNat) (b) (by decide) rfl
            refine v_aloadn dX7_channel_57 rfl ?_
            refine v_get dX7_channel_58 gf_X7_48 (hH 0 0 (by decide)) rfl ?_
            refine v_iconst dX7_channel_61 ?_
            refine v_iloadn dX7_channel_62 rfl ?_
            refine v_imul dX7_channel_63 ?_
            refine v_iconst dX7_channel_64 ?_
            refine v_iadd dX7_channel_65 ?_
            refine v_iloadn dX7_channel_66 rfl ?_
            refine v_iast dX7_channel_67 (hH 12 0 (by decide)) (by omega) (by omega) (by decide) ?_
            generalize hMe67 : wup _ _ _ = M67
            have hO : wO cntY fw M M67 := by rw [← hMe67]; exact hO.up (k := 12) (i := 0) (by decide)
            obtain ⟨s67, hs67⟩ : ∃ z, z = ups s56 12 0 ((4 * a + 1).toNat) (c) := ⟨_, rfl⟩
            have hH : wH cntY (cellY G fw) fw s67 M67 := by rw [← hMe67, hs67]; exact wH.up hJ hH (k := 12) (i := 0) ((4 * a + 1).toNat) (c) (by decide) rfl
            refine v_aloadn dX7_channel_68 rfl ?_
            refine v_get dX7_channel_69 gf_X7_48 (hH 0 0 (by decide)) rfl ?_
            refine v_iconst dX7_channel_72 ?_
            refine v_iloadn dX7_channel_73 rfl ?_
            refine v_imul dX7_channel_74 ?_
            refine v_iconst dX7_channel_75 ?_
            refine v_iadd dX7_channel_76 ?_
            refine v_iload dX7_channel_77 rfl ?_
            refine v_iast dX7_channel_79 (hH 12 0 (by decide)) (by omega) (by omega) (by decide) ?_
            generalize hMe79 : wup _ _ _ = M79
            have hO : wO cntY fw M M79 := by rw [← hMe79]; exact hO.up (k := 12) (i := 0) (by decide)
            obtain ⟨s79, hs79⟩ : ∃ z, z = ups s67 12 0 ((4 * a + 2).toNat) (d) := ⟨_, rfl⟩
            have hH : wH cntY (cellY G fw) fw s79 M79 := by rw [← hMe79, hs79]; exact wH.up hJ hH (k := 12) (i := 0) ((4 * a + 2).toNat) (d) (by decide) rfl
            refine v_aloadn dX7_channel_80 rfl ?_
            refine v_get dX7_channel_81 gf_X7_48 (hH 0 0 (by decide)) rfl ?_
            refine v_iconst dX7_channel_84 ?_
            refine v_iloadn dX7_channel_85 rfl ?_
            refine v_imul dX7_channel_86 ?_
            refine v_iconst dX7_channel_87 ?_
            refine v_iadd dX7_channel_88 ?_
            refine v_iload dX7_channel_89 rfl ?_
            refine v_iast dX7_channel_91 (hH 12 0 (by decide)) (by omega) (by omega) (by decide) ?_
            generalize hMe91 : wup _ _ _ = M91
            have hO : wO cntY fw M M91 := by rw [← hMe91]; exact hO.up (k := 12) (i := 0) (by decide)
            obtain ⟨s91, hs91⟩ : ∃ z, z = ups s79 12 0 ((4 * a + 3).toNat) (e) := ⟨_, rfl⟩
            have hH : wH cntY (cellY G fw) fw s91 M91 := by rw [← hMe91, hs91]; exact wH.up hJ hH (k := 12) (i := 0) ((4 * a + 3).toNat) (e) (by decide) rfl
            refine v_iconst dX7_channel_92 ?_
            exact v_iret dX7_channel_93 rfl ⟨(Nat.le_of_ble_eq_true rfl), (Nat.le_of_ble_eq_true rfl)⟩ (by omega) ⟨s91, ⟨hJ, hH, invY_b hI (fun k h1 h2 => by rw [hs91, hs79, hs67, hs56, hs47, ups_kf _ h2, ups_kf _ h2, ups_kf _ h2, ups_kf _ h2, ups_kf _ h1]) (fun i hi => by have h1 := hic i hi; rw [hs91, hs79, hs67, hs56, hs47]; simp only [ups_kf _ (show (11 : Nat) ≠ 12 by decide), ups_at, upz]; split <;> omega) (fun i hi => by have h1 := hcn i hi; rw [hs91, hs79, hs67, hs56, hs47]; simp only [ups_at, ups_kf _ (show (12 : Nat) ≠ 11 by decide), upz]; (repeat' split) <;> omega)⟩, hO, Or.inl ⟨by omega, rfl, fun k h1 h2 => by rw [hs91, hs79, hs67, hs56, hs47, ups_kf _ h2, ups_kf _ h2, ups_kf _ h2, ups_kf _ h2, ups_kf _ h1]⟩⟩
          · refine v_iconst dX7_channel_39 ?_
            exact v_iret dX7_channel_40 rfl ⟨(Nat.le_of_ble_eq_true rfl), (Nat.le_of_ble_eq_true rfl)⟩ (by omega) ⟨s, hY, wO.rf, Or.inr ⟨by omega, by omega, rfl⟩⟩
set_option maxHeartbeats 4000000 in
set_option maxRecDepth 100000 in
theorem tX7_gate {G : gG} {fw : Nat → Nat → Nat} {s : sG} {M : wM} (hY : wY G fw s M) {a k b c : Int} (ha : rng a) (hk : rng k) (hb : rng b) (hc : rng c) : wT G qX7_gate 0 0 [.ref (fw 0 0), .int (gI a), .int (gI k), .int (gI b), .int (gI c)] M (PY G fw M (fun _ s' => ∀ k, k ≠ 13 → k ≠ 14 → k ≠ 15 → s' k = s k)) := by
  refine wT.intro (by decide) (Nat.le_of_ble_eq_true rfl) (fun sz => ?_)
  obtain ⟨hJ, hH, hI⟩ := id hY
  have hO : wO cntY fw M M := wO.rf
  have h0 := hY.2.2.1
  have hrw := hY.2.2.2.1
  have hnm := hY.2.2.2.2.1
  have hsh := hY.2.2.2.2.2.1
  have hmk := hY.2.2.2.2.2.2.1
  have hic := hY.2.2.2.2.2.2.2.1
  have hcn := hY.2.2.2.2.2.2.2.2.1
  have hgt := hY.2.2.2.2.2.2.2.2.2
  refine v_iloadn dX7_gate_0 rfl ?_
  refine v_callS (tX7_isSignal (by omega)) lc_X7_64 ⟨(Nat.le_of_ble_eq_true rfl), (Nat.le_of_ble_eq_true rfl)⟩ dX7_gate_1 rfl rfl (Nat.le_of_ble_eq_true rfl) ⟨(Nat.le_of_ble_eq_true rfl), (Nat.le_of_ble_eq_true rfl)⟩ (kP fun r1 hr1 hp1 => ?_)
  refine v_if_eq 52 dX7_gate_4 (by decide) (by omega) (fun h4 => ?_) (fun h4 => ?_)
  · refine v_iconst dX7_gate_52 ?_
    exact v_iret dX7_gate_53 rfl ⟨(Nat.le_of_ble_eq_true rfl), (Nat.le_of_ble_eq_true rfl)⟩ (by omega) ⟨s, hY, wO.rf, fun _ _ _ _ => rfl⟩
  · refine v_iloadn dX7_gate_7 rfl ?_
    refine v_iconst dX7_gate_8 ?_
    refine v_bipush dX7_gate_9 (by decide) ?_
    refine v_callS (tX7_in (by omega) (by omega) (by omega)) lc_X7_60 ⟨(Nat.le_of_ble_eq_true rfl), (Nat.le_of_ble_eq_true rfl)⟩ dX7_gate_11 rfl rfl (Nat.le_of_ble_eq_true rfl) ⟨(Nat.le_of_ble_eq_true rfl), (Nat.le_of_ble_eq_true rfl)⟩ (kP fun r11 hr11 hp11 => ?_)
    refine v_if_eq 52 dX7_gate_14 (by decide) (by omega) (fun h14 => ?_) (fun h14 => ?_)
    · refine v_iconst dX7_gate_52 ?_
      exact v_iret dX7_gate_53 rfl ⟨(Nat.le_of_ble_eq_true rfl), (Nat.le_of_ble_eq_true rfl)⟩ (by omega) ⟨s, hY, wO.rf, fun _ _ _ _ => rfl⟩
    · refine v_iloadn dX7_gate_17 rfl ?_
      refine v_if_le 33 dX7_gate_18 (by decide) (by omega) (fun h18 => ?_) (fun h18 => ?_)
      · refine v_iloadn dX7_gate_33 rfl ?_
        refine v_iconst dX7_gate_34 ?_
        refine v_icmp_le 54 dX7_gate_35 (by decide) (by omega) (by omega) (fun h35 => ?_) (fun h35 => ?_)
        · refine v_aloadn dX7_gate_54 rfl ?_
          refine v_get dX7_gate_55 gf_X7_51 (hH 0 0 (by decide)) rfl ?_
          refine v_iloadn dX7_gate_58 rfl ?_
          refine v_iald dX7_gate_59 (hH 13 0 (by decide)) (by omega) (by omega) (by decide) ?_
          have hga := hgt a.toNat (by omega)
          refine v_istore dX7_gate_60 (Nat.le_of_ble_eq_true rfl) ?_
          refine v_aloadn dX7_gate_62 rfl ?_
          refine v_get dX7_gate_63 gf_X7_51 (hH 0 0 (by decide)) rfl ?_
          refine v_iloadn dX7_gate_66 rfl ?_
          refine v_iloadn dX7_gate_67 rfl ?_
          refine v_iast dX7_gate_68 (hH 13 0 (by decide)) (by omega) (by omega) (by decide) ?_
          generalize hMe68 : wup _ _ _ = M68
          have hO : wO cntY fw M M68 := by rw [← hMe68]; exact hO.up (k := 13) (i := 0) (by decide)
          obtain ⟨s68, hs68⟩ : ∃ z, z = ups s 13 0 (a.toNat) (k) := ⟨_, rfl⟩
          have hH : wH cntY (cellY G fw) fw s68 M68 := by rw [← hMe68, hs68]; exact wH.up hJ hH (k := 13) (i := 0) (a.toNat) (k) (by decide) rfl
          refine v_aloadn dX7_gate_69 rfl ?_
          refine v_get dX7_gate_70 gf_X7_54 (hH 0 0 (by decide)) rfl ?_
          refine v_iloadn dX7_gate_73 rfl ?_
          refine v_iloadn dX7_gate_74 rfl ?_
          refine v_iast dX7_gate_75 (hH 14 0 (by decide)) (by omega) (by omega) (by decide) ?_
          generalize hMe75 : wup _ _ _ = M75
          have hO : wO cntY fw M M75 := by rw [← hMe75]; exact hO.up (k := 14) (i := 0) (by decide)
          obtain ⟨s75, hs75⟩ : ∃ z, z = ups s68 14 0 (a.toNat) (b) := ⟨_, rfl⟩
          have hH : wH cntY (cellY G fw) fw s75 M75 := by rw [← hMe75, hs75]; exact wH.up hJ hH (k := 14) (i := 0) (a.toNat) (b) (by decide) rfl
          refine v_aloadn dX7_gate_76 rfl ?_
          refine v_get dX7_gate_77 gf_X7_57 (hH 0 0 (by decide)) rfl ?_
          refine v_iloadn dX7_gate_80 rfl ?_
          refine v_iload dX7_gate_81 rfl ?_
          refine v_iast dX7_gate_83 (hH 15 0 (by decide)) (by omega) (by omega) (by decide) ?_
          generalize hMe83 : wup _ _ _ = M83
          have hO : wO cntY fw M M83 := by rw [← hMe83]; exact hO.up (k := 15) (i := 0) (by decide)
          obtain ⟨s83, hs83⟩ : ∃ z, z = ups s75 15 0 (a.toNat) (c) := ⟨_, rfl⟩
          have hH : wH cntY (cellY G fw) fw s83 M83 := by rw [← hMe83, hs83]; exact wH.up hJ hH (k := 15) (i := 0) (a.toNat) (c) (by decide) rfl
          refine v_iload dX7_gate_84 rfl ?_
          exact v_iret dX7_gate_86 rfl ⟨(Nat.le_of_ble_eq_true rfl), (Nat.le_of_ble_eq_true rfl)⟩ (by omega) ⟨s83, ⟨hJ, hH, invY_g hI (fun k h1 h2 h3 => by rw [hs83, hs75, hs68, ups_kf _ h3, ups_kf _ h2, ups_kf _ h1]) (fun i hi => by have h1 := hgt i hi; rw [hs83, hs75, hs68]; simp only [ups_kf _ (show (13 : Nat) ≠ 14 by decide), ups_kf _ (show (13 : Nat) ≠ 15 by decide), ups_kf _ (show (14 : Nat) ≠ 13 by decide), ups_kf _ (show (14 : Nat) ≠ 15 by decide), ups_kf _ (show (15 : Nat) ≠ 13 by decide), ups_kf _ (show (15 : Nat) ≠ 14 by decide), ups_at, upz]; by_cases q : i = a.toNat <;> simp only [q, if_true, if_false] <;> omega)⟩, hO, fun k h1 h2 h3 => by rw [hs83, hs75, hs68, ups_kf _ h3, ups_kf _ h2, ups_kf _ h1]⟩
        · refine v_iload dX7_gate_38 rfl ?_
          refine v_callS (tX7_isSignal (by omega)) lc_X7_64 ⟨(Nat.le_of_ble_eq_true rfl), (Nat.le_of_ble_eq_true rfl)⟩ dX7_gate_40 rfl rfl (Nat.le_of_ble_eq_true rfl) ⟨(Nat.le_of_ble_eq_true rfl), (Nat.le_of_ble_eq_true rfl)⟩ (kP fun r40 hr40 hp40 => ?_)
          refine v_if_eq 52 dX7_gate_43 (by decide) (by omega) (fun h43 => ?_) (fun h43 => ?_)
          · refine v_iconst dX7_gate_52 ?_
            exact v_iret dX7_gate_53 rfl ⟨(Nat.le_of_ble_eq_true rfl), (Nat.le_of_ble_eq_true rfl)⟩ (by omega) ⟨s, hY, wO.rf, fun _ _ _ _ => rfl⟩
          · refine v_iload dX7_gate_46 rfl ?_
            refine v_iloadn dX7_gate_48 rfl ?_
            refine v_icmp_ne 54 dX7_gate_49 (by decide) (by omega) (by omega) (fun h49 => ?_) (fun h49 => ?_)
            · refine v_aloadn dX7_gate_54 rfl ?_
              refine v_get dX7_gate_55 gf_X7_51 (hH 0 0 (by decide)) rfl ?_
              refine v_iloadn dX7_gate_58 rfl ?_
              refine v_iald dX7_gate_59 (hH 13 0 (by decide)) (by omega) (by omega) (by decide) ?_
              have hga := hgt a.toNat (by omega)
              refine v_istore dX7_gate_60 (Nat.le_of_ble_eq_true rfl) ?_
              refine v_aloadn dX7_gate_62 rfl ?_
              refine v_get dX7_gate_63 gf_X7_51 (hH 0 0 (by decide)) rfl ?_
              refine v_iloadn dX7_gate_66 rfl ?_
              refine v_iloadn dX7_gate_67 rfl ?_
              refine v_iast dX7_gate_68 (hH 13 0 (by decide)) (by omega) (by omega) (by decide) ?_
              generalize hMe68 : wup _ _ _ = M68
              have hO : wO cntY fw M M68 := by rw [← hMe68]; exact hO.up (k := 13) (i := 0) (by decide)
              obtain ⟨s68, hs68⟩ : ∃ z, z = ups s 13 0 (a.toNat) (k) := ⟨_, rfl⟩
              have hH : wH cntY (cellY G fw) fw s68 M68 := by rw [← hMe68, hs68]; exact wH.up hJ hH (k := 13) (i := 0) (a.toNat) (k) (by decide) rfl
              refine v_aloadn dX7_gate_69 rfl ?_
              refine v_get dX7_gate_70 gf_X7_54 (hH 0 0 (by decide)) rfl ?_
              refine v_iloadn dX7_gate_73 rfl ?_
              refine v_iloadn dX7_gate_74 rfl ?_
              refine v_iast dX7_gate_75 (hH 14 0 (by decide)) (by omega) (by omega) (by decide) ?_
              generalize hMe75 : wup _ _ _ = M75
              have hO : wO cntY fw M M75 := by rw [← hMe75]; exact hO.up (k := 14) (i := 0) (by decide)
              obtain ⟨s75, hs75⟩ : ∃ z, z = ups s68 14 0 (a.toNat) (b) := ⟨_, rfl⟩
              have hH : wH cntY (cellY G fw) fw s75 M75 := by rw [← hMe75, hs75]; exact wH.up hJ hH (k := 14) (i := 0) (a.toNat) (b) (by decide) rfl
              refine v_aloadn dX7_gate_76 rfl ?_
              refine v_get dX7_gate_77 gf_X7_57 (hH 0 0 (by decide)) rfl ?_
              refine v_iloadn dX7_gate_80 rfl ?_
              refine v_iload dX7_gate_81 rfl ?_
              refine v_iast dX7_gate_83 (hH 15 0 (by decide)) (by omega) (by omega) (by decide) ?_
              generalize hMe83 : wup _ _ _ = M83
              have hO : wO cntY fw M M83 := by rw [← hMe83]; exact hO.up (k := 15) (i := 0) (by decide)
              obtain ⟨s83, hs83⟩ : ∃ z, z = ups s75 15 0 (a.toNat) (c) := ⟨_, rfl⟩
              have hH : wH cntY (cellY G fw) fw s83 M83 := by rw [← hMe83, hs83]; exact wH.up hJ hH (k := 15) (i := 0) (a.toNat) (c) (by decide) rfl
              refine v_iload dX7_gate_84 rfl ?_
              exact v_iret dX7_gate_86 rfl ⟨(Nat.le_of_ble_eq_true rfl), (Nat.le_of_ble_eq_true rfl)⟩ (by omega) ⟨s83, ⟨hJ, hH, invY_g hI (fun k h1 h2 h3 => by rw [hs83, hs75, hs68, ups_kf _ h3, ups_kf _ h2, ups_kf _ h1]) (fun i hi => by have h1 := hgt i hi; rw [hs83, hs75, hs68]; simp only [ups_kf _ (show (13 : Nat) ≠ 14 by decide), ups_kf _ (show (13 : Nat) ≠ 15 by decide), ups_kf _ (show (14 : Nat) ≠ 13 by decide), ups_kf _ (show (14 : Nat) ≠ 15 by decide), ups_kf _ (show (15 : Nat) ≠ 13 by decide), ups_kf _ (show (15 : Nat) ≠ 14 by decide), ups_at, upz]; by_cases q : i = a.toNat <;> simp only [q, if_true, if_false] <;> omega)⟩, hO, fun k h1 h2 h3 => by rw [hs83, hs75, hs68, ups_kf _ h3, ups_kf _ h2, ups_kf _ h1]⟩
            · refine v_iconst dX7_gate_52 ?_
              exact v_iret dX7_gate_53 rfl ⟨(Nat.le_of_ble_eq_true rfl), (Nat.le_of_ble_eq_true rfl)⟩ (by omega) ⟨s, hY, wO.rf, fun _ _ _ _ => rfl⟩
      · refine v_iloadn dX7_gate_21 rfl ?_
        refine v_callS (tX7_isSignal (by omega)) lc_X7_64 ⟨(Nat.le_of_ble_eq_true rfl), (Nat.le_of_ble_eq_true rfl)⟩ dX7_gate_22 rfl rfl (Nat.le_of_ble_eq_true rfl) ⟨(Nat.le_of_ble_eq_true rfl), (Nat.le_of_ble_eq_true rfl)⟩ (kP fun r22 hr22 hp22 => ?_)
        refine v_if_eq 52 dX7_gate_25 (by decide) (by omega) (fun h25 => ?_) (fun h25 => ?_)
        · refine v_iconst dX7_gate_52 ?_
          exact v_iret dX7_gate_53 rfl ⟨(Nat.le_of_ble_eq_true rfl), (Nat.le_of_ble_eq_true rfl)⟩ (by omega) ⟨s, hY, wO.rf, fun _ _ _ _ => rfl⟩
        · refine v_iloadn dX7_gate_28 rfl ?_
          refine v_iloadn dX7_gate_29 rfl ?_
          refine v_icmp_eq 52 dX7_gate_30 (by decide) (by omega) (by omega) (fun h30 => ?_) (fun h30 => ?_)
          · refine v_iconst dX7_gate_52 ?_
            exact v_iret dX7_gate_53 rfl ⟨(Nat.le_of_ble_eq_true rfl), (Nat.le_of_ble_eq_true rfl)⟩ (by omega) ⟨s, hY, wO.rf, fun _ _ _ _ => rfl⟩
          · refine v_iloadn dX7_gate_33 rfl ?_
            refine v_iconst dX7_gate_34 ?_
            refine v_icmp_le 54 dX7_gate_35 (by decide) (by omega) (by omega) (fun h35 => ?_) (fun h35 => ?_)
            · refine v_aloadn dX7_gate_54 rfl ?_
              refine v_get dX7_gate_55 gf_X7_51 (hH 0 0 (by decide)) rfl ?_
              refine v_iloadn dX7_gate_58 rfl ?_
              refine v_iald dX7_gate_59 (hH 13 0 (by decide)) (by omega) (by omega) (by decide) ?_
              have hga := hgt a.toNat (by omega)
              refine v_istore dX7_gate_60 (Nat.le_of_ble_eq_true rfl) ?_
              refine v_aloadn dX7_gate_62 rfl ?_
              refine v_get dX7_gate_63 gf_X7_51 (hH 0 0 (by decide)) rfl ?_
              refine v_iloadn dX7_gate_66 rfl ?_
              refine v_iloadn dX7_gate_67 rfl ?_
              refine v_iast dX7_gate_68 (hH 13 0 (by decide)) (by omega) (by omega) (by decide) ?_
              generalize hMe68 : wup _ _ _ = M68
              have hO : wO cntY fw M M68 := by rw [← hMe68]; exact hO.up (k := 13) (i := 0) (by decide)
              obtain ⟨s68, hs68⟩ : ∃ z, z = ups s 13 0 (a.toNat) (k) := ⟨_, rfl⟩
              have hH : wH cntY (cellY G fw) fw s68 M68 := by rw [← hMe68, hs68]; exact wH.up hJ hH (k := 13) (i := 0) (a.toNat) (k) (by decide) rfl
              refine v_aloadn dX7_gate_69 rfl ?_
              refine v_get dX7_gate_70 gf_X7_54 (hH 0 0 (by decide)) rfl ?_
              refine v_iloadn dX7_gate_73 rfl ?_
              refine v_iloadn dX7_gate_74 rfl ?_
              refine v_iast dX7_gate_75 (hH 14 0 (by decide)) (by omega) (by omega) (by decide) ?_
              generalize hMe75 : wup _ _ _ = M75
              have hO : wO cntY fw M M75 := by rw [← hMe75]; exact hO.up (k := 14) (i := 0) (by decide)
              obtain ⟨s75, hs75⟩ : ∃ z, z = ups s68 14 0 (a.toNat) (b) := ⟨_, rfl⟩
              have hH : wH cntY (cellY G fw) fw s75 M75 := by rw [← hMe75, hs75]; exact wH.up hJ hH (k := 14) (i := 0) (a.toNat) (b) (by decide) rfl
              refine v_aloadn dX7_gate_76 rfl ?_
              refine v_get dX7_gate_77 gf_X7_57 (hH 0 0 (by decide)) rfl ?_
              refine v_iloadn dX7_gate_80 rfl ?_
              refine v_iload dX7_gate_81 rfl ?_
              refine v_iast dX7_gate_83 (hH 15 0 (by decide)) (by omega) (by omega) (by decide) ?_
              generalize hMe83 : wup _ _ _ = M83
              have hO : wO cntY fw M M83 := by rw [← hMe83]; exact hO.up (k := 15) (i := 0) (by decide)
              obtain ⟨s83, hs83⟩ : ∃ z, z = ups s75 15 0 (a.toNat) (c) := ⟨_, rfl⟩
              have hH : wH cntY (cellY G fw) fw s83 M83 := by rw [← hMe83, hs83]; exact wH.up hJ hH (k := 15) (i := 0) (a.toNat) (c) (by decide) rfl
              refine v_iload dX7_gate_84 rfl ?_
              exact v_iret dX7_gate_86 rfl ⟨(Nat.le_of_ble_eq_true rfl), (Nat.le_of_ble_eq_true rfl)⟩ (by omega) ⟨s83, ⟨hJ, hH, invY_g hI (fun k h1 h2 h3 => by rw [hs83, hs75, hs68, ups_kf _ h3, ups_kf _ h2, ups_kf _ h1]) (fun i hi => by have h1 := hgt i hi; rw [hs83, hs75, hs68]; simp only [ups_kf _ (show (13 : Nat) ≠ 14 by decide), ups_kf _ (show (13 : Nat) ≠ 15 by decide), ups_kf _ (show (14 : Nat) ≠ 13 by decide), ups_kf _ (show (14 : Nat) ≠ 15 by decide), ups_kf _ (show (15 : Nat) ≠ 13 by decide), ups_kf _ (show (15 : Nat) ≠ 14 by decide), ups_at, upz]; by_cases q : i = a.toNat <;> simp only [q, if_true, if_false] <;> omega)⟩, hO, fun k h1 h2 h3 => by rw [hs83, hs75, hs68, ups_kf _ h3, ups_kf _ h2, ups_kf _ h1]⟩
            · refine v_iload dX7_gate_38 rfl ?_
              refine v_callS (tX7_isSignal (by omega)) lc_X7_64 ⟨(Nat.le_of_ble_eq_true rfl), (Nat.le_of_ble_eq_true rfl)⟩ dX7_gate_40 rfl rfl (Nat.le_of_ble_eq_true rfl) ⟨(Nat.le_of_ble_eq_true rfl), (Nat.le_of_ble_eq_true rfl)⟩ (kP fun r40 hr40 hp40 => ?_)
              refine v_if_eq 52 dX7_gate_43 (by decide) (by omega) (fun h43 => ?_) (fun h43 => ?_)
              · refine v_iconst dX7_gate_52 ?_
                exact v_iret dX7_gate_53 rfl ⟨(Nat.le_of_ble_eq_true rfl), (Nat.le_of_ble_eq_true rfl)⟩ (by omega) ⟨s, hY, wO.rf, fun _ _ _ _ => rfl⟩
              · refine v_iload dX7_gate_46 rfl ?_
                refine v_iloadn dX7_gate_48 rfl ?_
                refine v_icmp_ne 54 dX7_gate_49 (by decide) (by omega) (by omega) (fun h49 => ?_) (fun h49 => ?_)
                · refine v_aloadn dX7_gate_54 rfl ?_
                  refine v_get dX7_gate_55 gf_X7_51 (hH 0 0 (by decide)) rfl ?_
                  refine v_iloadn dX7_gate_58 rfl ?_
                  refine v_iald dX7_gate_59 (hH 13 0 (by decide)) (by omega) (by omega) (by decide) ?_
                  have hga := hgt a.toNat (by omega)
                  refine v_istore dX7_gate_60 (Nat.le_of_ble_eq_true rfl) ?_
                  refine v_aloadn dX7_gate_62 rfl ?_
                  refine v_get dX7_gate_63 gf_X7_51 (hH 0 0 (by decide)) rfl ?_
                  refine v_iloadn dX7_gate_66 rfl ?_
                  refine v_iloadn dX7_gate_67 rfl ?_
                  refine v_iast dX7_gate_68 (hH 13 0 (by decide)) (by omega) (by omega) (by decide) ?_
                  generalize hMe68 : wup _ _ _ = M68
                  have hO : wO cntY fw M M68 := by rw [← hMe68]; exact hO.up (k := 13) (i := 0) (by decide)
                  obtain ⟨s68, hs68⟩ : ∃ z, z = ups s 13 0 (a.toNat) (k) := ⟨_, rfl⟩
                  have hH : wH cntY (cellY G fw) fw s68 M68 := by rw [← hMe68, hs68]; exact wH.up hJ hH (k := 13) (i := 0) (a.toNat) (k) (by decide) rfl
                  refine v_aloadn dX7_gate_69 rfl ?_
                  refine v_get dX7_gate_70 gf_X7_54 (hH 0 0 (by decide)) rfl ?_
                  refine v_iloadn dX7_gate_73 rfl ?_
                  refine v_iloadn dX7_gate_74 rfl ?_
                  refine v_iast dX7_gate_75 (hH 14 0 (by decide)) (by omega) (by omega) (by decide) ?_
                  generalize hMe75 : wup _ _ _ = M75
                  have hO : wO cntY fw M M75 := by rw [← hMe75]; exact hO.up (k := 14) (i := 0) (by decide)
                  obtain ⟨s75, hs75⟩ : ∃ z, z = ups s68 14 0 (a.toNat) (b) := ⟨_, rfl⟩
                  have hH : wH cntY (cellY G fw) fw s75 M75 := by rw [← hMe75, hs75]; exact wH.up hJ hH (k := 14) (i := 0) (a.toNat) (b) (by decide) rfl
                  refine v_aloadn dX7_gate_76 rfl ?_
                  refine v_get dX7_gate_77 gf_X7_57 (hH 0 0 (by decide)) rfl ?_
                  refine v_iloadn dX7_gate_80 rfl ?_
                  refine v_iload dX7_gate_81 rfl ?_
                  refine v_iast dX7_gate_83 (hH 15 0 (by decide)) (by omega) (by omega) (by decide) ?_
                  generalize hMe83 : wup _ _ _ = M83
                  have hO : wO cntY fw M M83 := by rw [← hMe83]; exact hO.up (k := 15) (i := 0) (by decide)
                  obtain ⟨s83, hs83⟩ : ∃ z, z = ups s75 15 0 (a.toNat) (c) := ⟨_, rfl⟩
                  have hH : wH cntY (cellY G fw) fw s83 M83 := by rw [← hMe83, hs83]; exact wH.up hJ hH (k := 15) (i := 0) (a.toNat) (c) (by decide) rfl
                  refine v_iload dX7_gate_84 rfl ?_
                  exact v_iret dX7_gate_86 rfl ⟨(Nat.le_of_ble_eq_true rfl), (Nat.le_of_ble_eq_true rfl)⟩ (by omega) ⟨s83, ⟨hJ, hH, invY_g hI (fun k h1 h2 h3 => by rw [hs83, hs75, hs68, ups_kf _ h3, ups_kf _ h2, ups_kf _ h1]) (fun i hi => by have h1 := hgt i hi; rw [hs83, hs75, hs68]; simp only [ups_kf _ (show (13 : Nat) ≠ 14 by decide), ups_kf _ (show (13 : Nat) ≠ 15 by decide), ups_kf _ (show (14 : Nat) ≠ 13 by decide), ups_kf _ (show (14 : Nat) ≠ 15 by decide), ups_kf _ (show (15 : Nat) ≠ 13 by decide), ups_kf _ (show (15 : Nat) ≠ 14 by decide), ups_at, upz]; by_cases q : i = a.toNat <;> simp only [q, if_true, if_false] <;> omega)⟩, hO, fun k h1 h2 h3 => by rw [hs83, hs75, hs68, ups_kf _ h3, ups_kf _ h2, ups_kf _ h1]⟩
                · refine v_iconst dX7_gate_52 ?_
                  exact v_iret dX7_gate_53 rfl ⟨(Nat.le_of_ble_eq_true rfl), (Nat.le_of_ble_eq_true rfl)⟩ (by omega) ⟨s, hY, wO.rf, fun _ _ _ _ => rfl⟩
