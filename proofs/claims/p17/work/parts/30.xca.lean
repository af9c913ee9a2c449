def PX (G : gG) (fw : Nat → Nat → Nat) (M : wM) (R : Int → sG → Prop) : Option Value → wM → Prop := iP fun x M' => ∃ s', wX G fw s' M' ∧ wO cntX fw M M' ∧ R x s'
set_option maxHeartbeats 4000000 in
set_option maxRecDepth 100000 in
theorem tX6_isNoSignal {G : gG} {M : wM} {a : Int} (ha : rng a) : wT G qX6_isNoSignal 0 0 [.int (gI a)] M (iP fun x M' => M' = M ∧ ((x = 1 ∧ ¬ (0 ≤ a ∧ a ≤ 11)) ∨ (x = 0 ∧ 0 ≤ a ∧ a ≤ 11))) := by
  refine wT.intro (by decide) (Nat.le_of_ble_eq_true rfl) (fun sz => ?_)
  refine v_iloadn dX6_isNoSignal_0 rfl ?_
  refine v_iconst dX6_isNoSignal_1 ?_
  refine v_bipush dX6_isNoSignal_2 (by decide) ?_
  refine v_callS (tX6_outside (by omega) (by omega) (by omega)) lc_X6_69 ⟨(Nat.le_of_ble_eq_true rfl), (Nat.le_of_ble_eq_true rfl)⟩ dX6_isNoSignal_4 rfl rfl (Nat.le_of_ble_eq_true rfl) ⟨(Nat.le_of_ble_eq_true rfl), (Nat.le_of_ble_eq_true rfl)⟩ (kP fun r4 hr4 hp4 => ?_)
  exact v_zret dX6_isNoSignal_7 rfl ⟨(Nat.le_of_ble_eq_true rfl), (Nat.le_of_ble_eq_true rfl)⟩ (by omega) ⟨rfl, by omega⟩
set_option maxHeartbeats 4000000 in
set_option maxRecDepth 100000 in
theorem tX6_isNoValue {G : gG} {M : wM} {a : Int} (ha : rng a) : wT G qX6_isNoValue 0 0 [.int (gI a)] M (iP fun x M' => M' = M ∧ ((x = 1 ∧ ¬ (0 ≤ a ∧ a ≤ 256)) ∨ (x = 0 ∧ 0 ≤ a ∧ a ≤ 256))) := by
  refine wT.intro (by decide) (Nat.le_of_ble_eq_true rfl) (fun sz => ?_)
  refine v_iloadn dX6_isNoValue_0 rfl ?_
  refine v_iconst dX6_isNoValue_1 ?_
  refine v_sipush dX6_isNoValue_2 (by decide) ?_
  refine v_callS (tX6_outside (by omega) (by omega) (by omega)) lc_X6_69 ⟨(Nat.le_of_ble_eq_true rfl), (Nat.le_of_ble_eq_true rfl)⟩ dX6_isNoValue_5 rfl rfl (Nat.le_of_ble_eq_true rfl) ⟨(Nat.le_of_ble_eq_true rfl), (Nat.le_of_ble_eq_true rfl)⟩ (kP fun r5 hr5 hp5 => ?_)
  exact v_zret dX6_isNoValue_8 rfl ⟨(Nat.le_of_ble_eq_true rfl), (Nat.le_of_ble_eq_true rfl)⟩ (by omega) ⟨rfl, by omega⟩
set_option maxHeartbeats 4000000 in
set_option maxRecDepth 100000 in
theorem tX6_isNoRow {G : gG} {M : wM} {a : Int} (ha : rng a) {b : Int} (hb : rng b) : wT G qX6_isNoRow 0 0 [.int (gI a), .int (gI b)] M (iP fun x M' => M' = M ∧ ((x = 1 ∧ ¬ (0 ≤ a ∧ a ≤ 1 ∧ 0 ≤ b ∧ b ≤ 11)) ∨ (x = 0 ∧ 0 ≤ a ∧ a ≤ 1 ∧ 0 ≤ b ∧ b ≤ 11))) := by
  refine wT.intro (by decide) (Nat.le_of_ble_eq_true rfl) (fun sz => ?_)
  refine v_iloadn dX6_isNoRow_0 rfl ?_
  refine v_iconst dX6_isNoRow_1 ?_
  refine v_iconst dX6_isNoRow_2 ?_
  refine v_callS (tX6_outside (by omega) (by omega) (by omega)) lc_X6_69 ⟨(Nat.le_of_ble_eq_true rfl), (Nat.le_of_ble_eq_true rfl)⟩ dX6_isNoRow_3 rfl rfl (Nat.le_of_ble_eq_true rfl) ⟨(Nat.le_of_ble_eq_true rfl), (Nat.le_of_ble_eq_true rfl)⟩ (kP fun r3 hr3 hp3 => ?_)
  refine v_if_ne 16 dX6_isNoRow_6 (by decide) (by omega) (fun h6 => ?_) (fun h6 => ?_)
  · refine v_iconst dX6_isNoRow_16 ?_
    refine v_goto 21 dX6_isNoRow_17 (by decide) ?_
    exact v_zret dX6_isNoRow_21 rfl ⟨(Nat.le_of_ble_eq_true rfl), (Nat.le_of_ble_eq_true rfl)⟩ (by omega) ⟨rfl, by omega⟩
  · refine v_iloadn dX6_isNoRow_9 rfl ?_
    refine v_callS (tX6_isNoSignal (by omega)) lc_X6_117 ⟨(Nat.le_of_ble_eq_true rfl), (Nat.le_of_ble_eq_true rfl)⟩ dX6_isNoRow_10 rfl rfl (Nat.le_of_ble_eq_true rfl) ⟨(Nat.le_of_ble_eq_true rfl), (Nat.le_of_ble_eq_true rfl)⟩ (kP fun r10 hr10 hp10 => ?_)
    refine v_if_eq 20 dX6_isNoRow_13 (by decide) (by omega) (fun h13 => ?_) (fun h13 => ?_)
    · refine v_iconst dX6_isNoRow_20 ?_
      exact v_zret dX6_isNoRow_21 rfl ⟨(Nat.le_of_ble_eq_true rfl), (Nat.le_of_ble_eq_true rfl)⟩ (by omega) ⟨rfl, by omega⟩
    · refine v_iconst dX6_isNoRow_16 ?_
      refine v_goto 21 dX6_isNoRow_17 (by decide) ?_
      exact v_zret dX6_isNoRow_21 rfl ⟨(Nat.le_of_ble_eq_true rfl), (Nat.le_of_ble_eq_true rfl)⟩ (by omega) ⟨rfl, by omega⟩
set_option maxHeartbeats 4000000 in
set_option maxRecDepth 100000 in
theorem tX6_rowOf {G : gG} {fw : Nat → Nat → Nat} {s : sG} {M : wM} (hX : wX G fw s M) {a b : Int} (ha : bt 0 a 1) (hb : bt 0 b 11) : wT G qX6_rowOf 0 0 [.ref (fw 0 0), .int (gI a), .int (gI b)] M (rP fun r M' => M' = M ∧ r = fw 10 (a * 12 + b).toNat) := by
  refine wT.intro (by decide) (Nat.le_of_ble_eq_true rfl) (fun sz => ?_)
  refine v_aloadn dX6_rowOf_0 rfl ?_
  refine v_get dX6_rowOf_1 gf_X6_11 (hX.2.1 0 0 (by decide)) rfl ?_
  refine v_iloadn dX6_rowOf_4 rfl ?_
  refine v_bipush dX6_rowOf_5 (by decide) ?_
  refine v_imul dX6_rowOf_7 ?_
  refine v_iloadn dX6_rowOf_8 rfl ?_
  refine v_iadd dX6_rowOf_9 ?_
  refine v_aald2 (Cn := "WavePairs$Row") dX6_rowOf_10 (hX.2.1 1 0 (by decide)) (by simp) (by omega) (by omega) (by decide) ?_
  exact v_aret dX6_rowOf_11 rfl ⟨(Nat.le_of_ble_eq_true rfl), (Nat.le_of_ble_eq_true rfl)⟩ ⟨rfl, rfl⟩
set_option maxHeartbeats 4000000 in
set_option maxRecDepth 100000 in
theorem tX6_namedRow {G : gG} {fw : Nat → Nat → Nat} {s : sG} {M : wM} (hX : wX G fw s M) {a b : Int} (ha : bt 0 a 1) (hb : bt 0 b 11) : wT G qX6_namedRow 0 0 [.ref (fw 0 0), .int (gI a), .int (gI b)] M (rP fun r M' => M' = M ∧ r = fw 10 (if a = 0 then b else 12 + s 2 0 b.toNat).toNat) := by
  refine wT.intro (by decide) (Nat.le_of_ble_eq_true rfl) (fun sz => ?_)
  have hnm := hX.2.2.2.1 b.toNat (by omega)
  refine v_iloadn dX6_namedRow_0 rfl ?_
  refine v_if_ne 13 dX6_namedRow_1 (by decide) (by omega) (fun h1 => ?_) (fun h1 => ?_)
  · refine v_aloadn dX6_namedRow_13 rfl ?_
    refine v_iconst dX6_namedRow_14 ?_
    refine v_aloadn dX6_namedRow_15 rfl ?_
    refine v_get dX6_namedRow_16 gf_X6_15 (hX.2.1 0 0 (by decide)) rfl ?_
    refine v_iloadn dX6_namedRow_19 rfl ?_
    refine v_iald dX6_namedRow_20 (hX.2.1 2 0 (by decide)) (by omega) (by omega) (by decide) ?_
    refine v_callV (tX6_rowOf hX (by omega) (by omega)) lc_X6_77 ⟨(Nat.le_of_ble_eq_true rfl), (Nat.le_of_ble_eq_true rfl)⟩ dX6_namedRow_21 rfl rfl (Nat.le_of_ble_eq_true rfl) ⟨(Nat.le_of_ble_eq_true rfl), (Nat.le_of_ble_eq_true rfl)⟩ ⟨_, _, _, _, (hX.2.1 0 0 (by decide)), rfl⟩ (kRp fun r21 hp21 => ?_)
    exact v_aret dX6_namedRow_24 rfl ⟨(Nat.le_of_ble_eq_true rfl), (Nat.le_of_ble_eq_true rfl)⟩ ⟨rfl, by first | (rw [hp7, if_pos (by omega)]; congr 1; omega) | (rw [hp21, if_neg (by omega)]; congr 1)⟩
  · refine v_aloadn dX6_namedRow_4 rfl ?_
    refine v_iconst dX6_namedRow_5 ?_
    refine v_iloadn dX6_namedRow_6 rfl ?_
    refine v_callV (tX6_rowOf hX (by omega) (by omega)) lc_X6_77 ⟨(Nat.le_of_ble_eq_true rfl), (Nat.le_of_ble_eq_true rfl)⟩ dX6_namedRow_7 rfl rfl (Nat.le_of_ble_eq_true rfl) ⟨(Nat.le_of_ble_eq_true rfl), (Nat.le_of_ble_eq_true rfl)⟩ ⟨_, _, _, _, (hX.2.1 0 0 (by decide)), rfl⟩ (kRp fun r7 hp7 => ?_)
    refine v_goto 24 dX6_namedRow_10 (by decide) ?_
    exact v_aret dX6_namedRow_24 rfl ⟨(Nat.le_of_ble_eq_true rfl), (Nat.le_of_ble_eq_true rfl)⟩ ⟨rfl, by first | (rw [hp7, if_pos (by omega)]; congr 1; omega) | (rw [hp21, if_neg (by omega)]; congr 1)⟩
theorem nmd_lt {s : sG} (hI : invX s) {a b : Int} (ha : bt 0 a 1) (hb : bt 0 b 11) : (if a = 0 then b else 12 + s 2 0 b.toNat).toNat < 45 := by
  have := hI.2.1 b.toNat (by omega)
  split <;> omega
set_option maxHeartbeats 4000000 in
set_option maxRecDepth 100000 in
theorem tX6_rule {G : gG} {fw : Nat → Nat → Nat} {s : sG} {M : wM} (hX : wX G fw s M) {a v : Int} (ha : rng a) (hv : rng v) : wT G qX6_rule 0 0 [.ref (fw 0 0), .int (gI a), .int (gI v)] M (PX G fw M (fun x s' => (a = 0 ∧ bt 1 v 4000 ∧ x = s 0 0 9 ∧ s' = ups s 0 0 9 v) ∨ (a = 1 ∧ bt 0 v 1 ∧ x = s 0 0 10 ∧ s' = ups s 0 0 10 v) ∨ (¬ (a = 0 ∧ bt 1 v 4000) ∧ ¬ (a = 1 ∧ bt 0 v 1) ∧ x = -1 ∧ s' = s))) := by
  refine wT.intro (by decide) (Nat.le_of_ble_eq_true rfl) (fun sz => ?_)
  obtain ⟨hJ, hH, hI⟩ := id hX
  have hO : wO cntX fw M M := wO.rf
  have h0 := hX.2.2.1
  have hnm := hX.2.2.2.1
  have hsh := hX.2.2.2.2.1
  have h8 := hX.2.2.2.2.2.1
  refine v_iloadn dX6_rule_0 rfl ?_
  refine v_if_ne 27 dX6_rule_1 (by decide) (by omega) (fun h1 => ?_) (fun h1 => ?_)
  · refine v_iloadn dX6_rule_27 rfl ?_
    refine v_iconst dX6_rule_28 ?_
    refine v_icmp_ne 70 dX6_rule_29 (by decide) (by omega) (by omega) (fun h29 => ?_) (fun h29 => ?_)
    · refine v_iconst dX6_rule_70 ?_
      exact v_iret dX6_rule_71 rfl ⟨(Nat.le_of_ble_eq_true rfl), (Nat.le_of_ble_eq_true rfl)⟩ (by omega) ⟨s, hX, wO.rf, Or.inr (Or.inr ⟨by omega, by omega, by omega, rfl⟩)⟩
    · refine v_iloadn dX6_rule_32 rfl ?_
      refine v_iconst dX6_rule_33 ?_
      refine v_iconst dX6_rule_34 ?_
      refine v_callS (tX6_outside (by omega) (by omega) (by omega)) lc_X6_69 ⟨(Nat.le_of_ble_eq_true rfl), (Nat.le_of_ble_eq_true rfl)⟩ dX6_rule_35 rfl rfl (Nat.le_of_ble_eq_true rfl) ⟨(Nat.le_of_ble_eq_true rfl), (Nat.le_of_ble_eq_true rfl)⟩ (kP fun r35 hr35 hp35 => ?_)
      refine v_if_ne 70 dX6_rule_38 (by decide) (by omega) (fun h38 => ?_) (fun h38 => ?_)
      · refine v_iconst dX6_rule_70 ?_
        exact v_iret dX6_rule_71 rfl ⟨(Nat.le_of_ble_eq_true rfl), (Nat.le_of_ble_eq_true rfl)⟩ (by omega) ⟨s, hX, wO.rf, Or.inr (Or.inr ⟨by omega, by omega, by omega, rfl⟩)⟩
      · refine v_aloadn dX6_rule_41 rfl ?_
        refine v_get dX6_rule_42 gf_X6_57 (hH 0 0 (by decide)) rfl ?_
        refine v_if_eq 52 dX6_rule_45 (by decide) (by omega) (fun h45 => ?_) (fun h45 => ?_)
        · refine v_iconst dX6_rule_52 ?_
          refine v_istoren dX6_rule_53 (Nat.le_of_ble_eq_true rfl) ?_
          refine v_aloadn dX6_rule_54 rfl ?_
          refine v_iloadn dX6_rule_55 rfl ?_
          refine v_iconst dX6_rule_56 ?_
          refine v_icmp_ne 64 dX6_rule_57 (by decide) (by omega) (by omega) (fun h57 => ?_) (fun h57 => ?_)
          · refine v_iconst dX6_rule_64 ?_
            refine v_put dX6_rule_65 pf_X6_57 (hH 0 0 (by decide)) rfl rfl (Nat.le_of_ble_eq_true rfl) ?_
            generalize hMe65 : wup _ _ _ = M65
            have hO : wO cntX fw M M65 := by rw [← hMe65]; exact hO.up (k := 0) (i := 0) (by decide)
            obtain ⟨s65, hs65⟩ : ∃ z, z = ups s 0 0 (10) (0) := ⟨_, rfl⟩
            have hH : wH cntX (cellX G fw) fw s65 M65 := by rw [← hMe65, hs65]; exact wH.up hJ hH (k := 0) (i := 0) (10) (0) (by decide) rfl
            refine v_iloadn dX6_rule_68 rfl ?_
            exact v_iret dX6_rule_69 rfl ⟨(Nat.le_of_ble_eq_true rfl), (Nat.le_of_ble_eq_true rfl)⟩ (by omega) ⟨s65, ⟨hJ, hH, invX_z hI (fun k hk => by rw [hs65]; exact ups_kf _ hk) (by rw [hs65]; simp [ups_at, upz] <;> omega)⟩, hO, Or.inr (Or.inl ⟨by omega, by omega, by omega, by rw [hs65, show v = 0 by omega]⟩)⟩
          · refine v_iconst dX6_rule_60 ?_
            refine v_goto 65 dX6_rule_61 (by decide) ?_
            refine v_put dX6_rule_65 pf_X6_57 (hH 0 0 (by decide)) rfl rfl (Nat.le_of_ble_eq_true rfl) ?_
            generalize hMe65 : wup _ _ _ = M65
            have hO : wO cntX fw M M65 := by rw [← hMe65]; exact hO.up (k := 0) (i := 0) (by decide)
            obtain ⟨s65, hs65⟩ : ∃ z, z = ups s 0 0 (10) (1) := ⟨_, rfl⟩
            have hH : wH cntX (cellX G fw) fw s65 M65 := by rw [← hMe65, hs65]; exact wH.up hJ hH (k := 0) (i := 0) (10) (1) (by decide) rfl
            refine v_iloadn dX6_rule_68 rfl ?_
            exact v_iret dX6_rule_69 rfl ⟨(Nat.le_of_ble_eq_true rfl), (Nat.le_of_ble_eq_true rfl)⟩ (by omega) ⟨s65, ⟨hJ, hH, invX_z hI (fun k hk => by rw [hs65]; exact ups_kf _ hk) (by rw [hs65]; simp [ups_at, upz] <;> omega)⟩, hO, Or.inr (Or.inl ⟨by omega, by omega, by omega, by rw [hs65, show v = 1 by omega]⟩)⟩
        · refine v_iconst dX6_rule_48 ?_
          refine v_goto 53 dX6_rule_49 (by decide) ?_
          refine v_istoren dX6_rule_53 (Nat.le_of_ble_eq_true rfl) ?_
          refine v_aloadn dX6_rule_54 rfl ?_
          refine v_iloadn dX6_rule_55 rfl ?_
          refine v_iconst dX6_rule_56 ?_
          refine v_icmp_ne 64 dX6_rule_57 (by decide) (by omega) (by omega) (fun h57 => ?_) (fun h57 => ?_)
          · refine v_iconst dX6_rule_64 ?_
            refine v_put dX6_rule_65 pf_X6_57 (hH 0 0 (by decide)) rfl rfl (Nat.le_of_ble_eq_true rfl) ?_
            generalize hMe65 : wup _ _ _ = M65
            have hO : wO cntX fw M M65 := by rw [← hMe65]; exact hO.up (k := 0) (i := 0) (by decide)
            obtain ⟨s65, hs65⟩ : ∃ z, z = ups s 0 0 (10) (0) := ⟨_, rfl⟩
            have hH : wH cntX (cellX G fw) fw s65 M65 := by rw [← hMe65, hs65]; exact wH.up hJ hH (k := 0) (i := 0) (10) (0) (by decide) rfl
            refine v_iloadn dX6_rule_68 rfl ?_
            exact v_iret dX6_rule_69 rfl ⟨(Nat.le_of_ble_eq_true rfl), (Nat.le_of_ble_eq_true rfl)⟩ (by omega) ⟨s65, ⟨hJ, hH, invX_z hI (fun k hk => by rw [hs65]; exact ups_kf _ hk) (by rw [hs65]; simp [ups_at, upz] <;> omega)⟩, hO, Or.inr (Or.inl ⟨by omega, by omega, by omega, by rw [hs65, show v = 0 by omega]⟩)⟩
          · refine v_iconst dX6_rule_60 ?_
            refine v_goto 65 dX6_rule_61 (by decide) ?_
            refine v_put dX6_rule_65 pf_X6_57 (hH 0 0 (by decide)) rfl rfl (Nat.le_of_ble_eq_true rfl) ?_
            generalize hMe65 : wup _ _ _ = M65
            have hO : wO cntX fw M M65 := by rw [← hMe65]; exact hO.up (k := 0) (i := 0) (by decide)
            obtain ⟨s65, hs65⟩ : ∃ z, z = ups s 0 0 (10) (1) := ⟨_, rfl⟩
            have hH : wH cntX (cellX G fw) fw s65 M65 := by rw [← hMe65, hs65]; exact wH.up hJ hH (k := 0) (i := 0) (10) (1) (by decide) rfl
            refine v_iloadn dX6_rule_68 rfl ?_
            exact v_iret dX6_rule_69 rfl ⟨(Nat.le_of_ble_eq_true rfl), (Nat.le_of_ble_eq_true rfl)⟩ (by omega) ⟨s65, ⟨hJ, hH, invX_z hI (fun k hk => by rw [hs65]; exact ups_kf _ hk) (by rw [hs65]; simp [ups_at, upz] <;> omega)⟩, hO, Or.inr (Or.inl ⟨by omega, by omega, by omega, by rw [hs65, show v = 1 by omega]⟩)⟩
  · refine v_iloadn dX6_rule_4 rfl ?_
    refine v_iconst dX6_rule_5 ?_
    refine v_sipush dX6_rule_6 (by decide) ?_
    refine v_callS (tX6_outside (by omega) (by omega) (by omega)) lc_X6_69 ⟨(Nat.le_of_ble_eq_true rfl), (Nat.le_of_ble_eq_true rfl)⟩ dX6_rule_9 rfl rfl (Nat.le_of_ble_eq_true rfl) ⟨(Nat.le_of_ble_eq_true rfl), (Nat.le_of_ble_eq_true rfl)⟩ (kP fun r9 hr9 hp9 => ?_)
    refine v_if_ne 27 dX6_rule_12 (by decide) (by omega) (fun h12 => ?_) (fun h12 => ?_)
    · refine v_iloadn dX6_rule_27 rfl ?_
      refine v_iconst dX6_rule_28 ?_
      refine v_icmp_ne 70 dX6_rule_29 (by decide) (by omega) (by omega) (fun h29 => ?_) (fun h29 => ?_)
      · refine v_iconst dX6_rule_70 ?_
        exact v_iret dX6_rule_71 rfl ⟨(Nat.le_of_ble_eq_true rfl), (Nat.le_of_ble_eq_true rfl)⟩ (by omega) ⟨s, hX, wO.rf, Or.inr (Or.inr ⟨by omega, by omega, by omega, rfl⟩)⟩
      · refine v_iloadn dX6_rule_32 rfl ?_
        refine v_iconst dX6_rule_33 ?_
        refine v_iconst dX6_rule_34 ?_
        refine v_callS (tX6_outside (by omega) (by omega) (by omega)) lc_X6_69 ⟨(Nat.le_of_ble_eq_true rfl), (Nat.le_of_ble_eq_true rfl)⟩ dX6_rule_35 rfl rfl (Nat.le_of_ble_eq_true rfl) ⟨(Nat.le_of_ble_eq_true rfl), (Nat.le_of_ble_eq_true rfl)⟩ (kP fun r35 hr35 hp35 => ?_)
        refine v_if_ne 70 dX6_rule_38 (by decide) (by omega) (fun h38 => ?_) (fun h38 => ?_)
        · refine v_iconst dX6_rule_70 ?_
          exact v_iret dX6_rule_71 rfl ⟨(Nat.le_of_ble_eq_true rfl), (Nat.le_of_ble_eq_true rfl)⟩ (by omega) ⟨s, hX, wO.rf, Or.inr (Or.inr ⟨by omega, by omega, by omega, rfl⟩)⟩
        · refine v_aloadn dX6_rule_41 rfl ?_
          refine v_get dX6_rule_42 gf_X6_57 (hH 0 0 (by decide)) rfl ?_
          refine v_if_eq 52 dX6_rule_45 (by decide) (by omega) (fun h45 => ?_) (fun h45 => ?_)
          · refine v_iconst dX6_rule_52 ?_
            refine v_istoren dX6_rule_53 (Nat.le_of_ble_eq_true rfl) ?_
            refine v_aloadn dX6_rule_54 rfl ?_
            refine v_iloadn dX6_rule_55 rfl ?_
            refine v_iconst dX6_rule_56 ?_
            refine v_icmp_ne 64 dX6_rule_57 (by decide) (by omega) (by omega) (fun h57 => ?_) (fun h57 => ?_)
            · refine v_iconst dX6_rule_64 ?_
              refine v_put dX6_rule_65 pf_X6_57 (hH 0 0 (by decide)) rfl rfl (Nat.le_of_ble_eq_true rfl) ?_
              generalize hMe65 : wup _ _ _ = M65
              have hO : wO cntX fw M M65 := by rw [← hMe65]; exact hO.up (k := 0) (i := 0) (by decide)
              obtain ⟨s65, hs65⟩ : ∃ z, z = ups s 0 0 (10) (0) := ⟨_, rfl⟩
              have hH : wH cntX (cellX G fw) fw s65 M65 := by rw [← hMe65, hs65]; exact wH.up hJ hH (k := 0) (i := 0) (10) (0) (by decide) rfl
              refine v_iloadn dX6_rule_68 rfl ?_
              exact v_iret dX6_rule_69 rfl ⟨(Nat.le_of_ble_eq_true rfl), (Nat.le_of_ble_eq_true rfl)⟩ (by omega) ⟨s65, ⟨hJ, hH, invX_z hI (fun k hk => by rw [hs65]; exact ups_kf _ hk) (by rw [hs65]; simp [ups_at, upz] <;> omega)⟩, hO, Or.inr (Or.inl ⟨by omega, by omega, by omega, by rw [hs65, show v = 0 by omega]⟩)⟩
            · refine v_iconst dX6_rule_60 ?_
              refine v_goto 65 dX6_rule_61 (by decide) ?_
              refine v_put dX6_rule_65 pf_X6_57 (hH 0 0 (by decide)) rfl rfl (Nat.le_of_ble_eq_true rfl) ?_
              generalize hMe65 : wup _ _ _ = M65
              have hO : wO cntX fw M M65 := by rw [← hMe65]; exact hO.up (k := 0) (i := 0) (by decide)
              obtain ⟨s65, hs65⟩ : ∃ z, z = ups s 0 0 (10) (1) := ⟨_, rfl⟩
              have hH : wH cntX (cellX G fw) fw s65 M65 := by rw [← hMe65, hs65]; exact wH.up hJ hH (k := 0) (i := 0) (10) (1) (by decide) rfl
              refine v_iloadn dX6_rule_68 rfl ?_
              exact v_iret dX6_rule_69 rfl ⟨(Nat.le_of_ble_eq_true rfl), (Nat.le_of_ble_eq_true rfl)⟩ (by omega) ⟨s65, ⟨hJ, hH, invX_z hI (fun k hk => by rw [hs65]; exact ups_kf _ hk) (by rw [hs65]; simp [ups_at, upz] <;> omega)⟩, hO, Or.inr (Or.inl ⟨by omega, by omega, by omega, by rw [hs65, show v = 1 by omega]⟩)⟩
          · refine v_iconst dX6_rule_48 ?_
            refine v_goto 53 dX6_rule_49 (by decide) ?_
            refine v_istoren dX6_rule_53 (Nat.le_of_ble_eq_true rfl) ?_
            refine v_aloadn dX6_rule_54 rfl ?_
            refine v_iloadn dX6_rule_55 rfl ?_
            refine v_iconst dX6_rule_56 ?_
            refine v_icmp_ne 64 dX6_rule_57 (by decide) (by omega) (by omega) (fun h57 => ?_) (fun h57 => ?_)
            · refine v_iconst dX6_rule_64 ?_
              refine v_put dX6_rule_65 pf_X6_57 (hH 0 0 (by decide)) rfl rfl (Nat.le_of_ble_eq_true rfl) ?_
              generalize hMe65 : wup _ _ _ = M65
              have hO : wO cntX fw M M65 := by rw [← hMe65]; exact hO.up (k := 0) (i := 0) (by decide)
              obtain ⟨s65, hs65⟩ : ∃ z, z = ups s 0 0 (10) (0) := ⟨_, rfl⟩
              have hH : wH cntX (cellX G fw) fw s65 M65 := by rw [← hMe65, hs65]; exact wH.up hJ hH (k := 0) (i := 0) (10) (0) (by decide) rfl
              refine v_iloadn dX6_rule_68 rfl ?_
              exact v_iret dX6_rule_69 rfl ⟨(Nat.le_of_ble_eq_true rfl), (Nat.le_of_ble_eq_true rfl)⟩ (by omega) ⟨s65, ⟨hJ, hH, invX_z hI (fun k hk => by rw [hs65]; exact ups_kf _ hk) (by rw [hs65]; simp [ups_at, upz] <;> omega)⟩, hO, Or.inr (Or.inl ⟨by omega, by omega, by omega, by rw [hs65, show v = 0 by omega]⟩)⟩
            · refine v_iconst dX6_rule_60 ?_
              refine v_goto 65 dX6_rule_61 (by decide) ?_
              refine v_put dX6_rule_65 pf_X6_57 (hH 0 0 (by decide)) rfl rfl (Nat.le_of_ble_eq_true rfl) ?_
              generalize hMe65 : wup _ _ _ = M65
              have hO : wO cntX fw M M65 := by rw [← hMe65]; exact hO.up (k := 0) (i := 0) (by decide)
              obtain ⟨s65, hs65⟩ : ∃ z, z = ups s 0 0 (10) (1) := ⟨_, rfl⟩
              have hH : wH cntX (cellX G fw) fw s65 M65 := by rw [← hMe65, hs65]; exact wH.up hJ hH (k := 0) (i := 0) (10) (1) (by decide) rfl
              refine v_iloadn dX6_rule_68 rfl ?_
              exact v_iret dX6_rule_69 rfl ⟨(Nat.le_of_ble_eq_true rfl), (Nat.le_of_ble_eq_true rfl)⟩ (by omega) ⟨s65, ⟨hJ, hH, invX_z hI (fun k hk => by rw [hs65]; exact ups_kf _ hk) (by rw [hs65]; simp [ups_at, upz] <;> omega)⟩, hO, Or.inr (Or.inl ⟨by omega, by omega, by omega, by rw [hs65, show v = 1 by omega]⟩)⟩
    · refine v_aloadn dX6_rule_15 rfl ?_
      refine v_get dX6_rule_16 gf_X6_54 (hH 0 0 (by decide)) rfl ?_
      refine v_istoren dX6_rule_19 (Nat.le_of_ble_eq_true rfl) ?_
      refine v_aloadn dX6_rule_20 rfl ?_
      refine v_iloadn dX6_rule_21 rfl ?_
      refine v_put dX6_rule_22 pf_X6_54 (hH 0 0 (by decide)) rfl rfl (Nat.le_of_ble_eq_true rfl) ?_
      generalize hMe22 : wup _ _ _ = M22
      have hO : wO cntX fw M M22 := by rw [← hMe22]; exact hO.up (k := 0) (i := 0) (by decide)
      obtain ⟨s22, hs22⟩ : ∃ z, z = ups s 0 0 (9) (v) := ⟨_, rfl⟩
      have hH : wH cntX (cellX G fw) fw s22 M22 := by rw [← hMe22, hs22]; exact wH.up hJ hH (k := 0) (i := 0) (9) (v) (by decide) rfl
      refine v_iloadn dX6_rule_25 rfl ?_
      exact v_iret dX6_rule_26 rfl ⟨(Nat.le_of_ble_eq_true rfl), (Nat.le_of_ble_eq_true rfl)⟩ (by omega) ⟨s22, ⟨hJ, hH, invX_z hI (fun k hk => by rw [hs22]; exact ups_kf _ hk) (by rw [hs22]; simp [ups_at, upz] <;> omega)⟩, hO, Or.inl ⟨by omega, by omega, rfl, hs22⟩⟩
set_option maxHeartbeats 4000000 in
set_option maxRecDepth 100000 in
theorem tX6_call {G : gG} {fw : Nat → Nat → Nat} {s : sG} {M : wM} (hX : wX G fw s M) {a w v : Int} (ha : rng a) (hw : rng w) (hv : rng v) : wT G qX6_call 0 0 [.ref (fw 0 0), .int (gI a), .int (gI w), .int (gI v)] M (PX G fw M (fun x s' => (bt 0 a 11 ∧ w = 0 ∧ bt 0 v 11 ∧ x = s 2 0 a.toNat ∧ s' = ups s 2 0 a.toNat v) ∨ (bt 0 a 11 ∧ w = 1 ∧ bt 0 v 3 ∧ x = s 3 0 a.toNat ∧ s' = ups s 3 0 a.toNat v) ∨ (¬ (bt 0 a 11 ∧ w = 0 ∧ bt 0 v 11) ∧ ¬ (bt 0 a 11 ∧ w = 1 ∧ bt 0 v 3) ∧ x = -1 ∧ s' = s))) := by
  refine wT.intro (by decide) (Nat.le_of_ble_eq_true rfl) (fun sz => ?_)
  obtain ⟨hJ, hH, hI⟩ := id hX
  have hO : wO cntX fw M M := wO.rf
  have h0 := hX.2.2.1
  have hnm := hX.2.2.2.1
  have hsh := hX.2.2.2.2.1
  have h8 := hX.2.2.2.2.2.1
  refine v_iloadn dX6_call_0 rfl ?_
  refine v_callS (tX6_isNoSignal (by omega)) lc_X6_117 ⟨(Nat.le_of_ble_eq_true rfl), (Nat.le_of_ble_eq_true rfl)⟩ dX6_call_1 rfl rfl (Nat.le_of_ble_eq_true rfl) ⟨(Nat.le_of_ble_eq_true rfl), (Nat.le_of_ble_eq_true rfl)⟩ (kP fun r1 hr1 hp1 => ?_)
  refine v_if_eq 9 dX6_call_4 (by decide) (by omega) (fun h4 => ?_) (fun h4 => ?_)
  · refine v_iloadn dX6_call_9 rfl ?_
    refine v_if_ne 38 dX6_call_10 (by decide) (by omega) (fun h10 => ?_) (fun h10 => ?_)
    · refine v_iloadn dX6_call_38 rfl ?_
      refine v_iconst dX6_call_39 ?_
      refine v_icmp_ne 70 dX6_call_40 (by decide) (by omega) (by omega) (fun h40 => ?_) (fun h40 => ?_)
      · refine v_iconst dX6_call_70 ?_
        exact v_iret dX6_call_71 rfl ⟨(Nat.le_of_ble_eq_true rfl), (Nat.le_of_ble_eq_true rfl)⟩ (by omega) ⟨s, hX, wO.rf, Or.inr (Or.inr ⟨by omega, by omega, by omega, rfl⟩)⟩
      · refine v_iloadn dX6_call_43 rfl ?_
        refine v_iconst dX6_call_44 ?_
        refine v_iconst dX6_call_45 ?_
        refine v_callS (tX6_outside (by omega) (by omega) (by omega)) lc_X6_69 ⟨(Nat.le_of_ble_eq_true rfl), (Nat.le_of_ble_eq_true rfl)⟩ dX6_call_46 rfl rfl (Nat.le_of_ble_eq_true rfl) ⟨(Nat.le_of_ble_eq_true rfl), (Nat.le_of_ble_eq_true rfl)⟩ (kP fun r46 hr46 hp46 => ?_)
        refine v_if_ne 70 dX6_call_49 (by decide) (by omega) (fun h49 => ?_) (fun h49 => ?_)
        · refine v_iconst dX6_call_70 ?_
          exact v_iret dX6_call_71 rfl ⟨(Nat.le_of_ble_eq_true rfl), (Nat.le_of_ble_eq_true rfl)⟩ (by omega) ⟨s, hX, wO.rf, Or.inr (Or.inr ⟨by omega, by omega, by omega, rfl⟩)⟩
        · refine v_aloadn dX6_call_52 rfl ?_
          refine v_get dX6_call_53 gf_X6_19 (hH 0 0 (by decide)) rfl ?_
          refine v_iloadn dX6_call_56 rfl ?_
          refine v_iald dX6_call_57 (hH 3 0 (by decide)) (by omega) (by omega) (by decide) ?_
          have hna := hnm a.toNat (by omega)
          refine v_istore dX6_call_58 (Nat.le_of_ble_eq_true rfl) ?_
          refine v_aloadn dX6_call_60 rfl ?_
          refine v_get dX6_call_61 gf_X6_19 (hH 0 0 (by decide)) rfl ?_
          refine v_iloadn dX6_call_64 rfl ?_
          refine v_iloadn dX6_call_65 rfl ?_
          refine v_iast dX6_call_66 (hH 3 0 (by decide)) (by omega) (by omega) (by decide) ?_
          generalize hMe66 : wup _ _ _ = M66
          have hO : wO cntX fw M M66 := by rw [← hMe66]; exact hO.up (k := 3) (i := 0) (by decide)
          obtain ⟨s66, hs66⟩ : ∃ z, z = ups s 3 0 (a.toNat) (v) := ⟨_, rfl⟩
          have hH : wH cntX (cellX G fw) fw s66 M66 := by rw [← hMe66, hs66]; exact wH.up hJ hH (k := 3) (i := 0) (a.toNat) (v) (by decide) rfl
          refine v_iload dX6_call_67 rfl ?_
          exact v_iret dX6_call_69 rfl ⟨(Nat.le_of_ble_eq_true rfl), (Nat.le_of_ble_eq_true rfl)⟩ (by omega) ⟨s66, ⟨hJ, hH, invX_n hI (fun k h1 h2 => by rw [hs66]; first | exact ups_kf _ h1 | exact ups_kf _ h2) (fun j hj => by have h1 := hnm j hj; have h2 := hnm a.toNat (by omega); rw [hs66]; by_cases q : j = a.toNat <;> simp [ups, upz, q] <;> omega)⟩, hO, Or.inr (Or.inl ⟨by omega, by omega, by omega, rfl, hs66⟩)⟩
    · refine v_iloadn dX6_call_13 rfl ?_
      refine v_callS (tX6_isNoSignal (by omega)) lc_X6_117 ⟨(Nat.le_of_ble_eq_true rfl), (Nat.le_of_ble_eq_true rfl)⟩ dX6_call_14 rfl rfl (Nat.le_of_ble_eq_true rfl) ⟨(Nat.le_of_ble_eq_true rfl), (Nat.le_of_ble_eq_true rfl)⟩ (kP fun r14 hr14 hp14 => ?_)
      refine v_if_ne 38 dX6_call_17 (by decide) (by omega) (fun h17 => ?_) (fun h17 => ?_)
      · refine v_iloadn dX6_call_38 rfl ?_
        refine v_iconst dX6_call_39 ?_
        refine v_icmp_ne 70 dX6_call_40 (by decide) (by omega) (by omega) (fun h40 => ?_) (fun h40 => ?_)
        · refine v_iconst dX6_call_70 ?_
          exact v_iret dX6_call_71 rfl ⟨(Nat.le_of_ble_eq_true rfl), (Nat.le_of_ble_eq_true rfl)⟩ (by omega) ⟨s, hX, wO.rf, Or.inr (Or.inr ⟨by omega, by omega, by omega, rfl⟩)⟩
        · refine v_iloadn dX6_call_43 rfl ?_
          refine v_iconst dX6_call_44 ?_
          refine v_iconst dX6_call_45 ?_
          refine v_callS (tX6_outside (by omega) (by omega) (by omega)) lc_X6_69 ⟨(Nat.le_of_ble_eq_true rfl), (Nat.le_of_ble_eq_true rfl)⟩ dX6_call_46 rfl rfl (Nat.le_of_ble_eq_true rfl) ⟨(Nat.le_of_ble_eq_true rfl), (Nat.le_of_ble_eq_true rfl)⟩ (kP fun r46 hr46 hp46 => ?_)
          refine v_if_ne 70 dX6_call_49 (by decide) (by omega) (fun h49 => ?_) (fun h49 => ?_)
          · refine v_iconst dX6_call_70 ?_
            exact v_iret dX6_call_71 rfl ⟨(Nat.le_of_ble_eq_true rfl), (Nat.le_of_ble_eq_true rfl)⟩ (by omega) ⟨s, hX, wO.rf, Or.inr (Or.inr ⟨by omega, by omega, by omega, rfl⟩)⟩
          · refine v_aloadn dX6_call_52 rfl ?_
            refine v_get dX6_call_53 gf_X6_19 (hH 0 0 (by decide)) rfl ?_
            refine v_iloadn dX6_call_56 rfl ?_
            refine v_iald dX6_call_57 (hH 3 0 (by decide)) (by omega) (by omega) (by decide) ?_
            have hna := hnm a.toNat (by omega)
            refine v_istore dX6_call_58 (Nat.le_of_ble_eq_true rfl) ?_
            refine v_aloadn dX6_call_60 rfl ?_
            refine v_get dX6_call_61 gf_X6_19 (hH 0 0 (by decide)) rfl ?_
            refine v_iloadn dX6_call_64 rfl ?_
            refine v_iloadn dX6_call_65 rfl ?_
            refine v_iast dX6_call_66 (hH 3 0 (by decide)) (by omega) (by omega) (by decide) ?_
            generalize hMe66 : wup _ _ _ = M66
            have hO : wO cntX fw M M66 := by rw [← hMe66]; exact hO.up (k := 3) (i := 0) (by decide)
            obtain ⟨s66, hs66⟩ : ∃ z, z = ups s 3 0 (a.toNat) (v) := ⟨_, rfl⟩
            have hH : wH cntX (cellX G fw) fw s66 M66 := by rw [← hMe66, hs66]; exact wH.up hJ hH (k := 3) (i := 0) (a.toNat) (v) (by decide) rfl
            refine v_iload dX6_call_67 rfl ?_
            exact v_iret dX6_call_69 rfl ⟨(Nat.le_of_ble_eq_true rfl), (Nat.le_of_ble_eq_true rfl)⟩ (by omega) ⟨s66, ⟨hJ, hH, invX_n hI (fun k h1 h2 => by rw [hs66]; first | exact ups_kf _ h1 | exact ups_kf _ h2) (fun j hj => by have h1 := hnm j hj; have h2 := hnm a.toNat (by omega); rw [hs66]; by_cases q : j = a.toNat <;> simp [ups, upz, q] <;> omega)⟩, hO, Or.inr (Or.inl ⟨by omega, by omega, by omega, rfl, hs66⟩)⟩
      · refine v_aloadn dX6_call_20 rfl ?_
        refine v_get dX6_call_21 gf_X6_15 (hH 0 0 (by decide)) rfl ?_
        refine v_iloadn dX6_call_24 rfl ?_
        refine v_iald dX6_call_25 (hH 2 0 (by decide)) (by omega) (by omega) (by decide) ?_
        have hna := hnm a.toNat (by omega)
        refine v_istore dX6_call_26 (Nat.le_of_ble_eq_true rfl) ?_
        refine v_aloadn dX6_call_28 rfl ?_
        refine v_get dX6_call_29 gf_X6_15 (hH 0 0 (by decide)) rfl ?_
        refine v_iloadn dX6_call_32 rfl ?_
        refine v_iloadn dX6_call_33 rfl ?_
        refine v_iast dX6_call_34 (hH 2 0 (by decide)) (by omega) (by omega) (by decide) ?_
        generalize hMe34 : wup _ _ _ = M34
        have hO : wO cntX fw M M34 := by rw [← hMe34]; exact hO.up (k := 2) (i := 0) (by decide)
        obtain ⟨s34, hs34⟩ : ∃ z, z = ups s 2 0 (a.toNat) (v) := ⟨_, rfl⟩
        have hH : wH cntX (cellX G fw) fw s34 M34 := by rw [← hMe34, hs34]; exact wH.up hJ hH (k := 2) (i := 0) (a.toNat) (v) (by decide) rfl
        refine v_iload dX6_call_35 rfl ?_
        exact v_iret dX6_call_37 rfl ⟨(Nat.le_of_ble_eq_true rfl), (Nat.le_of_ble_eq_true rfl)⟩ (by omega) ⟨s34, ⟨hJ, hH, invX_n hI (fun k h1 h2 => by rw [hs34]; first | exact ups_kf _ h1 | exact ups_kf _ h2) (fun j hj => by have h1 := hnm j hj; have h2 := hnm a.toNat (by omega); rw [hs34]; by_cases q : j = a.toNat <;> simp [ups, upz, q] <;> omega)⟩, hO, Or.inl ⟨by omega, by omega, by omega, rfl, hs34⟩⟩
  · refine v_iconst dX6_call_7 ?_
    exact v_iret dX6_call_8 rfl ⟨(Nat.le_of_ble_eq_true rfl), (Nat.le_of_ble_eq_true rfl)⟩ (by omega) ⟨s, hX, wO.rf, Or.inr (Or.inr ⟨by omega, by omega, by omega, rfl⟩)⟩
set_option maxHeartbeats 4000000 in
set_option maxRecDepth 100000 in
theorem tX6_shift {G : gG} {fw : Nat → Nat → Nat} {s : sG} {M : wM} (hX : wX G fw s M) {a v : Int} (ha : rng a) (hv : rng v) : wT G qX6_shift 0 0 [.ref (fw 0 0), .int (gI a), .int (gI v)] M (PX G fw M (fun x s' => (bt 0 a 3 ∧ bt (-50) v 50 ∧ x = s 4 0 a.toNat ∧ s' = ups s 4 0 a.toNat v) ∨ (¬ (bt 0 a 3 ∧ bt (-50) v 50) ∧ x = -1000 ∧ s' = s))) := by
  refine wT.intro (by decide) (Nat.le_of_ble_eq_true rfl) (fun sz => ?_)
  obtain ⟨hJ, hH, hI⟩ := id hX
  have hO : wO cntX fw M M := wO.rf
  have h0 := hX.2.2.1
  have hnm := hX.2.2.2.1
  have hsh := hX.2.2.2.2.1
  have h8 := hX.2.2.2.2.2.1
  refine v_iloadn dX6_shift_0 rfl ?_
  refine v_iconst dX6_shift_1 ?_
  refine v_iconst dX6_shift_2 ?_
  refine v_callS (tX6_outside (by omega) (by omega) (by omega)) lc_X6_69 ⟨(Nat.le_of_ble_eq_true rfl), (Nat.le_of_ble_eq_true rfl)⟩ dX6_shift_3 rfl rfl (Nat.le_of_ble_eq_true rfl) ⟨(Nat.le_of_ble_eq_true rfl), (Nat.le_of_ble_eq_true rfl)⟩ (kP fun r3 hr3 hp3 => ?_)
  refine v_if_ne 20 dX6_shift_6 (by decide) (by omega) (fun h6 => ?_) (fun h6 => ?_)
  · refine v_sipush dX6_shift_20 (by decide) ?_
    exact v_iret dX6_shift_23 rfl ⟨(Nat.le_of_ble_eq_true rfl), (Nat.le_of_ble_eq_true rfl)⟩ (by omega) ⟨s, hX, wO.rf, Or.inr ⟨by omega, by omega, rfl⟩⟩
  · refine v_iloadn dX6_shift_9 rfl ?_
    refine v_bipush dX6_shift_10 (by decide) ?_
    refine v_bipush dX6_shift_12 (by decide) ?_
    refine v_callS (tX6_outside (by omega) (by omega) (by omega)) lc_X6_69 ⟨(Nat.le_of_ble_eq_true rfl), (Nat.le_of_ble_eq_true rfl)⟩ dX6_shift_14 rfl rfl (Nat.le_of_ble_eq_true rfl) ⟨(Nat.le_of_ble_eq_true rfl), (Nat.le_of_ble_eq_true rfl)⟩ (kP fun r14 hr14 hp14 => ?_)
    refine v_if_eq 24 dX6_shift_17 (by decide) (by omega) (fun h17 => ?_) (fun h17 => ?_)
    · refine v_aloadn dX6_shift_24 rfl ?_
      refine v_get dX6_shift_25 gf_X6_22 (hH 0 0 (by decide)) rfl ?_
      refine v_iloadn dX6_shift_28 rfl ?_
      refine v_iald dX6_shift_29 (hH 4 0 (by decide)) (by omega) (by omega) (by decide) ?_
      have hna := hsh a.toNat (by omega)
      refine v_istoren dX6_shift_30 (Nat.le_of_ble_eq_true rfl) ?_
      refine v_aloadn dX6_shift_31 rfl ?_
      refine v_get dX6_shift_32 gf_X6_22 (hH 0 0 (by decide)) rfl ?_
      refine v_iloadn dX6_shift_35 rfl ?_
      refine v_iloadn dX6_shift_36 rfl ?_
      refine v_iast dX6_shift_37 (hH 4 0 (by decide)) (by omega) (by omega) (by decide) ?_
      generalize hMe37 : wup _ _ _ = M37
      have hO : wO cntX fw M M37 := by rw [← hMe37]; exact hO.up (k := 4) (i := 0) (by decide)
      obtain ⟨s37, hs37⟩ : ∃ z, z = ups s 4 0 (a.toNat) (v) := ⟨_, rfl⟩
      have hH : wH cntX (cellX G fw) fw s37 M37 := by rw [← hMe37, hs37]; exact wH.up hJ hH (k := 4) (i := 0) (a.toNat) (v) (by decide) rfl
      refine v_iloadn dX6_shift_38 rfl ?_
      exact v_iret dX6_shift_39 rfl ⟨(Nat.le_of_ble_eq_true rfl), (Nat.le_of_ble_eq_true rfl)⟩ (by omega) ⟨s37, ⟨hJ, hH, invX_h hI (fun k hk => by rw [hs37]; exact ups_kf _ hk) (fun j hj => by have h1 := hsh j hj; rw [hs37]; by_cases q : j = a.toNat <;> simp [ups, upz, q] <;> omega)⟩, hO, Or.inl ⟨by omega, by omega, rfl, hs37⟩⟩
    · refine v_sipush dX6_shift_20 (by decide) ?_
      exact v_iret dX6_shift_23 rfl ⟨(Nat.le_of_ble_eq_true rfl), (Nat.le_of_ble_eq_true rfl)⟩ (by omega) ⟨s, hX, wO.rf, Or.inr ⟨by omega, by omega, rfl⟩⟩
set_option maxHeartbeats 4000000 in
set_option maxRecDepth 100000 in
theorem tX6_noMasks {G : gG} {fw : Nat → Nat → Nat} {s : sG} {M : wM} (hX : wX G fw s M) : wT G qX6_noMasks 0 0 [.ref (fw 0 0)] M (PX G fw M (fun x s' => x = s 0 0 8 ∧ s' = ups s 0 0 8 0)) := by
  refine wT.intro (by decide) (Nat.le_of_ble_eq_true rfl) (fun sz => ?_)
  obtain ⟨hJ, hH, hI⟩ := id hX
  have hO : wO cntX fw M M := wO.rf
  have h0 := hX.2.2.1
  have hnm := hX.2.2.2.1
  have hsh := hX.2.2.2.2.1
  have h8 := hX.2.2.2.2.2.1
  refine v_aloadn dX6_noMasks_0 rfl ?_
  refine v_get dX6_noMasks_1 gf_X6_50 (hH 0 0 (by decide)) rfl ?_
  refine v_istoren dX6_noMasks_4 (Nat.le_of_ble_eq_true rfl) ?_
  refine v_aloadn dX6_noMasks_5 rfl ?_
  refine v_iconst dX6_noMasks_6 ?_
  refine v_put dX6_noMasks_7 pf_X6_50 (hH 0 0 (by decide)) rfl rfl (Nat.le_of_ble_eq_true rfl) ?_
  generalize hMe7 : wup _ _ _ = M7
  have hO : wO cntX fw M M7 := by rw [← hMe7]; exact hO.up (k := 0) (i := 0) (by decide)
  obtain ⟨s7, hs7⟩ : ∃ z, z = ups s 0 0 (8) (0) := ⟨_, rfl⟩
  have hH : wH cntX (cellX G fw) fw s7 M7 := by rw [← hMe7, hs7]; exact wH.up hJ hH (k := 0) (i := 0) (8) (0) (by decide) rfl
  refine v_iloadn dX6_noMasks_10 rfl ?_
  exact v_iret dX6_noMasks_11 rfl ⟨(Nat.le_of_ble_eq_true rfl), (Nat.le_of_ble_eq_true rfl)⟩ (by omega) ⟨s7, ⟨hJ, hH, invX_z hI (fun k hk => by rw [hs7]; exact ups_kf _ hk) (by rw [hs7]; simp [ups_at, upz] <;> omega)⟩, hO, rfl, hs7⟩
