def rix (a b : Int) : Nat := (a * 12 + b).toNat
def putS (s : sG) (i : Nat) (t v : Int) : sG := ups (ups (ups s 11 i (s 10 i 2).toNat t) 12 i (s 10 i 2).toNat v) 10 i 2 (s 10 i 2 + 1)
def lastS (s : sG) (i : Nat) : Int := tickF (s 10 i 2) (s 11 i) (s 10 i 2 - 1)
set_option maxHeartbeats 4000000 in
set_option maxRecDepth 100000 in
theorem tX6_change {G : gG} {fw : Nat → Nat → Nat} {s : sG} {M : wM} (hX : wX G fw s M) {a b t v : Int} (ha : rng a) (hb : rng b) (ht : rng t) (hv : rng v) : wT G qX6_change 0 0 [.ref (fw 0 0), .int (gI a), .int (gI b), .int (gI t), .int (gI v)] M (PX G fw M (fun x s' => (¬ (bt 0 a 1 ∧ bt 0 b 11 ∧ bt 0 t 3999 ∧ bt 0 v 256) ∧ x = -1 ∧ s' = s) ∨ ((bt 0 a 1 ∧ bt 0 b 11 ∧ bt 0 t 3999 ∧ bt 0 v 256) ∧ ((t ≤ lastS s (rix a b) ∧ x = -2 ∧ s' = s) ∨ (lastS s (rix a b) < t ∧ s 10 (rix a b) 2 = 50 ∧ x = -3 ∧ s' = s) ∨ (lastS s (rix a b) < t ∧ s 10 (rix a b) 2 < 50 ∧ x = s 10 (rix a b) 2 + 1 ∧ s' = putS s (rix a b) t v))))) := by
  refine wT.intro (by decide) (Nat.le_of_ble_eq_true rfl) (fun sz => ?_)
  obtain ⟨hJ, hH, hI⟩ := id hX
  have hO : wO cntX fw M M := wO.rf
  have h0 := hX.2.2.1
  have hnm := hX.2.2.2.1
  have hsh := hX.2.2.2.2.1
  have h8 := hX.2.2.2.2.2.1
  have eix : (a * 12 + b).toNat = rix a b := rfl
  refine v_iloadn dX6_change_0 rfl ?_
  refine v_iloadn dX6_change_1 rfl ?_
  refine v_callS (tX6_isNoRow (by omega) (by omega)) lc_X6_65 ⟨(Nat.le_of_ble_eq_true rfl), (Nat.le_of_ble_eq_true rfl)⟩ dX6_change_2 rfl rfl (Nat.le_of_ble_eq_true rfl) ⟨(Nat.le_of_ble_eq_true rfl), (Nat.le_of_ble_eq_true rfl)⟩ (kP fun r2 hr2 hp2 => ?_)
  refine v_if_ne 27 dX6_change_5 (by decide) (by omega) (fun h5 => ?_) (fun h5 => ?_)
  · refine v_iconst dX6_change_27 ?_
    exact v_iret dX6_change_28 rfl ⟨(Nat.le_of_ble_eq_true rfl), (Nat.le_of_ble_eq_true rfl)⟩ (by omega) ⟨s, hX, wO.rf, Or.inl ⟨by omega, by omega, rfl⟩⟩
  · refine v_iloadn dX6_change_8 rfl ?_
    refine v_iconst dX6_change_9 ?_
    refine v_sipush dX6_change_10 (by decide) ?_
    refine v_callS (tX6_outside (by omega) (by omega) (by omega)) lc_X6_69 ⟨(Nat.le_of_ble_eq_true rfl), (Nat.le_of_ble_eq_true rfl)⟩ dX6_change_13 rfl rfl (Nat.le_of_ble_eq_true rfl) ⟨(Nat.le_of_ble_eq_true rfl), (Nat.le_of_ble_eq_true rfl)⟩ (kP fun r13 hr13 hp13 => ?_)
    refine v_if_ne 27 dX6_change_16 (by decide) (by omega) (fun h16 => ?_) (fun h16 => ?_)
    · refine v_iconst dX6_change_27 ?_
      exact v_iret dX6_change_28 rfl ⟨(Nat.le_of_ble_eq_true rfl), (Nat.le_of_ble_eq_true rfl)⟩ (by omega) ⟨s, hX, wO.rf, Or.inl ⟨by omega, by omega, rfl⟩⟩
    · refine v_iload dX6_change_19 rfl ?_
      refine v_callS (tX6_isNoValue (by omega)) lc_X6_73 ⟨(Nat.le_of_ble_eq_true rfl), (Nat.le_of_ble_eq_true rfl)⟩ dX6_change_21 rfl rfl (Nat.le_of_ble_eq_true rfl) ⟨(Nat.le_of_ble_eq_true rfl), (Nat.le_of_ble_eq_true rfl)⟩ (kP fun r21 hr21 hp21 => ?_)
      refine v_if_eq 29 dX6_change_24 (by decide) (by omega) (fun h24 => ?_) (fun h24 => ?_)
      · refine v_aloadn dX6_change_29 rfl ?_
        refine v_iloadn dX6_change_30 rfl ?_
        refine v_iloadn dX6_change_31 rfl ?_
        refine v_callV (tX6_rowOf hX (by omega) (by omega)) lc_X6_77 ⟨(Nat.le_of_ble_eq_true rfl), (Nat.le_of_ble_eq_true rfl)⟩ dX6_change_32 rfl rfl (Nat.le_of_ble_eq_true rfl) ⟨(Nat.le_of_ble_eq_true rfl), (Nat.le_of_ble_eq_true rfl)⟩ ⟨_, _, _, _, (hH 0 0 (by decide)), rfl⟩ (kRp fun r32 hp32 => ?_)
        subst hp32
        have hrow := hX.row (i := (a * 12 + b).toNat) (by omega)
        have hrg := hrow.rg
        refine v_astore dX6_change_35 (Nat.le_of_ble_eq_true rfl) ?_
        refine v_aload dX6_change_37 rfl ?_
        refine v_callV (tX4_lastTick hrow) lc_X6_81 ⟨(Nat.le_of_ble_eq_true rfl), (Nat.le_of_ble_eq_true rfl)⟩ dX6_change_39 rfl rfl (Nat.le_of_ble_eq_true rfl) ⟨(Nat.le_of_ble_eq_true rfl), (Nat.le_of_ble_eq_true rfl)⟩ ⟨_, _, _, _, hrow.1, rfl⟩ (kP fun r39 hr39 hp39 => ?_)
        have el : lastS s (rix a b) = r39 := hp39.symm
        refine v_iloadn dX6_change_42 rfl ?_
        refine v_icmp_lt 49 dX6_change_43 (by decide) (by omega) (by omega) (fun h43 => ?_) (fun h43 => ?_)
        · refine v_aload dX6_change_49 rfl ?_
          refine v_iconst dX6_change_51 ?_
          refine v_callV (tX4_lacksRoom hrow (by omega)) lc_X6_85 ⟨(Nat.le_of_ble_eq_true rfl), (Nat.le_of_ble_eq_true rfl)⟩ dX6_change_52 rfl rfl (Nat.le_of_ble_eq_true rfl) ⟨(Nat.le_of_ble_eq_true rfl), (Nat.le_of_ble_eq_true rfl)⟩ ⟨_, _, _, _, hrow.1, rfl⟩ (kP fun r52 hr52 hp52 => ?_)
          refine v_if_eq 61 dX6_change_55 (by decide) (by omega) (fun h55 => ?_) (fun h55 => ?_)
          · refine v_aload dX6_change_61 rfl ?_
            refine v_iloadn dX6_change_63 rfl ?_
            refine v_iload dX6_change_64 rfl ?_
            refine v_callV (tX4_put hX (i := (a * 12 + b).toNat) (by omega) (by omega) (by omega)) lc_X6_88 ⟨(Nat.le_of_ble_eq_true rfl), (Nat.le_of_ble_eq_true rfl)⟩ dX6_change_66 rfl rfl (Nat.le_of_ble_eq_true rfl) ⟨(Nat.le_of_ble_eq_true rfl), (Nat.le_of_ble_eq_true rfl)⟩ ⟨_, _, _, _, hrow.1, rfl⟩ (kV fun M66 hp66 => ?_)
            obtain ⟨s66, hX66, hO66, hs66⟩ := hp66
            have hlt : s 10 (a * 12 + b).toNat 2 < 50 := by omega
            have hs66 : s66 = putS s (rix a b) t v := by rcases hs66 with h | h
                                                         · exact h.2
                                                         · exact absurd h.1 (by omega)
            have e66 : s66 10 (a * 12 + b).toNat 2 = s 10 (a * 12 + b).toNat 2 + 1 := by rw [hs66]; unfold putS; rw [eix, ups_at]; rfl
            refine v_aload dX6_change_69 rfl ?_
            refine v_callV (tX4_size (hX66.row (i := (a * 12 + b).toNat) (by omega))) lc_X6_92 ⟨(Nat.le_of_ble_eq_true rfl), (Nat.le_of_ble_eq_true rfl)⟩ dX6_change_71 rfl rfl (Nat.le_of_ble_eq_true rfl) ⟨(Nat.le_of_ble_eq_true rfl), (Nat.le_of_ble_eq_true rfl)⟩ ⟨_, _, _, _, (hX66.row (i := (a * 12 + b).toNat) (by omega)).1, rfl⟩ (kP fun r71 hr71 hp71 => ?_)
            exact v_iret dX6_change_74 rfl ⟨(Nat.le_of_ble_eq_true rfl), (Nat.le_of_ble_eq_true rfl)⟩ (by omega) ⟨s66, hX66, hO66, Or.inr ⟨by omega, Or.inr (Or.inr ⟨by omega, by rw [← eix]; omega, by rw [← eix]; omega, hs66⟩)⟩⟩
          · refine v_bipush dX6_change_58 (by decide) ?_
            exact v_iret dX6_change_60 rfl ⟨(Nat.le_of_ble_eq_true rfl), (Nat.le_of_ble_eq_true rfl)⟩ (by omega) ⟨s, hX, wO.rf, Or.inr ⟨by omega, Or.inr (Or.inl ⟨by omega, by rw [← eix]; omega, by omega, rfl⟩)⟩⟩
        · refine v_bipush dX6_change_46 (by decide) ?_
          exact v_iret dX6_change_48 rfl ⟨(Nat.le_of_ble_eq_true rfl), (Nat.le_of_ble_eq_true rfl)⟩ (by omega) ⟨s, hX, wO.rf, Or.inr ⟨by omega, Or.inl ⟨by omega, by omega, rfl⟩⟩⟩
      · refine v_iconst dX6_change_27 ?_
        exact v_iret dX6_change_28 rfl ⟨(Nat.le_of_ble_eq_true rfl), (Nat.le_of_ble_eq_true rfl)⟩ (by omega) ⟨s, hX, wO.rf, Or.inl ⟨by omega, by omega, rfl⟩⟩
set_option maxHeartbeats 4000000 in
set_option maxRecDepth 100000 in
theorem tX6_cut {G : gG} {fw : Nat → Nat → Nat} {s : sG} {M : wM} (hX : wX G fw s M) {a b t : Int} (ha : rng a) (hb : rng b) (ht : rng t) : wT G qX6_cut 0 0 [.ref (fw 0 0), .int (gI a), .int (gI b), .int (gI t)] M (PX G fw M (fun x s' => (¬ (bt 0 a 1 ∧ bt 0 b 11 ∧ bt 0 t 3999) ∧ x = -1 ∧ s' = s) ∨ ((bt 0 a 1 ∧ bt 0 b 11 ∧ bt 0 t 3999) ∧ ∃ z, lateP (s 10 (rix a b) 2) (s 11 (rix a b)) (t - 1) z ∧ s' = ups s 10 (rix a b) 2 (z + 1) ∧ x = s 10 (rix a b) 2 - (z + 1)))) := by
  refine wT.intro (by decide) (Nat.le_of_ble_eq_true rfl) (fun sz => ?_)
  obtain ⟨hJ, hH, hI⟩ := id hX
  have hO : wO cntX fw M M := wO.rf
  have h0 := hX.2.2.1
  have hnm := hX.2.2.2.1
  have hsh := hX.2.2.2.2.1
  have h8 := hX.2.2.2.2.2.1
  refine v_iloadn dX6_cut_0 rfl ?_
  refine v_iloadn dX6_cut_1 rfl ?_
  refine v_callS (tX6_isNoRow (by omega) (by omega)) lc_X6_65 ⟨(Nat.le_of_ble_eq_true rfl), (Nat.le_of_ble_eq_true rfl)⟩ dX6_cut_2 rfl rfl (Nat.le_of_ble_eq_true rfl) ⟨(Nat.le_of_ble_eq_true rfl), (Nat.le_of_ble_eq_true rfl)⟩ (kP fun r2 hr2 hp2 => ?_)
  refine v_if_ne 19 dX6_cut_5 (by decide) (by omega) (fun h5 => ?_) (fun h5 => ?_)
  · refine v_iconst dX6_cut_19 ?_
    exact v_iret dX6_cut_20 rfl ⟨(Nat.le_of_ble_eq_true rfl), (Nat.le_of_ble_eq_true rfl)⟩ (by omega) ⟨s, hX, wO.rf, Or.inl ⟨by omega, by omega, rfl⟩⟩
  · refine v_iloadn dX6_cut_8 rfl ?_
    refine v_iconst dX6_cut_9 ?_
    refine v_sipush dX6_cut_10 (by decide) ?_
    refine v_callS (tX6_outside (by omega) (by omega) (by omega)) lc_X6_69 ⟨(Nat.le_of_ble_eq_true rfl), (Nat.le_of_ble_eq_true rfl)⟩ dX6_cut_13 rfl rfl (Nat.le_of_ble_eq_true rfl) ⟨(Nat.le_of_ble_eq_true rfl), (Nat.le_of_ble_eq_true rfl)⟩ (kP fun r13 hr13 hp13 => ?_)
    refine v_if_eq 21 dX6_cut_16 (by decide) (by omega) (fun h16 => ?_) (fun h16 => ?_)
    · refine v_aloadn dX6_cut_21 rfl ?_
      refine v_iloadn dX6_cut_22 rfl ?_
      refine v_iloadn dX6_cut_23 rfl ?_
      refine v_callV (tX6_rowOf hX (by omega) (by omega)) lc_X6_77 ⟨(Nat.le_of_ble_eq_true rfl), (Nat.le_of_ble_eq_true rfl)⟩ dX6_cut_24 rfl rfl (Nat.le_of_ble_eq_true rfl) ⟨(Nat.le_of_ble_eq_true rfl), (Nat.le_of_ble_eq_true rfl)⟩ ⟨_, _, _, _, (hH 0 0 (by decide)), rfl⟩ (kRp fun r24 hp24 => ?_)
      subst hp24
      have hrow := hX.row (i := (a * 12 + b).toNat) (by omega)
      have hrg := hrow.rg
      refine v_iloadn dX6_cut_27 rfl ?_
      refine v_callV (tX4_dropFrom hX (i := (a * 12 + b).toNat) (by omega) (by omega)) lc_X6_106 ⟨(Nat.le_of_ble_eq_true rfl), (Nat.le_of_ble_eq_true rfl)⟩ dX6_cut_28 rfl rfl (Nat.le_of_ble_eq_true rfl) ⟨(Nat.le_of_ble_eq_true rfl), (Nat.le_of_ble_eq_true rfl)⟩ ⟨_, _, _, _, hrow.1, rfl⟩ (kI fun r28 M28 hr28 hp28 => ?_)
      obtain ⟨s28, z, hX28, hO28, hz, hs28, hx28⟩ := hp28
      exact v_iret dX6_cut_31 rfl ⟨(Nat.le_of_ble_eq_true rfl), (Nat.le_of_ble_eq_true rfl)⟩ (by omega) ⟨s28, hX28, hO28, Or.inr ⟨by omega, z, hz, hs28, hx28⟩⟩
    · refine v_iconst dX6_cut_19 ?_
      exact v_iret dX6_cut_20 rfl ⟨(Nat.le_of_ble_eq_true rfl), (Nat.le_of_ble_eq_true rfl)⟩ (by omega) ⟨s, hX, wO.rf, Or.inl ⟨by omega, by omega, rfl⟩⟩
set_option maxHeartbeats 4000000 in
set_option maxRecDepth 100000 in
theorem tX6_value {G : gG} {fw : Nat → Nat → Nat} {s : sG} {M : wM} (hX : wX G fw s M) {a b t : Int} (ha : rng a) (hb : rng b) (ht : rng t) : wT G qX6_value 0 0 [.ref (fw 0 0), .int (gI a), .int (gI b), .int (gI t)] M (iP fun x M' => M' = M ∧ ((¬ (bt 0 a 1 ∧ bt 0 b 11 ∧ bt 0 t 3999) ∧ x = -1) ∨ ((bt 0 a 1 ∧ bt 0 b 11 ∧ bt 0 t 3999) ∧ ∃ i, lateP (s 10 (rix a b) 2) (s 11 (rix a b)) t i ∧ x = valF (s 10 (rix a b) 2) (s 12 (rix a b)) i))) := by
  refine wT.intro (by decide) (Nat.le_of_ble_eq_true rfl) (fun sz => ?_)
  obtain ⟨hJ, hH, hI⟩ := id hX
  have hO : wO cntX fw M M := wO.rf
  have h0 := hX.2.2.1
  have hnm := hX.2.2.2.1
  have hsh := hX.2.2.2.2.1
  have h8 := hX.2.2.2.2.2.1
  refine v_iloadn dX6_value_0 rfl ?_
  refine v_iloadn dX6_value_1 rfl ?_
  refine v_callS (tX6_isNoRow (by omega) (by omega)) lc_X6_65 ⟨(Nat.le_of_ble_eq_true rfl), (Nat.le_of_ble_eq_true rfl)⟩ dX6_value_2 rfl rfl (Nat.le_of_ble_eq_true rfl) ⟨(Nat.le_of_ble_eq_true rfl), (Nat.le_of_ble_eq_true rfl)⟩ (kP fun r2 hr2 hp2 => ?_)
  refine v_if_ne 19 dX6_value_5 (by decide) (by omega) (fun h5 => ?_) (fun h5 => ?_)
  · refine v_iconst dX6_value_19 ?_
    exact v_iret dX6_value_20 rfl ⟨(Nat.le_of_ble_eq_true rfl), (Nat.le_of_ble_eq_true rfl)⟩ (by omega) ⟨rfl, Or.inl ⟨by omega, by omega⟩⟩
  · refine v_iloadn dX6_value_8 rfl ?_
    refine v_iconst dX6_value_9 ?_
    refine v_sipush dX6_value_10 (by decide) ?_
    refine v_callS (tX6_outside (by omega) (by omega) (by omega)) lc_X6_69 ⟨(Nat.le_of_ble_eq_true rfl), (Nat.le_of_ble_eq_true rfl)⟩ dX6_value_13 rfl rfl (Nat.le_of_ble_eq_true rfl) ⟨(Nat.le_of_ble_eq_true rfl), (Nat.le_of_ble_eq_true rfl)⟩ (kP fun r13 hr13 hp13 => ?_)
    refine v_if_eq 21 dX6_value_16 (by decide) (by omega) (fun h16 => ?_) (fun h16 => ?_)
    · refine v_aloadn dX6_value_21 rfl ?_
      refine v_iloadn dX6_value_22 rfl ?_
      refine v_iloadn dX6_value_23 rfl ?_
      refine v_callV (tX6_rowOf hX (by omega) (by omega)) lc_X6_77 ⟨(Nat.le_of_ble_eq_true rfl), (Nat.le_of_ble_eq_true rfl)⟩ dX6_value_24 rfl rfl (Nat.le_of_ble_eq_true rfl) ⟨(Nat.le_of_ble_eq_true rfl), (Nat.le_of_ble_eq_true rfl)⟩ ⟨_, _, _, _, (hH 0 0 (by decide)), rfl⟩ (kRp fun r24 hp24 => ?_)
      subst hp24
      have hrow := hX.row (i := (a * 12 + b).toNat) (by omega)
      have hrg := hrow.rg
      refine v_iloadn dX6_value_27 rfl ?_
      refine v_callV (tX4_valueAt hrow (by omega)) lc_X6_110 ⟨(Nat.le_of_ble_eq_true rfl), (Nat.le_of_ble_eq_true rfl)⟩ dX6_value_28 rfl rfl (Nat.le_of_ble_eq_true rfl) ⟨(Nat.le_of_ble_eq_true rfl), (Nat.le_of_ble_eq_true rfl)⟩ ⟨_, _, _, _, hrow.1, rfl⟩ (kP fun r28 hr28 hp28 => ?_)
      exact v_iret dX6_value_31 rfl ⟨(Nat.le_of_ble_eq_true rfl), (Nat.le_of_ble_eq_true rfl)⟩ (by omega) ⟨rfl, Or.inr ⟨by omega, hp28⟩⟩
    · refine v_iconst dX6_value_19 ?_
      exact v_iret dX6_value_20 rfl ⟨(Nat.le_of_ble_eq_true rfl), (Nat.le_of_ble_eq_true rfl)⟩ (by omega) ⟨rfl, Or.inl ⟨by omega, by omega⟩⟩
