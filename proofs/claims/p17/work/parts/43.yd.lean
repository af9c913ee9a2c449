set_option maxHeartbeats 4000000 in
set_option maxRecDepth 100000 in
theorem tX7_agree {G : gG} {fw : Nat → Nat → Nat} {s : sG} {M : wM} (hY : wY G fw s M) {a b : Int} (ha : rng a) (hb : rng b) : wT G qX7_agree 0 0 [.ref (fw 0 0), .int (gI a), .int (gI b)] M (iP fun x M' => M' = M ∧ (x = agF a b (s 0 0 1) ∧ (x = 0 ∨ x = 1))) := by
  refine wT.intro (by decide) (Nat.le_of_ble_eq_true rfl) (fun sz => ?_)
  have h0 := hY.2.2.1
  have hrw := hY.2.2.2.1
  have hnm := hY.2.2.2.2.1
  have hsh := hY.2.2.2.2.2.1
  have hmk := hY.2.2.2.2.2.2.1
  have hic := hY.2.2.2.2.2.2.2.1
  have hcn := hY.2.2.2.2.2.2.2.2.1
  have hgt := hY.2.2.2.2.2.2.2.2.2
  refine v_iloadn dX7_agree_0 rfl ?_
  refine v_iloadn dX7_agree_1 rfl ?_
  refine v_icmp_eq 27 dX7_agree_2 (by decide) (by omega) (by omega) (fun h2 => ?_) (fun h2 => ?_)
  · refine v_iconst dX7_agree_27 ?_
    refine v_goto 32 dX7_agree_28 (by decide) ?_
    exact v_zret dX7_agree_32 rfl ⟨(Nat.le_of_ble_eq_true rfl), (Nat.le_of_ble_eq_true rfl)⟩ (by omega) ⟨rfl, by unfold agF; split <;> omega, by omega⟩
  · refine v_aloadn dX7_agree_5 rfl ?_
    refine v_get dX7_agree_6 gf_X7_87 (hY.2.1 0 0 (by decide)) rfl ?_
    refine v_iconst dX7_agree_9 ?_
    refine v_icmp_ne 31 dX7_agree_10 (by decide) (by omega) (by omega) (fun h10 => ?_) (fun h10 => ?_)
    · refine v_iconst dX7_agree_31 ?_
      exact v_zret dX7_agree_32 rfl ⟨(Nat.le_of_ble_eq_true rfl), (Nat.le_of_ble_eq_true rfl)⟩ (by omega) ⟨rfl, by unfold agF; split <;> omega, by omega⟩
    · refine v_iloadn dX7_agree_13 rfl ?_
      refine v_sipush dX7_agree_14 (by decide) ?_
      refine v_icmp_eq 27 dX7_agree_17 (by decide) (by omega) (by omega) (fun h17 => ?_) (fun h17 => ?_)
      · refine v_iconst dX7_agree_27 ?_
        refine v_goto 32 dX7_agree_28 (by decide) ?_
        exact v_zret dX7_agree_32 rfl ⟨(Nat.le_of_ble_eq_true rfl), (Nat.le_of_ble_eq_true rfl)⟩ (by omega) ⟨rfl, by unfold agF; split <;> omega, by omega⟩
      · refine v_iloadn dX7_agree_20 rfl ?_
        refine v_sipush dX7_agree_21 (by decide) ?_
        refine v_icmp_ne 31 dX7_agree_24 (by decide) (by omega) (by omega) (fun h24 => ?_) (fun h24 => ?_)
        · refine v_iconst dX7_agree_31 ?_
          exact v_zret dX7_agree_32 rfl ⟨(Nat.le_of_ble_eq_true rfl), (Nat.le_of_ble_eq_true rfl)⟩ (by omega) ⟨rfl, by unfold agF; split <;> omega, by omega⟩
        · refine v_iconst dX7_agree_27 ?_
          refine v_goto 32 dX7_agree_28 (by decide) ?_
          exact v_zret dX7_agree_32 rfl ⟨(Nat.le_of_ble_eq_true rfl), (Nat.le_of_ble_eq_true rfl)⟩ (by omega) ⟨rfl, by unfold agF; split <;> omega, by omega⟩
set_option maxHeartbeats 4000000 in
set_option maxRecDepth 100000 in
theorem tX7_isMasked_loop {sz : Nat} {M0 : wM} {G : gG} {fw : Nat → Nat → Nat} {s : sG} {M : wM} (hY : wY G fw s M) {a t : Int} (ha : bt 0 a 11) (ht : rng t) : ∀ (k : Nat) (u i : Int), 0 ≤ 11 - i → 11 - i < (k : Int) → (bt 0 i (s 0 0 8)) → (bt 0 u 1) → wV G qX7_isMasked 0 0 sz M0 0 0 5 [(0, .ref (fw 0 0)), (1, .int (gI a)), (2, .int (gI t)), (3, .int (gI u)), (4, .int (gI i))] [] M (iP fun x M' => M' = M ∧ (x = 0 ∨ x = 1)) := by
  intro k
  induction k with
  | zero =>
    intros
    omega
  | succ k ih =>
    intro u i hmz hml h1 h2
    have h0 := hY.2.2.1
    have hrw := hY.2.2.2.1
    have hnm := hY.2.2.2.2.1
    have hsh := hY.2.2.2.2.2.1
    have hmk := hY.2.2.2.2.2.2.1
    have hic := hY.2.2.2.2.2.2.2.1
    have hcn := hY.2.2.2.2.2.2.2.2.1
    have hgt := hY.2.2.2.2.2.2.2.2.2
    refine v_iload dX7_isMasked_5 rfl ?_
    refine v_aloadn dX7_isMasked_7 rfl ?_
    refine v_get dX7_isMasked_8 gf_X7_90 (hY.2.1 0 0 (by decide)) rfl ?_
    refine v_icmp_ge 100 dX7_isMasked_11 (by decide) (by omega) (by omega) (fun h11 => ?_) (fun h11 => ?_)
    · refine v_iloadn dX7_isMasked_100 rfl ?_
      exact v_zret dX7_isMasked_101 rfl ⟨(Nat.le_of_ble_eq_true rfl), (Nat.le_of_ble_eq_true rfl)⟩ (by omega) ⟨rfl, by omega⟩
    · refine v_iloadn dX7_isMasked_14 rfl ?_
      refine v_if_ne 88 dX7_isMasked_15 (by decide) (by omega) (fun h15 => ?_) (fun h15 => ?_)
      · refine v_iconst dX7_isMasked_88 ?_
        refine v_goto 93 dX7_isMasked_89 (by decide) ?_
        refine v_istoren dX7_isMasked_93 (Nat.le_of_ble_eq_true rfl) ?_
        refine v_iinc dX7_isMasked_94 rfl (Nat.le_of_ble_eq_true rfl) ?_
        refine v_goto 5 dX7_isMasked_97 (by decide) ?_
        refine wV.locs (lv' := [(0, .ref (fw 0 0)), (1, .int (gI a)), (2, .int (gI t)), (3, .int (gI _)), (4, .int (gI _))]) ⟨rfl, rfl, rfl, rfl, rfl, trivial⟩ (ih _ _ (by omega) (by omega) (by omega) (by omega))
      · refine v_aloadn dX7_isMasked_18 rfl ?_
        refine v_get dX7_isMasked_19 gf_X7_32 (hY.2.1 0 0 (by decide)) rfl ?_
        refine v_iload dX7_isMasked_22 rfl ?_
        refine v_iald dX7_isMasked_24 (hY.2.1 7 0 (by decide)) (by omega) (by omega) (by decide) ?_
        have hmi := hmk i.toNat (by omega)
        refine v_iloadn dX7_isMasked_25 rfl ?_
        refine v_icmp_ne 92 dX7_isMasked_26 (by decide) (by omega) (by omega) (fun h26 => ?_) (fun h26 => ?_)
        · refine v_iconst dX7_isMasked_92 ?_
          refine v_istoren dX7_isMasked_93 (Nat.le_of_ble_eq_true rfl) ?_
          refine v_iinc dX7_isMasked_94 rfl (Nat.le_of_ble_eq_true rfl) ?_
          refine v_goto 5 dX7_isMasked_97 (by decide) ?_
          refine wV.locs (lv' := [(0, .ref (fw 0 0)), (1, .int (gI a)), (2, .int (gI t)), (3, .int (gI _)), (4, .int (gI _))]) ⟨rfl, rfl, rfl, rfl, rfl, trivial⟩ (ih _ _ (by omega) (by omega) (by omega) (by omega))
        · refine v_aloadn dX7_isMasked_29 rfl ?_
          refine v_get dX7_isMasked_30 gf_X7_41 (hY.2.1 0 0 (by decide)) rfl ?_
          refine v_iload dX7_isMasked_33 rfl ?_
          refine v_iald dX7_isMasked_35 (hY.2.1 10 0 (by decide)) (by omega) (by omega) (by decide) ?_
          refine v_if_ge 65 dX7_isMasked_36 (by decide) (by omega) (fun h36 => ?_) (fun h36 => ?_)
          · refine v_aloadn dX7_isMasked_65 rfl ?_
            refine v_iconst dX7_isMasked_66 ?_
            refine v_aloadn dX7_isMasked_67 rfl ?_
            refine v_get dX7_isMasked_68 gf_X7_41 (hY.2.1 0 0 (by decide)) rfl ?_
            refine v_iload dX7_isMasked_71 rfl ?_
            refine v_iald dX7_isMasked_73 (hY.2.1 10 0 (by decide)) (by omega) (by omega) (by decide) ?_
            refine v_iloadn dX7_isMasked_74 rfl ?_
            refine v_callV (tX7_at hY (by omega) (by omega) (by omega)) lc_X7_83 ⟨(Nat.le_of_ble_eq_true rfl), (Nat.le_of_ble_eq_true rfl)⟩ dX7_isMasked_75 rfl rfl (Nat.le_of_ble_eq_true rfl) ⟨(Nat.le_of_ble_eq_true rfl), (Nat.le_of_ble_eq_true rfl)⟩ ⟨_, _, _, _, hY.2.1 0 0 (by decide), rfl⟩ (kP fun r75 hr75 hp75 => ?_)
            refine v_aloadn dX7_isMasked_78 rfl ?_
            refine v_get dX7_isMasked_79 gf_X7_35 (hY.2.1 0 0 (by decide)) rfl ?_
            refine v_iload dX7_isMasked_82 rfl ?_
            refine v_iald dX7_isMasked_84 (hY.2.1 8 0 (by decide)) (by omega) (by omega) (by decide) ?_
            refine v_icmp_ne 92 dX7_isMasked_85 (by decide) (by omega) (by omega) (fun h85 => ?_) (fun h85 => ?_)
            · refine v_iconst dX7_isMasked_92 ?_
              refine v_istoren dX7_isMasked_93 (Nat.le_of_ble_eq_true rfl) ?_
              refine v_iinc dX7_isMasked_94 rfl (Nat.le_of_ble_eq_true rfl) ?_
              refine v_goto 5 dX7_isMasked_97 (by decide) ?_
              refine wV.locs (lv' := [(0, .ref (fw 0 0)), (1, .int (gI a)), (2, .int (gI t)), (3, .int (gI _)), (4, .int (gI _))]) ⟨rfl, rfl, rfl, rfl, rfl, trivial⟩ (ih _ _ (by omega) (by omega) (by omega) (by omega))
            · refine v_iconst dX7_isMasked_88 ?_
              refine v_goto 93 dX7_isMasked_89 (by decide) ?_
              refine v_istoren dX7_isMasked_93 (Nat.le_of_ble_eq_true rfl) ?_
              refine v_iinc dX7_isMasked_94 rfl (Nat.le_of_ble_eq_true rfl) ?_
              refine v_goto 5 dX7_isMasked_97 (by decide) ?_
              refine wV.locs (lv' := [(0, .ref (fw 0 0)), (1, .int (gI a)), (2, .int (gI t)), (3, .int (gI _)), (4, .int (gI _))]) ⟨rfl, rfl, rfl, rfl, rfl, trivial⟩ (ih _ _ (by omega) (by omega) (by omega) (by omega))
          · refine v_iloadn dX7_isMasked_39 rfl ?_
            refine v_aloadn dX7_isMasked_40 rfl ?_
            refine v_get dX7_isMasked_41 gf_X7_35 (hY.2.1 0 0 (by decide)) rfl ?_
            refine v_iload dX7_isMasked_44 rfl ?_
            refine v_iald dX7_isMasked_46 (hY.2.1 8 0 (by decide)) (by omega) (by omega) (by decide) ?_
            refine v_aloadn dX7_isMasked_47 rfl ?_
            refine v_get dX7_isMasked_48 gf_X7_38 (hY.2.1 0 0 (by decide)) rfl ?_
            refine v_iload dX7_isMasked_51 rfl ?_
            refine v_iald dX7_isMasked_53 (hY.2.1 9 0 (by decide)) (by omega) (by omega) (by decide) ?_
            refine v_iconst dX7_isMasked_54 ?_
            refine v_isub dX7_isMasked_55 ?_
            refine v_callS (tX7_in (by omega) (by omega) (by omega)) lc_X7_60 ⟨(Nat.le_of_ble_eq_true rfl), (Nat.le_of_ble_eq_true rfl)⟩ dX7_isMasked_56 rfl rfl (Nat.le_of_ble_eq_true rfl) ⟨(Nat.le_of_ble_eq_true rfl), (Nat.le_of_ble_eq_true rfl)⟩ (kP fun r56 hr56 hp56 => ?_)
            refine v_if_eq 92 dX7_isMasked_59 (by decide) (by omega) (fun h59 => ?_) (fun h59 => ?_)
            · refine v_iconst dX7_isMasked_92 ?_
              refine v_istoren dX7_isMasked_93 (Nat.le_of_ble_eq_true rfl) ?_
              refine v_iinc dX7_isMasked_94 rfl (Nat.le_of_ble_eq_true rfl) ?_
              refine v_goto 5 dX7_isMasked_97 (by decide) ?_
              refine wV.locs (lv' := [(0, .ref (fw 0 0)), (1, .int (gI a)), (2, .int (gI t)), (3, .int (gI _)), (4, .int (gI _))]) ⟨rfl, rfl, rfl, rfl, rfl, trivial⟩ (ih _ _ (by omega) (by omega) (by omega) (by omega))
            · refine v_goto 88 dX7_isMasked_62 (by decide) ?_
              refine v_iconst dX7_isMasked_88 ?_
              refine v_goto 93 dX7_isMasked_89 (by decide) ?_
              refine v_istoren dX7_isMasked_93 (Nat.le_of_ble_eq_true rfl) ?_
              refine v_iinc dX7_isMasked_94 rfl (Nat.le_of_ble_eq_true rfl) ?_
              refine v_goto 5 dX7_isMasked_97 (by decide) ?_
              refine wV.locs (lv' := [(0, .ref (fw 0 0)), (1, .int (gI a)), (2, .int (gI t)), (3, .int (gI _)), (4, .int (gI _))]) ⟨rfl, rfl, rfl, rfl, rfl, trivial⟩ (ih _ _ (by omega) (by omega) (by omega) (by omega))
set_option maxHeartbeats 4000000 in
set_option maxRecDepth 100000 in
theorem tX7_isMasked {G : gG} {fw : Nat → Nat → Nat} {s : sG} {M : wM} (hY : wY G fw s M) {a t : Int} (ha : bt 0 a 11) (ht : rng t) : wT G qX7_isMasked 0 0 [.ref (fw 0 0), .int (gI a), .int (gI t)] M (iP fun x M' => M' = M ∧ (x = 0 ∨ x = 1)) := by
  refine wT.intro (by decide) (Nat.le_of_ble_eq_true rfl) (fun sz => ?_)
  have h0 := hY.2.2.1
  have hrw := hY.2.2.2.1
  have hnm := hY.2.2.2.2.1
  have hsh := hY.2.2.2.2.2.1
  have hmk := hY.2.2.2.2.2.2.1
  have hic := hY.2.2.2.2.2.2.2.1
  have hcn := hY.2.2.2.2.2.2.2.2.1
  have hgt := hY.2.2.2.2.2.2.2.2.2
  refine v_iconst dX7_isMasked_0 ?_
  refine v_istoren dX7_isMasked_1 (Nat.le_of_ble_eq_true rfl) ?_
  refine v_iconst dX7_isMasked_2 ?_
  refine v_istore dX7_isMasked_3 (Nat.le_of_ble_eq_true rfl) ?_
  refine wV.locs (lv' := [(0, .ref (fw 0 0)), (1, .int (gI a)), (2, .int (gI t)), (3, .int (gI (0))), (4, .int (gI (0)))]) ⟨rfl, rfl, rfl, rfl, rfl, trivial⟩ (tX7_isMasked_loop hY ha ht 20 _ _ (by omega) (by omega) (by omega) (by omega))
set_option maxHeartbeats 4000000 in
set_option maxRecDepth 100000 in
theorem tX7_differs {G : gG} {fw : Nat → Nat → Nat} {s : sG} {M : wM} (hY : wY G fw s M) {a t k : Int} (ha : bt 0 a 11) (ht : bt 0 t 4000) (hk : bt (-50) k 50) : wT G qX7_differs 0 0 [.ref (fw 0 0), .int (gI a), .int (gI t), .int (gI k)] M (iP fun x M' => M' = M ∧ (x = 0 ∨ x = 1)) := by
  refine wT.intro (by decide) (Nat.le_of_ble_eq_true rfl) (fun sz => ?_)
  have h0 := hY.2.2.1
  have hrw := hY.2.2.2.1
  have hnm := hY.2.2.2.2.1
  have hsh := hY.2.2.2.2.2.1
  have hmk := hY.2.2.2.2.2.2.1
  have hic := hY.2.2.2.2.2.2.2.1
  have hcn := hY.2.2.2.2.2.2.2.2.1
  have hgt := hY.2.2.2.2.2.2.2.2.2
  have hna := hnm a.toNat (by omega)
  refine v_aloadn dX7_differs_0 rfl ?_
  refine v_aloadn dX7_differs_1 rfl ?_
  refine v_iconst dX7_differs_2 ?_
  refine v_iloadn dX7_differs_3 rfl ?_
  refine v_iloadn dX7_differs_4 rfl ?_
  refine v_callV (tX7_at hY (by omega) (by omega) (by omega)) lc_X7_83 ⟨(Nat.le_of_ble_eq_true rfl), (Nat.le_of_ble_eq_true rfl)⟩ dX7_differs_5 rfl rfl (Nat.le_of_ble_eq_true rfl) ⟨(Nat.le_of_ble_eq_true rfl), (Nat.le_of_ble_eq_true rfl)⟩ ⟨_, _, _, _, hY.2.1 0 0 (by decide), rfl⟩ (kP fun r5 hr5 hp5 => ?_)
  refine v_aloadn dX7_differs_8 rfl ?_
  refine v_iconst dX7_differs_9 ?_
  refine v_aloadn dX7_differs_10 rfl ?_
  refine v_get dX7_differs_11 gf_X7_23 (hY.2.1 0 0 (by decide)) rfl ?_
  refine v_iloadn dX7_differs_14 rfl ?_
  refine v_iald dX7_differs_15 (hY.2.1 4 0 (by decide)) (by omega) (by omega) (by decide) ?_
  refine v_iloadn dX7_differs_16 rfl ?_
  refine v_iloadn dX7_differs_17 rfl ?_
  refine v_iadd dX7_differs_18 ?_
  refine v_callV (tX7_at hY (by omega) (by omega) (by omega)) lc_X7_83 ⟨(Nat.le_of_ble_eq_true rfl), (Nat.le_of_ble_eq_true rfl)⟩ dX7_differs_19 rfl rfl (Nat.le_of_ble_eq_true rfl) ⟨(Nat.le_of_ble_eq_true rfl), (Nat.le_of_ble_eq_true rfl)⟩ ⟨_, _, _, _, hY.2.1 0 0 (by decide), rfl⟩ (kP fun r19 hr19 hp19 => ?_)
  refine v_callV (tX7_agree hY hr5 hr19) lc_X7_97 ⟨(Nat.le_of_ble_eq_true rfl), (Nat.le_of_ble_eq_true rfl)⟩ dX7_differs_22 rfl rfl (Nat.le_of_ble_eq_true rfl) ⟨(Nat.le_of_ble_eq_true rfl), (Nat.le_of_ble_eq_true rfl)⟩ ⟨_, _, _, _, hY.2.1 0 0 (by decide), rfl⟩ (kP fun r22 hr22 hp22 => ?_)
  refine v_if_ne 41 dX7_differs_25 (by decide) (by omega) (fun h25 => ?_) (fun h25 => ?_)
  · refine v_iconst dX7_differs_41 ?_
    exact v_zret dX7_differs_42 rfl ⟨(Nat.le_of_ble_eq_true rfl), (Nat.le_of_ble_eq_true rfl)⟩ (by omega) ⟨rfl, by omega⟩
  · refine v_aloadn dX7_differs_28 rfl ?_
    refine v_iloadn dX7_differs_29 rfl ?_
    refine v_iloadn dX7_differs_30 rfl ?_
    refine v_callV (tX7_isMasked hY ha (by omega)) lc_X7_100 ⟨(Nat.le_of_ble_eq_true rfl), (Nat.le_of_ble_eq_true rfl)⟩ dX7_differs_31 rfl rfl (Nat.le_of_ble_eq_true rfl) ⟨(Nat.le_of_ble_eq_true rfl), (Nat.le_of_ble_eq_true rfl)⟩ ⟨_, _, _, _, hY.2.1 0 0 (by decide), rfl⟩ (kP fun r31 hr31 hp31 => ?_)
    refine v_if_ne 41 dX7_differs_34 (by decide) (by omega) (fun h34 => ?_) (fun h34 => ?_)
    · refine v_iconst dX7_differs_41 ?_
      exact v_zret dX7_differs_42 rfl ⟨(Nat.le_of_ble_eq_true rfl), (Nat.le_of_ble_eq_true rfl)⟩ (by omega) ⟨rfl, by omega⟩
    · refine v_iconst dX7_differs_37 ?_
      refine v_goto 42 dX7_differs_38 (by decide) ?_
      exact v_zret dX7_differs_42 rfl ⟨(Nat.le_of_ble_eq_true rfl), (Nat.le_of_ble_eq_true rfl)⟩ (by omega) ⟨rfl, by omega⟩
set_option maxHeartbeats 4000000 in
set_option maxRecDepth 100000 in
theorem tX7_next_loop {sz : Nat} {M0 : wM} {G : gG} {fw : Nat → Nat → Nat} {s : sG} {M : wM} (hY : wY G fw s M) {a t w : Int} (ha : bt 0 a 11) (ht : bt 0 t 4000) (hw : bt (-50) w 50) : ∀ (k : Nat) (n i : Int), 0 ≤ 11 - i → 11 - i < (k : Int) → (bt 0 i (s 0 0 8)) → (bt (t + 1) n 100050) → wV G qX7_next 0 0 sz M0 0 0 31 [(0, .ref (fw 0 0)), (1, .int (gI a)), (2, .int (gI t)), (3, .int (gI w)), (4, .int (gI n)), (5, .int (gI i))] [] M (iP fun x M' => M' = M ∧ bt (t + 1) x 100050) := by
  intro k
  induction k with
  | zero =>
    intros
    omega
  | succ k ih =>
    intro n i hmz hml h1 h2
    have h0 := hY.2.2.1
    have hrw := hY.2.2.2.1
    have hnm := hY.2.2.2.2.1
    have hsh := hY.2.2.2.2.2.1
    have hmk := hY.2.2.2.2.2.2.1
    have hic := hY.2.2.2.2.2.2.2.1
    have hcn := hY.2.2.2.2.2.2.2.2.1
    have hgt := hY.2.2.2.2.2.2.2.2.2
    refine v_iload dX7_next_31 rfl ?_
    refine v_aloadn dX7_next_33 rfl ?_
    refine v_get dX7_next_34 gf_X7_90 (hY.2.1 0 0 (by decide)) rfl ?_
    refine v_icmp_ge 157 dX7_next_37 (by decide) (by omega) (by omega) (fun h37 => ?_) (fun h37 => ?_)
    · refine v_iload dX7_next_157 rfl ?_
      exact v_iret dX7_next_159 rfl ⟨(Nat.le_of_ble_eq_true rfl), (Nat.le_of_ble_eq_true rfl)⟩ (by omega) ⟨rfl, by omega⟩
    · refine v_aloadn dX7_next_40 rfl ?_
      refine v_get dX7_next_41 gf_X7_32 (hY.2.1 0 0 (by decide)) rfl ?_
      refine v_iload dX7_next_44 rfl ?_
      refine v_iald dX7_next_46 (hY.2.1 7 0 (by decide)) (by omega) (by omega) (by decide) ?_
      have hmi := hmk i.toNat (by omega)
      refine v_iloadn dX7_next_47 rfl ?_
      refine v_icmp_ne 84 dX7_next_48 (by decide) (by omega) (by omega) (fun h48 => ?_) (fun h48 => ?_)
      · refine v_aloadn dX7_next_84 rfl ?_
        refine v_get dX7_next_85 gf_X7_32 (hY.2.1 0 0 (by decide)) rfl ?_
        refine v_iload dX7_next_88 rfl ?_
        refine v_iald dX7_next_90 (hY.2.1 7 0 (by decide)) (by omega) (by omega) (by decide) ?_
        have hmi := hmk i.toNat (by omega)
        refine v_iloadn dX7_next_91 rfl ?_
        refine v_icmp_ne 151 dX7_next_92 (by decide) (by omega) (by omega) (fun h92 => ?_) (fun h92 => ?_)
        · refine v_iinc dX7_next_151 rfl (Nat.le_of_ble_eq_true rfl) ?_
          refine v_goto 31 dX7_next_154 (by decide) ?_
          refine wV.locs (lv' := [(0, .ref (fw 0 0)), (1, .int (gI a)), (2, .int (gI t)), (3, .int (gI w)), (4, .int (gI _)), (5, .int (gI _))]) ⟨rfl, rfl, rfl, rfl, rfl, rfl, trivial⟩ (ih _ _ (by omega) (by omega) (by omega) (by omega))
        · refine v_aloadn dX7_next_95 rfl ?_
          refine v_get dX7_next_96 gf_X7_35 (hY.2.1 0 0 (by decide)) rfl ?_
          refine v_iload dX7_next_99 rfl ?_
          refine v_iald dX7_next_101 (hY.2.1 8 0 (by decide)) (by omega) (by omega) (by decide) ?_
          refine v_iloadn dX7_next_102 rfl ?_
          refine v_icmp_le 121 dX7_next_103 (by decide) (by omega) (by omega) (fun h103 => ?_) (fun h103 => ?_)
          · refine v_aloadn dX7_next_121 rfl ?_
            refine v_get dX7_next_122 gf_X7_38 (hY.2.1 0 0 (by decide)) rfl ?_
            refine v_iload dX7_next_125 rfl ?_
            refine v_iald dX7_next_127 (hY.2.1 9 0 (by decide)) (by omega) (by omega) (by decide) ?_
            refine v_iloadn dX7_next_128 rfl ?_
            refine v_icmp_le 147 dX7_next_129 (by decide) (by omega) (by omega) (fun h129 => ?_) (fun h129 => ?_)
            · refine v_iload dX7_next_147 rfl ?_
              refine v_istore dX7_next_149 (Nat.le_of_ble_eq_true rfl) ?_
              refine v_iinc dX7_next_151 rfl (Nat.le_of_ble_eq_true rfl) ?_
              refine v_goto 31 dX7_next_154 (by decide) ?_
              refine wV.locs (lv' := [(0, .ref (fw 0 0)), (1, .int (gI a)), (2, .int (gI t)), (3, .int (gI w)), (4, .int (gI _)), (5, .int (gI _))]) ⟨rfl, rfl, rfl, rfl, rfl, rfl, trivial⟩ (ih _ _ (by omega) (by omega) (by omega) (by omega))
            · refine v_iload dX7_next_132 rfl ?_
              refine v_aloadn dX7_next_134 rfl ?_
              refine v_get dX7_next_135 gf_X7_38 (hY.2.1 0 0 (by decide)) rfl ?_
              refine v_iload dX7_next_138 rfl ?_
              refine v_iald dX7_next_140 (hY.2.1 9 0 (by decide)) (by omega) (by omega) (by decide) ?_
              refine v_callS (tX7_least (by omega) (by omega)) lc_X7_106 ⟨(Nat.le_of_ble_eq_true rfl), (Nat.le_of_ble_eq_true rfl)⟩ dX7_next_141 rfl rfl (Nat.le_of_ble_eq_true rfl) ⟨(Nat.le_of_ble_eq_true rfl), (Nat.le_of_ble_eq_true rfl)⟩ (kP fun r141 hr141 hp141 => ?_)
              refine v_goto 149 dX7_next_144 (by decide) ?_
              refine v_istore dX7_next_149 (Nat.le_of_ble_eq_true rfl) ?_
              refine v_iinc dX7_next_151 rfl (Nat.le_of_ble_eq_true rfl) ?_
              refine v_goto 31 dX7_next_154 (by decide) ?_
              refine wV.locs (lv' := [(0, .ref (fw 0 0)), (1, .int (gI a)), (2, .int (gI t)), (3, .int (gI w)), (4, .int (gI _)), (5, .int (gI _))]) ⟨rfl, rfl, rfl, rfl, rfl, rfl, trivial⟩ (ih _ _ (by omega) (by omega) (by omega) (by omega))
          · refine v_iload dX7_next_106 rfl ?_
            refine v_aloadn dX7_next_108 rfl ?_
            refine v_get dX7_next_109 gf_X7_35 (hY.2.1 0 0 (by decide)) rfl ?_
            refine v_iload dX7_next_112 rfl ?_
            refine v_iald dX7_next_114 (hY.2.1 8 0 (by decide)) (by omega) (by omega) (by decide) ?_
            refine v_callS (tX7_least (by omega) (by omega)) lc_X7_106 ⟨(Nat.le_of_ble_eq_true rfl), (Nat.le_of_ble_eq_true rfl)⟩ dX7_next_115 rfl rfl (Nat.le_of_ble_eq_true rfl) ⟨(Nat.le_of_ble_eq_true rfl), (Nat.le_of_ble_eq_true rfl)⟩ (kP fun r115 hr115 hp115 => ?_)
            refine v_goto 149 dX7_next_118 (by decide) ?_
            refine v_istore dX7_next_149 (Nat.le_of_ble_eq_true rfl) ?_
            refine v_iinc dX7_next_151 rfl (Nat.le_of_ble_eq_true rfl) ?_
            refine v_goto 31 dX7_next_154 (by decide) ?_
            refine wV.locs (lv' := [(0, .ref (fw 0 0)), (1, .int (gI a)), (2, .int (gI t)), (3, .int (gI w)), (4, .int (gI _)), (5, .int (gI _))]) ⟨rfl, rfl, rfl, rfl, rfl, rfl, trivial⟩ (ih _ _ (by omega) (by omega) (by omega) (by omega))
      · refine v_aloadn dX7_next_51 rfl ?_
        refine v_get dX7_next_52 gf_X7_41 (hY.2.1 0 0 (by decide)) rfl ?_
        refine v_iload dX7_next_55 rfl ?_
        refine v_iald dX7_next_57 (hY.2.1 10 0 (by decide)) (by omega) (by omega) (by decide) ?_
        refine v_if_lt 84 dX7_next_58 (by decide) (by omega) (fun h58 => ?_) (fun h58 => ?_)
        · refine v_aloadn dX7_next_84 rfl ?_
          refine v_get dX7_next_85 gf_X7_32 (hY.2.1 0 0 (by decide)) rfl ?_
          refine v_iload dX7_next_88 rfl ?_
          refine v_iald dX7_next_90 (hY.2.1 7 0 (by decide)) (by omega) (by omega) (by decide) ?_
          have hmi := hmk i.toNat (by omega)
          refine v_iloadn dX7_next_91 rfl ?_
          refine v_icmp_ne 151 dX7_next_92 (by decide) (by omega) (by omega) (fun h92 => ?_) (fun h92 => ?_)
          · refine v_iinc dX7_next_151 rfl (Nat.le_of_ble_eq_true rfl) ?_
            refine v_goto 31 dX7_next_154 (by decide) ?_
            refine wV.locs (lv' := [(0, .ref (fw 0 0)), (1, .int (gI a)), (2, .int (gI t)), (3, .int (gI w)), (4, .int (gI _)), (5, .int (gI _))]) ⟨rfl, rfl, rfl, rfl, rfl, rfl, trivial⟩ (ih _ _ (by omega) (by omega) (by omega) (by omega))
          · refine v_aloadn dX7_next_95 rfl ?_
            refine v_get dX7_next_96 gf_X7_35 (hY.2.1 0 0 (by decide)) rfl ?_
            refine v_iload dX7_next_99 rfl ?_
            refine v_iald dX7_next_101 (hY.2.1 8 0 (by decide)) (by omega) (by omega) (by decide) ?_
            refine v_iloadn dX7_next_102 rfl ?_
            refine v_icmp_le 121 dX7_next_103 (by decide) (by omega) (by omega) (fun h103 => ?_) (fun h103 => ?_)
            · refine v_aloadn dX7_next_121 rfl ?_
              refine v_get dX7_next_122 gf_X7_38 (hY.2.1 0 0 (by decide)) rfl ?_
              refine v_iload dX7_next_125 rfl ?_
              refine v_iald dX7_next_127 (hY.2.1 9 0 (by decide)) (by omega) (by omega) (by decide) ?_
              refine v_iloadn dX7_next_128 rfl ?_
              refine v_icmp_le 147 dX7_next_129 (by decide) (by omega) (by omega) (fun h129 => ?_) (fun h129 => ?_)
              · refine v_iload dX7_next_147 rfl ?_
                refine v_istore dX7_next_149 (Nat.le_of_ble_eq_true rfl) ?_
                refine v_iinc dX7_next_151 rfl (Nat.le_of_ble_eq_true rfl) ?_
                refine v_goto 31 dX7_next_154 (by decide) ?_
                refine wV.locs (lv' := [(0, .ref (fw 0 0)), (1, .int (gI a)), (2, .int (gI t)), (3, .int (gI w)), (4, .int (gI _)), (5, .int (gI _))]) ⟨rfl, rfl, rfl, rfl, rfl, rfl, trivial⟩ (ih _ _ (by omega) (by omega) (by omega) (by omega))
              · refine v_iload dX7_next_132 rfl ?_
                refine v_aloadn dX7_next_134 rfl ?_
                refine v_get dX7_next_135 gf_X7_38 (hY.2.1 0 0 (by decide)) rfl ?_
                refine v_iload dX7_next_138 rfl ?_
                refine v_iald dX7_next_140 (hY.2.1 9 0 (by decide)) (by omega) (by omega) (by decide) ?_
                refine v_callS (tX7_least (by omega) (by omega)) lc_X7_106 ⟨(Nat.le_of_ble_eq_true rfl), (Nat.le_of_ble_eq_true rfl)⟩ dX7_next_141 rfl rfl (Nat.le_of_ble_eq_true rfl) ⟨(Nat.le_of_ble_eq_true rfl), (Nat.le_of_ble_eq_true rfl)⟩ (kP fun r141 hr141 hp141 => ?_)
                refine v_goto 149 dX7_next_144 (by decide) ?_
                refine v_istore dX7_next_149 (Nat.le_of_ble_eq_true rfl) ?_
                refine v_iinc dX7_next_151 rfl (Nat.le_of_ble_eq_true rfl) ?_
                refine v_goto 31 dX7_next_154 (by decide) ?_
                refine wV.locs (lv' := [(0, .ref (fw 0 0)), (1, .int (gI a)), (2, .int (gI t)), (3, .int (gI w)), (4, .int (gI _)), (5, .int (gI _))]) ⟨rfl, rfl, rfl, rfl, rfl, rfl, trivial⟩ (ih _ _ (by omega) (by omega) (by omega) (by omega))
            · refine v_iload dX7_next_106 rfl ?_
              refine v_aloadn dX7_next_108 rfl ?_
              refine v_get dX7_next_109 gf_X7_35 (hY.2.1 0 0 (by decide)) rfl ?_
              refine v_iload dX7_next_112 rfl ?_
              refine v_iald dX7_next_114 (hY.2.1 8 0 (by decide)) (by omega) (by omega) (by decide) ?_
              refine v_callS (tX7_least (by omega) (by omega)) lc_X7_106 ⟨(Nat.le_of_ble_eq_true rfl), (Nat.le_of_ble_eq_true rfl)⟩ dX7_next_115 rfl rfl (Nat.le_of_ble_eq_true rfl) ⟨(Nat.le_of_ble_eq_true rfl), (Nat.le_of_ble_eq_true rfl)⟩ (kP fun r115 hr115 hp115 => ?_)
              refine v_goto 149 dX7_next_118 (by decide) ?_
              refine v_istore dX7_next_149 (Nat.le_of_ble_eq_true rfl) ?_
              refine v_iinc dX7_next_151 rfl (Nat.le_of_ble_eq_true rfl) ?_
              refine v_goto 31 dX7_next_154 (by decide) ?_
              refine wV.locs (lv' := [(0, .ref (fw 0 0)), (1, .int (gI a)), (2, .int (gI t)), (3, .int (gI w)), (4, .int (gI _)), (5, .int (gI _))]) ⟨rfl, rfl, rfl, rfl, rfl, rfl, trivial⟩ (ih _ _ (by omega) (by omega) (by omega) (by omega))
        · refine v_iload dX7_next_61 rfl ?_
          refine v_aloadn dX7_next_63 rfl ?_
          refine v_iconst dX7_next_64 ?_
          refine v_aloadn dX7_next_65 rfl ?_
          refine v_get dX7_next_66 gf_X7_41 (hY.2.1 0 0 (by decide)) rfl ?_
          refine v_iload dX7_next_69 rfl ?_
          refine v_iald dX7_next_71 (hY.2.1 10 0 (by decide)) (by omega) (by omega) (by decide) ?_
          refine v_iloadn dX7_next_72 rfl ?_
          refine v_callV (tX7_nextChange hY (by omega) (by omega) (by omega) (by omega)) lc_X7_103 ⟨(Nat.le_of_ble_eq_true rfl), (Nat.le_of_ble_eq_true rfl)⟩ dX7_next_73 rfl rfl (Nat.le_of_ble_eq_true rfl) ⟨(Nat.le_of_ble_eq_true rfl), (Nat.le_of_ble_eq_true rfl)⟩ ⟨_, _, _, _, hY.2.1 0 0 (by decide), rfl⟩ (kP fun r73 hr73 hp73 => ?_)
          refine v_callS (tX7_least (by omega) (by omega)) lc_X7_106 ⟨(Nat.le_of_ble_eq_true rfl), (Nat.le_of_ble_eq_true rfl)⟩ dX7_next_76 rfl rfl (Nat.le_of_ble_eq_true rfl) ⟨(Nat.le_of_ble_eq_true rfl), (Nat.le_of_ble_eq_true rfl)⟩ (kP fun r76 hr76 hp76 => ?_)
          refine v_istore dX7_next_79 (Nat.le_of_ble_eq_true rfl) ?_
          refine v_goto 151 dX7_next_81 (by decide) ?_
          refine v_iinc dX7_next_151 rfl (Nat.le_of_ble_eq_true rfl) ?_
          refine v_goto 31 dX7_next_154 (by decide) ?_
          refine wV.locs (lv' := [(0, .ref (fw 0 0)), (1, .int (gI a)), (2, .int (gI t)), (3, .int (gI w)), (4, .int (gI _)), (5, .int (gI _))]) ⟨rfl, rfl, rfl, rfl, rfl, rfl, trivial⟩ (ih _ _ (by omega) (by omega) (by omega) (by omega))
set_option maxHeartbeats 4000000 in
set_option maxRecDepth 100000 in
theorem tX7_next {G : gG} {fw : Nat → Nat → Nat} {s : sG} {M : wM} (hY : wY G fw s M) {a t k : Int} (ha : bt 0 a 11) (ht : bt 0 t 4000) (hk : bt (-50) k 50) : wT G qX7_next 0 0 [.ref (fw 0 0), .int (gI a), .int (gI t), .int (gI k)] M (iP fun x M' => M' = M ∧ bt (t + 1) x 100050) := by
  refine wT.intro (by decide) (Nat.le_of_ble_eq_true rfl) (fun sz => ?_)
  have h0 := hY.2.2.1
  have hrw := hY.2.2.2.1
  have hnm := hY.2.2.2.2.1
  have hsh := hY.2.2.2.2.2.1
  have hmk := hY.2.2.2.2.2.2.1
  have hic := hY.2.2.2.2.2.2.2.1
  have hcn := hY.2.2.2.2.2.2.2.2.1
  have hgt := hY.2.2.2.2.2.2.2.2.2
  have hna := hnm a.toNat (by omega)
  refine v_aloadn dX7_next_0 rfl ?_
  refine v_iconst dX7_next_1 ?_
  refine v_iloadn dX7_next_2 rfl ?_
  refine v_iloadn dX7_next_3 rfl ?_
  refine v_callV (tX7_nextChange hY (by omega) (by omega) (by omega) (by omega)) lc_X7_103 ⟨(Nat.le_of_ble_eq_true rfl), (Nat.le_of_ble_eq_true rfl)⟩ dX7_next_4 rfl rfl (Nat.le_of_ble_eq_true rfl) ⟨(Nat.le_of_ble_eq_true rfl), (Nat.le_of_ble_eq_true rfl)⟩ ⟨_, _, _, _, hY.2.1 0 0 (by decide), rfl⟩ (kP fun r4 hr4 hp4 => ?_)
  refine v_aloadn dX7_next_7 rfl ?_
  refine v_iconst dX7_next_8 ?_
  refine v_aloadn dX7_next_9 rfl ?_
  refine v_get dX7_next_10 gf_X7_23 (hY.2.1 0 0 (by decide)) rfl ?_
  refine v_iloadn dX7_next_13 rfl ?_
  refine v_iald dX7_next_14 (hY.2.1 4 0 (by decide)) (by omega) (by omega) (by decide) ?_
  refine v_iloadn dX7_next_15 rfl ?_
  refine v_iloadn dX7_next_16 rfl ?_
  refine v_iadd dX7_next_17 ?_
  refine v_callV (tX7_nextChange hY (by omega) (by omega) (by omega) (by omega)) lc_X7_103 ⟨(Nat.le_of_ble_eq_true rfl), (Nat.le_of_ble_eq_true rfl)⟩ dX7_next_18 rfl rfl (Nat.le_of_ble_eq_true rfl) ⟨(Nat.le_of_ble_eq_true rfl), (Nat.le_of_ble_eq_true rfl)⟩ ⟨_, _, _, _, hY.2.1 0 0 (by decide), rfl⟩ (kP fun r18 hr18 hp18 => ?_)
  refine v_iloadn dX7_next_21 rfl ?_
  refine v_isub dX7_next_22 ?_
  refine v_callS (tX7_least (by omega) (by omega)) lc_X7_106 ⟨(Nat.le_of_ble_eq_true rfl), (Nat.le_of_ble_eq_true rfl)⟩ dX7_next_23 rfl rfl (Nat.le_of_ble_eq_true rfl) ⟨(Nat.le_of_ble_eq_true rfl), (Nat.le_of_ble_eq_true rfl)⟩ (kP fun r23 hr23 hp23 => ?_)
  refine v_istore dX7_next_26 (Nat.le_of_ble_eq_true rfl) ?_
  refine v_iconst dX7_next_28 ?_
  refine v_istore dX7_next_29 (Nat.le_of_ble_eq_true rfl) ?_
  refine wV.locs (lv' := [(0, .ref (fw 0 0)), (1, .int (gI a)), (2, .int (gI t)), (3, .int (gI k)), (4, .int (gI (_))), (5, .int (gI (0)))]) ⟨rfl, rfl, rfl, rfl, rfl, rfl, trivial⟩ (tX7_next_loop hY ha ht hk 20 _ _ (by omega) (by omega) (by omega) (by omega))
theorem keepY_up {s : sG} {j : Nat} {v : Int} (hj : 18 ≤ j) : keepY s (ups s 0 0 j v) := by
  intro k i j' hq
  unfold ups
  by_cases h : k = 0 ∧ i = 0
  · rw [if_pos h]
    unfold upz
    rw [if_neg (by omega), h.1, h.2]
  · rw [if_neg h]
theorem invY_scr {s : sG} (hI : invY s) {j : Nat} {v : Int} (hj : j = 18 ∨ j = 19 ∨ j = 20 ∨ j = 21 ∨ j = 22) (hv : rng v) : invY (ups s 0 0 j v) := by
  have h0 := hI.1
  have hmk := hI.2.2.2.2.1
  refine invY_z hI (fun k hk => ups_kf _ hk) ?_ (fun i hi => ?_)
  · rw [ups_at]
    rcases hj with rfl | rfl | rfl | rfl | rfl <;> simp [upz] <;> omega
  · rw [ups_at] at hi
    rw [ups_kf _ (show (7 : Nat) ≠ 0 by decide), ups_kf _ (show (8 : Nat) ≠ 0 by decide), ups_kf _ (show (9 : Nat) ≠ 0 by decide), ups_kf _ (show (10 : Nat) ≠ 0 by decide)]
    refine hmk i ?_
    rcases hj with rfl | rfl | rfl | rfl | rfl <;> simpa [upz] using hi
set_option maxHeartbeats 4000000 in
set_option maxRecDepth 100000 in
theorem tX7_found {G : gG} {fw : Nat → Nat → Nat} {si : sG} {Mi : wM} (hY : wY G fw si Mi) {n i a f t : Int} (hn : rng n) (hi : rng i) (ha : rng a) (hf : rng f) (ht : rng t) : wT G qX7_found 0 0 [.ref (fw 0 0), .int (gI n), .int (gI i), .int (gI a), .int (gI f), .int (gI t)] Mi (PY G fw Mi (fun x s' => keepY si s' ∧ x = 1)) := by
  refine wT.intro (by decide) (Nat.le_of_ble_eq_true rfl) (fun sz => ?_)
  obtain ⟨hJ, hH, hI⟩ := id hY
  have hO : wO cntY fw Mi Mi := wO.rf
  have hK : keepY si si := keepY.rf
  refine v_iloadn dX7_found_0 rfl ?_
  refine v_iloadn dX7_found_1 rfl ?_
  refine v_icmp_ne 22 dX7_found_2 (by decide) (by omega) (by omega) (fun h2 => ?_) (fun h2 => ?_)
  · refine v_iconst dX7_found_22 ?_
    exact v_iret dX7_found_23 rfl ⟨(Nat.le_of_ble_eq_true rfl), (Nat.le_of_ble_eq_true rfl)⟩ (by omega) ⟨_, ⟨hJ, hH, hI⟩, hO, hK, rfl⟩
  · refine v_aloadn dX7_found_5 rfl ?_
    refine v_iloadn dX7_found_6 rfl ?_
    refine v_put dX7_found_7 pf_X7_120 (hH 0 0 (by decide)) rfl rfl (Nat.le_of_ble_eq_true rfl) ?_
    generalize hMe7 : wup _ _ _ = M7
    have hO : wO cntY fw Mi M7 := by rw [← hMe7]; exact hO.up (k := 0) (i := 0) (by decide)
    obtain ⟨s7, hs7⟩ : ∃ z, z = ups si 0 0 (18) (a) := ⟨_, rfl⟩
    have hH : wH cntY (cellY G fw) fw s7 M7 := by rw [← hMe7, hs7]; exact wH.up hJ hH (k := 0) (i := 0) (18) (a) (by decide) rfl
    have hI : invY s7 := by rw [hs7]; exact invY_scr hI (by simp) (by omega)
    have hK : keepY si s7 := hK.tr (by rw [hs7]; exact keepY_up (by decide))
    refine v_aloadn dX7_found_10 rfl ?_
    refine v_iload dX7_found_11 rfl ?_
    refine v_put dX7_found_13 pf_X7_123 (hH 0 0 (by decide)) rfl rfl (Nat.le_of_ble_eq_true rfl) ?_
    generalize hMe13 : wup _ _ _ = M13
    have hO : wO cntY fw Mi M13 := by rw [← hMe13]; exact hO.up (k := 0) (i := 0) (by decide)
    obtain ⟨s13, hs13⟩ : ∃ z, z = ups s7 0 0 (19) (f) := ⟨_, rfl⟩
    have hH : wH cntY (cellY G fw) fw s13 M13 := by rw [← hMe13, hs13]; exact wH.up hJ hH (k := 0) (i := 0) (19) (f) (by decide) rfl
    have hI : invY s13 := by rw [hs13]; exact invY_scr hI (by simp) (by omega)
    have hK : keepY si s13 := hK.tr (by rw [hs13]; exact keepY_up (by decide))
    refine v_aloadn dX7_found_16 rfl ?_
    refine v_iload dX7_found_17 rfl ?_
    refine v_put dX7_found_19 pf_X7_126 (hH 0 0 (by decide)) rfl rfl (Nat.le_of_ble_eq_true rfl) ?_
    generalize hMe19 : wup _ _ _ = M19
    have hO : wO cntY fw Mi M19 := by rw [← hMe19]; exact hO.up (k := 0) (i := 0) (by decide)
    obtain ⟨s19, hs19⟩ : ∃ z, z = ups s13 0 0 (20) (t) := ⟨_, rfl⟩
    have hH : wH cntY (cellY G fw) fw s19 M19 := by rw [← hMe19, hs19]; exact wH.up hJ hH (k := 0) (i := 0) (20) (t) (by decide) rfl
    have hI : invY s19 := by rw [hs19]; exact invY_scr hI (by simp) (by omega)
    have hK : keepY si s19 := hK.tr (by rw [hs19]; exact keepY_up (by decide))
    refine v_iconst dX7_found_22 ?_
    exact v_iret dX7_found_23 rfl ⟨(Nat.le_of_ble_eq_true rfl), (Nat.le_of_ble_eq_true rfl)⟩ (by omega) ⟨_, ⟨hJ, hH, hI⟩, hO, hK, rfl⟩
set_option maxHeartbeats 4000000 in
set_option maxRecDepth 100000 in
theorem tX7_spans_in {sz : Nat} {M0 : wM} {G : gG} {fw : Nat → Nat → Nat} {si : sG} {Mi : wM} {q a w : Int} (hq : rng q) (ha : bt 0 a 11) (hw : bt (-50) w 50) {Post : Option Value → wM → Prop} (hk : ∀ (s : sG) (M : wM) (n f : Int), wY G fw s M → wO cntY fw Mi M → keepY si s → bt 0 n (110000 * a + 100050) → bt (-1) f 4000 → wV G qX7_spans 0 0 sz M0 0 0 104 [(0, .ref (fw 0 0)), (1, .int (gI q)), (2, .int (gI n)), (3, .int (gI a)), (4, .int (gI w)), (5, .int (gI f))] [] M Post) : ∀ (k : Nat) (s : sG) (M : wM) (n f t : Int), 0 ≤ 100050 - t → 100050 - t < (k : Int) → (wY G fw s M) → (wO cntY fw Mi M) → (keepY si s) → (bt 0 t 100050) → (bt 0 n (110000 * a + t)) → (bt (-1) f 4000) → wV G qX7_spans 0 0 sz M0 0 0 29 [(0, .ref (fw 0 0)), (1, .int (gI q)), (2, .int (gI n)), (3, .int (gI a)), (4, .int (gI w)), (5, .int (gI f)), (6, .int (gI t))] [] M (Post) := by
  intro k
  induction k with
  | zero =>
    intros
    omega
  | succ k ih =>
    intro s M n f t hmz hml hY hO hK h1 h2 h3
    have h0 := hY.2.2.1
    have hrw := hY.2.2.2.1
    have hnm := hY.2.2.2.2.1
    have hsh := hY.2.2.2.2.2.1
    have hmk := hY.2.2.2.2.2.2.1
    have hic := hY.2.2.2.2.2.2.2.1
    have hcn := hY.2.2.2.2.2.2.2.2.1
    have hgt := hY.2.2.2.2.2.2.2.2.2
    refine v_iload dX7_spans_29 rfl ?_
    refine v_aloadn dX7_spans_31 rfl ?_
    refine v_get dX7_spans_32 gf_X7_7 (hY.2.1 0 0 (by decide)) rfl ?_
    refine v_icmp_ge 104 dX7_spans_35 (by decide) (by omega) (by omega) (fun h35 => ?_) (fun h35 => ?_)
    · refine wV.locs (lv' := [(0, .ref (fw 0 0)), (1, .int (gI q)), (2, .int (gI n)), (3, .int (gI a)), (4, .int (gI w)), (5, .int (gI f))]) ⟨rfl, rfl, rfl, rfl, rfl, rfl, trivial⟩ (hk _ _ _ _ hY hO hK (by omega) (by omega))
    · refine v_aloadn dX7_spans_38 rfl ?_
      refine v_iloadn dX7_spans_39 rfl ?_
      refine v_iload dX7_spans_40 rfl ?_
      refine v_iload dX7_spans_42 rfl ?_
      refine v_callV (tX7_differs hY (by omega) (by omega) (by omega)) lc_X7_110 ⟨(Nat.le_of_ble_eq_true rfl), (Nat.le_of_ble_eq_true rfl)⟩ dX7_spans_44 rfl rfl (Nat.le_of_ble_eq_true rfl) ⟨(Nat.le_of_ble_eq_true rfl), (Nat.le_of_ble_eq_true rfl)⟩ ⟨_, _, _, _, hY.2.1 0 0 (by decide), rfl⟩ (kP fun r44 hr44 hp44 => ?_)
      refine v_istore dX7_spans_47 (Nat.le_of_ble_eq_true rfl) ?_
      refine v_iload dX7_spans_49 rfl ?_
      refine v_if_eq 63 dX7_spans_51 (by decide) (by omega) (fun h51 => ?_) (fun h51 => ?_)
      · refine v_iload dX7_spans_63 rfl ?_
        refine v_if_ne 90 dX7_spans_65 (by decide) (by omega) (fun h65 => ?_) (fun h65 => ?_)
        · refine v_aloadn dX7_spans_90 rfl ?_
          refine v_iloadn dX7_spans_91 rfl ?_
          refine v_iload dX7_spans_92 rfl ?_
          refine v_iload dX7_spans_94 rfl ?_
          refine v_callV (tX7_next hY (by omega) (by omega) (by omega)) lc_X7_117 ⟨(Nat.le_of_ble_eq_true rfl), (Nat.le_of_ble_eq_true rfl)⟩ dX7_spans_96 rfl rfl (Nat.le_of_ble_eq_true rfl) ⟨(Nat.le_of_ble_eq_true rfl), (Nat.le_of_ble_eq_true rfl)⟩ ⟨_, _, _, _, hY.2.1 0 0 (by decide), rfl⟩ (kP fun r96 hr96 hp96 => ?_)
          refine v_istore dX7_spans_99 (Nat.le_of_ble_eq_true rfl) ?_
          refine v_goto 29 dX7_spans_101 (by decide) ?_
          refine wV.locs (lv' := [(0, .ref (fw 0 0)), (1, .int (gI q)), (2, .int (gI _)), (3, .int (gI a)), (4, .int (gI w)), (5, .int (gI _)), (6, .int (gI _))]) ⟨rfl, rfl, rfl, rfl, rfl, rfl, rfl, trivial⟩ (ih _ _ _ _ _ (by omega) (by omega) hY hO hK (by omega) (by omega) (by omega))
        · refine v_iload dX7_spans_68 rfl ?_
          refine v_if_lt 90 dX7_spans_70 (by decide) (by omega) (fun h70 => ?_) (fun h70 => ?_)
          · refine v_aloadn dX7_spans_90 rfl ?_
            refine v_iloadn dX7_spans_91 rfl ?_
            refine v_iload dX7_spans_92 rfl ?_
            refine v_iload dX7_spans_94 rfl ?_
            refine v_callV (tX7_next hY (by omega) (by omega) (by omega)) lc_X7_117 ⟨(Nat.le_of_ble_eq_true rfl), (Nat.le_of_ble_eq_true rfl)⟩ dX7_spans_96 rfl rfl (Nat.le_of_ble_eq_true rfl) ⟨(Nat.le_of_ble_eq_true rfl), (Nat.le_of_ble_eq_true rfl)⟩ ⟨_, _, _, _, hY.2.1 0 0 (by decide), rfl⟩ (kP fun r96 hr96 hp96 => ?_)
            refine v_istore dX7_spans_99 (Nat.le_of_ble_eq_true rfl) ?_
            refine v_goto 29 dX7_spans_101 (by decide) ?_
            refine wV.locs (lv' := [(0, .ref (fw 0 0)), (1, .int (gI q)), (2, .int (gI _)), (3, .int (gI a)), (4, .int (gI w)), (5, .int (gI _)), (6, .int (gI _))]) ⟨rfl, rfl, rfl, rfl, rfl, rfl, rfl, trivial⟩ (ih _ _ _ _ _ (by omega) (by omega) hY hO hK (by omega) (by omega) (by omega))
          · refine v_iloadn dX7_spans_73 rfl ?_
            refine v_aloadn dX7_spans_74 rfl ?_
            refine v_iloadn dX7_spans_75 rfl ?_
            refine v_iloadn dX7_spans_76 rfl ?_
            refine v_iloadn dX7_spans_77 rfl ?_
            refine v_iload dX7_spans_78 rfl ?_
            refine v_iload dX7_spans_80 rfl ?_
            refine v_callV (tX7_found hY (by omega) (by omega) (by omega) (by omega) (by omega)) lc_X7_113 ⟨(Nat.le_of_ble_eq_true rfl), (Nat.le_of_ble_eq_true rfl)⟩ dX7_spans_82 rfl rfl (Nat.le_of_ble_eq_true rfl) ⟨(Nat.le_of_ble_eq_true rfl), (Nat.le_of_ble_eq_true rfl)⟩ ⟨_, _, _, _, hY.2.1 0 0 (by decide), rfl⟩ (kI fun r82 M82 hr82 hp82 => ?_)
            obtain ⟨s82, hY, hO82, hK82, hx82⟩ := hp82
            have hO := hO.tr hO82
            have hK := hK.tr hK82
            have h0 := hY.2.2.1
            have hrw := hY.2.2.2.1
            have hnm := hY.2.2.2.2.1
            have hsh := hY.2.2.2.2.2.1
            have hmk := hY.2.2.2.2.2.2.1
            have hic := hY.2.2.2.2.2.2.2.1
            have hcn := hY.2.2.2.2.2.2.2.2.1
            have hgt := hY.2.2.2.2.2.2.2.2.2
            refine v_iadd dX7_spans_85 ?_
            refine v_istoren dX7_spans_86 (Nat.le_of_ble_eq_true rfl) ?_
            refine v_iconst dX7_spans_87 ?_
            refine v_istore dX7_spans_88 (Nat.le_of_ble_eq_true rfl) ?_
            refine v_aloadn dX7_spans_90 rfl ?_
            refine v_iloadn dX7_spans_91 rfl ?_
            refine v_iload dX7_spans_92 rfl ?_
            refine v_iload dX7_spans_94 rfl ?_
            refine v_callV (tX7_next hY (by omega) (by omega) (by omega)) lc_X7_117 ⟨(Nat.le_of_ble_eq_true rfl), (Nat.le_of_ble_eq_true rfl)⟩ dX7_spans_96 rfl rfl (Nat.le_of_ble_eq_true rfl) ⟨(Nat.le_of_ble_eq_true rfl), (Nat.le_of_ble_eq_true rfl)⟩ ⟨_, _, _, _, hY.2.1 0 0 (by decide), rfl⟩ (kP fun r96 hr96 hp96 => ?_)
            refine v_istore dX7_spans_99 (Nat.le_of_ble_eq_true rfl) ?_
            refine v_goto 29 dX7_spans_101 (by decide) ?_
            refine wV.locs (lv' := [(0, .ref (fw 0 0)), (1, .int (gI q)), (2, .int (gI _)), (3, .int (gI a)), (4, .int (gI w)), (5, .int (gI _)), (6, .int (gI _))]) ⟨rfl, rfl, rfl, rfl, rfl, rfl, rfl, trivial⟩ (ih _ _ _ _ _ (by omega) (by omega) hY hO hK (by omega) (by omega) (by omega))
      · refine v_iload dX7_spans_54 rfl ?_
        refine v_if_ge 63 dX7_spans_56 (by decide) (by omega) (fun h56 => ?_) (fun h56 => ?_)
        · refine v_iload dX7_spans_63 rfl ?_
          refine v_if_ne 90 dX7_spans_65 (by decide) (by omega) (fun h65 => ?_) (fun h65 => ?_)
          · refine v_aloadn dX7_spans_90 rfl ?_
            refine v_iloadn dX7_spans_91 rfl ?_
            refine v_iload dX7_spans_92 rfl ?_
            refine v_iload dX7_spans_94 rfl ?_
            refine v_callV (tX7_next hY (by omega) (by omega) (by omega)) lc_X7_117 ⟨(Nat.le_of_ble_eq_true rfl), (Nat.le_of_ble_eq_true rfl)⟩ dX7_spans_96 rfl rfl (Nat.le_of_ble_eq_true rfl) ⟨(Nat.le_of_ble_eq_true rfl), (Nat.le_of_ble_eq_true rfl)⟩ ⟨_, _, _, _, hY.2.1 0 0 (by decide), rfl⟩ (kP fun r96 hr96 hp96 => ?_)
            refine v_istore dX7_spans_99 (Nat.le_of_ble_eq_true rfl) ?_
            refine v_goto 29 dX7_spans_101 (by decide) ?_
            refine wV.locs (lv' := [(0, .ref (fw 0 0)), (1, .int (gI q)), (2, .int (gI _)), (3, .int (gI a)), (4, .int (gI w)), (5, .int (gI _)), (6, .int (gI _))]) ⟨rfl, rfl, rfl, rfl, rfl, rfl, rfl, trivial⟩ (ih _ _ _ _ _ (by omega) (by omega) hY hO hK (by omega) (by omega) (by omega))
          · refine v_iload dX7_spans_68 rfl ?_
            refine v_if_lt 90 dX7_spans_70 (by decide) (by omega) (fun h70 => ?_) (fun h70 => ?_)
            · refine v_aloadn dX7_spans_90 rfl ?_
              refine v_iloadn dX7_spans_91 rfl ?_
              refine v_iload dX7_spans_92 rfl ?_
              refine v_iload dX7_spans_94 rfl ?_
              refine v_callV (tX7_next hY (by omega) (by omega) (by omega)) lc_X7_117 ⟨(Nat.le_of_ble_eq_true rfl), (Nat.le_of_ble_eq_true rfl)⟩ dX7_spans_96 rfl rfl (Nat.le_of_ble_eq_true rfl) ⟨(Nat.le_of_ble_eq_true rfl), (Nat.le_of_ble_eq_true rfl)⟩ ⟨_, _, _, _, hY.2.1 0 0 (by decide), rfl⟩ (kP fun r96 hr96 hp96 => ?_)
              refine v_istore dX7_spans_99 (Nat.le_of_ble_eq_true rfl) ?_
              refine v_goto 29 dX7_spans_101 (by decide) ?_
              refine wV.locs (lv' := [(0, .ref (fw 0 0)), (1, .int (gI q)), (2, .int (gI _)), (3, .int (gI a)), (4, .int (gI w)), (5, .int (gI _)), (6, .int (gI _))]) ⟨rfl, rfl, rfl, rfl, rfl, rfl, rfl, trivial⟩ (ih _ _ _ _ _ (by omega) (by omega) hY hO hK (by omega) (by omega) (by omega))
            · refine v_iloadn dX7_spans_73 rfl ?_
              refine v_aloadn dX7_spans_74 rfl ?_
              refine v_iloadn dX7_spans_75 rfl ?_
              refine v_iloadn dX7_spans_76 rfl ?_
              refine v_iloadn dX7_spans_77 rfl ?_
              refine v_iload dX7_spans_78 rfl ?_
              refine v_iload dX7_spans_80 rfl ?_
              refine v_callV (tX7_found hY (by omega) (by omega) (by omega) (by omega) (by omega)) lc_X7_113 ⟨(Nat.le_of_ble_eq_true rfl), (Nat.le_of_ble_eq_true rfl)⟩ dX7_spans_82 rfl rfl (Nat.le_of_ble_eq_true rfl) ⟨(Nat.le_of_ble_eq_true rfl), (Nat.le_of_ble_eq_true rfl)⟩ ⟨_, _, _, _, hY.2.1 0 0 (by decide), rfl⟩ (kI fun r82 M82 hr82 hp82 => ?_)
              obtain ⟨s82, hY, hO82, hK82, hx82⟩ := hp82
              have hO := hO.tr hO82
              have hK := hK.tr hK82
              have h0 := hY.2.2.1
              have hrw := hY.2.2.2.1
              have hnm := hY.2.2.2.2.1
              have hsh := hY.2.2.2.2.2.1
              have hmk := hY.2.2.2.2.2.2.1
              have hic := hY.2.2.2.2.2.2.2.1
              have hcn := hY.2.2.2.2.2.2.2.2.1
              have hgt := hY.2.2.2.2.2.2.2.2.2
              refine v_iadd dX7_spans_85 ?_
              refine v_istoren dX7_spans_86 (Nat.le_of_ble_eq_true rfl) ?_
              refine v_iconst dX7_spans_87 ?_
              refine v_istore dX7_spans_88 (Nat.le_of_ble_eq_true rfl) ?_
              refine v_aloadn dX7_spans_90 rfl ?_
              refine v_iloadn dX7_spans_91 rfl ?_
              refine v_iload dX7_spans_92 rfl ?_
              refine v_iload dX7_spans_94 rfl ?_
              refine v_callV (tX7_next hY (by omega) (by omega) (by omega)) lc_X7_117 ⟨(Nat.le_of_ble_eq_true rfl), (Nat.le_of_ble_eq_true rfl)⟩ dX7_spans_96 rfl rfl (Nat.le_of_ble_eq_true rfl) ⟨(Nat.le_of_ble_eq_true rfl), (Nat.le_of_ble_eq_true rfl)⟩ ⟨_, _, _, _, hY.2.1 0 0 (by decide), rfl⟩ (kP fun r96 hr96 hp96 => ?_)
              refine v_istore dX7_spans_99 (Nat.le_of_ble_eq_true rfl) ?_
              refine v_goto 29 dX7_spans_101 (by decide) ?_
              refine wV.locs (lv' := [(0, .ref (fw 0 0)), (1, .int (gI q)), (2, .int (gI _)), (3, .int (gI a)), (4, .int (gI w)), (5, .int (gI _)), (6, .int (gI _))]) ⟨rfl, rfl, rfl, rfl, rfl, rfl, rfl, trivial⟩ (ih _ _ _ _ _ (by omega) (by omega) hY hO hK (by omega) (by omega) (by omega))
        · refine v_iload dX7_spans_59 rfl ?_
          refine v_istore dX7_spans_61 (Nat.le_of_ble_eq_true rfl) ?_
          refine v_iload dX7_spans_63 rfl ?_
          refine v_if_ne 90 dX7_spans_65 (by decide) (by omega) (fun h65 => ?_) (fun h65 => ?_)
          · refine v_aloadn dX7_spans_90 rfl ?_
            refine v_iloadn dX7_spans_91 rfl ?_
            refine v_iload dX7_spans_92 rfl ?_
            refine v_iload dX7_spans_94 rfl ?_
            refine v_callV (tX7_next hY (by omega) (by omega) (by omega)) lc_X7_117 ⟨(Nat.le_of_ble_eq_true rfl), (Nat.le_of_ble_eq_true rfl)⟩ dX7_spans_96 rfl rfl (Nat.le_of_ble_eq_true rfl) ⟨(Nat.le_of_ble_eq_true rfl), (Nat.le_of_ble_eq_true rfl)⟩ ⟨_, _, _, _, hY.2.1 0 0 (by decide), rfl⟩ (kP fun r96 hr96 hp96 => ?_)
            refine v_istore dX7_spans_99 (Nat.le_of_ble_eq_true rfl) ?_
            refine v_goto 29 dX7_spans_101 (by decide) ?_
            refine wV.locs (lv' := [(0, .ref (fw 0 0)), (1, .int (gI q)), (2, .int (gI _)), (3, .int (gI a)), (4, .int (gI w)), (5, .int (gI _)), (6, .int (gI _))]) ⟨rfl, rfl, rfl, rfl, rfl, rfl, rfl, trivial⟩ (ih _ _ _ _ _ (by omega) (by omega) hY hO hK (by omega) (by omega) (by omega))
          · refine v_iload dX7_spans_68 rfl ?_
            refine v_if_lt 90 dX7_spans_70 (by decide) (by omega) (fun h70 => ?_) (fun h70 => ?_)
            · refine v_aloadn dX7_spans_90 rfl ?_
              refine v_iloadn dX7_spans_91 rfl ?_
              refine v_iload dX7_spans_92 rfl ?_
              refine v_iload dX7_spans_94 rfl ?_
              refine v_callV (tX7_next hY (by omega) (by omega) (by omega)) lc_X7_117 ⟨(Nat.le_of_ble_eq_true rfl), (Nat.le_of_ble_eq_true rfl)⟩ dX7_spans_96 rfl rfl (Nat.le_of_ble_eq_true rfl) ⟨(Nat.le_of_ble_eq_true rfl), (Nat.le_of_ble_eq_true rfl)⟩ ⟨_, _, _, _, hY.2.1 0 0 (by decide), rfl⟩ (kP fun r96 hr96 hp96 => ?_)
              refine v_istore dX7_spans_99 (Nat.le_of_ble_eq_true rfl) ?_
              refine v_goto 29 dX7_spans_101 (by decide) ?_
              refine wV.locs (lv' := [(0, .ref (fw 0 0)), (1, .int (gI q)), (2, .int (gI _)), (3, .int (gI a)), (4, .int (gI w)), (5, .int (gI _)), (6, .int (gI _))]) ⟨rfl, rfl, rfl, rfl, rfl, rfl, rfl, trivial⟩ (ih _ _ _ _ _ (by omega) (by omega) hY hO hK (by omega) (by omega) (by omega))
            · refine v_iloadn dX7_spans_73 rfl ?_
              refine v_aloadn dX7_spans_74 rfl ?_
              refine v_iloadn dX7_spans_75 rfl ?_
              refine v_iloadn dX7_spans_76 rfl ?_
              refine v_iloadn dX7_spans_77 rfl ?_
              refine v_iload dX7_spans_78 rfl ?_
              refine v_iload dX7_spans_80 rfl ?_
              refine v_callV (tX7_found hY (by omega) (by omega) (by omega) (by omega) (by omega)) lc_X7_113 ⟨(Nat.le_of_ble_eq_true rfl), (Nat.le_of_ble_eq_true rfl)⟩ dX7_spans_82 rfl rfl (Nat.le_of_ble_eq_true rfl) ⟨(Nat.le_of_ble_eq_true rfl), (Nat.le_of_ble_eq_true rfl)⟩ ⟨_, _, _, _, hY.2.1 0 0 (by decide), rfl⟩ (kI fun r82 M82 hr82 hp82 => ?_)
              obtain ⟨s82, hY, hO82, hK82, hx82⟩ := hp82
              have hO := hO.tr hO82
              have hK := hK.tr hK82
              have h0 := hY.2.2.1
              have hrw := hY.2.2.2.1
              have hnm := hY.2.2.2.2.1
              have hsh := hY.2.2.2.2.2.1
              have hmk := hY.2.2.2.2.2.2.1
              have hic := hY.2.2.2.2.2.2.2.1
              have hcn := hY.2.2.2.2.2.2.2.2.1
              have hgt := hY.2.2.2.2.2.2.2.2.2
              refine v_iadd dX7_spans_85 ?_
              refine v_istoren dX7_spans_86 (Nat.le_of_ble_eq_true rfl) ?_
              refine v_iconst dX7_spans_87 ?_
              refine v_istore dX7_spans_88 (Nat.le_of_ble_eq_true rfl) ?_
              refine v_aloadn dX7_spans_90 rfl ?_
              refine v_iloadn dX7_spans_91 rfl ?_
              refine v_iload dX7_spans_92 rfl ?_
              refine v_iload dX7_spans_94 rfl ?_
              refine v_callV (tX7_next hY (by omega) (by omega) (by omega)) lc_X7_117 ⟨(Nat.le_of_ble_eq_true rfl), (Nat.le_of_ble_eq_true rfl)⟩ dX7_spans_96 rfl rfl (Nat.le_of_ble_eq_true rfl) ⟨(Nat.le_of_ble_eq_true rfl), (Nat.le_of_ble_eq_true rfl)⟩ ⟨_, _, _, _, hY.2.1 0 0 (by decide), rfl⟩ (kP fun r96 hr96 hp96 => ?_)
              refine v_istore dX7_spans_99 (Nat.le_of_ble_eq_true rfl) ?_
              refine v_goto 29 dX7_spans_101 (by decide) ?_
              refine wV.locs (lv' := [(0, .ref (fw 0 0)), (1, .int (gI q)), (2, .int (gI _)), (3, .int (gI a)), (4, .int (gI w)), (5, .int (gI _)), (6, .int (gI _))]) ⟨rfl, rfl, rfl, rfl, rfl, rfl, rfl, trivial⟩ (ih _ _ _ _ _ (by omega) (by omega) hY hO hK (by omega) (by omega) (by omega))
set_option maxHeartbeats 4000000 in
set_option maxRecDepth 100000 in
theorem tX7_spans_out {sz : Nat} {M0 : wM} {G : gG} {fw : Nat → Nat → Nat} {si : sG} {Mi : wM} {q : Int} (hq : rng q) : ∀ (k : Nat) (s : sG) (M : wM) (n a : Int), 0 ≤ 12 - a → 12 - a < (k : Int) → (wY G fw s M) → (wO cntY fw Mi M) → (keepY si s) → (bt 0 a 12) → (bt 0 n (110000 * a)) → wV G qX7_spans 0 0 sz M0 0 0 4 [(0, .ref (fw 0 0)), (1, .int (gI q)), (2, .int (gI n)), (3, .int (gI a))] [] M (PY G fw Mi (fun x s' => keepY si s' ∧ bt 0 x 2000000)) := by
  intro k
  induction k with
  | zero =>
    intros
    omega
  | succ k ih =>
    intro s M n a hmz hml hY hO hK h1 h2
    have h0 := hY.2.2.1
    have hrw := hY.2.2.2.1
    have hnm := hY.2.2.2.2.1
    have hsh := hY.2.2.2.2.2.1
    have hmk := hY.2.2.2.2.2.2.1
    have hic := hY.2.2.2.2.2.2.2.1
    have hcn := hY.2.2.2.2.2.2.2.2.1
    have hgt := hY.2.2.2.2.2.2.2.2.2
    refine v_iloadn dX7_spans_4 rfl ?_
    refine v_bipush dX7_spans_5 (by decide) ?_
    refine v_icmp_ge 131 dX7_spans_7 (by decide) (by omega) (by omega) (fun h7 => ?_) (fun h7 => ?_)
    · refine v_iloadn dX7_spans_131 rfl ?_
      exact v_iret dX7_spans_132 rfl ⟨(Nat.le_of_ble_eq_true rfl), (Nat.le_of_ble_eq_true rfl)⟩ (by omega) ⟨s, hY, hO, hK, by omega⟩
    · refine v_aloadn dX7_spans_10 rfl ?_
      refine v_get dX7_spans_11 gf_X7_29 (hY.2.1 0 0 (by decide)) rfl ?_
      refine v_aloadn dX7_spans_14 rfl ?_
      refine v_get dX7_spans_15 gf_X7_26 (hY.2.1 0 0 (by decide)) rfl ?_
      refine v_iloadn dX7_spans_18 rfl ?_
      refine v_iald dX7_spans_19 (hY.2.1 5 0 (by decide)) (by omega) (by omega) (by decide) ?_
      have hga := hnm a.toNat (by omega)
      refine v_iald dX7_spans_20 (hY.2.1 6 0 (by decide)) (by omega) (by omega) (by decide) ?_
      have hsa := hsh (s 5 0 a.toNat).toNat (by omega)
      refine v_istore dX7_spans_21 (Nat.le_of_ble_eq_true rfl) ?_
      refine v_iconst dX7_spans_23 ?_
      refine v_istore dX7_spans_24 (Nat.le_of_ble_eq_true rfl) ?_
      refine v_iconst dX7_spans_26 ?_
      refine v_istore dX7_spans_27 (Nat.le_of_ble_eq_true rfl) ?_
      refine wV.locs (lv' := [(0, .ref (fw 0 0)), (1, .int (gI q)), (2, .int (gI n)), (3, .int (gI a)), (4, .int (gI (s 6 0 (s 5 0 a.toNat).toNat))), (5, .int (gI (-1))), (6, .int (gI 0))]) ⟨rfl, rfl, rfl, rfl, rfl, rfl, rfl, trivial⟩ (tX7_spans_in hq (by omega) (by omega) (fun s M n f hY hO hK h1 h2 => ?_) 100060 _ _ _ _ _ (by omega) (by omega) hY hO hK (by omega) (by omega) (by omega))
      have h0 := hY.2.2.1
      have hrw := hY.2.2.2.1
      have hnm := hY.2.2.2.2.1
      have hsh := hY.2.2.2.2.2.1
      have hmk := hY.2.2.2.2.2.2.1
      have hic := hY.2.2.2.2.2.2.2.1
      have hcn := hY.2.2.2.2.2.2.2.2.1
      have hgt := hY.2.2.2.2.2.2.2.2.2
      refine v_iload dX7_spans_104 rfl ?_
      refine v_if_lt 125 dX7_spans_106 (by decide) (by omega) (fun h106 => ?_) (fun h106 => ?_)
      · refine v_iinc dX7_spans_125 rfl (Nat.le_of_ble_eq_true rfl) ?_
        refine v_goto 4 dX7_spans_128 (by decide) ?_
        refine wV.locs (lv' := [(0, .ref (fw 0 0)), (1, .int (gI q)), (2, .int (gI _)), (3, .int (gI _))]) ⟨rfl, rfl, rfl, rfl, trivial⟩ (ih _ _ _ _ (by omega) (by omega) hY hO hK (by omega) (by omega))
      · refine v_iloadn dX7_spans_109 rfl ?_
        refine v_aloadn dX7_spans_110 rfl ?_
        refine v_iloadn dX7_spans_111 rfl ?_
        refine v_iloadn dX7_spans_112 rfl ?_
        refine v_iloadn dX7_spans_113 rfl ?_
        refine v_iload dX7_spans_114 rfl ?_
        refine v_aloadn dX7_spans_116 rfl ?_
        refine v_get dX7_spans_117 gf_X7_7 (hY.2.1 0 0 (by decide)) rfl ?_
        refine v_callV (tX7_found hY (by omega) (by omega) (by omega) (by omega) (by omega)) lc_X7_113 ⟨(Nat.le_of_ble_eq_true rfl), (Nat.le_of_ble_eq_true rfl)⟩ dX7_spans_120 rfl rfl (Nat.le_of_ble_eq_true rfl) ⟨(Nat.le_of_ble_eq_true rfl), (Nat.le_of_ble_eq_true rfl)⟩ ⟨_, _, _, _, hY.2.1 0 0 (by decide), rfl⟩ (kI fun r120 M120 hr120 hp120 => ?_)
        obtain ⟨s120, hY, hO120, hK120, hx120⟩ := hp120
        have hO := hO.tr hO120
        have hK := hK.tr hK120
        have h0 := hY.2.2.1
        have hrw := hY.2.2.2.1
        have hnm := hY.2.2.2.2.1
        have hsh := hY.2.2.2.2.2.1
        have hmk := hY.2.2.2.2.2.2.1
        have hic := hY.2.2.2.2.2.2.2.1
        have hcn := hY.2.2.2.2.2.2.2.2.1
        have hgt := hY.2.2.2.2.2.2.2.2.2
        refine v_iadd dX7_spans_123 ?_
        refine v_istoren dX7_spans_124 (Nat.le_of_ble_eq_true rfl) ?_
        refine v_iinc dX7_spans_125 rfl (Nat.le_of_ble_eq_true rfl) ?_
        refine v_goto 4 dX7_spans_128 (by decide) ?_
        refine wV.locs (lv' := [(0, .ref (fw 0 0)), (1, .int (gI q)), (2, .int (gI _)), (3, .int (gI _))]) ⟨rfl, rfl, rfl, rfl, trivial⟩ (ih _ _ _ _ (by omega) (by omega) hY hO hK (by omega) (by omega))
set_option maxHeartbeats 4000000 in
set_option maxRecDepth 100000 in
theorem tX7_spans {G : gG} {fw : Nat → Nat → Nat} {si : sG} {Mi : wM} (hY : wY G fw si Mi) {q : Int} (hq : rng q) : wT G qX7_spans 0 0 [.ref (fw 0 0), .int (gI q)] Mi (PY G fw Mi (fun x s' => keepY si s' ∧ bt 0 x 2000000)) := by
  refine wT.intro (by decide) (Nat.le_of_ble_eq_true rfl) (fun sz => ?_)
  have hO : wO cntY fw Mi Mi := wO.rf
  have hK : keepY si si := keepY.rf
  refine v_iconst dX7_spans_0 ?_
  refine v_istoren dX7_spans_1 (Nat.le_of_ble_eq_true rfl) ?_
  refine v_iconst dX7_spans_2 ?_
  refine v_istoren dX7_spans_3 (Nat.le_of_ble_eq_true rfl) ?_
  refine wV.locs (lv' := [(0, .ref (fw 0 0)), (1, .int (gI q)), (2, .int (gI (0))), (3, .int (gI (0)))]) ⟨rfl, rfl, rfl, rfl, trivial⟩ (tX7_spans_out hq 20 _ _ _ _ (by omega) (by omega) hY hO hK (by omega) (by omega))
set_option maxHeartbeats 4000000 in
set_option maxRecDepth 100000 in
theorem tX7_differences {G : gG} {fw : Nat → Nat → Nat} {si : sG} {Mi : wM} (hY : wY G fw si Mi) : wT G qX7_differences 0 0 [.ref (fw 0 0)] Mi (PY G fw Mi (fun x s' => keepY si s')) := by
  refine wT.intro (by decide) (Nat.le_of_ble_eq_true rfl) (fun sz => ?_)
  have hO : wO cntY fw Mi Mi := wO.rf
  have hK : keepY si si := keepY.rf
  refine v_aloadn dX7_differences_0 rfl ?_
  refine v_iconst dX7_differences_1 ?_
  refine v_callV (tX7_spans hY (by omega)) lc_X7_129 ⟨(Nat.le_of_ble_eq_true rfl), (Nat.le_of_ble_eq_true rfl)⟩ dX7_differences_2 rfl rfl (Nat.le_of_ble_eq_true rfl) ⟨(Nat.le_of_ble_eq_true rfl), (Nat.le_of_ble_eq_true rfl)⟩ ⟨_, _, _, _, hY.2.1 0 0 (by decide), rfl⟩ (kI fun r2 M2 hr2 hp2 => ?_)
  obtain ⟨s2, hY, hO2, hK2, hx2⟩ := hp2
  have hO := hO.tr hO2
  have hK := hK.tr hK2
  have h0 := hY.2.2.1
  have hrw := hY.2.2.2.1
  have hnm := hY.2.2.2.2.1
  have hsh := hY.2.2.2.2.2.1
  have hmk := hY.2.2.2.2.2.2.1
  have hic := hY.2.2.2.2.2.2.2.1
  have hcn := hY.2.2.2.2.2.2.2.2.1
  have hgt := hY.2.2.2.2.2.2.2.2.2
  exact v_iret dX7_differences_5 rfl ⟨(Nat.le_of_ble_eq_true rfl), (Nat.le_of_ble_eq_true rfl)⟩ (by omega) ⟨_, hY, hO, hK⟩
set_option maxHeartbeats 4000000 in
set_option maxRecDepth 100000 in
theorem tX7_difference {G : gG} {fw : Nat → Nat → Nat} {si : sG} {Mi : wM} (hY : wY G fw si Mi) {a w : Int} (ha : rng a) (hw : rng w) : wT G qX7_difference 0 0 [.ref (fw 0 0), .int (gI a), .int (gI w)] Mi (PY G fw Mi (fun x s' => keepY si s')) := by
  refine wT.intro (by decide) (Nat.le_of_ble_eq_true rfl) (fun sz => ?_)
  have hO : wO cntY fw Mi Mi := wO.rf
  have hK : keepY si si := keepY.rf
  refine v_iloadn dX7_difference_0 rfl ?_
  refine v_if_lt 13 dX7_difference_1 (by decide) (by omega) (fun h1 => ?_) (fun h1 => ?_)
  · refine v_iconst dX7_difference_13 ?_
    exact v_iret dX7_difference_14 rfl ⟨(Nat.le_of_ble_eq_true rfl), (Nat.le_of_ble_eq_true rfl)⟩ (by omega) ⟨_, hY, hO, hK⟩
  · refine v_iloadn dX7_difference_4 rfl ?_
    refine v_iconst dX7_difference_5 ?_
    refine v_iconst dX7_difference_6 ?_
    refine v_callS (tX7_in (by omega) (by omega) (by omega)) lc_X7_60 ⟨(Nat.le_of_ble_eq_true rfl), (Nat.le_of_ble_eq_true rfl)⟩ dX7_difference_7 rfl rfl (Nat.le_of_ble_eq_true rfl) ⟨(Nat.le_of_ble_eq_true rfl), (Nat.le_of_ble_eq_true rfl)⟩ (kP fun r7 hr7 hp7 => ?_)
    refine v_if_ne 15 dX7_difference_10 (by decide) (by omega) (fun h10 => ?_) (fun h10 => ?_)
    · refine v_aloadn dX7_difference_15 rfl ?_
      refine v_iloadn dX7_difference_16 rfl ?_
      refine v_callV (tX7_spans hY (by omega)) lc_X7_129 ⟨(Nat.le_of_ble_eq_true rfl), (Nat.le_of_ble_eq_true rfl)⟩ dX7_difference_17 rfl rfl (Nat.le_of_ble_eq_true rfl) ⟨(Nat.le_of_ble_eq_true rfl), (Nat.le_of_ble_eq_true rfl)⟩ ⟨_, _, _, _, hY.2.1 0 0 (by decide), rfl⟩ (kI fun r17 M17 hr17 hp17 => ?_)
      obtain ⟨s17, hY, hO17, hK17, hx17⟩ := hp17
      have hO := hO.tr hO17
      have hK := hK.tr hK17
      have h0 := hY.2.2.1
      have hrw := hY.2.2.2.1
      have hnm := hY.2.2.2.2.1
      have hsh := hY.2.2.2.2.2.1
      have hmk := hY.2.2.2.2.2.2.1
      have hic := hY.2.2.2.2.2.2.2.1
      have hcn := hY.2.2.2.2.2.2.2.2.1
      have hgt := hY.2.2.2.2.2.2.2.2.2
      refine v_iloadn dX7_difference_20 rfl ?_
      refine v_icmp_gt 27 dX7_difference_21 (by decide) (by omega) (by omega) (fun h21 => ?_) (fun h21 => ?_)
      · refine v_iloadn dX7_difference_27 rfl ?_
        refine v_if_ne 38 dX7_difference_28 (by decide) (by omega) (fun h28 => ?_) (fun h28 => ?_)
        · refine v_iloadn dX7_difference_38 rfl ?_
          refine v_iconst dX7_difference_39 ?_
          refine v_icmp_ne 50 dX7_difference_40 (by decide) (by omega) (by omega) (fun h40 => ?_) (fun h40 => ?_)
          · refine v_aloadn dX7_difference_50 rfl ?_
            refine v_get dX7_difference_51 gf_X7_126 (hY.2.1 0 0 (by decide)) rfl ?_
            exact v_iret dX7_difference_54 rfl ⟨(Nat.le_of_ble_eq_true rfl), (Nat.le_of_ble_eq_true rfl)⟩ (by omega) ⟨_, hY, hO, hK⟩
          · refine v_aloadn dX7_difference_43 rfl ?_
            refine v_get dX7_difference_44 gf_X7_123 (hY.2.1 0 0 (by decide)) rfl ?_
            refine v_goto 54 dX7_difference_47 (by decide) ?_
            exact v_iret dX7_difference_54 rfl ⟨(Nat.le_of_ble_eq_true rfl), (Nat.le_of_ble_eq_true rfl)⟩ (by omega) ⟨_, hY, hO, hK⟩
        · refine v_aloadn dX7_difference_31 rfl ?_
          refine v_get dX7_difference_32 gf_X7_120 (hY.2.1 0 0 (by decide)) rfl ?_
          refine v_goto 54 dX7_difference_35 (by decide) ?_
          exact v_iret dX7_difference_54 rfl ⟨(Nat.le_of_ble_eq_true rfl), (Nat.le_of_ble_eq_true rfl)⟩ (by omega) ⟨_, hY, hO, hK⟩
      · refine v_bipush dX7_difference_24 (by decide) ?_
        exact v_iret dX7_difference_26 rfl ⟨(Nat.le_of_ble_eq_true rfl), (Nat.le_of_ble_eq_true rfl)⟩ (by omega) ⟨_, hY, hO, hK⟩
    · refine v_iconst dX7_difference_13 ?_
      exact v_iret dX7_difference_14 rfl ⟨(Nat.le_of_ble_eq_true rfl), (Nat.le_of_ble_eq_true rfl)⟩ (by omega) ⟨_, hY, hO, hK⟩
set_option maxHeartbeats 4000000 in
set_option maxRecDepth 100000 in
theorem tX7_first_in {sz : Nat} {M0 : wM} {G : gG} {fw : Nat → Nat → Nat} {s : sG} {M : wM} (hY : wY G fw s M) {u a w : Int} (ha : bt 0 a 11) (hw : bt (-50) w 50) {Post : Option Value → wM → Prop} (hk : ∀ t, bt 0 t 100050 → wV G qX7_first 0 0 sz M0 0 0 59 [(0, .ref (fw 0 0)), (1, .int (gI u)), (2, .int (gI a)), (3, .int (gI w)), (4, .int (gI t))] [] M Post) : ∀ (k : Nat) (t : Int), 0 ≤ 100050 - t → 100050 - t < (k : Int) → (bt 0 t 100050) → wV G qX7_first 0 0 sz M0 0 0 26 [(0, .ref (fw 0 0)), (1, .int (gI u)), (2, .int (gI a)), (3, .int (gI w)), (4, .int (gI t))] [] M (Post) := by
  intro k
  induction k with
  | zero =>
    intros
    omega
  | succ k ih =>
    intro t hmz hml h1
    have h0 := hY.2.2.1
    have hrw := hY.2.2.2.1
    have hnm := hY.2.2.2.2.1
    have hsh := hY.2.2.2.2.2.1
    have hmk := hY.2.2.2.2.2.2.1
    have hic := hY.2.2.2.2.2.2.2.1
    have hcn := hY.2.2.2.2.2.2.2.2.1
    have hgt := hY.2.2.2.2.2.2.2.2.2
    refine v_iload dX7_first_26 rfl ?_
    refine v_aloadn dX7_first_28 rfl ?_
    refine v_get dX7_first_29 gf_X7_7 (hY.2.1 0 0 (by decide)) rfl ?_
    refine v_icmp_ge 59 dX7_first_32 (by decide) (by omega) (by omega) (fun h32 => ?_) (fun h32 => ?_)
    · refine wV.locs (lv' := [(0, .ref (fw 0 0)), (1, .int (gI u)), (2, .int (gI a)), (3, .int (gI w)), (4, .int (gI t))]) ⟨rfl, rfl, rfl, rfl, rfl, trivial⟩ (hk _ (by omega))
    · refine v_aloadn dX7_first_35 rfl ?_
      refine v_iloadn dX7_first_36 rfl ?_
      refine v_iload dX7_first_37 rfl ?_
      refine v_iloadn dX7_first_39 rfl ?_
      refine v_callV (tX7_differs hY (by omega) (by omega) (by omega)) lc_X7_110 ⟨(Nat.le_of_ble_eq_true rfl), (Nat.le_of_ble_eq_true rfl)⟩ dX7_first_40 rfl rfl (Nat.le_of_ble_eq_true rfl) ⟨(Nat.le_of_ble_eq_true rfl), (Nat.le_of_ble_eq_true rfl)⟩ ⟨_, _, _, _, hY.2.1 0 0 (by decide), rfl⟩ (kP fun r40 hr40 hp40 => ?_)
      refine v_if_ne 59 dX7_first_43 (by decide) (by omega) (fun h43 => ?_) (fun h43 => ?_)
      · refine wV.locs (lv' := [(0, .ref (fw 0 0)), (1, .int (gI u)), (2, .int (gI a)), (3, .int (gI w)), (4, .int (gI t))]) ⟨rfl, rfl, rfl, rfl, rfl, trivial⟩ (hk _ (by omega))
      · refine v_aloadn dX7_first_46 rfl ?_
        refine v_iloadn dX7_first_47 rfl ?_
        refine v_iload dX7_first_48 rfl ?_
        refine v_iloadn dX7_first_50 rfl ?_
        refine v_callV (tX7_next hY (by omega) (by omega) (by omega)) lc_X7_117 ⟨(Nat.le_of_ble_eq_true rfl), (Nat.le_of_ble_eq_true rfl)⟩ dX7_first_51 rfl rfl (Nat.le_of_ble_eq_true rfl) ⟨(Nat.le_of_ble_eq_true rfl), (Nat.le_of_ble_eq_true rfl)⟩ ⟨_, _, _, _, hY.2.1 0 0 (by decide), rfl⟩ (kP fun r51 hr51 hp51 => ?_)
        refine v_istore dX7_first_54 (Nat.le_of_ble_eq_true rfl) ?_
        refine v_goto 26 dX7_first_56 (by decide) ?_
        refine wV.locs (lv' := [(0, .ref (fw 0 0)), (1, .int (gI u)), (2, .int (gI a)), (3, .int (gI w)), (4, .int (gI _))]) ⟨rfl, rfl, rfl, rfl, rfl, trivial⟩ (ih _ (by omega) (by omega) (by omega))
set_option maxHeartbeats 4000000 in
set_option maxRecDepth 100000 in
theorem tX7_first_out {sz : Nat} {M0 : wM} {G : gG} {fw : Nat → Nat → Nat} {s : sG} {M : wM} (hY : wY G fw s M) : ∀ (k : Nat) (u a : Int), 0 ≤ 12 - a → 12 - a < (k : Int) → (bt 0 a 12) → (bt (-4) u 4000) → wV G qX7_first 0 0 sz M0 0 0 5 [(0, .ref (fw 0 0)), (1, .int (gI u)), (2, .int (gI a))] [] M (iP fun x M' => M' = M ∧ True) := by
  intro k
  induction k with
  | zero =>
    intros
    omega
  | succ k ih =>
    intro u a hmz hml h1 h2
    have h0 := hY.2.2.1
    have hrw := hY.2.2.2.1
    have hnm := hY.2.2.2.2.1
    have hsh := hY.2.2.2.2.2.1
    have hmk := hY.2.2.2.2.2.2.1
    have hic := hY.2.2.2.2.2.2.2.1
    have hcn := hY.2.2.2.2.2.2.2.2.1
    have hgt := hY.2.2.2.2.2.2.2.2.2
    refine v_iloadn dX7_first_5 rfl ?_
    refine v_bipush dX7_first_6 (by decide) ?_
    refine v_icmp_ge 91 dX7_first_8 (by decide) (by omega) (by omega) (fun h8 => ?_) (fun h8 => ?_)
    · refine v_iloadn dX7_first_91 rfl ?_
      exact v_iret dX7_first_92 rfl ⟨(Nat.le_of_ble_eq_true rfl), (Nat.le_of_ble_eq_true rfl)⟩ (by omega) ⟨rfl, trivial⟩
    · refine v_aloadn dX7_first_11 rfl ?_
      refine v_get dX7_first_12 gf_X7_29 (hY.2.1 0 0 (by decide)) rfl ?_
      refine v_aloadn dX7_first_15 rfl ?_
      refine v_get dX7_first_16 gf_X7_26 (hY.2.1 0 0 (by decide)) rfl ?_
      refine v_iloadn dX7_first_19 rfl ?_
      refine v_iald dX7_first_20 (hY.2.1 5 0 (by decide)) (by omega) (by omega) (by decide) ?_
      have hga := hnm a.toNat (by omega)
      refine v_iald dX7_first_21 (hY.2.1 6 0 (by decide)) (by omega) (by omega) (by decide) ?_
      have hsa := hsh (s 5 0 a.toNat).toNat (by omega)
      refine v_istoren dX7_first_22 (Nat.le_of_ble_eq_true rfl) ?_
      refine v_iconst dX7_first_23 ?_
      refine v_istore dX7_first_24 (Nat.le_of_ble_eq_true rfl) ?_
      refine wV.locs (lv' := [(0, .ref (fw 0 0)), (1, .int (gI u)), (2, .int (gI a)), (3, .int (gI (s 6 0 (s 5 0 a.toNat).toNat))), (4, .int (gI 0))]) ⟨rfl, rfl, rfl, rfl, rfl, trivial⟩ (tX7_first_in hY (by omega) (by omega) (fun t ht => ?_) 100060 _ (by omega) (by omega) (by omega))
      refine v_iload dX7_first_59 rfl ?_
      refine v_aloadn dX7_first_61 rfl ?_
      refine v_get dX7_first_62 gf_X7_7 (hY.2.1 0 0 (by decide)) rfl ?_
      refine v_icmp_ge 83 dX7_first_65 (by decide) (by omega) (by omega) (fun h65 => ?_) (fun h65 => ?_)
      · refine v_iloadn dX7_first_83 rfl ?_
        refine v_istoren dX7_first_84 (Nat.le_of_ble_eq_true rfl) ?_
        refine v_iinc dX7_first_85 rfl (Nat.le_of_ble_eq_true rfl) ?_
        refine v_goto 5 dX7_first_88 (by decide) ?_
        refine wV.locs (lv' := [(0, .ref (fw 0 0)), (1, .int (gI _)), (2, .int (gI _))]) ⟨rfl, rfl, rfl, trivial⟩ (ih _ _ (by omega) (by omega) (by omega) (by omega))
      · refine v_iloadn dX7_first_68 rfl ?_
        refine v_if_lt 78 dX7_first_69 (by decide) (by omega) (fun h69 => ?_) (fun h69 => ?_)
        · refine v_iload dX7_first_78 rfl ?_
          refine v_goto 84 dX7_first_80 (by decide) ?_
          refine v_istoren dX7_first_84 (Nat.le_of_ble_eq_true rfl) ?_
          refine v_iinc dX7_first_85 rfl (Nat.le_of_ble_eq_true rfl) ?_
          refine v_goto 5 dX7_first_88 (by decide) ?_
          refine wV.locs (lv' := [(0, .ref (fw 0 0)), (1, .int (gI _)), (2, .int (gI _))]) ⟨rfl, rfl, rfl, trivial⟩ (ih _ _ (by omega) (by omega) (by omega) (by omega))
        · refine v_iload dX7_first_72 rfl ?_
          refine v_iloadn dX7_first_74 rfl ?_
          refine v_icmp_ge 83 dX7_first_75 (by decide) (by omega) (by omega) (fun h75 => ?_) (fun h75 => ?_)
          · refine v_iloadn dX7_first_83 rfl ?_
            refine v_istoren dX7_first_84 (Nat.le_of_ble_eq_true rfl) ?_
            refine v_iinc dX7_first_85 rfl (Nat.le_of_ble_eq_true rfl) ?_
            refine v_goto 5 dX7_first_88 (by decide) ?_
            refine wV.locs (lv' := [(0, .ref (fw 0 0)), (1, .int (gI _)), (2, .int (gI _))]) ⟨rfl, rfl, rfl, trivial⟩ (ih _ _ (by omega) (by omega) (by omega) (by omega))
          · refine v_iload dX7_first_78 rfl ?_
            refine v_goto 84 dX7_first_80 (by decide) ?_
            refine v_istoren dX7_first_84 (Nat.le_of_ble_eq_true rfl) ?_
            refine v_iinc dX7_first_85 rfl (Nat.le_of_ble_eq_true rfl) ?_
            refine v_goto 5 dX7_first_88 (by decide) ?_
            refine wV.locs (lv' := [(0, .ref (fw 0 0)), (1, .int (gI _)), (2, .int (gI _))]) ⟨rfl, rfl, rfl, trivial⟩ (ih _ _ (by omega) (by omega) (by omega) (by omega))
set_option maxHeartbeats 4000000 in
set_option maxRecDepth 100000 in
theorem tX7_first {G : gG} {fw : Nat → Nat → Nat} {s : sG} {M : wM} (hY : wY G fw s M) : wT G qX7_first 0 0 [.ref (fw 0 0)] M (iP fun x M' => M' = M ∧ True) := by
  refine wT.intro (by decide) (Nat.le_of_ble_eq_true rfl) (fun sz => ?_)
  refine v_bipush dX7_first_0 (by decide) ?_
  refine v_istoren dX7_first_2 (Nat.le_of_ble_eq_true rfl) ?_
  refine v_iconst dX7_first_3 ?_
  refine v_istoren dX7_first_4 (Nat.le_of_ble_eq_true rfl) ?_
  refine wV.locs (lv' := [(0, .ref (fw 0 0)), (1, .int (gI (-4))), (2, .int (gI (0)))]) ⟨rfl, rfl, rfl, trivial⟩ (tX7_first_out hY 20 _ _ (by omega) (by omega) (by omega) (by omega))
