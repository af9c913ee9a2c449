set_option maxHeartbeats 4000000 in
set_option maxRecDepth 100000 in
theorem tX6_differences_loop {sz : Nat} {M0 : wM} {G : gG} {fw : Nat → Nat → Nat} {si : sG} {Mi : wM} : ∀ (k : Nat) (s : sG) (M : wM) (u i : Int), 0 ≤ 13 - i → 13 - i < (k : Int) → (wX G fw s M) → (wO cntX fw Mi M) → (keepX si s) → (bt 0 i 12) → wV G qX6_differences 0 0 sz M0 0 0 4 [(0, .ref (fw 0 0)), (1, .int (gI u)), (2, .int (gI i))] [] M (PX G fw Mi (fun x s' => keepX si s')) := by
  intro k
  induction k with
  | zero =>
    intros
    omega
  | succ k ih =>
    intro s M u i hmz hml hX hO hK h1
    have h0 := hX.2.2.1
    have hnm := hX.2.2.2.1
    have hsh := hX.2.2.2.2.1
    have h8 := hX.2.2.2.2.2.1
    refine v_iloadn dX6_differences_4 rfl ?_
    refine v_bipush dX6_differences_5 (by decide) ?_
    refine v_icmp_ge 47 dX6_differences_7 (by decide) (by omega) (by omega) (fun h7 => ?_) (fun h7 => ?_)
    · refine v_iloadn dX6_differences_47 rfl ?_
      exact v_iretA dX6_differences_48 rfl ⟨(Nat.le_of_ble_eq_true rfl), (Nat.le_of_ble_eq_true rfl)⟩ ⟨s, hX, hO, hK⟩
    · refine v_aloadn dX6_differences_10 rfl ?_
      refine v_iloadn dX6_differences_11 rfl ?_
      refine v_aloadn dX6_differences_12 rfl ?_
      refine v_get dX6_differences_13 gf_X6_22 (hX.2.1 0 0 (by decide)) rfl ?_
      refine v_aloadn dX6_differences_16 rfl ?_
      refine v_get dX6_differences_17 gf_X6_19 (hX.2.1 0 0 (by decide)) rfl ?_
      refine v_iloadn dX6_differences_20 rfl ?_
      refine v_iald dX6_differences_21 (hX.2.1 3 0 (by decide)) (by omega) (by omega) (by decide) ?_
      have hgi := hnm (i).toNat (by omega)
      refine v_iald dX6_differences_22 (hX.2.1 4 0 (by decide)) (by omega) (by omega) (by decide) ?_
      have hshi := hsh (s 3 0 (i).toNat).toNat (by omega)
      refine v_callV (tX6_seekDifferences hX (by omega) (by omega)) lc_X6_128 ⟨(Nat.le_of_ble_eq_true rfl), (Nat.le_of_ble_eq_true rfl)⟩ dX6_differences_23 rfl rfl (Nat.le_of_ble_eq_true rfl) ⟨(Nat.le_of_ble_eq_true rfl), (Nat.le_of_ble_eq_true rfl)⟩ ⟨_, _, _, _, (hX.2.1 0 0 (by decide)), rfl⟩ (kV fun M23 hp23 => ?_)
      obtain ⟨s23, hX, hO23, hK23⟩ := hp23
      have hO := hO.tr hO23
      have hK := hK.tr hK23
      have h0 := hX.2.2.1
      have hnm := hX.2.2.2.1
      have hsh := hX.2.2.2.2.1
      have h8 := hX.2.2.2.2.2.1
      refine v_iloadn dX6_differences_26 rfl ?_
      refine v_aloadn dX6_differences_27 rfl ?_
      refine v_get dX6_differences_28 gf_X6_46 (hX.2.1 0 0 (by decide)) rfl ?_
      refine v_iconst dX6_differences_31 ?_
      refine v_aloadn dX6_differences_32 rfl ?_
      refine v_get dX6_differences_33 gf_X6_54 (hX.2.1 0 0 (by decide)) rfl ?_
      refine v_callV (tX5_howMany hX (by omega) (by omega)) lc_X6_131 ⟨(Nat.le_of_ble_eq_true rfl), (Nat.le_of_ble_eq_true rfl)⟩ dX6_differences_36 rfl rfl (Nat.le_of_ble_eq_true rfl) ⟨(Nat.le_of_ble_eq_true rfl), (Nat.le_of_ble_eq_true rfl)⟩ ⟨_, _, _, _, hX.2.1 8 0 (by decide), rfl⟩ (kI fun r36 M36 hr36 hp36 => ?_)
      obtain ⟨hb36, hp36⟩ := hp36
      obtain ⟨s36, hX, hO36, hK36⟩ := hp36
      have hO := hO.tr hO36
      have hK := hK.tr hK36
      have h0 := hX.2.2.1
      have hnm := hX.2.2.2.1
      have hsh := hX.2.2.2.2.1
      have h8 := hX.2.2.2.2.2.1
      refine v_iadd dX6_differences_39 ?_
      refine v_istoren dX6_differences_40 (Nat.le_of_ble_eq_true rfl) ?_
      refine v_iinc dX6_differences_41 rfl (Nat.le_of_ble_eq_true rfl) ?_
      refine v_goto 4 dX6_differences_44 (by decide) ?_
      refine wV.locs (lv' := [(0, .ref (fw 0 0)), (1, .int (gI _)), (2, .int (gI _))]) ⟨rfl, rfl, rfl, trivial⟩ (ih _ _ _ _ (by omega) (by omega) hX hO hK (by omega))
set_option maxHeartbeats 4000000 in
set_option maxRecDepth 100000 in
theorem tX6_differences {G : gG} {fw : Nat → Nat → Nat} {si : sG} {Mi : wM} (hX : wX G fw si Mi) : wT G qX6_differences 0 0 [.ref (fw 0 0)] Mi (PX G fw Mi (fun x s' => keepX si s')) := by
  refine wT.intro (by decide) (Nat.le_of_ble_eq_true rfl) (fun sz => ?_)
  have hO : wO cntX fw Mi Mi := wO.rf
  have hK : keepX si si := keepX.rf
  refine v_iconst dX6_differences_0 ?_
  refine v_istoren dX6_differences_1 (Nat.le_of_ble_eq_true rfl) ?_
  refine v_iconst dX6_differences_2 ?_
  refine v_istoren dX6_differences_3 (Nat.le_of_ble_eq_true rfl) ?_
  refine wV.locs (lv' := [(0, .ref (fw 0 0)), (1, .int (gI (0))), (2, .int (gI (0)))]) ⟨rfl, rfl, rfl, trivial⟩ (tX6_differences_loop 20 _ _ _ _ (by omega) (by omega) hX hO hK (by omega))
set_option maxHeartbeats 4000000 in
set_option maxRecDepth 100000 in
theorem tX6_difference_loop {sz : Nat} {M0 : wM} {G : gG} {fw : Nat → Nat → Nat} {si : sG} {Mi : wM} {a w : Int} (ha : rng a) (ha0 : 0 ≤ a) (hw : bt 0 w 2) : ∀ (k : Nat) (s : sG) (M : wM) (l i : Int), 0 ≤ 13 - i → 13 - i < (k : Int) → (wX G fw s M) → (wO cntX fw Mi M) → (keepX si s) → (bt 0 i 12) → (l ≤ a ∧ a - 4001 * i ≤ l) → wV G qX6_difference 0 0 sz M0 0 0 20 [(0, .ref (fw 0 0)), (1, .int (gI a)), (2, .int (gI w)), (3, .int (gI l)), (4, .int (gI i))] [] M (PX G fw Mi (fun x s' => keepX si s')) := by
  intro k
  induction k with
  | zero =>
    intros
    omega
  | succ k ih =>
    intro s M l i hmz hml hX hO hK h1 h2
    have h0 := hX.2.2.1
    have hnm := hX.2.2.2.1
    have hsh := hX.2.2.2.2.1
    have h8 := hX.2.2.2.2.2.1
    refine v_iload dX6_difference_20 rfl ?_
    refine v_bipush dX6_difference_22 (by decide) ?_
    refine v_icmp_ge 97 dX6_difference_24 (by decide) (by omega) (by omega) (fun h24 => ?_) (fun h24 => ?_)
    · refine v_bipush dX6_difference_97 (by decide) ?_
      exact v_iret dX6_difference_99 rfl ⟨(Nat.le_of_ble_eq_true rfl), (Nat.le_of_ble_eq_true rfl)⟩ (by omega) ⟨s, hX, hO, hK⟩
    · refine v_aloadn dX6_difference_27 rfl ?_
      refine v_iload dX6_difference_28 rfl ?_
      refine v_aloadn dX6_difference_30 rfl ?_
      refine v_get dX6_difference_31 gf_X6_22 (hX.2.1 0 0 (by decide)) rfl ?_
      refine v_aloadn dX6_difference_34 rfl ?_
      refine v_get dX6_difference_35 gf_X6_19 (hX.2.1 0 0 (by decide)) rfl ?_
      refine v_iload dX6_difference_38 rfl ?_
      refine v_iald dX6_difference_40 (hX.2.1 3 0 (by decide)) (by omega) (by omega) (by decide) ?_
      have hgi := hnm (i).toNat (by omega)
      refine v_iald dX6_difference_41 (hX.2.1 4 0 (by decide)) (by omega) (by omega) (by decide) ?_
      have hshi := hsh (s 3 0 (i).toNat).toNat (by omega)
      refine v_callV (tX6_seekDifferences hX (by omega) (by omega)) lc_X6_128 ⟨(Nat.le_of_ble_eq_true rfl), (Nat.le_of_ble_eq_true rfl)⟩ dX6_difference_42 rfl rfl (Nat.le_of_ble_eq_true rfl) ⟨(Nat.le_of_ble_eq_true rfl), (Nat.le_of_ble_eq_true rfl)⟩ ⟨_, _, _, _, (hX.2.1 0 0 (by decide)), rfl⟩ (kV fun M42 hp42 => ?_)
      obtain ⟨s42, hX, hO42, hK42⟩ := hp42
      have hO := hO.tr hO42
      have hK := hK.tr hK42
      have h0 := hX.2.2.1
      have hnm := hX.2.2.2.1
      have hsh := hX.2.2.2.2.1
      have h8 := hX.2.2.2.2.2.1
      refine v_aloadn dX6_difference_45 rfl ?_
      refine v_get dX6_difference_46 gf_X6_46 (hX.2.1 0 0 (by decide)) rfl ?_
      refine v_iloadn dX6_difference_49 rfl ?_
      refine v_iconst dX6_difference_50 ?_
      refine v_aloadn dX6_difference_51 rfl ?_
      refine v_get dX6_difference_52 gf_X6_54 (hX.2.1 0 0 (by decide)) rfl ?_
      refine v_callV (tX5_find hX (by omega) (by omega) (by omega)) lc_X6_135 ⟨(Nat.le_of_ble_eq_true rfl), (Nat.le_of_ble_eq_true rfl)⟩ dX6_difference_55 rfl rfl (Nat.le_of_ble_eq_true rfl) ⟨(Nat.le_of_ble_eq_true rfl), (Nat.le_of_ble_eq_true rfl)⟩ ⟨_, _, _, _, hX.2.1 8 0 (by decide), rfl⟩ (kI fun r55 M55 hr55 hp55 => ?_)
      obtain ⟨s55, hX, hO55, hE55, e1, e2, e3, e4, e5⟩ := hp55
      have hO := hO.tr hO55
      have hK : keepX si s55 := hK.tr (fun k i' hq => by rw [hE55 k (fun z => hq (Or.inl z))])
      have h0 := hX.2.2.1
      have hnm := hX.2.2.2.1
      have hsh := hX.2.2.2.2.1
      have h8 := hX.2.2.2.2.2.1
      refine v_if_eq 81 dX6_difference_58 (by decide) (by omega) (fun h58 => ?_) (fun h58 => ?_)
      · refine v_iloadn dX6_difference_81 rfl ?_
        refine v_aloadn dX6_difference_82 rfl ?_
        refine v_get dX6_difference_83 gf_X6_46 (hX.2.1 0 0 (by decide)) rfl ?_
        refine v_callV (tX5_seen hX) lc_X6_141 ⟨(Nat.le_of_ble_eq_true rfl), (Nat.le_of_ble_eq_true rfl)⟩ dX6_difference_86 rfl rfl (Nat.le_of_ble_eq_true rfl) ⟨(Nat.le_of_ble_eq_true rfl), (Nat.le_of_ble_eq_true rfl)⟩ ⟨_, _, _, _, hX.2.1 8 0 (by decide), rfl⟩ (kP fun r86 hr86 hp86 => ?_)
        refine v_isub dX6_difference_89 ?_
        refine v_istoren dX6_difference_90 (Nat.le_of_ble_eq_true rfl) ?_
        refine v_iinc dX6_difference_91 rfl (Nat.le_of_ble_eq_true rfl) ?_
        refine v_goto 20 dX6_difference_94 (by decide) ?_
        refine wV.locs (lv' := [(0, .ref (fw 0 0)), (1, .int (gI a)), (2, .int (gI w)), (3, .int (gI _)), (4, .int (gI _))]) ⟨rfl, rfl, rfl, rfl, rfl, trivial⟩ (ih _ _ _ _ (by omega) (by omega) hX hO hK (by omega) (by omega))
      · refine v_iloadn dX6_difference_61 rfl ?_
        refine v_if_ne 70 dX6_difference_62 (by decide) (by omega) (fun h62 => ?_) (fun h62 => ?_)
        · refine v_aloadn dX6_difference_70 rfl ?_
          refine v_get dX6_difference_71 gf_X6_46 (hX.2.1 0 0 (by decide)) rfl ?_
          refine v_iloadn dX6_difference_74 rfl ?_
          refine v_iconst dX6_difference_75 ?_
          refine v_isub dX6_difference_76 ?_
          refine v_callV (tX5_edgeFound hX (by omega)) lc_X6_138 ⟨(Nat.le_of_ble_eq_true rfl), (Nat.le_of_ble_eq_true rfl)⟩ dX6_difference_77 rfl rfl (Nat.le_of_ble_eq_true rfl) ⟨(Nat.le_of_ble_eq_true rfl), (Nat.le_of_ble_eq_true rfl)⟩ ⟨_, _, _, _, hX.2.1 8 0 (by decide), rfl⟩ (kP fun r77 hr77 hp77 => ?_)
          exact v_iret dX6_difference_80 rfl ⟨(Nat.le_of_ble_eq_true rfl), (Nat.le_of_ble_eq_true rfl)⟩ (by omega) ⟨_, hX, hO, hK⟩
        · refine v_iload dX6_difference_65 rfl ?_
          refine v_goto 80 dX6_difference_67 (by decide) ?_
          exact v_iret dX6_difference_80 rfl ⟨(Nat.le_of_ble_eq_true rfl), (Nat.le_of_ble_eq_true rfl)⟩ (by omega) ⟨_, hX, hO, hK⟩
set_option maxHeartbeats 4000000 in
set_option maxRecDepth 100000 in
theorem tX6_difference {G : gG} {fw : Nat → Nat → Nat} {si : sG} {Mi : wM} (hX : wX G fw si Mi) {a w : Int} (ha : rng a) (hw : rng w) : wT G qX6_difference 0 0 [.ref (fw 0 0), .int (gI a), .int (gI w)] Mi (PX G fw Mi (fun x s' => keepX si s')) := by
  refine wT.intro (by decide) (Nat.le_of_ble_eq_true rfl) (fun sz => ?_)
  have hO : wO cntX fw Mi Mi := wO.rf
  have hK : keepX si si := keepX.rf
  refine v_iloadn dX6_difference_0 rfl ?_
  refine v_if_lt 13 dX6_difference_1 (by decide) (by omega) (fun h1 => ?_) (fun h1 => ?_)
  · refine v_iconst dX6_difference_13 ?_
    exact v_iret dX6_difference_14 rfl ⟨(Nat.le_of_ble_eq_true rfl), (Nat.le_of_ble_eq_true rfl)⟩ (by omega) ⟨si, hX, hO, hK⟩
  · refine v_iloadn dX6_difference_4 rfl ?_
    refine v_iconst dX6_difference_5 ?_
    refine v_iconst dX6_difference_6 ?_
    refine v_callS (tX6_outside (by omega) (by omega) (by omega)) lc_X6_69 ⟨(Nat.le_of_ble_eq_true rfl), (Nat.le_of_ble_eq_true rfl)⟩ dX6_difference_7 rfl rfl (Nat.le_of_ble_eq_true rfl) ⟨(Nat.le_of_ble_eq_true rfl), (Nat.le_of_ble_eq_true rfl)⟩ (kP fun r7 hr7 hp7 => ?_)
    refine v_if_eq 15 dX6_difference_10 (by decide) (by omega) (fun h10 => ?_) (fun h10 => ?_)
    · refine v_iloadn dX6_difference_15 rfl ?_
      refine v_istoren dX6_difference_16 (Nat.le_of_ble_eq_true rfl) ?_
      refine v_iconst dX6_difference_17 ?_
      refine v_istore dX6_difference_18 (Nat.le_of_ble_eq_true rfl) ?_
      refine wV.locs (lv' := [(0, .ref (fw 0 0)), (1, .int (gI a)), (2, .int (gI w)), (3, .int (gI (a))), (4, .int (gI (0)))]) ⟨rfl, rfl, rfl, rfl, rfl, trivial⟩ (tX6_difference_loop ha (by omega) (by omega) 20 _ _ _ _ (by omega) (by omega) hX hO hK (by omega) (by omega))
    · refine v_iconst dX6_difference_13 ?_
      exact v_iret dX6_difference_14 rfl ⟨(Nat.le_of_ble_eq_true rfl), (Nat.le_of_ble_eq_true rfl)⟩ (by omega) ⟨si, hX, hO, hK⟩
set_option maxHeartbeats 4000000 in
set_option maxRecDepth 100000 in
theorem tX6_first_loop {sz : Nat} {M0 : wM} {G : gG} {fw : Nat → Nat → Nat} {si : sG} {Mi : wM} : ∀ (k : Nat) (s : sG) (M : wM) (u i : Int), 0 ≤ 13 - i → 13 - i < (k : Int) → (wX G fw s M) → (wO cntX fw Mi M) → (keepX si s) → (bt 0 i 12) → (bt (-60) u 4000) → wV G qX6_first 0 0 sz M0 0 0 7 [(0, .ref (fw 0 0)), (1, .int (gI u)), (2, .int (gI i))] [] M (PX G fw Mi (fun x s' => keepX si s')) := by
  intro k
  induction k with
  | zero =>
    intros
    omega
  | succ k ih =>
    intro s M u i hmz hml hX hO hK h1 h2
    have h0 := hX.2.2.1
    have hnm := hX.2.2.2.1
    have hsh := hX.2.2.2.2.1
    have h8 := hX.2.2.2.2.2.1
    refine v_iloadn dX6_first_7 rfl ?_
    refine v_bipush dX6_first_8 (by decide) ?_
    refine v_icmp_ge 45 dX6_first_10 (by decide) (by omega) (by omega) (fun h10 => ?_) (fun h10 => ?_)
    · refine v_iloadn dX6_first_45 rfl ?_
      refine v_aloadn dX6_first_46 rfl ?_
      refine v_get dX6_first_47 gf_X6_54 (hX.2.1 0 0 (by decide)) rfl ?_
      refine v_icmp_ge 57 dX6_first_50 (by decide) (by omega) (by omega) (fun h50 => ?_) (fun h50 => ?_)
      · refine v_bipush dX6_first_57 (by decide) ?_
        exact v_iret dX6_first_59 rfl ⟨(Nat.le_of_ble_eq_true rfl), (Nat.le_of_ble_eq_true rfl)⟩ (by omega) ⟨s, hX, hO, hK⟩
      · refine v_iloadn dX6_first_53 rfl ?_
        refine v_goto 59 dX6_first_54 (by decide) ?_
        exact v_iret dX6_first_59 rfl ⟨(Nat.le_of_ble_eq_true rfl), (Nat.le_of_ble_eq_true rfl)⟩ (by omega) ⟨s, hX, hO, hK⟩
    · refine v_aloadn dX6_first_13 rfl ?_
      refine v_iloadn dX6_first_14 rfl ?_
      refine v_aloadn dX6_first_15 rfl ?_
      refine v_get dX6_first_16 gf_X6_22 (hX.2.1 0 0 (by decide)) rfl ?_
      refine v_aloadn dX6_first_19 rfl ?_
      refine v_get dX6_first_20 gf_X6_19 (hX.2.1 0 0 (by decide)) rfl ?_
      refine v_iloadn dX6_first_23 rfl ?_
      refine v_iald dX6_first_24 (hX.2.1 3 0 (by decide)) (by omega) (by omega) (by decide) ?_
      have hgi := hnm (i).toNat (by omega)
      refine v_iald dX6_first_25 (hX.2.1 4 0 (by decide)) (by omega) (by omega) (by decide) ?_
      have hshi := hsh (s 3 0 (i).toNat).toNat (by omega)
      refine v_callV (tX6_seekDifferences hX (by omega) (by omega)) lc_X6_128 ⟨(Nat.le_of_ble_eq_true rfl), (Nat.le_of_ble_eq_true rfl)⟩ dX6_first_26 rfl rfl (Nat.le_of_ble_eq_true rfl) ⟨(Nat.le_of_ble_eq_true rfl), (Nat.le_of_ble_eq_true rfl)⟩ ⟨_, _, _, _, (hX.2.1 0 0 (by decide)), rfl⟩ (kV fun M26 hp26 => ?_)
      obtain ⟨s26, hX, hO26, hK26⟩ := hp26
      have hO := hO.tr hO26
      have hK := hK.tr hK26
      have h0 := hX.2.2.1
      have hnm := hX.2.2.2.1
      have hsh := hX.2.2.2.2.1
      have h8 := hX.2.2.2.2.2.1
      refine v_aloadn dX6_first_29 rfl ?_
      refine v_get dX6_first_30 gf_X6_46 (hX.2.1 0 0 (by decide)) rfl ?_
      refine v_iconst dX6_first_33 ?_
      refine v_iloadn dX6_first_34 rfl ?_
      refine v_callV (tX5_start hX (by omega) (by omega)) lc_X6_144 ⟨(Nat.le_of_ble_eq_true rfl), (Nat.le_of_ble_eq_true rfl)⟩ dX6_first_35 rfl rfl (Nat.le_of_ble_eq_true rfl) ⟨(Nat.le_of_ble_eq_true rfl), (Nat.le_of_ble_eq_true rfl)⟩ ⟨_, _, _, _, hX.2.1 8 0 (by decide), rfl⟩ (kP fun r35 hr35 hp35 => ?_)
      refine v_istoren dX6_first_38 (Nat.le_of_ble_eq_true rfl) ?_
      refine v_iinc dX6_first_39 rfl (Nat.le_of_ble_eq_true rfl) ?_
      refine v_goto 7 dX6_first_42 (by decide) ?_
      refine wV.locs (lv' := [(0, .ref (fw 0 0)), (1, .int (gI _)), (2, .int (gI _))]) ⟨rfl, rfl, rfl, trivial⟩ (ih _ _ _ _ (by omega) (by omega) hX hO hK (by omega) (by omega))
set_option maxHeartbeats 4000000 in
set_option maxRecDepth 100000 in
theorem tX6_first {G : gG} {fw : Nat → Nat → Nat} {si : sG} {Mi : wM} (hX : wX G fw si Mi) : wT G qX6_first 0 0 [.ref (fw 0 0)] Mi (PX G fw Mi (fun x s' => keepX si s')) := by
  refine wT.intro (by decide) (Nat.le_of_ble_eq_true rfl) (fun sz => ?_)
  have hO : wO cntX fw Mi Mi := wO.rf
  have hK : keepX si si := keepX.rf
  have h0 := hX.2.2.1
  have hnm := hX.2.2.2.1
  have hsh := hX.2.2.2.2.1
  have h8 := hX.2.2.2.2.2.1
  refine v_aloadn dX6_first_0 rfl ?_
  refine v_get dX6_first_1 gf_X6_54 (hX.2.1 0 0 (by decide)) rfl ?_
  refine v_istoren dX6_first_4 (Nat.le_of_ble_eq_true rfl) ?_
  refine v_iconst dX6_first_5 ?_
  refine v_istoren dX6_first_6 (Nat.le_of_ble_eq_true rfl) ?_
  refine wV.locs (lv' := [(0, .ref (fw 0 0)), (1, .int (gI (si 0 0 9))), (2, .int (gI (0)))]) ⟨rfl, rfl, rfl, trivial⟩ (tX6_first_loop 20 _ _ _ _ (by omega) (by omega) hX hO hK (by omega) (by omega))
set_option maxHeartbeats 4000000 in
set_option maxRecDepth 100000 in
theorem tX6_hasSignals_loop {sz : Nat} {M0 : wM} {G : gG} {fw : Nat → Nat → Nat} {s : sG} {M : wM} (hX : wX G fw s M) {a : Int} (ha : rng a) : ∀ (k : Nat) (i : Int), 0 ≤ 13 - i → 13 - i < (k : Int) → (bt 0 i 12) → wV G qX6_hasSignals 0 0 sz M0 0 0 2 [(0, .ref (fw 0 0)), (1, .int (gI a)), (2, .int (gI i))] [] M (iP fun x M' => M' = M ∧ (x = 0 ∨ x = 1)) := by
  intro k
  induction k with
  | zero =>
    intros
    omega
  | succ k ih =>
    intro i hmz hml h1
    have h0 := hX.2.2.1
    have hnm := hX.2.2.2.1
    have hsh := hX.2.2.2.2.1
    have h8 := hX.2.2.2.2.2.1
    refine v_iloadn dX6_hasSignals_2 rfl ?_
    refine v_bipush dX6_hasSignals_3 (by decide) ?_
    refine v_icmp_ge 26 dX6_hasSignals_5 (by decide) (by omega) (by omega) (fun h5 => ?_) (fun h5 => ?_)
    · refine v_iconst dX6_hasSignals_26 ?_
      exact v_zret dX6_hasSignals_27 rfl ⟨(Nat.le_of_ble_eq_true rfl), (Nat.le_of_ble_eq_true rfl)⟩ (by omega) ⟨rfl, by omega⟩
    · refine v_aloadn dX6_hasSignals_8 rfl ?_
      refine v_get dX6_hasSignals_9 gf_X6_19 (hX.2.1 0 0 (by decide)) rfl ?_
      refine v_iloadn dX6_hasSignals_12 rfl ?_
      refine v_iald dX6_hasSignals_13 (hX.2.1 3 0 (by decide)) (by omega) (by omega) (by decide) ?_
      have hgi := hnm (i).toNat (by omega)
      refine v_iloadn dX6_hasSignals_14 rfl ?_
      refine v_icmp_ne 20 dX6_hasSignals_15 (by decide) (by omega) (by omega) (fun h15 => ?_) (fun h15 => ?_)
      · refine v_iinc dX6_hasSignals_20 rfl (Nat.le_of_ble_eq_true rfl) ?_
        refine v_goto 2 dX6_hasSignals_23 (by decide) ?_
        refine wV.locs (lv' := [(0, .ref (fw 0 0)), (1, .int (gI a)), (2, .int (gI _))]) ⟨rfl, rfl, rfl, trivial⟩ (ih _ (by omega) (by omega) (by omega))
      · refine v_iconst dX6_hasSignals_18 ?_
        exact v_zret dX6_hasSignals_19 rfl ⟨(Nat.le_of_ble_eq_true rfl), (Nat.le_of_ble_eq_true rfl)⟩ (by omega) ⟨rfl, by omega⟩
set_option maxHeartbeats 4000000 in
set_option maxRecDepth 100000 in
theorem tX6_hasSignals {G : gG} {fw : Nat → Nat → Nat} {s : sG} {M : wM} (hX : wX G fw s M) {a : Int} (ha : rng a) : wT G qX6_hasSignals 0 0 [.ref (fw 0 0), .int (gI a)] M (iP fun x M' => M' = M ∧ (x = 0 ∨ x = 1)) := by
  refine wT.intro (by decide) (Nat.le_of_ble_eq_true rfl) (fun sz => ?_)
  refine v_iconst dX6_hasSignals_0 ?_
  refine v_istoren dX6_hasSignals_1 (Nat.le_of_ble_eq_true rfl) ?_
  refine wV.locs (lv' := [(0, .ref (fw 0 0)), (1, .int (gI a)), (2, .int (gI (0)))]) ⟨rfl, rfl, rfl, trivial⟩ (tX6_hasSignals_loop hX ha 20 _ (by omega) (by omega) (by omega))
set_option maxHeartbeats 4000000 in
set_option maxRecDepth 100000 in
theorem tX6_fitsBy_loop {sz : Nat} {M0 : wM} {G : gG} {fw : Nat → Nat → Nat} {si : sG} {Mi : wM} {a b f u : Int} (ha : rng a) (hb : bt (-50) b 50) (hf : bt 0 f 50) (hu : bt (-60) u 4000) : ∀ (k : Nat) (s : sG) (M : wM) (i : Int), 0 ≤ 13 - i → 13 - i < (k : Int) → (wX G fw s M) → (wO cntX fw Mi M) → (keepX si s) → (bt 0 i 12) → wV G qX6_fitsBy 0 0 sz M0 0 0 33 [(0, .ref (fw 0 0)), (1, .int (gI a)), (2, .int (gI b)), (3, .int (gI f)), (4, .int (gI u)), (5, .int (gI i))] [] M (PX G fw Mi (fun x s' => keepX si s' ∧ (x = 0 ∨ x = 1))) := by
  intro k
  induction k with
  | zero =>
    intros
    omega
  | succ k ih =>
    intro s M i hmz hml hX hO hK h1
    have h0 := hX.2.2.1
    have hnm := hX.2.2.2.1
    have hsh := hX.2.2.2.2.1
    have h8 := hX.2.2.2.2.2.1
    refine v_iload dX6_fitsBy_33 rfl ?_
    refine v_bipush dX6_fitsBy_35 (by decide) ?_
    refine v_icmp_ge 81 dX6_fitsBy_37 (by decide) (by omega) (by omega) (fun h37 => ?_) (fun h37 => ?_)
    · refine v_iconst dX6_fitsBy_81 ?_
      exact v_zret dX6_fitsBy_82 rfl ⟨(Nat.le_of_ble_eq_true rfl), (Nat.le_of_ble_eq_true rfl)⟩ (by omega) ⟨_, hX, hO, hK, by omega⟩
    · refine v_aloadn dX6_fitsBy_40 rfl ?_
      refine v_get dX6_fitsBy_41 gf_X6_19 (hX.2.1 0 0 (by decide)) rfl ?_
      refine v_iload dX6_fitsBy_44 rfl ?_
      refine v_iald dX6_fitsBy_46 (hX.2.1 3 0 (by decide)) (by omega) (by omega) (by decide) ?_
      have hgi := hnm (i).toNat (by omega)
      refine v_iloadn dX6_fitsBy_47 rfl ?_
      refine v_icmp_ne 75 dX6_fitsBy_48 (by decide) (by omega) (by omega) (fun h48 => ?_) (fun h48 => ?_)
      · refine v_iinc dX6_fitsBy_75 rfl (Nat.le_of_ble_eq_true rfl) ?_
        refine v_goto 33 dX6_fitsBy_78 (by decide) ?_
        refine wV.locs (lv' := [(0, .ref (fw 0 0)), (1, .int (gI a)), (2, .int (gI b)), (3, .int (gI f)), (4, .int (gI u)), (5, .int (gI _))]) ⟨rfl, rfl, rfl, rfl, rfl, rfl, trivial⟩ (ih _ _ _ (by omega) (by omega) hX hO hK (by omega))
      · refine v_aloadn dX6_fitsBy_51 rfl ?_
        refine v_iload dX6_fitsBy_52 rfl ?_
        refine v_iloadn dX6_fitsBy_54 rfl ?_
        refine v_callV (tX6_seekDifferences hX (by omega) (by omega)) lc_X6_128 ⟨(Nat.le_of_ble_eq_true rfl), (Nat.le_of_ble_eq_true rfl)⟩ dX6_fitsBy_55 rfl rfl (Nat.le_of_ble_eq_true rfl) ⟨(Nat.le_of_ble_eq_true rfl), (Nat.le_of_ble_eq_true rfl)⟩ ⟨_, _, _, _, (hX.2.1 0 0 (by decide)), rfl⟩ (kV fun M55 hp55 => ?_)
        obtain ⟨s55, hX, hO55, hK55⟩ := hp55
        have hO := hO.tr hO55
        have hK := hK.tr hK55
        have h0 := hX.2.2.1
        have hnm := hX.2.2.2.1
        have hsh := hX.2.2.2.2.1
        have h8 := hX.2.2.2.2.2.1
        refine v_aloadn dX6_fitsBy_58 rfl ?_
        refine v_get dX6_fitsBy_59 gf_X6_46 (hX.2.1 0 0 (by decide)) rfl ?_
        refine v_iloadn dX6_fitsBy_62 rfl ?_
        refine v_iload dX6_fitsBy_63 rfl ?_
        refine v_callV (tX5_start hX (by omega) (by omega)) lc_X6_144 ⟨(Nat.le_of_ble_eq_true rfl), (Nat.le_of_ble_eq_true rfl)⟩ dX6_fitsBy_65 rfl rfl (Nat.le_of_ble_eq_true rfl) ⟨(Nat.le_of_ble_eq_true rfl), (Nat.le_of_ble_eq_true rfl)⟩ ⟨_, _, _, _, hX.2.1 8 0 (by decide), rfl⟩ (kP fun r65 hr65 hp65 => ?_)
        refine v_iload dX6_fitsBy_68 rfl ?_
        refine v_icmp_ge 75 dX6_fitsBy_70 (by decide) (by omega) (by omega) (fun h70 => ?_) (fun h70 => ?_)
        · refine v_iinc dX6_fitsBy_75 rfl (Nat.le_of_ble_eq_true rfl) ?_
          refine v_goto 33 dX6_fitsBy_78 (by decide) ?_
          refine wV.locs (lv' := [(0, .ref (fw 0 0)), (1, .int (gI a)), (2, .int (gI b)), (3, .int (gI f)), (4, .int (gI u)), (5, .int (gI _))]) ⟨rfl, rfl, rfl, rfl, rfl, rfl, trivial⟩ (ih _ _ _ (by omega) (by omega) hX hO hK (by omega))
        · refine v_iconst dX6_fitsBy_73 ?_
          exact v_zret dX6_fitsBy_74 rfl ⟨(Nat.le_of_ble_eq_true rfl), (Nat.le_of_ble_eq_true rfl)⟩ (by omega) ⟨_, hX, hO, hK, by omega⟩
set_option maxHeartbeats 4000000 in
set_option maxRecDepth 100000 in
theorem tX6_fitsBy {G : gG} {fw : Nat → Nat → Nat} {si : sG} {Mi : wM} (hX : wX G fw si Mi) {a b : Int} (ha : rng a) (hb : bt (-50) b 50) : wT G qX6_fitsBy 0 0 [.ref (fw 0 0), .int (gI a), .int (gI b)] Mi (PX G fw Mi (fun x s' => keepX si s' ∧ (x = 0 ∨ x = 1))) := by
  refine wT.intro (by decide) (Nat.le_of_ble_eq_true rfl) (fun sz => ?_)
  have hO : wO cntX fw Mi Mi := wO.rf
  have hK : keepX si si := keepX.rf
  have h0 := hX.2.2.1
  have hnm := hX.2.2.2.1
  have hsh := hX.2.2.2.2.1
  have h8 := hX.2.2.2.2.2.1
  refine v_iconst dX6_fitsBy_0 ?_
  refine v_iloadn dX6_fitsBy_1 rfl ?_
  refine v_ineg dX6_fitsBy_2 ?_
  refine v_max dX6_fitsBy_3 lc_X6_219 (Nat.le_of_ble_eq_true rfl) (Nat.le_of_ble_eq_true rfl) ⟨(Nat.le_of_ble_eq_true rfl), (Nat.le_of_ble_eq_true rfl)⟩ (by omega) (by omega) ?_
  obtain ⟨f, hf⟩ : ∃ z, z = (if 0 < -b then -b else 0) := ⟨_, rfl⟩
  rw [← hf]
  have hfb : bt 0 f 50 := by rw [hf]; split <;> omega
  refine v_istoren dX6_fitsBy_6 (Nat.le_of_ble_eq_true rfl) ?_
  refine v_aloadn dX6_fitsBy_7 rfl ?_
  refine v_get dX6_fitsBy_8 gf_X6_54 (hX.2.1 0 0 (by decide)) rfl ?_
  refine v_aloadn dX6_fitsBy_11 rfl ?_
  refine v_get dX6_fitsBy_12 gf_X6_54 (hX.2.1 0 0 (by decide)) rfl ?_
  refine v_iloadn dX6_fitsBy_15 rfl ?_
  refine v_isub dX6_fitsBy_16 ?_
  refine v_min dX6_fitsBy_17 lc_X6_224 (Nat.le_of_ble_eq_true rfl) (Nat.le_of_ble_eq_true rfl) ⟨(Nat.le_of_ble_eq_true rfl), (Nat.le_of_ble_eq_true rfl)⟩ (by omega) (by omega) ?_
  obtain ⟨u, hu⟩ : ∃ z, z = (if si 0 0 9 - b < si 0 0 9 then si 0 0 9 - b else si 0 0 9) := ⟨_, rfl⟩
  rw [← hu]
  have hub : bt (-60) u 4000 := by rw [hu]; split <;> omega
  refine v_istore dX6_fitsBy_20 (Nat.le_of_ble_eq_true rfl) ?_
  refine v_iloadn dX6_fitsBy_22 rfl ?_
  refine v_iload dX6_fitsBy_23 rfl ?_
  refine v_icmp_lt 30 dX6_fitsBy_25 (by decide) (by omega) (by omega) (fun h25 => ?_) (fun h25 => ?_)
  · refine v_iconst dX6_fitsBy_30 ?_
    refine v_istore dX6_fitsBy_31 (Nat.le_of_ble_eq_true rfl) ?_
    refine wV.locs (lv' := [(0, .ref (fw 0 0)), (1, .int (gI a)), (2, .int (gI b)), (3, .int (gI f)), (4, .int (gI u)), (5, .int (gI (0)))]) ⟨rfl, rfl, rfl, rfl, rfl, rfl, trivial⟩ (tX6_fitsBy_loop ha hb (by omega) (by omega) 20 _ _ _ (by omega) (by omega) hX hO hK (by omega))
  · refine v_iconst dX6_fitsBy_28 ?_
    exact v_zret dX6_fitsBy_29 rfl ⟨(Nat.le_of_ble_eq_true rfl), (Nat.le_of_ble_eq_true rfl)⟩ (by omega) ⟨si, hX, hO, hK, by omega⟩
set_option maxHeartbeats 4000000 in
set_option maxRecDepth 100000 in
theorem tX6_fit_loop {sz : Nat} {M0 : wM} {G : gG} {fw : Nat → Nat → Nat} {si : sG} {Mi : wM} {a : Int} (ha : rng a) : ∀ (k : Nat) (s : sG) (M : wM) (i : Int), 0 ≤ 52 - i → 52 - i < (k : Int) → (wX G fw s M) → (wO cntX fw Mi M) → (keepX si s) → (bt 0 i 51) → wV G qX6_fit 0 0 sz M0 0 0 27 [(0, .ref (fw 0 0)), (1, .int (gI a)), (2, .int (gI i))] [] M (PX G fw Mi (fun x s' => keepX si s')) := by
  intro k
  induction k with
  | zero =>
    intros
    omega
  | succ k ih =>
    intro s M i hmz hml hX hO hK h1
    have h0 := hX.2.2.1
    have hnm := hX.2.2.2.1
    have hsh := hX.2.2.2.2.1
    have h8 := hX.2.2.2.2.2.1
    refine v_iloadn dX6_fit_27 rfl ?_
    refine v_bipush dX6_fit_28 (by decide) ?_
    refine v_icmp_gt 63 dX6_fit_30 (by decide) (by omega) (by omega) (fun h30 => ?_) (fun h30 => ?_)
    · refine v_sipush dX6_fit_63 (by decide) ?_
      exact v_iret dX6_fit_66 rfl ⟨(Nat.le_of_ble_eq_true rfl), (Nat.le_of_ble_eq_true rfl)⟩ (by omega) ⟨_, hX, hO, hK⟩
    · refine v_aloadn dX6_fit_33 rfl ?_
      refine v_iloadn dX6_fit_34 rfl ?_
      refine v_iloadn dX6_fit_35 rfl ?_
      refine v_ineg dX6_fit_36 ?_
      refine v_callV (tX6_fitsBy hX (by omega) (by omega)) lc_X6_216 ⟨(Nat.le_of_ble_eq_true rfl), (Nat.le_of_ble_eq_true rfl)⟩ dX6_fit_37 rfl rfl (Nat.le_of_ble_eq_true rfl) ⟨(Nat.le_of_ble_eq_true rfl), (Nat.le_of_ble_eq_true rfl)⟩ ⟨_, _, _, _, (hX.2.1 0 0 (by decide)), rfl⟩ (kI fun r37 M37 hr37 hp37 => ?_)
      obtain ⟨s37, hX, hO37, hK37, hz37⟩ := hp37
      have hO := hO.tr hO37
      have hK := hK.tr hK37
      have h0 := hX.2.2.1
      have hnm := hX.2.2.2.1
      have hsh := hX.2.2.2.2.1
      have h8 := hX.2.2.2.2.2.1
      refine v_if_eq 46 dX6_fit_40 (by decide) (by omega) (fun h40 => ?_) (fun h40 => ?_)
      · refine v_aloadn dX6_fit_46 rfl ?_
        refine v_iloadn dX6_fit_47 rfl ?_
        refine v_iloadn dX6_fit_48 rfl ?_
        refine v_callV (tX6_fitsBy hX (by omega) (by omega)) lc_X6_216 ⟨(Nat.le_of_ble_eq_true rfl), (Nat.le_of_ble_eq_true rfl)⟩ dX6_fit_49 rfl rfl (Nat.le_of_ble_eq_true rfl) ⟨(Nat.le_of_ble_eq_true rfl), (Nat.le_of_ble_eq_true rfl)⟩ ⟨_, _, _, _, (hX.2.1 0 0 (by decide)), rfl⟩ (kI fun r49 M49 hr49 hp49 => ?_)
        obtain ⟨s49, hX, hO49, hK49, hz49⟩ := hp49
        have hO := hO.tr hO49
        have hK := hK.tr hK49
        have h0 := hX.2.2.1
        have hnm := hX.2.2.2.1
        have hsh := hX.2.2.2.2.1
        have h8 := hX.2.2.2.2.2.1
        refine v_if_eq 57 dX6_fit_52 (by decide) (by omega) (fun h52 => ?_) (fun h52 => ?_)
        · refine v_iinc dX6_fit_57 rfl (Nat.le_of_ble_eq_true rfl) ?_
          refine v_goto 27 dX6_fit_60 (by decide) ?_
          refine wV.locs (lv' := [(0, .ref (fw 0 0)), (1, .int (gI a)), (2, .int (gI _))]) ⟨rfl, rfl, rfl, trivial⟩ (ih _ _ _ (by omega) (by omega) hX hO hK (by omega))
        · refine v_iloadn dX6_fit_55 rfl ?_
          exact v_iret dX6_fit_56 rfl ⟨(Nat.le_of_ble_eq_true rfl), (Nat.le_of_ble_eq_true rfl)⟩ (by omega) ⟨_, hX, hO, hK⟩
      · refine v_iloadn dX6_fit_43 rfl ?_
        refine v_ineg dX6_fit_44 ?_
        exact v_iret dX6_fit_45 rfl ⟨(Nat.le_of_ble_eq_true rfl), (Nat.le_of_ble_eq_true rfl)⟩ (by omega) ⟨_, hX, hO, hK⟩
set_option maxHeartbeats 4000000 in
set_option maxRecDepth 100000 in
theorem tX6_fit {G : gG} {fw : Nat → Nat → Nat} {si : sG} {Mi : wM} (hX : wX G fw si Mi) {a : Int} (ha : rng a) : wT G qX6_fit 0 0 [.ref (fw 0 0), .int (gI a)] Mi (PX G fw Mi (fun x s' => keepX si s')) := by
  refine wT.intro (by decide) (Nat.le_of_ble_eq_true rfl) (fun sz => ?_)
  have hO : wO cntX fw Mi Mi := wO.rf
  have hK : keepX si si := keepX.rf
  refine v_iloadn dX6_fit_0 rfl ?_
  refine v_iconst dX6_fit_1 ?_
  refine v_iconst dX6_fit_2 ?_
  refine v_callS (tX6_outside (by omega) (by omega) (by omega)) lc_X6_69 ⟨(Nat.le_of_ble_eq_true rfl), (Nat.le_of_ble_eq_true rfl)⟩ dX6_fit_3 rfl rfl (Nat.le_of_ble_eq_true rfl) ⟨(Nat.le_of_ble_eq_true rfl), (Nat.le_of_ble_eq_true rfl)⟩ (kP fun r3 hr3 hp3 => ?_)
  refine v_if_eq 13 dX6_fit_6 (by decide) (by omega) (fun h6 => ?_) (fun h6 => ?_)
  · refine v_aloadn dX6_fit_13 rfl ?_
    refine v_iloadn dX6_fit_14 rfl ?_
    refine v_callV (tX6_hasSignals hX (by omega)) lc_X6_213 ⟨(Nat.le_of_ble_eq_true rfl), (Nat.le_of_ble_eq_true rfl)⟩ dX6_fit_15 rfl rfl (Nat.le_of_ble_eq_true rfl) ⟨(Nat.le_of_ble_eq_true rfl), (Nat.le_of_ble_eq_true rfl)⟩ ⟨_, _, _, _, (hX.2.1 0 0 (by decide)), rfl⟩ (kP fun r15 hr15 hp15 => ?_)
    refine v_if_ne 25 dX6_fit_18 (by decide) (by omega) (fun h18 => ?_) (fun h18 => ?_)
    · refine v_iconst dX6_fit_25 ?_
      refine v_istoren dX6_fit_26 (Nat.le_of_ble_eq_true rfl) ?_
      refine wV.locs (lv' := [(0, .ref (fw 0 0)), (1, .int (gI a)), (2, .int (gI (0)))]) ⟨rfl, rfl, rfl, trivial⟩ (tX6_fit_loop ha 60 _ _ _ (by omega) (by omega) hX hO hK (by omega))
    · refine v_sipush dX6_fit_21 (by decide) ?_
      exact v_iret dX6_fit_24 rfl ⟨(Nat.le_of_ble_eq_true rfl), (Nat.le_of_ble_eq_true rfl)⟩ (by omega) ⟨si, hX, hO, hK⟩
  · refine v_sipush dX6_fit_9 (by decide) ?_
    exact v_iret dX6_fit_12 rfl ⟨(Nat.le_of_ble_eq_true rfl), (Nat.le_of_ble_eq_true rfl)⟩ (by omega) ⟨si, hX, hO, hK⟩
