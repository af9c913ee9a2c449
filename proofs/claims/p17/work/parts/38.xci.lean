set_option maxHeartbeats 4000000 in
set_option maxRecDepth 100000 in
theorem tX6_alike_loop {sz : Nat} {M0 : wM} {G : gG} {fw : Nat → Nat → Nat} {si : sG} {Mi : wM} {a : Int} (ha : bt 0 a 11) : ∀ (k : Nat) (s : sG) (M : wM) (b i : Int), 0 ≤ 13 - i → 13 - i < (k : Int) → (wX G fw s M) → (wO cntX fw Mi M) → (keepX si s) → (bt 0 i 12) → wV G qX6_alike 0 0 sz M0 0 0 13 [(0, .ref (fw 0 0)), (1, .int (gI a)), (2, .int (gI b)), (3, .int (gI i))] [] M (PX G fw Mi (fun x s' => keepX si s')) := by
  intro k
  induction k with
  | zero =>
    intros
    omega
  | succ k ih =>
    intro s M b i hmz hml hX hO hK h1
    have h0 := hX.2.2.1
    have hnm := hX.2.2.2.1
    have hsh := hX.2.2.2.2.1
    have h8 := hX.2.2.2.2.2.1
    refine v_iloadn dX6_alike_13 rfl ?_
    refine v_bipush dX6_alike_14 (by decide) ?_
    refine v_icmp_ge 84 dX6_alike_16 (by decide) (by omega) (by omega) (fun h16 => ?_) (fun h16 => ?_)
    · refine v_iloadn dX6_alike_84 rfl ?_
      exact v_iretA dX6_alike_85 rfl ⟨(Nat.le_of_ble_eq_true rfl), (Nat.le_of_ble_eq_true rfl)⟩ ⟨s, hX, hO, hK⟩
    · refine v_aloadn dX6_alike_19 rfl ?_
      refine v_get dX6_alike_20 gf_X6_46 (hX.2.1 0 0 (by decide)) rfl ?_
      refine v_callV (tX5_clear hX) lc_X6_147 ⟨(Nat.le_of_ble_eq_true rfl), (Nat.le_of_ble_eq_true rfl)⟩ dX6_alike_23 rfl rfl (Nat.le_of_ble_eq_true rfl) ⟨(Nat.le_of_ble_eq_true rfl), (Nat.le_of_ble_eq_true rfl)⟩ ⟨_, _, _, _, hX.2.1 8 0 (by decide), rfl⟩ (kV fun M23 hp23 => ?_)
      obtain ⟨s23, hX, hO23, hs23⟩ := hp23
      have hO := hO.tr hO23
      have hK : keepX si s23 := hK.tr (fun k i' hq => by unfold scrX at hq; rw [hs23]; simp only [ups]; rw [if_neg (by omega)])
      have h0 := hX.2.2.1
      have hnm := hX.2.2.2.1
      have hsh := hX.2.2.2.2.1
      have h8 := hX.2.2.2.2.2.1
      refine v_aloadn dX6_alike_26 rfl ?_
      refine v_get dX6_alike_27 gf_X6_46 (hX.2.1 0 0 (by decide)) rfl ?_
      refine v_callV (tX5_take hX) lc_X6_150 ⟨(Nat.le_of_ble_eq_true rfl), (Nat.le_of_ble_eq_true rfl)⟩ dX6_alike_30 rfl rfl (Nat.le_of_ble_eq_true rfl) ⟨(Nat.le_of_ble_eq_true rfl), (Nat.le_of_ble_eq_true rfl)⟩ ⟨_, _, _, _, hX.2.1 8 0 (by decide), rfl⟩ (kR fun r30 M30 hp30 => ?_)
      obtain ⟨s30, j30, hj30, rfl, hX, hO30, -, hs30⟩ := hp30
      have hO := hO.tr hO30
      have hK : keepX si s30 := hK.tr (fun k i' hq => by unfold scrX at hq; rw [hs30]; simp only [ups]; rw [if_neg (by omega)])
      have h0 := hX.2.2.1
      have hnm := hX.2.2.2.1
      have hsh := hX.2.2.2.2.1
      have h8 := hX.2.2.2.2.2.1
      refine v_aloadn dX6_alike_33 rfl ?_
      refine v_iconst dX6_alike_34 ?_
      refine v_iloadn dX6_alike_35 rfl ?_
      refine v_callV (tX6_rowOf hX (by omega) (by omega)) lc_X6_77 ⟨(Nat.le_of_ble_eq_true rfl), (Nat.le_of_ble_eq_true rfl)⟩ dX6_alike_36 rfl rfl (Nat.le_of_ble_eq_true rfl) ⟨(Nat.le_of_ble_eq_true rfl), (Nat.le_of_ble_eq_true rfl)⟩ ⟨_, _, _, _, (hX.2.1 0 0 (by decide)), rfl⟩ (kRp fun r36 hp36 => ?_)
      subst hp36
      refine v_aloadn dX6_alike_39 rfl ?_
      refine v_iconst dX6_alike_40 ?_
      refine v_iloadn dX6_alike_41 rfl ?_
      refine v_callV (tX6_rowOf hX (by omega) (by omega)) lc_X6_77 ⟨(Nat.le_of_ble_eq_true rfl), (Nat.le_of_ble_eq_true rfl)⟩ dX6_alike_42 rfl rfl (Nat.le_of_ble_eq_true rfl) ⟨(Nat.le_of_ble_eq_true rfl), (Nat.le_of_ble_eq_true rfl)⟩ ⟨_, _, _, _, (hX.2.1 0 0 (by decide)), rfl⟩ (kRp fun r42 hp42 => ?_)
      subst hp42
      refine v_iconst dX6_alike_45 ?_
      refine v_aloadn dX6_alike_46 rfl ?_
      refine v_get dX6_alike_47 gf_X6_57 (hX.2.1 0 0 (by decide)) rfl ?_
      refine v_callV (tX3_wantUnlike hX (by omega) (by omega) (by omega) (by omega) (by omega)) lc_X6_157 ⟨(Nat.le_of_ble_eq_true rfl), (Nat.le_of_ble_eq_true rfl)⟩ dX6_alike_50 rfl rfl (Nat.le_of_ble_eq_true rfl) ⟨(Nat.le_of_ble_eq_true rfl), (Nat.le_of_ble_eq_true rfl)⟩ ⟨_, _, _, _, hX.2.1 16 _ (by simp [cntX]; omega), rfl⟩ (kV fun M50 hp50 => ?_)
      obtain ⟨s50, hX, hO50, hs50⟩ := hp50
      have hO := hO.tr hO50
      have hK : keepX si s50 := hK.tr (fun k i' hq => by unfold scrX at hq; rw [hs50]; simp only [ups]; rw [if_neg (by omega), if_neg (by omega), if_neg (by omega), if_neg (by omega), if_neg (by omega)])
      have h0 := hX.2.2.1
      have hnm := hX.2.2.2.1
      have hsh := hX.2.2.2.2.1
      have h8 := hX.2.2.2.2.2.1
      refine v_aloadn dX6_alike_53 rfl ?_
      refine v_get dX6_alike_54 gf_X6_46 (hX.2.1 0 0 (by decide)) rfl ?_
      refine v_iconst dX6_alike_57 ?_
      refine v_aloadn dX6_alike_58 rfl ?_
      refine v_get dX6_alike_59 gf_X6_54 (hX.2.1 0 0 (by decide)) rfl ?_
      refine v_callV (tX5_start hX (by omega) (by omega)) lc_X6_144 ⟨(Nat.le_of_ble_eq_true rfl), (Nat.le_of_ble_eq_true rfl)⟩ dX6_alike_62 rfl rfl (Nat.le_of_ble_eq_true rfl) ⟨(Nat.le_of_ble_eq_true rfl), (Nat.le_of_ble_eq_true rfl)⟩ ⟨_, _, _, _, hX.2.1 8 0 (by decide), rfl⟩ (kP fun r62 hr62 hp62 => ?_)
      refine v_aloadn dX6_alike_65 rfl ?_
      refine v_get dX6_alike_66 gf_X6_54 (hX.2.1 0 0 (by decide)) rfl ?_
      refine v_icmp_lt 78 dX6_alike_69 (by decide) (by omega) (by omega) (fun h69 => ?_) (fun h69 => ?_)
      · refine v_iinc dX6_alike_78 rfl (Nat.le_of_ble_eq_true rfl) ?_
        refine v_goto 13 dX6_alike_81 (by decide) ?_
        refine wV.locs (lv' := [(0, .ref (fw 0 0)), (1, .int (gI a)), (2, .int (gI _)), (3, .int (gI _))]) ⟨rfl, rfl, rfl, rfl, trivial⟩ (ih _ _ _ _ (by omega) (by omega) hX hO hK (by omega))
      · refine v_iloadn dX6_alike_72 rfl ?_
        refine v_iconst dX6_alike_73 ?_
        refine v_iloadn dX6_alike_74 rfl ?_
        refine v_ishl dX6_alike_75 ?_
        refine v_ior dX6_alike_76 ?_
        rw [gI_of (gI b ||| gI 1 <<< (gI i &&& 31))]
        refine v_istoren dX6_alike_77 (Nat.le_of_ble_eq_true rfl) ?_
        refine v_iinc dX6_alike_78 rfl (Nat.le_of_ble_eq_true rfl) ?_
        refine v_goto 13 dX6_alike_81 (by decide) ?_
        refine wV.locs (lv' := [(0, .ref (fw 0 0)), (1, .int (gI a)), (2, .int (gI _)), (3, .int (gI _))]) ⟨rfl, rfl, rfl, rfl, trivial⟩ (ih _ _ _ _ (by omega) (by omega) hX hO hK (by omega))
set_option maxHeartbeats 4000000 in
set_option maxRecDepth 100000 in
theorem tX6_alike {G : gG} {fw : Nat → Nat → Nat} {si : sG} {Mi : wM} (hX : wX G fw si Mi) {a : Int} (ha : rng a) : wT G qX6_alike 0 0 [.ref (fw 0 0), .int (gI a)] Mi (PX G fw Mi (fun x s' => keepX si s')) := by
  refine wT.intro (by decide) (Nat.le_of_ble_eq_true rfl) (fun sz => ?_)
  have hO : wO cntX fw Mi Mi := wO.rf
  have hK : keepX si si := keepX.rf
  refine v_iloadn dX6_alike_0 rfl ?_
  refine v_callS (tX6_isNoSignal (by omega)) lc_X6_117 ⟨(Nat.le_of_ble_eq_true rfl), (Nat.le_of_ble_eq_true rfl)⟩ dX6_alike_1 rfl rfl (Nat.le_of_ble_eq_true rfl) ⟨(Nat.le_of_ble_eq_true rfl), (Nat.le_of_ble_eq_true rfl)⟩ (kP fun r1 hr1 hp1 => ?_)
  refine v_if_eq 9 dX6_alike_4 (by decide) (by omega) (fun h4 => ?_) (fun h4 => ?_)
  · refine v_iconst dX6_alike_9 ?_
    refine v_istoren dX6_alike_10 (Nat.le_of_ble_eq_true rfl) ?_
    refine v_iconst dX6_alike_11 ?_
    refine v_istoren dX6_alike_12 (Nat.le_of_ble_eq_true rfl) ?_
    refine wV.locs (lv' := [(0, .ref (fw 0 0)), (1, .int (gI a)), (2, .int (gI (0))), (3, .int (gI (0)))]) ⟨rfl, rfl, rfl, rfl, trivial⟩ (tX6_alike_loop (by omega) 20 _ _ _ _ (by omega) (by omega) hX hO hK (by omega))
  · refine v_iconst dX6_alike_7 ?_
    exact v_iret dX6_alike_8 rfl ⟨(Nat.le_of_ble_eq_true rfl), (Nat.le_of_ble_eq_true rfl)⟩ (by omega) ⟨si, hX, hO, hK⟩
set_option maxHeartbeats 4000000 in
set_option maxRecDepth 100000 in
theorem tX6_holds {G : gG} {fw : Nat → Nat → Nat} {si : sG} {Mi : wM} (hX : wX G fw si Mi) {a b c d e f g h : Int} (ha : rng a) (hb : rng b) (hc : rng c) (hd : rng d) (he : rng e) (hf : rng f) (hg : rng g) (hh : rng h) : wT G qX6_holds 0 0 [.ref (fw 0 0), .int (gI a), .int (gI b), .int (gI c), .int (gI d), .int (gI e), .int (gI f), .int (gI g), .int (gI h)] Mi (PX G fw Mi (fun x s' => keepX si s')) := by
  refine wT.intro (by decide) (Nat.le_of_ble_eq_true rfl) (fun sz => ?_)
  have hO : wO cntX fw Mi Mi := wO.rf
  have hK : keepX si si := keepX.rf
  refine v_iloadn dX6_holds_0 rfl ?_
  refine v_iloadn dX6_holds_1 rfl ?_
  refine v_callS (tX6_isNoRow (by omega) (by omega)) lc_X6_65 ⟨(Nat.le_of_ble_eq_true rfl), (Nat.le_of_ble_eq_true rfl)⟩ dX6_holds_2 rfl rfl (Nat.le_of_ble_eq_true rfl) ⟨(Nat.le_of_ble_eq_true rfl), (Nat.le_of_ble_eq_true rfl)⟩ (kP fun r2 hr2 hp2 => ?_)
  refine v_if_ne 31 dX6_holds_5 (by decide) (by omega) (fun h5 => ?_) (fun h5 => ?_)
  · refine v_iconst dX6_holds_31 ?_
    exact v_iret dX6_holds_32 rfl ⟨(Nat.le_of_ble_eq_true rfl), (Nat.le_of_ble_eq_true rfl)⟩ (by omega) ⟨_, hX, hO, hK⟩
  · refine v_iloadn dX6_holds_8 rfl ?_
    refine v_callS (tX6_isNoValue (by omega)) lc_X6_73 ⟨(Nat.le_of_ble_eq_true rfl), (Nat.le_of_ble_eq_true rfl)⟩ dX6_holds_9 rfl rfl (Nat.le_of_ble_eq_true rfl) ⟨(Nat.le_of_ble_eq_true rfl), (Nat.le_of_ble_eq_true rfl)⟩ (kP fun r9 hr9 hp9 => ?_)
    refine v_if_ne 31 dX6_holds_12 (by decide) (by omega) (fun h12 => ?_) (fun h12 => ?_)
    · refine v_iconst dX6_holds_31 ?_
      exact v_iret dX6_holds_32 rfl ⟨(Nat.le_of_ble_eq_true rfl), (Nat.le_of_ble_eq_true rfl)⟩ (by omega) ⟨_, hX, hO, hK⟩
    · refine v_iload dX6_holds_15 rfl ?_
      refine v_callS (tX6_isNoSignal (by omega)) lc_X6_117 ⟨(Nat.le_of_ble_eq_true rfl), (Nat.le_of_ble_eq_true rfl)⟩ dX6_holds_17 rfl rfl (Nat.le_of_ble_eq_true rfl) ⟨(Nat.le_of_ble_eq_true rfl), (Nat.le_of_ble_eq_true rfl)⟩ (kP fun r17 hr17 hp17 => ?_)
      refine v_if_ne 31 dX6_holds_20 (by decide) (by omega) (fun h20 => ?_) (fun h20 => ?_)
      · refine v_iconst dX6_holds_31 ?_
        exact v_iret dX6_holds_32 rfl ⟨(Nat.le_of_ble_eq_true rfl), (Nat.le_of_ble_eq_true rfl)⟩ (by omega) ⟨_, hX, hO, hK⟩
      · refine v_iload dX6_holds_23 rfl ?_
        refine v_callS (tX6_isNoValue (by omega)) lc_X6_73 ⟨(Nat.le_of_ble_eq_true rfl), (Nat.le_of_ble_eq_true rfl)⟩ dX6_holds_25 rfl rfl (Nat.le_of_ble_eq_true rfl) ⟨(Nat.le_of_ble_eq_true rfl), (Nat.le_of_ble_eq_true rfl)⟩ (kP fun r25 hr25 hp25 => ?_)
        refine v_if_eq 33 dX6_holds_28 (by decide) (by omega) (fun h28 => ?_) (fun h28 => ?_)
        · refine v_iload dX6_holds_33 rfl ?_
          refine v_iconst dX6_holds_35 ?_
          refine v_sipush dX6_holds_36 (by decide) ?_
          refine v_callS (tX6_outside (by omega) (by omega) (by omega)) lc_X6_69 ⟨(Nat.le_of_ble_eq_true rfl), (Nat.le_of_ble_eq_true rfl)⟩ dX6_holds_39 rfl rfl (Nat.le_of_ble_eq_true rfl) ⟨(Nat.le_of_ble_eq_true rfl), (Nat.le_of_ble_eq_true rfl)⟩ (kP fun r39 hr39 hp39 => ?_)
          refine v_if_ne 61 dX6_holds_42 (by decide) (by omega) (fun h42 => ?_) (fun h42 => ?_)
          · refine v_iconst dX6_holds_61 ?_
            exact v_iret dX6_holds_62 rfl ⟨(Nat.le_of_ble_eq_true rfl), (Nat.le_of_ble_eq_true rfl)⟩ (by omega) ⟨_, hX, hO, hK⟩
          · refine v_iload dX6_holds_45 rfl ?_
            refine v_iconst dX6_holds_47 ?_
            refine v_icmp_lt 61 dX6_holds_48 (by decide) (by omega) (by omega) (fun h48 => ?_) (fun h48 => ?_)
            · refine v_iconst dX6_holds_61 ?_
              exact v_iret dX6_holds_62 rfl ⟨(Nat.le_of_ble_eq_true rfl), (Nat.le_of_ble_eq_true rfl)⟩ (by omega) ⟨_, hX, hO, hK⟩
            · refine v_iload dX6_holds_51 rfl ?_
              refine v_iconst dX6_holds_53 ?_
              refine v_iconst dX6_holds_54 ?_
              refine v_callS (tX6_outside (by omega) (by omega) (by omega)) lc_X6_69 ⟨(Nat.le_of_ble_eq_true rfl), (Nat.le_of_ble_eq_true rfl)⟩ dX6_holds_55 rfl rfl (Nat.le_of_ble_eq_true rfl) ⟨(Nat.le_of_ble_eq_true rfl), (Nat.le_of_ble_eq_true rfl)⟩ (kP fun r55 hr55 hp55 => ?_)
              refine v_if_eq 63 dX6_holds_58 (by decide) (by omega) (fun h58 => ?_) (fun h58 => ?_)
              · refine v_aloadn dX6_holds_63 rfl ?_
                refine v_get dX6_holds_64 gf_X6_46 (hX.2.1 0 0 (by decide)) rfl ?_
                refine v_callV (tX5_clear hX) lc_X6_147 ⟨(Nat.le_of_ble_eq_true rfl), (Nat.le_of_ble_eq_true rfl)⟩ dX6_holds_67 rfl rfl (Nat.le_of_ble_eq_true rfl) ⟨(Nat.le_of_ble_eq_true rfl), (Nat.le_of_ble_eq_true rfl)⟩ ⟨_, _, _, _, hX.2.1 8 0 (by decide), rfl⟩ (kV fun M67 hp67 => ?_)
                obtain ⟨s67, hX, hO67, hs67⟩ := hp67
                have hO := hO.tr hO67
                have hK : keepX si s67 := hK.tr (fun k i' hq => by unfold scrX at hq; rw [hs67]; simp only [ups]; rw [if_neg (by omega)])
                have h0 := hX.2.2.1
                have hnm := hX.2.2.2.1
                have hsh := hX.2.2.2.2.1
                have h8 := hX.2.2.2.2.2.1
                refine v_aloadn dX6_holds_70 rfl ?_
                refine v_get dX6_holds_71 gf_X6_46 (hX.2.1 0 0 (by decide)) rfl ?_
                refine v_callV (tX5_take hX) lc_X6_150 ⟨(Nat.le_of_ble_eq_true rfl), (Nat.le_of_ble_eq_true rfl)⟩ dX6_holds_74 rfl rfl (Nat.le_of_ble_eq_true rfl) ⟨(Nat.le_of_ble_eq_true rfl), (Nat.le_of_ble_eq_true rfl)⟩ ⟨_, _, _, _, hX.2.1 8 0 (by decide), rfl⟩ (kR fun r74 M74 hp74 => ?_)
                obtain ⟨s74, j74, hj74, rfl, hX, hO74, -, hs74⟩ := hp74
                have hO := hO.tr hO74
                have hK : keepX si s74 := hK.tr (fun k i' hq => by unfold scrX at hq; rw [hs74]; simp only [ups]; rw [if_neg (by omega)])
                have h0 := hX.2.2.1
                have hnm := hX.2.2.2.1
                have hsh := hX.2.2.2.2.1
                have h8 := hX.2.2.2.2.2.1
                refine v_aloadn dX6_holds_77 rfl ?_
                refine v_iloadn dX6_holds_78 rfl ?_
                refine v_iloadn dX6_holds_79 rfl ?_
                refine v_callV (tX6_rowOf hX (by omega) (by omega)) lc_X6_77 ⟨(Nat.le_of_ble_eq_true rfl), (Nat.le_of_ble_eq_true rfl)⟩ dX6_holds_80 rfl rfl (Nat.le_of_ble_eq_true rfl) ⟨(Nat.le_of_ble_eq_true rfl), (Nat.le_of_ble_eq_true rfl)⟩ ⟨_, _, _, _, (hX.2.1 0 0 (by decide)), rfl⟩ (kRp fun r80 hp80 => ?_)
                subst hp80
                refine v_iloadn dX6_holds_83 rfl ?_
                refine v_callV (tX3_wantValue hX (by omega) (by omega) (by omega)) lc_X6_251 ⟨(Nat.le_of_ble_eq_true rfl), (Nat.le_of_ble_eq_true rfl)⟩ dX6_holds_84 rfl rfl (Nat.le_of_ble_eq_true rfl) ⟨(Nat.le_of_ble_eq_true rfl), (Nat.le_of_ble_eq_true rfl)⟩ ⟨_, _, _, _, hX.2.1 16 _ (by simp [cntX]; omega), rfl⟩ (kV fun M84 hp84 => ?_)
                obtain ⟨s84, hX, hO84, hK84, -⟩ := hp84
                have hO := hO.tr hO84
                have hK := hK.tr hK84
                have h0 := hX.2.2.1
                have hnm := hX.2.2.2.1
                have hsh := hX.2.2.2.2.1
                have h8 := hX.2.2.2.2.2.1
                refine v_iload dX6_holds_87 rfl ?_
                refine v_iloadn dX6_holds_89 rfl ?_
                refine v_icmp_eq 112 dX6_holds_90 (by decide) (by omega) (by omega) (fun h90 => ?_) (fun h90 => ?_)
                · refine v_iload dX6_holds_112 rfl ?_
                  refine v_iconst dX6_holds_114 ?_
                  refine v_icmp_ne 132 dX6_holds_115 (by decide) (by omega) (by omega) (fun h115 => ?_) (fun h115 => ?_)
                  · refine v_aloadn dX6_holds_132 rfl ?_
                    refine v_get dX6_holds_133 gf_X6_46 (hX.2.1 0 0 (by decide)) rfl ?_
                    refine v_iload dX6_holds_136 rfl ?_
                    refine v_iload dX6_holds_138 rfl ?_
                    refine v_aloadn dX6_holds_140 rfl ?_
                    refine v_get dX6_holds_141 gf_X6_54 (hX.2.1 0 0 (by decide)) rfl ?_
                    refine v_callV (tX5_find hX (by omega) (by omega) (by omega)) lc_X6_135 ⟨(Nat.le_of_ble_eq_true rfl), (Nat.le_of_ble_eq_true rfl)⟩ dX6_holds_144 rfl rfl (Nat.le_of_ble_eq_true rfl) ⟨(Nat.le_of_ble_eq_true rfl), (Nat.le_of_ble_eq_true rfl)⟩ ⟨_, _, _, _, hX.2.1 8 0 (by decide), rfl⟩ (kI fun r144 M144 hr144 hp144 => ?_)
                    obtain ⟨s144, hX, hO144, hE144, e1, e2, e3, e4, e5⟩ := hp144
                    have hO := hO.tr hO144
                    have hK : keepX si s144 := hK.tr (fun k i' hq => by rw [hE144 k (fun z => hq (Or.inl z))])
                    have h0 := hX.2.2.1
                    have hnm := hX.2.2.2.1
                    have hsh := hX.2.2.2.2.1
                    have h8 := hX.2.2.2.2.2.1
                    refine v_if_eq 162 dX6_holds_147 (by decide) (by omega) (fun h147 => ?_) (fun h147 => ?_)
                    · refine v_bipush dX6_holds_162 (by decide) ?_
                      exact v_iret dX6_holds_164 rfl ⟨(Nat.le_of_ble_eq_true rfl), (Nat.le_of_ble_eq_true rfl)⟩ (by omega) ⟨_, hX, hO, hK⟩
                    · refine v_aloadn dX6_holds_150 rfl ?_
                      refine v_get dX6_holds_151 gf_X6_46 (hX.2.1 0 0 (by decide)) rfl ?_
                      refine v_iload dX6_holds_154 rfl ?_
                      refine v_callV (tX5_edgeFound hX (by omega)) lc_X6_138 ⟨(Nat.le_of_ble_eq_true rfl), (Nat.le_of_ble_eq_true rfl)⟩ dX6_holds_156 rfl rfl (Nat.le_of_ble_eq_true rfl) ⟨(Nat.le_of_ble_eq_true rfl), (Nat.le_of_ble_eq_true rfl)⟩ ⟨_, _, _, _, hX.2.1 8 0 (by decide), rfl⟩ (kP fun r156 hr156 hp156 => ?_)
                      refine v_goto 164 dX6_holds_159 (by decide) ?_
                      exact v_iret dX6_holds_164 rfl ⟨(Nat.le_of_ble_eq_true rfl), (Nat.le_of_ble_eq_true rfl)⟩ (by omega) ⟨_, hX, hO, hK⟩
                  · refine v_aloadn dX6_holds_118 rfl ?_
                    refine v_get dX6_holds_119 gf_X6_46 (hX.2.1 0 0 (by decide)) rfl ?_
                    refine v_iload dX6_holds_122 rfl ?_
                    refine v_aloadn dX6_holds_124 rfl ?_
                    refine v_get dX6_holds_125 gf_X6_54 (hX.2.1 0 0 (by decide)) rfl ?_
                    refine v_callV (tX5_howMany hX (by omega) (by omega)) lc_X6_131 ⟨(Nat.le_of_ble_eq_true rfl), (Nat.le_of_ble_eq_true rfl)⟩ dX6_holds_128 rfl rfl (Nat.le_of_ble_eq_true rfl) ⟨(Nat.le_of_ble_eq_true rfl), (Nat.le_of_ble_eq_true rfl)⟩ ⟨_, _, _, _, hX.2.1 8 0 (by decide), rfl⟩ (kI fun r128 M128 hr128 hp128 => ?_)
                    obtain ⟨hb128, hp128⟩ := hp128
                    obtain ⟨s128, hX, hO128, hK128⟩ := hp128
                    have hO := hO.tr hO128
                    have hK := hK.tr hK128
                    have h0 := hX.2.2.1
                    have hnm := hX.2.2.2.1
                    have hsh := hX.2.2.2.2.1
                    have h8 := hX.2.2.2.2.2.1
                    exact v_iret dX6_holds_131 rfl ⟨(Nat.le_of_ble_eq_true rfl), (Nat.le_of_ble_eq_true rfl)⟩ (by omega) ⟨_, hX, hO, hK⟩
                · refine v_aloadn dX6_holds_93 rfl ?_
                  refine v_get dX6_holds_94 gf_X6_46 (hX.2.1 0 0 (by decide)) rfl ?_
                  refine v_callV (tX5_take hX) lc_X6_150 ⟨(Nat.le_of_ble_eq_true rfl), (Nat.le_of_ble_eq_true rfl)⟩ dX6_holds_97 rfl rfl (Nat.le_of_ble_eq_true rfl) ⟨(Nat.le_of_ble_eq_true rfl), (Nat.le_of_ble_eq_true rfl)⟩ ⟨_, _, _, _, hX.2.1 8 0 (by decide), rfl⟩ (kR fun r97 M97 hp97 => ?_)
                  obtain ⟨s97, j97, hj97, rfl, hX, hO97, -, hs97⟩ := hp97
                  have hO := hO.tr hO97
                  have hK : keepX si s97 := hK.tr (fun k i' hq => by unfold scrX at hq; rw [hs97]; simp only [ups]; rw [if_neg (by omega)])
                  have h0 := hX.2.2.1
                  have hnm := hX.2.2.2.1
                  have hsh := hX.2.2.2.2.1
                  have h8 := hX.2.2.2.2.2.1
                  refine v_aloadn dX6_holds_100 rfl ?_
                  refine v_iloadn dX6_holds_101 rfl ?_
                  refine v_iload dX6_holds_102 rfl ?_
                  refine v_callV (tX6_rowOf hX (by omega) (by omega)) lc_X6_77 ⟨(Nat.le_of_ble_eq_true rfl), (Nat.le_of_ble_eq_true rfl)⟩ dX6_holds_104 rfl rfl (Nat.le_of_ble_eq_true rfl) ⟨(Nat.le_of_ble_eq_true rfl), (Nat.le_of_ble_eq_true rfl)⟩ ⟨_, _, _, _, (hX.2.1 0 0 (by decide)), rfl⟩ (kRp fun r104 hp104 => ?_)
                  subst hp104
                  refine v_iload dX6_holds_107 rfl ?_
                  refine v_callV (tX3_wantValueNot hX (by omega) (by omega) (by omega)) lc_X6_173 ⟨(Nat.le_of_ble_eq_true rfl), (Nat.le_of_ble_eq_true rfl)⟩ dX6_holds_109 rfl rfl (Nat.le_of_ble_eq_true rfl) ⟨(Nat.le_of_ble_eq_true rfl), (Nat.le_of_ble_eq_true rfl)⟩ ⟨_, _, _, _, hX.2.1 16 _ (by simp [cntX]; omega), rfl⟩ (kV fun M109 hp109 => ?_)
                  obtain ⟨s109, hX, hO109, hK109, -⟩ := hp109
                  have hO := hO.tr hO109
                  have hK := hK.tr hK109
                  have h0 := hX.2.2.1
                  have hnm := hX.2.2.2.1
                  have hsh := hX.2.2.2.2.1
                  have h8 := hX.2.2.2.2.2.1
                  refine v_iload dX6_holds_112 rfl ?_
                  refine v_iconst dX6_holds_114 ?_
                  refine v_icmp_ne 132 dX6_holds_115 (by decide) (by omega) (by omega) (fun h115 => ?_) (fun h115 => ?_)
                  · refine v_aloadn dX6_holds_132 rfl ?_
                    refine v_get dX6_holds_133 gf_X6_46 (hX.2.1 0 0 (by decide)) rfl ?_
                    refine v_iload dX6_holds_136 rfl ?_
                    refine v_iload dX6_holds_138 rfl ?_
                    refine v_aloadn dX6_holds_140 rfl ?_
                    refine v_get dX6_holds_141 gf_X6_54 (hX.2.1 0 0 (by decide)) rfl ?_
                    refine v_callV (tX5_find hX (by omega) (by omega) (by omega)) lc_X6_135 ⟨(Nat.le_of_ble_eq_true rfl), (Nat.le_of_ble_eq_true rfl)⟩ dX6_holds_144 rfl rfl (Nat.le_of_ble_eq_true rfl) ⟨(Nat.le_of_ble_eq_true rfl), (Nat.le_of_ble_eq_true rfl)⟩ ⟨_, _, _, _, hX.2.1 8 0 (by decide), rfl⟩ (kI fun r144 M144 hr144 hp144 => ?_)
                    obtain ⟨s144, hX, hO144, hE144, e1, e2, e3, e4, e5⟩ := hp144
                    have hO := hO.tr hO144
                    have hK : keepX si s144 := hK.tr (fun k i' hq => by rw [hE144 k (fun z => hq (Or.inl z))])
                    have h0 := hX.2.2.1
                    have hnm := hX.2.2.2.1
                    have hsh := hX.2.2.2.2.1
                    have h8 := hX.2.2.2.2.2.1
                    refine v_if_eq 162 dX6_holds_147 (by decide) (by omega) (fun h147 => ?_) (fun h147 => ?_)
                    · refine v_bipush dX6_holds_162 (by decide) ?_
                      exact v_iret dX6_holds_164 rfl ⟨(Nat.le_of_ble_eq_true rfl), (Nat.le_of_ble_eq_true rfl)⟩ (by omega) ⟨_, hX, hO, hK⟩
                    · refine v_aloadn dX6_holds_150 rfl ?_
                      refine v_get dX6_holds_151 gf_X6_46 (hX.2.1 0 0 (by decide)) rfl ?_
                      refine v_iload dX6_holds_154 rfl ?_
                      refine v_callV (tX5_edgeFound hX (by omega)) lc_X6_138 ⟨(Nat.le_of_ble_eq_true rfl), (Nat.le_of_ble_eq_true rfl)⟩ dX6_holds_156 rfl rfl (Nat.le_of_ble_eq_true rfl) ⟨(Nat.le_of_ble_eq_true rfl), (Nat.le_of_ble_eq_true rfl)⟩ ⟨_, _, _, _, hX.2.1 8 0 (by decide), rfl⟩ (kP fun r156 hr156 hp156 => ?_)
                      refine v_goto 164 dX6_holds_159 (by decide) ?_
                      exact v_iret dX6_holds_164 rfl ⟨(Nat.le_of_ble_eq_true rfl), (Nat.le_of_ble_eq_true rfl)⟩ (by omega) ⟨_, hX, hO, hK⟩
                  · refine v_aloadn dX6_holds_118 rfl ?_
                    refine v_get dX6_holds_119 gf_X6_46 (hX.2.1 0 0 (by decide)) rfl ?_
                    refine v_iload dX6_holds_122 rfl ?_
                    refine v_aloadn dX6_holds_124 rfl ?_
                    refine v_get dX6_holds_125 gf_X6_54 (hX.2.1 0 0 (by decide)) rfl ?_
                    refine v_callV (tX5_howMany hX (by omega) (by omega)) lc_X6_131 ⟨(Nat.le_of_ble_eq_true rfl), (Nat.le_of_ble_eq_true rfl)⟩ dX6_holds_128 rfl rfl (Nat.le_of_ble_eq_true rfl) ⟨(Nat.le_of_ble_eq_true rfl), (Nat.le_of_ble_eq_true rfl)⟩ ⟨_, _, _, _, hX.2.1 8 0 (by decide), rfl⟩ (kI fun r128 M128 hr128 hp128 => ?_)
                    obtain ⟨hb128, hp128⟩ := hp128
                    obtain ⟨s128, hX, hO128, hK128⟩ := hp128
                    have hO := hO.tr hO128
                    have hK := hK.tr hK128
                    have h0 := hX.2.2.1
                    have hnm := hX.2.2.2.1
                    have hsh := hX.2.2.2.2.1
                    have h8 := hX.2.2.2.2.2.1
                    exact v_iret dX6_holds_131 rfl ⟨(Nat.le_of_ble_eq_true rfl), (Nat.le_of_ble_eq_true rfl)⟩ (by omega) ⟨_, hX, hO, hK⟩
              · refine v_iconst dX6_holds_61 ?_
                exact v_iret dX6_holds_62 rfl ⟨(Nat.le_of_ble_eq_true rfl), (Nat.le_of_ble_eq_true rfl)⟩ (by omega) ⟨_, hX, hO, hK⟩
        · refine v_iconst dX6_holds_31 ?_
          exact v_iret dX6_holds_32 rfl ⟨(Nat.le_of_ble_eq_true rfl), (Nat.le_of_ble_eq_true rfl)⟩ (by omega) ⟨_, hX, hO, hK⟩
set_option maxHeartbeats 4000000 in
set_option maxRecDepth 100000 in
theorem tX6_window {G : gG} {fw : Nat → Nat → Nat} {s : sG} {M : wM} (hX : wX G fw s M) {a b c d e : Int} (ha : rng a) (hb : rng b) (hc : rng c) (hd : rng d) (he : rng e) : wT G qX6_window 0 0 [.ref (fw 0 0), .int (gI a), .int (gI b), .int (gI c), .int (gI d), .int (gI e)] M (iP fun x M' => M' = M ∧ True) := by
  refine wT.intro (by decide) (Nat.le_of_ble_eq_true rfl) (fun sz => ?_)
  have h0 := hX.2.2.1
  have hnm := hX.2.2.2.1
  have hsh := hX.2.2.2.2.1
  have h8 := hX.2.2.2.2.2.1
  refine v_iloadn dX6_window_0 rfl ?_
  refine v_iloadn dX6_window_1 rfl ?_
  refine v_callS (tX6_isNoRow (by omega) (by omega)) lc_X6_65 ⟨(Nat.le_of_ble_eq_true rfl), (Nat.le_of_ble_eq_true rfl)⟩ dX6_window_2 rfl rfl (Nat.le_of_ble_eq_true rfl) ⟨(Nat.le_of_ble_eq_true rfl), (Nat.le_of_ble_eq_true rfl)⟩ (kP fun r2 hr2 hp2 => ?_)
  refine v_if_ne 37 dX6_window_5 (by decide) (by omega) (fun h5 => ?_) (fun h5 => ?_)
  · refine v_iconst dX6_window_37 ?_
    exact v_iret dX6_window_38 rfl ⟨(Nat.le_of_ble_eq_true rfl), (Nat.le_of_ble_eq_true rfl)⟩ (by omega) ⟨rfl, trivial⟩
  · refine v_iloadn dX6_window_8 rfl ?_
    refine v_if_lt 37 dX6_window_9 (by decide) (by omega) (fun h9 => ?_) (fun h9 => ?_)
    · refine v_iconst dX6_window_37 ?_
      exact v_iret dX6_window_38 rfl ⟨(Nat.le_of_ble_eq_true rfl), (Nat.le_of_ble_eq_true rfl)⟩ (by omega) ⟨rfl, trivial⟩
    · refine v_iloadn dX6_window_12 rfl ?_
      refine v_iload dX6_window_13 rfl ?_
      refine v_icmp_ge 37 dX6_window_15 (by decide) (by omega) (by omega) (fun h15 => ?_) (fun h15 => ?_)
      · refine v_iconst dX6_window_37 ?_
        exact v_iret dX6_window_38 rfl ⟨(Nat.le_of_ble_eq_true rfl), (Nat.le_of_ble_eq_true rfl)⟩ (by omega) ⟨rfl, trivial⟩
      · refine v_iload dX6_window_18 rfl ?_
        refine v_aloadn dX6_window_20 rfl ?_
        refine v_get dX6_window_21 gf_X6_54 (hX.2.1 0 0 (by decide)) rfl ?_
        refine v_icmp_gt 37 dX6_window_24 (by decide) (by omega) (by omega) (fun h24 => ?_) (fun h24 => ?_)
        · refine v_iconst dX6_window_37 ?_
          exact v_iret dX6_window_38 rfl ⟨(Nat.le_of_ble_eq_true rfl), (Nat.le_of_ble_eq_true rfl)⟩ (by omega) ⟨rfl, trivial⟩
        · refine v_iload dX6_window_27 rfl ?_
          refine v_iconst dX6_window_29 ?_
          refine v_iconst dX6_window_30 ?_
          refine v_callS (tX6_outside (by omega) (by omega) (by omega)) lc_X6_69 ⟨(Nat.le_of_ble_eq_true rfl), (Nat.le_of_ble_eq_true rfl)⟩ dX6_window_31 rfl rfl (Nat.le_of_ble_eq_true rfl) ⟨(Nat.le_of_ble_eq_true rfl), (Nat.le_of_ble_eq_true rfl)⟩ (kP fun r31 hr31 hp31 => ?_)
          refine v_if_eq 39 dX6_window_34 (by decide) (by omega) (fun h34 => ?_) (fun h34 => ?_)
          · refine v_aloadn dX6_window_39 rfl ?_
            refine v_iloadn dX6_window_40 rfl ?_
            refine v_iloadn dX6_window_41 rfl ?_
            refine v_callV (tX6_rowOf hX (by omega) (by omega)) lc_X6_77 ⟨(Nat.le_of_ble_eq_true rfl), (Nat.le_of_ble_eq_true rfl)⟩ dX6_window_42 rfl rfl (Nat.le_of_ble_eq_true rfl) ⟨(Nat.le_of_ble_eq_true rfl), (Nat.le_of_ble_eq_true rfl)⟩ ⟨_, _, _, _, (hX.2.1 0 0 (by decide)), rfl⟩ (kRp fun r42 hp42 => ?_)
            subst hp42
            refine v_astore dX6_window_45 (Nat.le_of_ble_eq_true rfl) ?_
            refine v_iload dX6_window_47 rfl ?_
            refine v_if_ne 61 dX6_window_49 (by decide) (by omega) (fun h49 => ?_) (fun h49 => ?_)
            · refine v_iload dX6_window_61 rfl ?_
              refine v_iconst dX6_window_63 ?_
              refine v_icmp_ne 78 dX6_window_64 (by decide) (by omega) (by omega) (fun h64 => ?_) (fun h64 => ?_)
              · refine v_aload dX6_window_78 rfl ?_
                refine v_iloadn dX6_window_80 rfl ?_
                refine v_iload dX6_window_81 rfl ?_
                refine v_callV (tX4_sumKnown (hX.row (by omega)) (by omega) (by omega)) lc_X6_260 ⟨(Nat.le_of_ble_eq_true rfl), (Nat.le_of_ble_eq_true rfl)⟩ dX6_window_83 rfl rfl (Nat.le_of_ble_eq_true rfl) ⟨(Nat.le_of_ble_eq_true rfl), (Nat.le_of_ble_eq_true rfl)⟩ ⟨_, _, _, _, (hX.row (by omega)).1, rfl⟩ (kP fun r83 hr83 hp83 => ?_)
                exact v_iret dX6_window_86 rfl ⟨(Nat.le_of_ble_eq_true rfl), (Nat.le_of_ble_eq_true rfl)⟩ (by omega) ⟨rfl, trivial⟩
              · refine v_aload dX6_window_67 rfl ?_
                refine v_iloadn dX6_window_69 rfl ?_
                refine v_iload dX6_window_70 rfl ?_
                refine v_callV (tX4_ticksNotKnown (hX.row (by omega)) (by omega) (by omega)) lc_X6_257 ⟨(Nat.le_of_ble_eq_true rfl), (Nat.le_of_ble_eq_true rfl)⟩ dX6_window_72 rfl rfl (Nat.le_of_ble_eq_true rfl) ⟨(Nat.le_of_ble_eq_true rfl), (Nat.le_of_ble_eq_true rfl)⟩ ⟨_, _, _, _, (hX.row (by omega)).1, rfl⟩ (kP fun r72 hr72 hp72 => ?_)
                refine v_goto 86 dX6_window_75 (by decide) ?_
                exact v_iret dX6_window_86 rfl ⟨(Nat.le_of_ble_eq_true rfl), (Nat.le_of_ble_eq_true rfl)⟩ (by omega) ⟨rfl, trivial⟩
            · refine v_aload dX6_window_52 rfl ?_
              refine v_iloadn dX6_window_54 rfl ?_
              refine v_iload dX6_window_55 rfl ?_
              refine v_callV (tX4_turns (hX.row (by omega)) (by omega) (by omega)) lc_X6_254 ⟨(Nat.le_of_ble_eq_true rfl), (Nat.le_of_ble_eq_true rfl)⟩ dX6_window_57 rfl rfl (Nat.le_of_ble_eq_true rfl) ⟨(Nat.le_of_ble_eq_true rfl), (Nat.le_of_ble_eq_true rfl)⟩ ⟨_, _, _, _, (hX.row (by omega)).1, rfl⟩ (kP fun r57 hr57 hp57 => ?_)
              exact v_iret dX6_window_60 rfl ⟨(Nat.le_of_ble_eq_true rfl), (Nat.le_of_ble_eq_true rfl)⟩ (by omega) ⟨rfl, trivial⟩
          · refine v_iconst dX6_window_37 ?_
            exact v_iret dX6_window_38 rfl ⟨(Nat.le_of_ble_eq_true rfl), (Nat.le_of_ble_eq_true rfl)⟩ (by omega) ⟨rfl, trivial⟩
set_option maxHeartbeats 4000000 in
set_option maxRecDepth 100000 in
theorem tX6_countChanges_loop {sz : Nat} {M0 : wM} {G : gG} {fw : Nat → Nat → Nat} {s : sG} {M : wM} (hX : wX G fw s M) : ∀ (k : Nat) (u i : Int), 0 ≤ 25 - i → 25 - i < (k : Int) → (bt 0 i 24) → wV G qX6_countChanges 0 0 sz M0 0 0 13 [(0, .ref (fw 0 0)), (1, .int (gI u)), (2, .ref (fw 1 0)), (3, .int (gI 24)), (4, .int (gI i))] [] M (iP fun x M' => M' = M ∧ True) := by
  intro k
  induction k with
  | zero =>
    intros
    omega
  | succ k ih =>
    intro u i hmz hml h1
    refine v_iload dX6_countChanges_13 rfl ?_
    refine v_iloadn dX6_countChanges_15 rfl ?_
    refine v_icmp_ge 39 dX6_countChanges_16 (by decide) (by omega) (by omega) (fun h16 => ?_) (fun h16 => ?_)
    · refine v_iloadn dX6_countChanges_39 rfl ?_
      exact v_iretA dX6_countChanges_40 rfl ⟨(Nat.le_of_ble_eq_true rfl), (Nat.le_of_ble_eq_true rfl)⟩ ⟨rfl, trivial⟩
    · refine v_aloadn dX6_countChanges_19 rfl ?_
      refine v_iload dX6_countChanges_20 rfl ?_
      refine v_aald2 (Cn := "WavePairs$Row") dX6_countChanges_22 (hX.2.1 1 0 (by decide)) (by simp) (by omega) (by omega) (by decide) ?_
      refine v_astore dX6_countChanges_23 (Nat.le_of_ble_eq_true rfl) ?_
      refine v_iloadn dX6_countChanges_25 rfl ?_
      refine v_aload dX6_countChanges_26 rfl ?_
      refine v_callV (tX4_size (hX.row (by omega))) lc_X6_92 ⟨(Nat.le_of_ble_eq_true rfl), (Nat.le_of_ble_eq_true rfl)⟩ dX6_countChanges_28 rfl rfl (Nat.le_of_ble_eq_true rfl) ⟨(Nat.le_of_ble_eq_true rfl), (Nat.le_of_ble_eq_true rfl)⟩ ⟨_, _, _, _, (hX.row (by omega)).1, rfl⟩ (kP fun r28 hr28 hp28 => ?_)
      refine v_iadd dX6_countChanges_31 ?_
      refine v_istoren dX6_countChanges_32 (Nat.le_of_ble_eq_true rfl) ?_
      refine v_iinc dX6_countChanges_33 rfl (Nat.le_of_ble_eq_true rfl) ?_
      refine v_goto 13 dX6_countChanges_36 (by decide) ?_
      refine wV.locs (lv' := [(0, .ref (fw 0 0)), (1, .int (gI _)), (2, .ref (fw 1 0)), (3, .int (gI 24)), (4, .int (gI _))]) ⟨rfl, rfl, rfl, rfl, rfl, trivial⟩ (ih _ _ (by omega) (by omega) (by omega))
set_option maxHeartbeats 4000000 in
set_option maxRecDepth 100000 in
theorem tX6_countChanges {G : gG} {fw : Nat → Nat → Nat} {s : sG} {M : wM} (hX : wX G fw s M) : wT G qX6_countChanges 0 0 [.ref (fw 0 0)] M (iP fun x M' => M' = M ∧ True) := by
  refine wT.intro (by decide) (Nat.le_of_ble_eq_true rfl) (fun sz => ?_)
  refine v_iconst dX6_countChanges_0 ?_
  refine v_istoren dX6_countChanges_1 (Nat.le_of_ble_eq_true rfl) ?_
  refine v_aloadn dX6_countChanges_2 rfl ?_
  refine v_get dX6_countChanges_3 gf_X6_11 (hX.2.1 0 0 (by decide)) rfl ?_
  refine v_astoren dX6_countChanges_6 (Nat.le_of_ble_eq_true rfl) ?_
  refine v_aloadn dX6_countChanges_7 rfl ?_
  refine v_alen (ty := .int) dX6_countChanges_8 (hX.2.1 1 0 (by decide)) (by simp) rfl ?_
  refine v_istoren dX6_countChanges_9 (Nat.le_of_ble_eq_true rfl) ?_
  refine v_iconst dX6_countChanges_10 ?_
  refine v_istore dX6_countChanges_11 (Nat.le_of_ble_eq_true rfl) ?_
  refine wV.locs (lv' := [(0, .ref (fw 0 0)), (1, .int (gI (0))), (2, .ref (fw 1 0)), (3, .int (gI 24)), (4, .int (gI (0)))]) ⟨rfl, rfl, rfl, rfl, rfl, trivial⟩ (tX6_countChanges_loop hX 30 _ _ (by omega) (by omega) (by omega))
set_option maxHeartbeats 4000000 in
set_option maxRecDepth 100000 in
theorem tX6_countChannels_loop {sz : Nat} {M0 : wM} {G : gG} {fw : Nat → Nat → Nat} {s : sG} {M : wM} (hX : wX G fw s M) : ∀ (k : Nat) (u i : Int), 0 ≤ 5 - i → 5 - i < (k : Int) → (bt 0 i 4) → wV G qX6_countChannels 0 0 sz M0 0 0 13 [(0, .ref (fw 0 0)), (1, .int (gI u)), (2, .ref (fw 6 0)), (3, .int (gI 4)), (4, .int (gI i))] [] M (iP fun x M' => M' = M ∧ True) := by
  intro k
  induction k with
  | zero =>
    intros
    omega
  | succ k ih =>
    intro u i hmz hml h1
    refine v_iload dX6_countChannels_13 rfl ?_
    refine v_iloadn dX6_countChannels_15 rfl ?_
    refine v_icmp_ge 47 dX6_countChannels_16 (by decide) (by omega) (by omega) (fun h16 => ?_) (fun h16 => ?_)
    · refine v_iloadn dX6_countChannels_47 rfl ?_
      exact v_iretA dX6_countChannels_48 rfl ⟨(Nat.le_of_ble_eq_true rfl), (Nat.le_of_ble_eq_true rfl)⟩ ⟨rfl, trivial⟩
    · refine v_aloadn dX6_countChannels_19 rfl ?_
      refine v_iload dX6_countChannels_20 rfl ?_
      refine v_aald2 (Cn := "WavePairs$Channel") dX6_countChannels_22 (hX.2.1 6 0 (by decide)) (by simp) (by omega) (by omega) (by decide) ?_
      have hch := hX.2.2.2.2.2.2.2.2.1 i.toNat (by omega)
      refine v_astore dX6_countChannels_23 (Nat.le_of_ble_eq_true rfl) ?_
      refine v_iloadn dX6_countChannels_25 rfl ?_
      refine v_aload dX6_countChannels_26 rfl ?_
      refine v_getN dX6_countChannels_28 gf_X6_181 (hX.2.1 14 _ (by simp [cntX]; omega)) rfl ?_
      refine v_if_eq 38 dX6_countChannels_31 (by decide) (by omega) (fun h31 => ?_) (fun h31 => ?_)
      · refine v_iconst dX6_countChannels_38 ?_
        refine v_iadd dX6_countChannels_39 ?_
        refine v_istoren dX6_countChannels_40 (Nat.le_of_ble_eq_true rfl) ?_
        refine v_iinc dX6_countChannels_41 rfl (Nat.le_of_ble_eq_true rfl) ?_
        refine v_goto 13 dX6_countChannels_44 (by decide) ?_
        refine wV.locs (lv' := [(0, .ref (fw 0 0)), (1, .int (gI _)), (2, .ref (fw 6 0)), (3, .int (gI 4)), (4, .int (gI _))]) ⟨rfl, rfl, rfl, rfl, rfl, trivial⟩ (ih _ _ (by omega) (by omega) (by omega))
      · refine v_iconst dX6_countChannels_34 ?_
        refine v_goto 39 dX6_countChannels_35 (by decide) ?_
        refine v_iadd dX6_countChannels_39 ?_
        refine v_istoren dX6_countChannels_40 (Nat.le_of_ble_eq_true rfl) ?_
        refine v_iinc dX6_countChannels_41 rfl (Nat.le_of_ble_eq_true rfl) ?_
        refine v_goto 13 dX6_countChannels_44 (by decide) ?_
        refine wV.locs (lv' := [(0, .ref (fw 0 0)), (1, .int (gI _)), (2, .ref (fw 6 0)), (3, .int (gI 4)), (4, .int (gI _))]) ⟨rfl, rfl, rfl, rfl, rfl, trivial⟩ (ih _ _ (by omega) (by omega) (by omega))
set_option maxHeartbeats 4000000 in
set_option maxRecDepth 100000 in
theorem tX6_countChannels {G : gG} {fw : Nat → Nat → Nat} {s : sG} {M : wM} (hX : wX G fw s M) : wT G qX6_countChannels 0 0 [.ref (fw 0 0)] M (iP fun x M' => M' = M ∧ True) := by
  refine wT.intro (by decide) (Nat.le_of_ble_eq_true rfl) (fun sz => ?_)
  refine v_iconst dX6_countChannels_0 ?_
  refine v_istoren dX6_countChannels_1 (Nat.le_of_ble_eq_true rfl) ?_
  refine v_aloadn dX6_countChannels_2 rfl ?_
  refine v_get dX6_countChannels_3 gf_X6_33 (hX.2.1 0 0 (by decide)) rfl ?_
  refine v_astoren dX6_countChannels_6 (Nat.le_of_ble_eq_true rfl) ?_
  refine v_aloadn dX6_countChannels_7 rfl ?_
  refine v_alen (ty := .int) dX6_countChannels_8 (hX.2.1 6 0 (by decide)) (by simp) rfl ?_
  refine v_istoren dX6_countChannels_9 (Nat.le_of_ble_eq_true rfl) ?_
  refine v_iconst dX6_countChannels_10 ?_
  refine v_istore dX6_countChannels_11 (Nat.le_of_ble_eq_true rfl) ?_
  refine wV.locs (lv' := [(0, .ref (fw 0 0)), (1, .int (gI (0))), (2, .ref (fw 6 0)), (3, .int (gI 4)), (4, .int (gI (0)))]) ⟨rfl, rfl, rfl, rfl, rfl, trivial⟩ (tX6_countChannels_loop hX 30 _ _ (by omega) (by omega) (by omega))
set_option maxHeartbeats 4000000 in
set_option maxRecDepth 100000 in
theorem tX6_countGates_loop {sz : Nat} {M0 : wM} {G : gG} {fw : Nat → Nat → Nat} {s : sG} {M : wM} (hX : wX G fw s M) : ∀ (k : Nat) (u i : Int), 0 ≤ 13 - i → 13 - i < (k : Int) → (bt 0 i 12) → wV G qX6_countGates 0 0 sz M0 0 0 13 [(0, .ref (fw 0 0)), (1, .int (gI u)), (2, .ref (fw 7 0)), (3, .int (gI 12)), (4, .int (gI i))] [] M (iP fun x M' => M' = M ∧ True) := by
  intro k
  induction k with
  | zero =>
    intros
    omega
  | succ k ih =>
    intro u i hmz hml h1
    refine v_iload dX6_countGates_13 rfl ?_
    refine v_iloadn dX6_countGates_15 rfl ?_
    refine v_icmp_ge 47 dX6_countGates_16 (by decide) (by omega) (by omega) (fun h16 => ?_) (fun h16 => ?_)
    · refine v_iloadn dX6_countGates_47 rfl ?_
      exact v_iretA dX6_countGates_48 rfl ⟨(Nat.le_of_ble_eq_true rfl), (Nat.le_of_ble_eq_true rfl)⟩ ⟨rfl, trivial⟩
    · refine v_aloadn dX6_countGates_19 rfl ?_
      refine v_iload dX6_countGates_20 rfl ?_
      refine v_aald2 (Cn := "WavePairs$Gate") dX6_countGates_22 (hX.2.1 7 0 (by decide)) (by simp) (by omega) (by omega) (by decide) ?_
      have hg := hX.2.2.2.2.2.2.2.2.2.1 i.toNat (by omega)
      refine v_astore dX6_countGates_23 (Nat.le_of_ble_eq_true rfl) ?_
      refine v_iloadn dX6_countGates_25 rfl ?_
      refine v_aload dX6_countGates_26 rfl ?_
      refine v_getN dX6_countGates_28 gf_X6_227 (hX.2.1 15 _ (by simp [cntX]; omega)) rfl ?_
      refine v_if_eq 38 dX6_countGates_31 (by decide) (by omega) (fun h31 => ?_) (fun h31 => ?_)
      · refine v_iconst dX6_countGates_38 ?_
        refine v_iadd dX6_countGates_39 ?_
        refine v_istoren dX6_countGates_40 (Nat.le_of_ble_eq_true rfl) ?_
        refine v_iinc dX6_countGates_41 rfl (Nat.le_of_ble_eq_true rfl) ?_
        refine v_goto 13 dX6_countGates_44 (by decide) ?_
        refine wV.locs (lv' := [(0, .ref (fw 0 0)), (1, .int (gI _)), (2, .ref (fw 7 0)), (3, .int (gI 12)), (4, .int (gI _))]) ⟨rfl, rfl, rfl, rfl, rfl, trivial⟩ (ih _ _ (by omega) (by omega) (by omega))
      · refine v_iconst dX6_countGates_34 ?_
        refine v_goto 39 dX6_countGates_35 (by decide) ?_
        refine v_iadd dX6_countGates_39 ?_
        refine v_istoren dX6_countGates_40 (Nat.le_of_ble_eq_true rfl) ?_
        refine v_iinc dX6_countGates_41 rfl (Nat.le_of_ble_eq_true rfl) ?_
        refine v_goto 13 dX6_countGates_44 (by decide) ?_
        refine wV.locs (lv' := [(0, .ref (fw 0 0)), (1, .int (gI _)), (2, .ref (fw 7 0)), (3, .int (gI 12)), (4, .int (gI _))]) ⟨rfl, rfl, rfl, rfl, rfl, trivial⟩ (ih _ _ (by omega) (by omega) (by omega))
set_option maxHeartbeats 4000000 in
set_option maxRecDepth 100000 in
theorem tX6_countGates {G : gG} {fw : Nat → Nat → Nat} {s : sG} {M : wM} (hX : wX G fw s M) : wT G qX6_countGates 0 0 [.ref (fw 0 0)] M (iP fun x M' => M' = M ∧ True) := by
  refine wT.intro (by decide) (Nat.le_of_ble_eq_true rfl) (fun sz => ?_)
  refine v_iconst dX6_countGates_0 ?_
  refine v_istoren dX6_countGates_1 (Nat.le_of_ble_eq_true rfl) ?_
  refine v_aloadn dX6_countGates_2 rfl ?_
  refine v_get dX6_countGates_3 gf_X6_39 (hX.2.1 0 0 (by decide)) rfl ?_
  refine v_astoren dX6_countGates_6 (Nat.le_of_ble_eq_true rfl) ?_
  refine v_aloadn dX6_countGates_7 rfl ?_
  refine v_alen (ty := .int) dX6_countGates_8 (hX.2.1 7 0 (by decide)) (by simp) rfl ?_
  refine v_istoren dX6_countGates_9 (Nat.le_of_ble_eq_true rfl) ?_
  refine v_iconst dX6_countGates_10 ?_
  refine v_istore dX6_countGates_11 (Nat.le_of_ble_eq_true rfl) ?_
  refine wV.locs (lv' := [(0, .ref (fw 0 0)), (1, .int (gI (0))), (2, .ref (fw 7 0)), (3, .int (gI 12)), (4, .int (gI (0)))]) ⟨rfl, rfl, rfl, rfl, rfl, trivial⟩ (tX6_countGates_loop hX 30 _ _ (by omega) (by omega) (by omega))
set_option maxHeartbeats 4000000 in
set_option maxRecDepth 100000 in
theorem tX6_count {G : gG} {fw : Nat → Nat → Nat} {s : sG} {M : wM} (hX : wX G fw s M) {a : Int} (ha : rng a) : wT G qX6_count 0 0 [.ref (fw 0 0), .int (gI a)] M (iP fun x M' => M' = M ∧ True) := by
  refine wT.intro (by decide) (Nat.le_of_ble_eq_true rfl) (fun sz => ?_)
  have h0 := hX.2.2.1
  have hnm := hX.2.2.2.1
  have hsh := hX.2.2.2.2.1
  have h8 := hX.2.2.2.2.2.1
  refine v_iloadn dX6_count_0 rfl ?_
  rcases (show a = 0 ∨ a = 1 ∨ a = 2 ∨ a = 3 ∨ (a < 0 ∨ 3 < a) by omega) with rfl | rfl | rfl | rfl | hout
  · refine v_tin 32 dX6_count_1 (by omega) (by omega) (by omega) rfl (by decide) ?_
    refine v_aloadn dX6_count_32 rfl ?_
    refine v_callV (tX6_countChanges hX) lc_X6_263 ⟨(Nat.le_of_ble_eq_true rfl), (Nat.le_of_ble_eq_true rfl)⟩ dX6_count_33 rfl rfl (Nat.le_of_ble_eq_true rfl) ⟨(Nat.le_of_ble_eq_true rfl), (Nat.le_of_ble_eq_true rfl)⟩ ⟨_, _, _, _, (hX.2.1 0 0 (by decide)), rfl⟩ (kP fun r33 hr33 hp33 => ?_)
    exact v_iret dX6_count_36 rfl ⟨(Nat.le_of_ble_eq_true rfl), (Nat.le_of_ble_eq_true rfl)⟩ (by omega) ⟨rfl, trivial⟩
  · refine v_tin 37 dX6_count_1 (by omega) (by omega) (by omega) rfl (by decide) ?_
    refine v_aloadn dX6_count_37 rfl ?_
    refine v_get dX6_count_38 gf_X6_50 (hX.2.1 0 0 (by decide)) rfl ?_
    exact v_iret dX6_count_41 rfl ⟨(Nat.le_of_ble_eq_true rfl), (Nat.le_of_ble_eq_true rfl)⟩ (by omega) ⟨rfl, trivial⟩
  · refine v_tin 42 dX6_count_1 (by omega) (by omega) (by omega) rfl (by decide) ?_
    refine v_aloadn dX6_count_42 rfl ?_
    refine v_callV (tX6_countChannels hX) lc_X6_266 ⟨(Nat.le_of_ble_eq_true rfl), (Nat.le_of_ble_eq_true rfl)⟩ dX6_count_43 rfl rfl (Nat.le_of_ble_eq_true rfl) ⟨(Nat.le_of_ble_eq_true rfl), (Nat.le_of_ble_eq_true rfl)⟩ ⟨_, _, _, _, (hX.2.1 0 0 (by decide)), rfl⟩ (kP fun r43 hr43 hp43 => ?_)
    exact v_iret dX6_count_46 rfl ⟨(Nat.le_of_ble_eq_true rfl), (Nat.le_of_ble_eq_true rfl)⟩ (by omega) ⟨rfl, trivial⟩
  · refine v_tin 47 dX6_count_1 (by omega) (by omega) (by omega) rfl (by decide) ?_
    refine v_aloadn dX6_count_47 rfl ?_
    refine v_callV (tX6_countGates hX) lc_X6_269 ⟨(Nat.le_of_ble_eq_true rfl), (Nat.le_of_ble_eq_true rfl)⟩ dX6_count_48 rfl rfl (Nat.le_of_ble_eq_true rfl) ⟨(Nat.le_of_ble_eq_true rfl), (Nat.le_of_ble_eq_true rfl)⟩ ⟨_, _, _, _, (hX.2.1 0 0 (by decide)), rfl⟩ (kP fun r48 hr48 hp48 => ?_)
    exact v_iret dX6_count_51 rfl ⟨(Nat.le_of_ble_eq_true rfl), (Nat.le_of_ble_eq_true rfl)⟩ (by omega) ⟨rfl, trivial⟩
  · refine v_tout 52 dX6_count_1 (by omega) hout (by decide) ?_
    refine v_iconst dX6_count_52 ?_
    exact v_iret dX6_count_53 rfl ⟨(Nat.le_of_ble_eq_true rfl), (Nat.le_of_ble_eq_true rfl)⟩ (by omega) ⟨rfl, trivial⟩
