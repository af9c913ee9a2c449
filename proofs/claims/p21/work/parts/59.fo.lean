set_option maxHeartbeats 4000000 in
set_option maxRecDepth 100000 in
theorem fX6_alike_loop {sz : Nat} {M0 : wM} {G : gG} {fw : Nat → Nat → Nat} {si : sG} {Mi : wM} (hsO : sOK si) {a : Int} (ha : bt 0 a 11) : ∀ (k : Nat) (s : sG) (M : wM) (b i : Int), 0 ≤ 13 - i → 13 - i < (k : Int) → (wX G fw s M) → (wO cntX fw Mi M) → (keepX si s) → (bt 0 i 12) → (gI b = bF (alX si a) i.toNat) → wV G qX6_alike 0 0 sz M0 0 0 13 [(0, .ref (fw 0 0)), (1, .int (gI a)), (2, .int (gI b)), (3, .int (gI i))] [] M (PX G fw Mi (fun x s' => keepX si s' ∧ ((¬ bt 0 a 11 ∧ x = -1) ∨ (bt 0 a 11 ∧ x = (bF (alX si a) 12).toInt)))) := by
  intro k
  induction k with
  | zero =>
    intros
    omega
  | succ k ih =>
    intro s M b i hmz hml hX hO hK h1 h2
    have h0 := hX.2.2.1
    have hnm := hX.2.2.2.1
    have hsh := hX.2.2.2.2.1
    have h8 := hX.2.2.2.2.2.1
    refine v_iloadn dX6_alike_13 rfl ?_
    refine v_bipush dX6_alike_14 (by decide) ?_
    refine v_icmp_ge 84 dX6_alike_16 (by decide) (by omega) (by omega) (fun h16 => ?_) (fun h16 => ?_)
    · refine v_iloadn dX6_alike_84 rfl ?_
      exact v_iretA dX6_alike_85 rfl ⟨(Nat.le_of_ble_eq_true rfl), (Nat.le_of_ble_eq_true rfl)⟩ ⟨s, hX, hO, hK, Or.inr ⟨ha, by rw [h2, show i.toNat = 12 by omega]⟩⟩
    · refine v_aloadn dX6_alike_19 rfl ?_
      refine v_get dX6_alike_20 gf_X6_46 (hX.2.1 0 0 (by decide)) rfl ?_
      refine v_callV (tX5_clear hX) lc_X6_147 ⟨(Nat.le_of_ble_eq_true rfl), (Nat.le_of_ble_eq_true rfl)⟩ dX6_alike_23 rfl rfl (Nat.le_of_ble_eq_true rfl) ⟨(Nat.le_of_ble_eq_true rfl), (Nat.le_of_ble_eq_true rfl)⟩ ⟨_, _, _, _, hX.2.1 8 0 (by decide), rfl⟩ (kV fun M23 hp23 => ?_)
      obtain ⟨s23, hX, hO23, hs23⟩ := hp23
      have hO := hO.tr hO23
      have hSD23 : SD s23 (fun _ => True) := by rw [hs23]; exact SD_clear
      have hK : keepX si s23 := hK.tr (by rw [hs23]; exact keepX_8)
      have hK23 := hK
      have e23 : s23 8 0 1 = 0 := by rw [hs23, ups_at]; rfl
      have h0 := hX.2.2.1
      have hnm := hX.2.2.2.1
      have hsh := hX.2.2.2.2.1
      have h8 := hX.2.2.2.2.2.1
      refine v_aloadn dX6_alike_26 rfl ?_
      refine v_get dX6_alike_27 gf_X6_46 (hX.2.1 0 0 (by decide)) rfl ?_
      refine v_callV (tX5_take hX) lc_X6_150 ⟨(Nat.le_of_ble_eq_true rfl), (Nat.le_of_ble_eq_true rfl)⟩ dX6_alike_30 rfl rfl (Nat.le_of_ble_eq_true rfl) ⟨(Nat.le_of_ble_eq_true rfl), (Nat.le_of_ble_eq_true rfl)⟩ ⟨_, _, _, _, hX.2.1 8 0 (by decide), rfl⟩ (kR fun r30 M30 hp30 => ?_)
      obtain ⟨s30, j30, hj30, rfl, hX, hO30, hjv30, hs30⟩ := hp30
      have hO := hO.tr hO30
      have hjv30 := take_j hjv30 (by omega)
      have hK : keepX si s30 := hK.tr (by rw [hs30]; exact keepX_8)
      have h0 := hX.2.2.1
      have hnm := hX.2.2.2.1
      have hsh := hX.2.2.2.2.1
      have h8 := hX.2.2.2.2.2.1
      refine v_aloadn dX6_alike_33 rfl ?_
      refine v_iconst dX6_alike_34 ?_
      refine v_iloadn dX6_alike_35 rfl ?_
      refine v_callV (tX6_rowOf hX (by omega) (by omega)) lc_X6_77 ⟨(Nat.le_of_ble_eq_true rfl), (Nat.le_of_ble_eq_true rfl)⟩ dX6_alike_36 rfl rfl (Nat.le_of_ble_eq_true rfl) ⟨(Nat.le_of_ble_eq_true rfl), (Nat.le_of_ble_eq_true rfl)⟩ ⟨_, _, _, _, (hX.2.1 0 0 (by decide)), rfl⟩ (kRp fun r36 hp36 => ?_)
      subst hp36
      refine v_aloadn dX6_alike_39 rfl ?_
      refine v_iconst dX6_alike_40 ?_
      refine v_iloadn dX6_alike_41 rfl ?_
      refine v_callV (tX6_rowOf hX (by omega) (by omega)) lc_X6_77 ⟨(Nat.le_of_ble_eq_true rfl), (Nat.le_of_ble_eq_true rfl)⟩ dX6_alike_42 rfl rfl (Nat.le_of_ble_eq_true rfl) ⟨(Nat.le_of_ble_eq_true rfl), (Nat.le_of_ble_eq_true rfl)⟩ ⟨_, _, _, _, (hX.2.1 0 0 (by decide)), rfl⟩ (kRp fun r42 hp42 => ?_)
      subst hp42
      refine v_iconst dX6_alike_45 ?_
      refine v_aloadn dX6_alike_46 rfl ?_
      refine v_get dX6_alike_47 gf_X6_57 (hX.2.1 0 0 (by decide)) rfl ?_
      refine v_callV (tX3_wantUnlike hX (by omega) (by omega) (by omega) (by omega) (by omega)) lc_X6_157 ⟨(Nat.le_of_ble_eq_true rfl), (Nat.le_of_ble_eq_true rfl)⟩ dX6_alike_50 rfl rfl (Nat.le_of_ble_eq_true rfl) ⟨(Nat.le_of_ble_eq_true rfl), (Nat.le_of_ble_eq_true rfl)⟩ ⟨_, _, _, _, hX.2.1 16 _ (by simp [cntX]; omega), rfl⟩ (kV fun M50 hp50 => ?_)
      obtain ⟨s50, hX, hO50, hs50⟩ := hp50
      have hO := hO.tr hO50
      have q0 : s30 0 0 10 = si 0 0 10 := by rw [hK 0 0 (by unfold scrX; omega)]
      have hs50 : s50 = unS s30 j30 _ _ _ _ := hs50
      rw [q0] at hs50
      have hSD := SD_unl (m := j30) (l := (0 * 12 + a).toNat) (r := (1 * 12 + i).toNat) (a := 0) (b := si 0 0 10) hSD23 hjv30 (by omega) (by omega) (hK23.s (by omega) (hsO.1 _ (by omega))) (hK23.s (by omega) (hsO.1 _ (by omega)))
      rw [← hs30, ← hs50] at hSD
      have hK : keepX si s50 := hK.tr (by rw [hs50]; exact keepX_un)
      have hSD : SD s50 (fun t => agF (vX si a.toNat t) (vX si (12 + i.toNat) t) (si 0 0 10) = 0) := hSD.iff (fun t ht => by
        rw [hK23.v (by omega), hK23.v (by omega), show (0 * 12 + a).toNat = a.toNat by omega, show (1 * 12 + i).toNat = 12 + i.toNat by omega, show t + 0 = t by omega]
        exact ⟨fun z => z.2, fun z => ⟨trivial, z⟩⟩)
      clear hs50 hs30 hs23
      have h0 := hX.2.2.1
      have hnm := hX.2.2.2.1
      have hsh := hX.2.2.2.2.1
      have h8 := hX.2.2.2.2.2.1
      have q9 : s50 0 0 9 = si 0 0 9 := by rw [hK 0 0 (by unfold scrX; omega)]
      refine v_aloadn dX6_alike_53 rfl ?_
      refine v_get dX6_alike_54 gf_X6_46 (hX.2.1 0 0 (by decide)) rfl ?_
      refine v_iconst dX6_alike_57 ?_
      refine v_aloadn dX6_alike_58 rfl ?_
      refine v_get dX6_alike_59 gf_X6_54 (hX.2.1 0 0 (by decide)) rfl ?_
      refine v_callV (fX5_start hX hSD.1 (by omega) (by omega)) lc_X6_144 ⟨(Nat.le_of_ble_eq_true rfl), (Nat.le_of_ble_eq_true rfl)⟩ dX6_alike_62 rfl rfl (Nat.le_of_ble_eq_true rfl) ⟨(Nat.le_of_ble_eq_true rfl), (Nat.le_of_ble_eq_true rfl)⟩ ⟨_, _, _, _, hX.2.1 8 0 (by decide), rfl⟩ (kP fun r62 hr62 hp62 => ?_)
      have hfa := fst_all (by omega) (hSD.fst (by omega) hp62)
      rw [q9] at hfa
      refine v_aloadn dX6_alike_65 rfl ?_
      refine v_get dX6_alike_66 gf_X6_54 (hX.2.1 0 0 (by decide)) rfl ?_
      refine v_icmp_lt 78 dX6_alike_69 (by decide) (by omega) (by omega) (fun h69 => ?_) (fun h69 => ?_)
      · refine v_iinc dX6_alike_78 rfl (Nat.le_of_ble_eq_true rfl) ?_
        refine v_goto 13 dX6_alike_81 (by decide) ?_
        refine wV.locs (lv' := [(0, .ref (fw 0 0)), (1, .int (gI a)), (2, .int (gI _)), (3, .int (gI _))]) ⟨rfl, rfl, rfl, rfl, trivial⟩ (ih _ _ _ _ (by omega) (by omega) hX hO hK (by omega) (by
                    rw [show (i + 1).toNat = i.toNat + 1 by omega]
                    first
                      | (rw [← gI_of, bF_1 (show alX si a i.toNat from fun t t1 t2 => hfa.mp (by omega) t t1 t2), ← h2, show ((i.toNat : Nat) : Int) = i by omega])
                      | (rw [bF_0 (fun z => absurd (hfa.mpr z) (by omega))]; exact h2)))
      · refine v_iloadn dX6_alike_72 rfl ?_
        refine v_iconst dX6_alike_73 ?_
        refine v_iloadn dX6_alike_74 rfl ?_
        refine v_ishl dX6_alike_75 ?_
        refine v_ior dX6_alike_76 ?_
        rw [gI_of (gI b ||| gI 1 <<< (gI i &&& 31))]
        refine v_istoren dX6_alike_77 (Nat.le_of_ble_eq_true rfl) ?_
        refine v_iinc dX6_alike_78 rfl (Nat.le_of_ble_eq_true rfl) ?_
        refine v_goto 13 dX6_alike_81 (by decide) ?_
        refine wV.locs (lv' := [(0, .ref (fw 0 0)), (1, .int (gI a)), (2, .int (gI _)), (3, .int (gI _))]) ⟨rfl, rfl, rfl, rfl, trivial⟩ (ih _ _ _ _ (by omega) (by omega) hX hO hK (by omega) (by
                    rw [show (i + 1).toNat = i.toNat + 1 by omega]
                    first
                      | (rw [← gI_of, bF_1 (show alX si a i.toNat from fun t t1 t2 => hfa.mp (by omega) t t1 t2), ← h2, show ((i.toNat : Nat) : Int) = i by omega])
                      | (rw [bF_0 (fun z => absurd (hfa.mpr z) (by omega))]; exact h2)))
set_option maxHeartbeats 4000000 in
set_option maxRecDepth 100000 in
theorem fX6_alike {G : gG} {fw : Nat → Nat → Nat} {si : sG} {Mi : wM} (hsO : sOK si) (hX : wX G fw si Mi) {a : Int} (ha : rng a) : wT G qX6_alike 0 0 [.ref (fw 0 0), .int (gI a)] Mi (PX G fw Mi (fun x s' => keepX si s' ∧ ((¬ bt 0 a 11 ∧ x = -1) ∨ (bt 0 a 11 ∧ x = (bF (alX si a) 12).toInt)))) := by
  refine wT.intro (by decide) (Nat.le_of_ble_eq_true rfl) (fun sz => ?_)
  have hO : wO cntX fw Mi Mi := wO.rf
  have hK : keepX si si := keepX.rf
  refine v_iloadn dX6_alike_0 rfl ?_
  refine v_callS (tX6_isNoSignal (by omega)) lc_X6_117 ⟨(Nat.le_of_ble_eq_true rfl), (Nat.le_of_ble_eq_true rfl)⟩ dX6_alike_1 rfl rfl (Nat.le_of_ble_eq_true rfl) ⟨(Nat.le_of_ble_eq_true rfl), (Nat.le_of_ble_eq_true rfl)⟩ (kP fun r1 hr1 hp1 => ?_)
  refine v_if_eq 9 dX6_alike_4 (by decide) (by omega) (fun h4 => ?_) (fun h4 => ?_)
  · refine v_iconst dX6_alike_9 ?_
    refine v_istoren dX6_alike_10 (Nat.le_of_ble_eq_true rfl) ?_
    refine v_iconst dX6_alike_11 ?_
    refine v_istoren dX6_alike_12 (Nat.le_of_ble_eq_true rfl) ?_
    refine wV.locs (lv' := [(0, .ref (fw 0 0)), (1, .int (gI a)), (2, .int (gI (0))), (3, .int (gI (0)))]) ⟨rfl, rfl, rfl, rfl, trivial⟩ (fX6_alike_loop hsO (by omega) 20 _ _ _ _ (by omega) (by omega) hX hO hK (by omega) rfl)
  · refine v_iconst dX6_alike_7 ?_
    exact v_iret dX6_alike_8 rfl ⟨(Nat.le_of_ble_eq_true rfl), (Nat.le_of_ble_eq_true rfl)⟩ (by omega) ⟨si, hX, hO, hK, Or.inl ⟨by omega, by omega⟩⟩
