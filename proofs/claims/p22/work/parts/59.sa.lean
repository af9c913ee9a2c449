set_option maxHeartbeats 4000000 in
set_option maxRecDepth 100000 in
theorem fX5_howMany {G : gG} {fw : Nat → Nat → Nat} {s : sG} {M : wM} (hX : wX G fw s M) (hA : aS s) {l d : Int} (hl : bt 1 l 4000) (hd : bt 0 d 4000) : wT G qX5_howMany 0 0 [.ref (fw 8 0), .int (gI l), .int (gI d)] M (iP fun x M' => x = cS (aW s) l d d ∧ ∃ s', wX G fw s' M' ∧ wO cntX fw M M' ∧ keepX s s') := by
  refine wT.intro (by decide) (Nat.le_of_ble_eq_true rfl) (fun sz => ?_)
  refine v_aloadn dX5_howMany_0 rfl ?_
  refine v_iconst dX5_howMany_1 ?_
  refine v_iloadn dX5_howMany_2 rfl ?_
  refine v_iloadn dX5_howMany_3 rfl ?_
  refine v_callV (fX5_find hX hA (by omega) hl hd) lc_X5_47 ⟨(Nat.le_of_ble_eq_true rfl), (Nat.le_of_ble_eq_true rfl)⟩ dX5_howMany_4 rfl rfl (Nat.le_of_ble_eq_true rfl) ⟨(Nat.le_of_ble_eq_true rfl), (Nat.le_of_ble_eq_true rfl)⟩ ⟨_, _, _, _, hX.2.1 8 0 (by decide), rfl⟩ (kI fun r4 M4 hr4 hp4 => ?_)
  obtain ⟨s4, hX4, hO4, hE4, e1, e2⟩ := hp4
  have h84 := hX4.2.2.2.2.2.1
  have e3 : s4 8 0 2 = cS (aW s) l d d := by
    rcases e2 with ⟨-, z⟩ | ⟨-, z, -⟩
    · have y := cS_rg (A := aW s) (l := l) (d := d) (x := s4 8 0 3) z.1.1
      have y2 := z.2.2.2.2.2
      omega
    · exact z
  refine v_pop dX5_howMany_7 rfl ?_
  refine v_aloadn dX5_howMany_8 rfl ?_
  refine v_get dX5_howMany_9 gf_X5_21 (hX4.2.1 8 0 (by decide)) rfl ?_
  exact v_iret dX5_howMany_12 rfl ⟨(Nat.le_of_ble_eq_true rfl), (Nat.le_of_ble_eq_true rfl)⟩ (by omega) ⟨e3, s4, hX4, hO4, fun k i' hq => by rw [hE4 k (fun z => hq (Or.inl z))]⟩
set_option maxHeartbeats 4000000 in
set_option maxRecDepth 100000 in
theorem fX6_differences_loop {sz : Nat} {M0 : wM} {G : gG} {fw : Nat → Nat → Nat} {si : sG} {Mi : wM} (hsO : sOK si) (hIi : invX si) : ∀ (k : Nat) (s : sG) (M : wM) (u i : Int), 0 ≤ 13 - i → 13 - i < (k : Int) → (wX G fw s M) → (wO cntX fw Mi M) → (keepX si s) → (bt 0 i 12) → (u = nD (dfX si) (si 0 0 9) i.toNat) → wV G qX6_differences 0 0 sz M0 0 0 4 [(0, .ref (fw 0 0)), (1, .int (gI u)), (2, .int (gI i))] [] M (PX G fw Mi (fun x s' => keepX si s' ∧ (x = nD (dfX si) (si 0 0 9) 12))) := by
  intro k
  induction k with
  | zero =>
    intros
    omega
  | succ k ih =>
    intro s M u i hmz hml hX hO hK h1 h2
    have h0 := hX.2.2.1
    have hnm := hX.2.2.2.1
    have hsh := hX.2.2.2.2.1
    have h8 := hX.2.2.2.2.2.1
    have hsOs : sOK s := sOK_k hsO hK
    have p0 : s 0 0 = si 0 0 := hK 0 0 (by unfold scrX; omega)
    have p9 : s 0 0 9 = si 0 0 9 := by rw [p0]
    have p3 : s 3 0 = si 3 0 := hK 3 0 (by unfold scrX; omega)
    have p4 : s 4 0 = si 4 0 := hK 4 0 (by unfold scrX; omega)
    have hND := nD_rg (D := dfX si) (e := si 0 0 9) (by omega) i.toNat
    have hNb : (si 0 0 9) * ((i.toNat : Nat) : Int) ≤ 4000 * 12 := Int.mul_le_mul (by omega) (by omega) (by omega) (by omega)
    refine v_iloadn dX6_differences_4 rfl ?_
    refine v_bipush dX6_differences_5 (by decide) ?_
    refine v_icmp_ge 47 dX6_differences_7 (by decide) (by omega) (by omega) (fun h7 => ?_) (fun h7 => ?_)
    · refine v_iloadn dX6_differences_47 rfl ?_
      exact v_iret dX6_differences_48 rfl ⟨(Nat.le_of_ble_eq_true rfl), (Nat.le_of_ble_eq_true rfl)⟩ (by omega) ⟨s, hX, hO, hK, by rw [h2, show i.toNat = 12 by omega]⟩
    · refine v_aloadn dX6_differences_10 rfl ?_
      refine v_iloadn dX6_differences_11 rfl ?_
      refine v_aloadn dX6_differences_12 rfl ?_
      refine v_get dX6_differences_13 gf_X6_22 (hX.2.1 0 0 (by decide)) rfl ?_
      refine v_aloadn dX6_differences_16 rfl ?_
      refine v_get dX6_differences_17 gf_X6_19 (hX.2.1 0 0 (by decide)) rfl ?_
      refine v_iloadn dX6_differences_20 rfl ?_
      refine v_iald dX6_differences_21 (hX.2.1 3 0 (by decide)) (by omega) (by omega) (by decide) ?_
      have hgi := hnm (i).toNat (by omega)
      refine v_iald dX6_differences_22 (hX.2.1 4 0 (by decide)) (by omega) (by omega) (by decide) ?_
      have hshi := hsh (s 3 0 (i).toNat).toNat (by omega)
      refine v_callV (fX6_seekDifferences hsOs.1 hsOs.2 hX (by omega) (by omega)) lc_X6_128 ⟨(Nat.le_of_ble_eq_true rfl), (Nat.le_of_ble_eq_true rfl)⟩ dX6_differences_23 rfl rfl (Nat.le_of_ble_eq_true rfl) ⟨(Nat.le_of_ble_eq_true rfl), (Nat.le_of_ble_eq_true rfl)⟩ ⟨_, _, _, _, (hX.2.1 0 0 (by decide)), rfl⟩ (kV fun M23 hp23 => ?_)
      obtain ⟨s23, hX, hO23, hK23, hSD23⟩ := hp23
      have hO := hO.tr hO23
      have hKp := hK
      have hK := hK.tr hK23
      have h0 := hX.2.2.1
      have hnm := hX.2.2.2.1
      have hsh := hX.2.2.2.2.1
      have h8 := hX.2.2.2.2.2.1
      have q0 : s23 0 0 = si 0 0 := hK 0 0 (by unfold scrX; omega)
      have q9 : s23 0 0 9 = si 0 0 9 := by rw [q0]
      refine v_iloadn dX6_differences_26 rfl ?_
      refine v_aloadn dX6_differences_27 rfl ?_
      refine v_get dX6_differences_28 gf_X6_46 (hX.2.1 0 0 (by decide)) rfl ?_
      refine v_iconst dX6_differences_31 ?_
      refine v_aloadn dX6_differences_32 rfl ?_
      refine v_get dX6_differences_33 gf_X6_54 (hX.2.1 0 0 (by decide)) rfl ?_
      refine v_callV (fX5_howMany hX hSD23.1 (by omega) (by omega)) lc_X6_131 ⟨(Nat.le_of_ble_eq_true rfl), (Nat.le_of_ble_eq_true rfl)⟩ dX6_differences_36 rfl rfl (Nat.le_of_ble_eq_true rfl) ⟨(Nat.le_of_ble_eq_true rfl), (Nat.le_of_ble_eq_true rfl)⟩ ⟨_, _, _, _, hX.2.1 8 0 (by decide), rfl⟩ (kI fun r36 M36 hr36 hp36 => ?_)
      obtain ⟨hc36, s36, hX, hO36, hK36⟩ := hp36
      have hO := hO.tr hO36
      have hK := hK.tr hK36
      have h0 := hX.2.2.1
      have hnm := hX.2.2.2.1
      have hsh := hX.2.2.2.2.1
      have h8 := hX.2.2.2.2.2.1
      have hD : ∀ t, (dX s i (s 4 0 (s 3 0 i.toNat).toNat) t ↔ dfX si i.toNat t) := fun t => by
        unfold dfX shX
        rw [dX_k hsO hIi hKp (by omega), p4, p3, show ((i.toNat : Nat) : Int) = i by omega]
      have hcs : r36 = cS (dfX si i.toNat) 1 (si 0 0 9) (si 0 0 9) := by rw [hc36, hSD23.c _ _ _ (Int.le_refl _), q9]; exact cS_congr (fun v _ _ => hD v) (Int.le_refl _)
      refine v_iadd dX6_differences_39 ?_
      refine v_istoren dX6_differences_40 (Nat.le_of_ble_eq_true rfl) ?_
      refine v_iinc dX6_differences_41 rfl (Nat.le_of_ble_eq_true rfl) ?_
      refine v_goto 4 dX6_differences_44 (by decide) ?_
      refine wV.locs (lv' := [(0, .ref (fw 0 0)), (1, .int (gI _)), (2, .int (gI _))]) ⟨rfl, rfl, rfl, trivial⟩ (ih _ _ _ _ (by omega) (by omega) hX hO hK (by omega) (by rw [show (i + 1).toNat = i.toNat + 1 by omega, hcs, h2]; rfl))
set_option maxHeartbeats 4000000 in
set_option maxRecDepth 100000 in
theorem fX6_differences {G : gG} {fw : Nat → Nat → Nat} {si : sG} {Mi : wM} (hsO : sOK si) (hX : wX G fw si Mi) : wT G qX6_differences 0 0 [.ref (fw 0 0)] Mi (PX G fw Mi (fun x s' => keepX si s' ∧ (x = nD (dfX si) (si 0 0 9) 12))) := by
  refine wT.intro (by decide) (Nat.le_of_ble_eq_true rfl) (fun sz => ?_)
  have hO : wO cntX fw Mi Mi := wO.rf
  have hK : keepX si si := keepX.rf
  have h0 := hX.2.2.1
  have hnm := hX.2.2.2.1
  have hsh := hX.2.2.2.2.1
  have h8 := hX.2.2.2.2.2.1
  refine v_iconst dX6_differences_0 ?_
  refine v_istoren dX6_differences_1 (Nat.le_of_ble_eq_true rfl) ?_
  refine v_iconst dX6_differences_2 ?_
  refine v_istoren dX6_differences_3 (Nat.le_of_ble_eq_true rfl) ?_
  refine wV.locs (lv' := [(0, .ref (fw 0 0)), (1, .int (gI (0))), (2, .int (gI (0)))]) ⟨rfl, rfl, rfl, trivial⟩ (fX6_differences_loop hsO hX.2.2 20 _ _ _ _ (by omega) (by omega) hX hO hK (by omega) rfl)
set_option maxHeartbeats 4000000 in
set_option maxRecDepth 100000 in
theorem fX6_difference_loop {sz : Nat} {M0 : wM} {G : gG} {fw : Nat → Nat → Nat} {si : sG} {Mi : wM} (hsO : sOK si) (hIi : invX si) {a w : Int} (ha : rng a) (ha0 : 0 ≤ a) (hw : bt 0 w 2) : ∀ (k : Nat) (s : sG) (M : wM) (l i : Int), 0 ≤ 13 - i → 13 - i < (k : Int) → (wX G fw s M) → (wO cntX fw Mi M) → (keepX si s) → (bt 0 i 12) → (l = a - nD (dfX si) (si 0 0 9) i.toNat ∧ 0 ≤ l) → wV G qX6_difference 0 0 sz M0 0 0 20 [(0, .ref (fw 0 0)), (1, .int (gI a)), (2, .int (gI w)), (3, .int (gI l)), (4, .int (gI i))] [] M (PX G fw Mi (fun x s' => keepX si s' ∧ ((¬ (0 ≤ a ∧ bt 0 w 2) ∧ x = -1) ∨ ((0 ≤ a ∧ bt 0 w 2) ∧ dfP (dfX si) (si 0 0 9) a w x)))) := by
  intro k
  induction k with
  | zero =>
    intros
    omega
  | succ k ih =>
    intro s M l i hmz hml hX hO hK h1 h2
    have h0 := hX.2.2.1
    have hnm := hX.2.2.2.1
    have hsh := hX.2.2.2.2.1
    have h8 := hX.2.2.2.2.2.1
    have hsOs : sOK s := sOK_k hsO hK
    have p0 : s 0 0 = si 0 0 := hK 0 0 (by unfold scrX; omega)
    have p9 : s 0 0 9 = si 0 0 9 := by rw [p0]
    have p3 : s 3 0 = si 3 0 := hK 3 0 (by unfold scrX; omega)
    have p4 : s 4 0 = si 4 0 := hK 4 0 (by unfold scrX; omega)
    have hND := nD_rg (D := dfX si) (e := si 0 0 9) (by omega) i.toNat
    have hNb : (si 0 0 9) * ((i.toNat : Nat) : Int) ≤ 4000 * 12 := Int.mul_le_mul (by omega) (by omega) (by omega) (by omega)
    refine v_iload dX6_difference_20 rfl ?_
    refine v_bipush dX6_difference_22 (by decide) ?_
    refine v_icmp_ge 97 dX6_difference_24 (by decide) (by omega) (by omega) (fun h24 => ?_) (fun h24 => ?_)
    · refine v_bipush dX6_difference_97 (by decide) ?_
      exact v_iret dX6_difference_99 rfl ⟨(Nat.le_of_ble_eq_true rfl), (Nat.le_of_ble_eq_true rfl)⟩ (by omega) ⟨s, hX, hO, hK, Or.inr ⟨by omega, Or.inl ⟨by rw [show (12 : Nat) = i.toNat by omega]; omega, rfl⟩⟩⟩
    · refine v_aloadn dX6_difference_27 rfl ?_
      refine v_iload dX6_difference_28 rfl ?_
      refine v_aloadn dX6_difference_30 rfl ?_
      refine v_get dX6_difference_31 gf_X6_22 (hX.2.1 0 0 (by decide)) rfl ?_
      refine v_aloadn dX6_difference_34 rfl ?_
      refine v_get dX6_difference_35 gf_X6_19 (hX.2.1 0 0 (by decide)) rfl ?_
      refine v_iload dX6_difference_38 rfl ?_
      refine v_iald dX6_difference_40 (hX.2.1 3 0 (by decide)) (by omega) (by omega) (by decide) ?_
      have hgi := hnm (i).toNat (by omega)
      refine v_iald dX6_difference_41 (hX.2.1 4 0 (by decide)) (by omega) (by omega) (by decide) ?_
      have hshi := hsh (s 3 0 (i).toNat).toNat (by omega)
      refine v_callV (fX6_seekDifferences hsOs.1 hsOs.2 hX (by omega) (by omega)) lc_X6_128 ⟨(Nat.le_of_ble_eq_true rfl), (Nat.le_of_ble_eq_true rfl)⟩ dX6_difference_42 rfl rfl (Nat.le_of_ble_eq_true rfl) ⟨(Nat.le_of_ble_eq_true rfl), (Nat.le_of_ble_eq_true rfl)⟩ ⟨_, _, _, _, (hX.2.1 0 0 (by decide)), rfl⟩ (kV fun M42 hp42 => ?_)
      obtain ⟨s42, hX, hO42, hK42, hSD42⟩ := hp42
      have hO := hO.tr hO42
      have hKp := hK
      have hK := hK.tr hK42
      have h0 := hX.2.2.1
      have hnm := hX.2.2.2.1
      have hsh := hX.2.2.2.2.1
      have h8 := hX.2.2.2.2.2.1
      have q0 : s42 0 0 = si 0 0 := hK 0 0 (by unfold scrX; omega)
      have q9 : s42 0 0 9 = si 0 0 9 := by rw [q0]
      refine v_aloadn dX6_difference_45 rfl ?_
      refine v_get dX6_difference_46 gf_X6_46 (hX.2.1 0 0 (by decide)) rfl ?_
      refine v_iloadn dX6_difference_49 rfl ?_
      refine v_iconst dX6_difference_50 ?_
      refine v_aloadn dX6_difference_51 rfl ?_
      refine v_get dX6_difference_52 gf_X6_54 (hX.2.1 0 0 (by decide)) rfl ?_
      refine v_callV (fX5_find hX hSD42.1 (by omega) (by omega) (by omega)) lc_X6_135 ⟨(Nat.le_of_ble_eq_true rfl), (Nat.le_of_ble_eq_true rfl)⟩ dX6_difference_55 rfl rfl (Nat.le_of_ble_eq_true rfl) ⟨(Nat.le_of_ble_eq_true rfl), (Nat.le_of_ble_eq_true rfl)⟩ ⟨_, _, _, _, hX.2.1 8 0 (by decide), rfl⟩ (kI fun r55 M55 hr55 hp55 => ?_)
      obtain ⟨s55, hX, hO55, hE55, e1, hz55⟩ := hp55
      have hO := hO.tr hO55
      have hK : keepX si s55 := hK.tr (fun k i' hq => by rw [hE55 k (fun z => hq (Or.inl z))])
      have h0 := hX.2.2.1
      have hnm := hX.2.2.2.1
      have hsh := hX.2.2.2.2.1
      have h8 := hX.2.2.2.2.2.1
      have hD : ∀ t, (dX s i (s 4 0 (s 3 0 i.toNat).toNat) t ↔ dfX si i.toNat t) := fun t => by
        unfold dfX shX
        rw [dX_k hsO hIi hKp (by omega), p4, p3, show ((i.toNat : Nat) : Int) = i by omega]
      rw [q9] at hz55
      have hcS : cS (aW s42) 1 (si 0 0 9) (si 0 0 9) = cS (dfX si i.toNat) 1 (si 0 0 9) (si 0 0 9) := by rw [hSD42.c _ _ _ (Int.le_refl _)]; exact cS_congr (fun v _ _ => hD v) (Int.le_refl _)
      rw [hcS] at hz55
      have hb55 : r55 = 0 ∨ r55 = 1 := hz55.elim (fun z => Or.inr z.1) (fun z => Or.inl z.1)
      have hsp : r55 ≠ 0 → spP (dfX si i.toNat) 1 (si 0 0 9) l (s55 8 0 3) (s55 8 0 4) := fun q => hz55.elim (fun z => (hSD42.sp z.2).congr (fun v _ _ => hD v)) (fun z => absurd z.1 q)
      have hno : r55 = 0 → s55 8 0 2 = cS (dfX si i.toNat) 1 (si 0 0 9) (si 0 0 9) ∧ cS (dfX si i.toNat) 1 (si 0 0 9) (si 0 0 9) ≤ l := fun q => hz55.elim (fun z => absurd z.1 (by omega)) (fun z => ⟨z.2.1, z.2.2 (by omega)⟩)
      have hcg := cS_rg (A := dfX si i.toNat) (l := 1) (d := si 0 0 9) (x := si 0 0 9) (by omega)
      clear hz55 hcS hD
      refine v_if_eq 81 dX6_difference_58 (by decide) (by omega) (fun h58 => ?_) (fun h58 => ?_)
      · refine v_iloadn dX6_difference_81 rfl ?_
        refine v_aloadn dX6_difference_82 rfl ?_
        refine v_get dX6_difference_83 gf_X6_46 (hX.2.1 0 0 (by decide)) rfl ?_
        refine v_callV (tX5_seen hX) lc_X6_141 ⟨(Nat.le_of_ble_eq_true rfl), (Nat.le_of_ble_eq_true rfl)⟩ dX6_difference_86 rfl rfl (Nat.le_of_ble_eq_true rfl) ⟨(Nat.le_of_ble_eq_true rfl), (Nat.le_of_ble_eq_true rfl)⟩ ⟨_, _, _, _, hX.2.1 8 0 (by decide), rfl⟩ (kP fun r86 hr86 hp86 => ?_)
        refine v_isub dX6_difference_89 ?_
        refine v_istoren dX6_difference_90 (Nat.le_of_ble_eq_true rfl) ?_
        refine v_iinc dX6_difference_91 rfl (Nat.le_of_ble_eq_true rfl) ?_
        refine v_goto 20 dX6_difference_94 (by decide) ?_
        refine wV.locs (lv' := [(0, .ref (fw 0 0)), (1, .int (gI a)), (2, .int (gI w)), (3, .int (gI _)), (4, .int (gI _))]) ⟨rfl, rfl, rfl, rfl, rfl, trivial⟩ (ih _ _ _ _ (by omega) (by omega) hX hO hK (by omega) (by have z := hno (by omega); have e : nD (dfX si) (si 0 0 9) (i + 1).toNat = nD (dfX si) (si 0 0 9) i.toNat + cS (dfX si i.toNat) 1 (si 0 0 9) (si 0 0 9) := (by rw [show (i + 1).toNat = i.toNat + 1 by omega]; rfl); rw [e]; omega))
      · refine v_iloadn dX6_difference_61 rfl ?_
        refine v_if_ne 70 dX6_difference_62 (by decide) (by omega) (fun h62 => ?_) (fun h62 => ?_)
        · refine v_aloadn dX6_difference_70 rfl ?_
          refine v_get dX6_difference_71 gf_X6_46 (hX.2.1 0 0 (by decide)) rfl ?_
          refine v_iloadn dX6_difference_74 rfl ?_
          refine v_iconst dX6_difference_75 ?_
          refine v_isub dX6_difference_76 ?_
          refine v_callV (tX5_edgeFound hX (by omega)) lc_X6_138 ⟨(Nat.le_of_ble_eq_true rfl), (Nat.le_of_ble_eq_true rfl)⟩ dX6_difference_77 rfl rfl (Nat.le_of_ble_eq_true rfl) ⟨(Nat.le_of_ble_eq_true rfl), (Nat.le_of_ble_eq_true rfl)⟩ ⟨_, _, _, _, hX.2.1 8 0 (by decide), rfl⟩ (kP fun r77 hr77 hp77 => ?_)
          have hr77 : rng r77 := hr77
          have e77 : r77 = (if w = 1 then s55 8 0 3 else s55 8 0 4) := by rw [hp77]; split <;> split <;> first | rfl | omega
          exact v_iret dX6_difference_80 rfl ⟨(Nat.le_of_ble_eq_true rfl), (Nat.le_of_ble_eq_true rfl)⟩ (by omega) ⟨_, hX, hO, hK, Or.inr ⟨by omega, Or.inr ⟨i.toNat, by omega, _, _, by omega, by rw [show a - nD (dfX si) (si 0 0 9) i.toNat = l by omega]; exact hsp (by omega), by first | (rw [if_pos (by omega)]; omega) | (rw [if_neg (by omega)]; exact e77)⟩⟩⟩
        · refine v_iload dX6_difference_65 rfl ?_
          refine v_goto 80 dX6_difference_67 (by decide) ?_
          exact v_iret dX6_difference_80 rfl ⟨(Nat.le_of_ble_eq_true rfl), (Nat.le_of_ble_eq_true rfl)⟩ (by omega) ⟨_, hX, hO, hK, Or.inr ⟨by omega, Or.inr ⟨i.toNat, by omega, _, _, by omega, by rw [show a - nD (dfX si) (si 0 0 9) i.toNat = l by omega]; exact hsp (by omega), by first | (rw [if_pos (by omega)]; omega) | (rw [if_neg (by omega)]; exact e77)⟩⟩⟩
set_option maxHeartbeats 4000000 in
set_option maxRecDepth 100000 in
theorem fX6_difference {G : gG} {fw : Nat → Nat → Nat} {si : sG} {Mi : wM} (hsO : sOK si) (hX : wX G fw si Mi) {a w : Int} (ha : rng a) (hw : rng w) : wT G qX6_difference 0 0 [.ref (fw 0 0), .int (gI a), .int (gI w)] Mi (PX G fw Mi (fun x s' => keepX si s' ∧ ((¬ (0 ≤ a ∧ bt 0 w 2) ∧ x = -1) ∨ ((0 ≤ a ∧ bt 0 w 2) ∧ dfP (dfX si) (si 0 0 9) a w x)))) := by
  refine wT.intro (by decide) (Nat.le_of_ble_eq_true rfl) (fun sz => ?_)
  have hO : wO cntX fw Mi Mi := wO.rf
  have hK : keepX si si := keepX.rf
  refine v_iloadn dX6_difference_0 rfl ?_
  refine v_if_lt 13 dX6_difference_1 (by decide) (by omega) (fun h1 => ?_) (fun h1 => ?_)
  · refine v_iconst dX6_difference_13 ?_
    exact v_iret dX6_difference_14 rfl ⟨(Nat.le_of_ble_eq_true rfl), (Nat.le_of_ble_eq_true rfl)⟩ (by omega) ⟨si, hX, hO, hK, Or.inl ⟨by omega, by omega⟩⟩
  · refine v_iloadn dX6_difference_4 rfl ?_
    refine v_iconst dX6_difference_5 ?_
    refine v_iconst dX6_difference_6 ?_
    refine v_callS (tX6_outside (by omega) (by omega) (by omega)) lc_X6_69 ⟨(Nat.le_of_ble_eq_true rfl), (Nat.le_of_ble_eq_true rfl)⟩ dX6_difference_7 rfl rfl (Nat.le_of_ble_eq_true rfl) ⟨(Nat.le_of_ble_eq_true rfl), (Nat.le_of_ble_eq_true rfl)⟩ (kP fun r7 hr7 hp7 => ?_)
    refine v_if_eq 15 dX6_difference_10 (by decide) (by omega) (fun h10 => ?_) (fun h10 => ?_)
    · refine v_iloadn dX6_difference_15 rfl ?_
      refine v_istoren dX6_difference_16 (Nat.le_of_ble_eq_true rfl) ?_
      refine v_iconst dX6_difference_17 ?_
      refine v_istore dX6_difference_18 (Nat.le_of_ble_eq_true rfl) ?_
      refine wV.locs (lv' := [(0, .ref (fw 0 0)), (1, .int (gI a)), (2, .int (gI w)), (3, .int (gI (a))), (4, .int (gI (0)))]) ⟨rfl, rfl, rfl, rfl, rfl, trivial⟩ (fX6_difference_loop hsO hX.2.2 ha (by omega) (by omega) 20 _ _ _ _ (by omega) (by omega) hX hO hK (by omega) ⟨(Int.sub_zero a).symm, by omega⟩)
    · refine v_iconst dX6_difference_13 ?_
      exact v_iret dX6_difference_14 rfl ⟨(Nat.le_of_ble_eq_true rfl), (Nat.le_of_ble_eq_true rfl)⟩ (by omega) ⟨si, hX, hO, hK, Or.inl ⟨by omega, by omega⟩⟩
