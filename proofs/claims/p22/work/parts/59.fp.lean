theorem sOK_k {s s' : sG} (h : sOK s) (k : keepX s s') : sOK s' := by
  refine ⟨fun r hr => k.s (by omega) (h.1 r hr), fun i hi => ?_⟩
  rw [k 0 0 (by unfold scrX; omega)] at hi
  have := h.2 i hi
  rw [k 13 i (by unfold scrX; omega)]
  exact ⟨this.1, k.s this.1 this.2⟩
theorem dX_k {s s' : sG} (h : sOK s) (hI : invX s) (k : keepX s s') {a b t : Int} (ha : bt 0 a 11) : dX s' a b t ↔ dX s a b t := by
  have hn := hI.2.1 a.toNat (by omega)
  unfold dX
  rw [k 0 0 (by unfold scrX; omega), k 2 0 (by unfold scrX; omega), k.v (by omega), k.v (by omega)]
  refine and_congr Iff.rfl ⟨fun z i hi => ?_, fun z i hi => ?_⟩
  · have := z i hi
    rw [k 13 i (by unfold scrX; omega), k.v (h.2 i hi).1] at this
    exact this
  · rw [k 13 i (by unfold scrX; omega), k.v (h.2 i hi).1]
    exact z i hi
set_option maxHeartbeats 4000000 in
set_option maxRecDepth 100000 in
theorem fX6_first_loop {sz : Nat} {M0 : wM} {G : gG} {fw : Nat → Nat → Nat} {si : sG} {Mi : wM} (hsO : sOK si) (hIi : invX si) : ∀ (k : Nat) (s : sG) (M : wM) (u i : Int), 0 ≤ 13 - i → 13 - i < (k : Int) → (wX G fw s M) → (wO cntX fw Mi M) → (keepX si s) → (bt 0 i 12) → (mP (dfX si) (si 0 0 9) i u) → wV G qX6_first 0 0 sz M0 0 0 7 [(0, .ref (fw 0 0)), (1, .int (gI u)), (2, .int (gI i))] [] M (PX G fw Mi (fun x s' => keepX si s' ∧ (∃ m, mP (dfX si) (si 0 0 9) 12 m ∧ x = (if m < si 0 0 9 then m else -4)))) := by
  intro k
  induction k with
  | zero =>
    intros
    omega
  | succ k ih =>
    intro s M u i hmz hml hX hO hK h1 h2
    have h0 := hX.2.2.1
    have hnm := hX.2.2.2.1
    have hsh := hX.2.2.2.2.1
    have h8 := hX.2.2.2.2.2.1
    have hsOs : sOK s := sOK_k hsO hK
    have p0 : s 0 0 = si 0 0 := hK 0 0 (by unfold scrX; omega)
    have p9 : s 0 0 9 = si 0 0 9 := by rw [p0]
    have p3 : s 3 0 = si 3 0 := hK 3 0 (by unfold scrX; omega)
    have p4 : s 4 0 = si 4 0 := hK 4 0 (by unfold scrX; omega)
    have hu := h2.1
    refine v_iloadn dX6_first_7 rfl ?_
    refine v_bipush dX6_first_8 (by decide) ?_
    refine v_icmp_ge 45 dX6_first_10 (by decide) (by omega) (by omega) (fun h10 => ?_) (fun h10 => ?_)
    · refine v_iloadn dX6_first_45 rfl ?_
      refine v_aloadn dX6_first_46 rfl ?_
      refine v_get dX6_first_47 gf_X6_54 (hX.2.1 0 0 (by decide)) rfl ?_
      refine v_icmp_ge 57 dX6_first_50 (by decide) (by omega) (by omega) (fun h50 => ?_) (fun h50 => ?_)
      · refine v_bipush dX6_first_57 (by decide) ?_
        exact v_iret dX6_first_59 rfl ⟨(Nat.le_of_ble_eq_true rfl), (Nat.le_of_ble_eq_true rfl)⟩ (by omega) ⟨s, hX, hO, hK, u, by rw [show (12 : Int) = i by omega]; exact h2, by split <;> omega⟩
      · refine v_iloadn dX6_first_53 rfl ?_
        refine v_goto 59 dX6_first_54 (by decide) ?_
        exact v_iret dX6_first_59 rfl ⟨(Nat.le_of_ble_eq_true rfl), (Nat.le_of_ble_eq_true rfl)⟩ (by omega) ⟨s, hX, hO, hK, u, by rw [show (12 : Int) = i by omega]; exact h2, by split <;> omega⟩
    · refine v_aloadn dX6_first_13 rfl ?_
      refine v_iloadn dX6_first_14 rfl ?_
      refine v_aloadn dX6_first_15 rfl ?_
      refine v_get dX6_first_16 gf_X6_22 (hX.2.1 0 0 (by decide)) rfl ?_
      refine v_aloadn dX6_first_19 rfl ?_
      refine v_get dX6_first_20 gf_X6_19 (hX.2.1 0 0 (by decide)) rfl ?_
      refine v_iloadn dX6_first_23 rfl ?_
      refine v_iald dX6_first_24 (hX.2.1 3 0 (by decide)) (by omega) (by omega) (by decide) ?_
      have hgi := hnm (i).toNat (by omega)
      refine v_iald dX6_first_25 (hX.2.1 4 0 (by decide)) (by omega) (by omega) (by decide) ?_
      have hshi := hsh (s 3 0 (i).toNat).toNat (by omega)
      refine v_callV (fX6_seekDifferences hsOs.1 hsOs.2 hX (by omega) (by omega)) lc_X6_128 ⟨(Nat.le_of_ble_eq_true rfl), (Nat.le_of_ble_eq_true rfl)⟩ dX6_first_26 rfl rfl (Nat.le_of_ble_eq_true rfl) ⟨(Nat.le_of_ble_eq_true rfl), (Nat.le_of_ble_eq_true rfl)⟩ ⟨_, _, _, _, (hX.2.1 0 0 (by decide)), rfl⟩ (kV fun M26 hp26 => ?_)
      obtain ⟨s26, hX, hO26, hK26, hSD26⟩ := hp26
      have hO := hO.tr hO26
      have hKp := hK
      have hK := hK.tr hK26
      have h0 := hX.2.2.1
      have hnm := hX.2.2.2.1
      have hsh := hX.2.2.2.2.1
      have h8 := hX.2.2.2.2.2.1
      have q0 : s26 0 0 = si 0 0 := hK 0 0 (by unfold scrX; omega)
      have q9 : s26 0 0 9 = si 0 0 9 := by rw [q0]
      refine v_aloadn dX6_first_29 rfl ?_
      refine v_get dX6_first_30 gf_X6_46 (hX.2.1 0 0 (by decide)) rfl ?_
      refine v_iconst dX6_first_33 ?_
      refine v_iloadn dX6_first_34 rfl ?_
      refine v_callV (fX5_start hX hSD26.1 (by omega) (by omega)) lc_X6_144 ⟨(Nat.le_of_ble_eq_true rfl), (Nat.le_of_ble_eq_true rfl)⟩ dX6_first_35 rfl rfl (Nat.le_of_ble_eq_true rfl) ⟨(Nat.le_of_ble_eq_true rfl), (Nat.le_of_ble_eq_true rfl)⟩ ⟨_, _, _, _, hX.2.1 8 0 (by decide), rfl⟩ (kP fun r35 hr35 hp35 => ?_)
      have hD : ∀ t, (dX s i (s 4 0 (s 3 0 i.toNat).toNat) t ↔ dfX si i.toNat t) := fun t => by
        unfold dfX shX
        rw [dX_k hsO hIi hKp (by omega), p4, p3, show ((i.toNat : Nat) : Int) = i by omega]
      have hst := mP_step (by omega) h2 ((hSD26.fst (by omega) hp35).congr (fun t _ _ => hD t))
      refine v_istoren dX6_first_38 (Nat.le_of_ble_eq_true rfl) ?_
      refine v_iinc dX6_first_39 rfl (Nat.le_of_ble_eq_true rfl) ?_
      refine v_goto 7 dX6_first_42 (by decide) ?_
      refine wV.locs (lv' := [(0, .ref (fw 0 0)), (1, .int (gI _)), (2, .int (gI _))]) ⟨rfl, rfl, rfl, trivial⟩ (ih _ _ _ _ (by omega) (by omega) hX hO hK (by omega) hst)
set_option maxHeartbeats 4000000 in
set_option maxRecDepth 100000 in
theorem fX6_first {G : gG} {fw : Nat → Nat → Nat} {si : sG} {Mi : wM} (hsO : sOK si) (hX : wX G fw si Mi) : wT G qX6_first 0 0 [.ref (fw 0 0)] Mi (PX G fw Mi (fun x s' => keepX si s' ∧ (∃ m, mP (dfX si) (si 0 0 9) 12 m ∧ x = (if m < si 0 0 9 then m else -4)))) := by
  refine wT.intro (by decide) (Nat.le_of_ble_eq_true rfl) (fun sz => ?_)
  have hO : wO cntX fw Mi Mi := wO.rf
  have hK : keepX si si := keepX.rf
  have h0 := hX.2.2.1
  have hnm := hX.2.2.2.1
  have hsh := hX.2.2.2.2.1
  have h8 := hX.2.2.2.2.2.1
  refine v_aloadn dX6_first_0 rfl ?_
  refine v_get dX6_first_1 gf_X6_54 (hX.2.1 0 0 (by decide)) rfl ?_
  refine v_istoren dX6_first_4 (Nat.le_of_ble_eq_true rfl) ?_
  refine v_iconst dX6_first_5 ?_
  refine v_istoren dX6_first_6 (Nat.le_of_ble_eq_true rfl) ?_
  refine wV.locs (lv' := [(0, .ref (fw 0 0)), (1, .int (gI (si 0 0 9))), (2, .int (gI (0)))]) ⟨rfl, rfl, rfl, trivial⟩ (fX6_first_loop hsO hX.2.2 20 _ _ _ _ (by omega) (by omega) hX hO hK (by omega) (mP_0 (by omega)))
