set_option maxHeartbeats 4000000 in
set_option maxRecDepth 100000 in
theorem tX6_agreeAt {G : gG} {fw : Nat → Nat → Nat} {s : sG} {M : wM} (hX : wX G fw s M) {a t : Int} (ha : bt 0 a 11) (ht : bt (-10) t 4000) : wT G qX6_agreeAt 0 0 [.ref (fw 0 0), .int (gI a), .int (gI t)] M (iP fun x M' => M' = M ∧ (x = 0 ∨ x = 1)) := by
  refine wT.intro (by decide) (Nat.le_of_ble_eq_true rfl) (fun sz => ?_)
  have h0 := hX.2.2.1
  have hnm := hX.2.2.2.1
  have hsh := hX.2.2.2.2.1
  have h8 := hX.2.2.2.2.2.1
  refine v_aloadn dX6_agreeAt_0 rfl ?_
  refine v_iconst dX6_agreeAt_1 ?_
  refine v_iloadn dX6_agreeAt_2 rfl ?_
  refine v_callV (tX6_rowOf hX (by omega) ha) lc_X6_77 ⟨(Nat.le_of_ble_eq_true rfl), (Nat.le_of_ble_eq_true rfl)⟩ dX6_agreeAt_3 rfl rfl (Nat.le_of_ble_eq_true rfl) ⟨(Nat.le_of_ble_eq_true rfl), (Nat.le_of_ble_eq_true rfl)⟩ ⟨_, _, _, _, (hX.2.1 0 0 (by decide)), rfl⟩ (kRp fun r3 hp3 => ?_)
  subst hp3
  refine v_iloadn dX6_agreeAt_6 rfl ?_
  refine v_callV (tX4_valueAt (hX.row (by omega)) (by omega)) lc_X6_110 ⟨(Nat.le_of_ble_eq_true rfl), (Nat.le_of_ble_eq_true rfl)⟩ dX6_agreeAt_7 rfl rfl (Nat.le_of_ble_eq_true rfl) ⟨(Nat.le_of_ble_eq_true rfl), (Nat.le_of_ble_eq_true rfl)⟩ ⟨_, _, _, _, (hX.row (by omega)).1, rfl⟩ (kP fun r7 hr7 hp7 => ?_)
  refine v_aloadn dX6_agreeAt_10 rfl ?_
  refine v_iconst dX6_agreeAt_11 ?_
  refine v_iloadn dX6_agreeAt_12 rfl ?_
  refine v_callV (tX6_namedRow hX (by omega) ha) lc_X6_154 ⟨(Nat.le_of_ble_eq_true rfl), (Nat.le_of_ble_eq_true rfl)⟩ dX6_agreeAt_13 rfl rfl (Nat.le_of_ble_eq_true rfl) ⟨(Nat.le_of_ble_eq_true rfl), (Nat.le_of_ble_eq_true rfl)⟩ ⟨_, _, _, _, (hX.2.1 0 0 (by decide)), rfl⟩ (kRp fun r13 hp13 => ?_)
  subst hp13
  refine v_iloadn dX6_agreeAt_16 rfl ?_
  refine v_callV (tX4_valueAt (hX.row (nmd_lt hX.2.2 (by omega) (by omega))) (by omega)) lc_X6_110 ⟨(Nat.le_of_ble_eq_true rfl), (Nat.le_of_ble_eq_true rfl)⟩ dX6_agreeAt_17 rfl rfl (Nat.le_of_ble_eq_true rfl) ⟨(Nat.le_of_ble_eq_true rfl), (Nat.le_of_ble_eq_true rfl)⟩ ⟨_, _, _, _, (hX.row (nmd_lt hX.2.2 (by omega) (by omega))).1, rfl⟩ (kP fun r17 hr17 hp17 => ?_)
  refine v_aloadn dX6_agreeAt_20 rfl ?_
  refine v_get dX6_agreeAt_21 gf_X6_57 (hX.2.1 0 0 (by decide)) rfl ?_
  refine v_callS (tX6_agree hr7 hr17 (by omega)) lc_X6_191 ⟨(Nat.le_of_ble_eq_true rfl), (Nat.le_of_ble_eq_true rfl)⟩ dX6_agreeAt_24 rfl rfl (Nat.le_of_ble_eq_true rfl) ⟨(Nat.le_of_ble_eq_true rfl), (Nat.le_of_ble_eq_true rfl)⟩ (kP fun r24 hr24 hp24 => ?_)
  exact v_zret dX6_agreeAt_27 rfl ⟨(Nat.le_of_ble_eq_true rfl), (Nat.le_of_ble_eq_true rfl)⟩ (hp24.2) ⟨rfl, hp24.2⟩
set_option maxHeartbeats 4000000 in
set_option maxRecDepth 100000 in
theorem tX6_storedAgree {G : gG} {fw : Nat → Nat → Nat} {s : sG} {M : wM} (hX : wX G fw s M) {i : Nat} (hi : i < 12) {t : Int} (ht : bt (-10) t 4000) : wT G qX6_storedAgree 0 0 [.ref (fw 0 0), .ref (fw 15 i), .int (gI t)] M (iP fun x M' => M' = M ∧ (x = 0 ∨ x = 1)) := by
  refine wT.intro (by decide) (Nat.le_of_ble_eq_true rfl) (fun sz => ?_)
  have h0 := hX.2.2.1
  have hnm := hX.2.2.2.1
  have hsh := hX.2.2.2.2.1
  have h8 := hX.2.2.2.2.2.1
  have hg := hX.2.2.2.2.2.2.2.2.2.1 i hi
  refine v_aloadn dX6_storedAgree_0 rfl ?_
  refine v_iconst dX6_storedAgree_1 ?_
  refine v_aloadn dX6_storedAgree_2 rfl ?_
  refine v_getN dX6_storedAgree_3 gf_X6_245 (hX.2.1 15 i hi) rfl ?_
  refine v_callV (tX6_namedRow hX (by omega) (by omega)) lc_X6_154 ⟨(Nat.le_of_ble_eq_true rfl), (Nat.le_of_ble_eq_true rfl)⟩ dX6_storedAgree_6 rfl rfl (Nat.le_of_ble_eq_true rfl) ⟨(Nat.le_of_ble_eq_true rfl), (Nat.le_of_ble_eq_true rfl)⟩ ⟨_, _, _, _, (hX.2.1 0 0 (by decide)), rfl⟩ (kRp fun r6 hp6 => ?_)
  subst hp6
  refine v_iloadn dX6_storedAgree_9 rfl ?_
  refine v_callV (tX4_latestEdge (hX.row (nmd_lt hX.2.2 (by omega) (by omega))) (by omega)) lc_X6_248 ⟨(Nat.le_of_ble_eq_true rfl), (Nat.le_of_ble_eq_true rfl)⟩ dX6_storedAgree_10 rfl rfl (Nat.le_of_ble_eq_true rfl) ⟨(Nat.le_of_ble_eq_true rfl), (Nat.le_of_ble_eq_true rfl)⟩ ⟨_, _, _, _, (hX.row (nmd_lt hX.2.2 (by omega) (by omega))).1, rfl⟩ (kP fun r10 hr10 hp10 => ?_)
  refine v_istoren dX6_storedAgree_13 (Nat.le_of_ble_eq_true rfl) ?_
  refine v_iloadn dX6_storedAgree_14 rfl ?_
  refine v_bipush dX6_storedAgree_15 (by decide) ?_
  refine v_icmp_eq 55 dX6_storedAgree_17 (by decide) (by omega) (by omega) (fun h17 => ?_) (fun h17 => ?_)
  · refine v_iconst dX6_storedAgree_55 ?_
    exact v_zret dX6_storedAgree_56 rfl ⟨(Nat.le_of_ble_eq_true rfl), (Nat.le_of_ble_eq_true rfl)⟩ (by omega) ⟨rfl, by omega⟩
  · refine v_iloadn dX6_storedAgree_20 rfl ?_
    refine v_aloadn dX6_storedAgree_21 rfl ?_
    refine v_iconst dX6_storedAgree_22 ?_
    refine v_aloadn dX6_storedAgree_23 rfl ?_
    refine v_getN dX6_storedAgree_24 gf_X6_245 (hX.2.1 15 i hi) rfl ?_
    refine v_callV (tX6_namedRow hX (by omega) (by omega)) lc_X6_154 ⟨(Nat.le_of_ble_eq_true rfl), (Nat.le_of_ble_eq_true rfl)⟩ dX6_storedAgree_27 rfl rfl (Nat.le_of_ble_eq_true rfl) ⟨(Nat.le_of_ble_eq_true rfl), (Nat.le_of_ble_eq_true rfl)⟩ ⟨_, _, _, _, (hX.2.1 0 0 (by decide)), rfl⟩ (kRp fun r27 hp27 => ?_)
    subst hp27
    refine v_iloadn dX6_storedAgree_30 rfl ?_
    refine v_callV (tX4_latestEdge (hX.row (nmd_lt hX.2.2 (by omega) (by omega))) (by omega)) lc_X6_248 ⟨(Nat.le_of_ble_eq_true rfl), (Nat.le_of_ble_eq_true rfl)⟩ dX6_storedAgree_31 rfl rfl (Nat.le_of_ble_eq_true rfl) ⟨(Nat.le_of_ble_eq_true rfl), (Nat.le_of_ble_eq_true rfl)⟩ ⟨_, _, _, _, (hX.row (nmd_lt hX.2.2 (by omega) (by omega))).1, rfl⟩ (kP fun r31 hr31 hp31 => ?_)
    refine v_icmp_ne 55 dX6_storedAgree_34 (by decide) (by omega) (by omega) (fun h34 => ?_) (fun h34 => ?_)
    · refine v_iconst dX6_storedAgree_55 ?_
      exact v_zret dX6_storedAgree_56 rfl ⟨(Nat.le_of_ble_eq_true rfl), (Nat.le_of_ble_eq_true rfl)⟩ (by omega) ⟨rfl, by omega⟩
    · refine v_aloadn dX6_storedAgree_37 rfl ?_
      refine v_aloadn dX6_storedAgree_38 rfl ?_
      refine v_getN dX6_storedAgree_39 gf_X6_242 (hX.2.1 15 i hi) rfl ?_
      refine v_iloadn dX6_storedAgree_42 rfl ?_
      refine v_iconst dX6_storedAgree_43 ?_
      refine v_isub dX6_storedAgree_44 ?_
      refine v_callV (tX6_agreeAt hX (by omega) (by omega)) lc_X6_232 ⟨(Nat.le_of_ble_eq_true rfl), (Nat.le_of_ble_eq_true rfl)⟩ dX6_storedAgree_45 rfl rfl (Nat.le_of_ble_eq_true rfl) ⟨(Nat.le_of_ble_eq_true rfl), (Nat.le_of_ble_eq_true rfl)⟩ ⟨_, _, _, _, (hX.2.1 0 0 (by decide)), rfl⟩ (kP fun r45 hr45 hp45 => ?_)
      refine v_if_eq 55 dX6_storedAgree_48 (by decide) (by omega) (fun h48 => ?_) (fun h48 => ?_)
      · refine v_iconst dX6_storedAgree_55 ?_
        exact v_zret dX6_storedAgree_56 rfl ⟨(Nat.le_of_ble_eq_true rfl), (Nat.le_of_ble_eq_true rfl)⟩ (by omega) ⟨rfl, by omega⟩
      · refine v_iconst dX6_storedAgree_51 ?_
        refine v_goto 56 dX6_storedAgree_52 (by decide) ?_
        exact v_zret dX6_storedAgree_56 rfl ⟨(Nat.le_of_ble_eq_true rfl), (Nat.le_of_ble_eq_true rfl)⟩ (by omega) ⟨rfl, by omega⟩
set_option maxHeartbeats 4000000 in
set_option maxRecDepth 100000 in
theorem tX6_inputsAgree {G : gG} {fw : Nat → Nat → Nat} {s : sG} {M : wM} (hX : wX G fw s M) {i : Nat} (hi : i < 12) {t : Int} (ht : bt (-10) t 4000) : wT G qX6_inputsAgree 0 0 [.ref (fw 0 0), .ref (fw 15 i), .int (gI t)] M (iP fun x M' => M' = M ∧ (x = 0 ∨ x = 1)) := by
  refine wT.intro (by decide) (Nat.le_of_ble_eq_true rfl) (fun sz => ?_)
  have h0 := hX.2.2.1
  have hnm := hX.2.2.2.1
  have hsh := hX.2.2.2.2.1
  have h8 := hX.2.2.2.2.2.1
  have hg := hX.2.2.2.2.2.2.2.2.2.1 i hi
  refine v_aloadn dX6_inputsAgree_0 rfl ?_
  refine v_getN dX6_inputsAgree_1 gf_X6_227 (hX.2.1 15 i hi) rfl ?_
  refine v_bipush dX6_inputsAgree_4 (by decide) ?_
  refine v_icmp_ne 16 dX6_inputsAgree_6 (by decide) (by omega) (by omega) (fun h6 => ?_) (fun h6 => ?_)
  · refine v_aloadn dX6_inputsAgree_16 rfl ?_
    refine v_aloadn dX6_inputsAgree_17 rfl ?_
    refine v_getN dX6_inputsAgree_18 gf_X6_242 (hX.2.1 15 i hi) rfl ?_
    refine v_iloadn dX6_inputsAgree_21 rfl ?_
    refine v_callV (tX6_agreeAt hX (by omega) (by omega)) lc_X6_232 ⟨(Nat.le_of_ble_eq_true rfl), (Nat.le_of_ble_eq_true rfl)⟩ dX6_inputsAgree_22 rfl rfl (Nat.le_of_ble_eq_true rfl) ⟨(Nat.le_of_ble_eq_true rfl), (Nat.le_of_ble_eq_true rfl)⟩ ⟨_, _, _, _, (hX.2.1 0 0 (by decide)), rfl⟩ (kP fun r22 hr22 hp22 => ?_)
    refine v_if_eq 52 dX6_inputsAgree_25 (by decide) (by omega) (fun h25 => ?_) (fun h25 => ?_)
    · refine v_iconst dX6_inputsAgree_52 ?_
      exact v_zret dX6_inputsAgree_53 rfl ⟨(Nat.le_of_ble_eq_true rfl), (Nat.le_of_ble_eq_true rfl)⟩ (by omega) ⟨rfl, by omega⟩
    · refine v_aloadn dX6_inputsAgree_28 rfl ?_
      refine v_getN dX6_inputsAgree_29 gf_X6_227 (hX.2.1 15 i hi) rfl ?_
      refine v_iconst dX6_inputsAgree_32 ?_
      refine v_icmp_eq 48 dX6_inputsAgree_33 (by decide) (by omega) (by omega) (fun h33 => ?_) (fun h33 => ?_)
      · refine v_iconst dX6_inputsAgree_48 ?_
        refine v_goto 53 dX6_inputsAgree_49 (by decide) ?_
        exact v_zret dX6_inputsAgree_53 rfl ⟨(Nat.le_of_ble_eq_true rfl), (Nat.le_of_ble_eq_true rfl)⟩ (by omega) ⟨rfl, by omega⟩
      · refine v_aloadn dX6_inputsAgree_36 rfl ?_
        refine v_aloadn dX6_inputsAgree_37 rfl ?_
        refine v_getN dX6_inputsAgree_38 gf_X6_245 (hX.2.1 15 i hi) rfl ?_
        refine v_iloadn dX6_inputsAgree_41 rfl ?_
        refine v_callV (tX6_agreeAt hX (by omega) (by omega)) lc_X6_232 ⟨(Nat.le_of_ble_eq_true rfl), (Nat.le_of_ble_eq_true rfl)⟩ dX6_inputsAgree_42 rfl rfl (Nat.le_of_ble_eq_true rfl) ⟨(Nat.le_of_ble_eq_true rfl), (Nat.le_of_ble_eq_true rfl)⟩ ⟨_, _, _, _, (hX.2.1 0 0 (by decide)), rfl⟩ (kP fun r42 hr42 hp42 => ?_)
        refine v_if_eq 52 dX6_inputsAgree_45 (by decide) (by omega) (fun h45 => ?_) (fun h45 => ?_)
        · refine v_iconst dX6_inputsAgree_52 ?_
          exact v_zret dX6_inputsAgree_53 rfl ⟨(Nat.le_of_ble_eq_true rfl), (Nat.le_of_ble_eq_true rfl)⟩ (by omega) ⟨rfl, by omega⟩
        · refine v_iconst dX6_inputsAgree_48 ?_
          refine v_goto 53 dX6_inputsAgree_49 (by decide) ?_
          exact v_zret dX6_inputsAgree_53 rfl ⟨(Nat.le_of_ble_eq_true rfl), (Nat.le_of_ble_eq_true rfl)⟩ (by omega) ⟨rfl, by omega⟩
  · refine v_aloadn dX6_inputsAgree_9 rfl ?_
    refine v_aloadn dX6_inputsAgree_10 rfl ?_
    refine v_iloadn dX6_inputsAgree_11 rfl ?_
    refine v_callV (tX6_storedAgree hX hi ht) lc_X6_239 ⟨(Nat.le_of_ble_eq_true rfl), (Nat.le_of_ble_eq_true rfl)⟩ dX6_inputsAgree_12 rfl rfl (Nat.le_of_ble_eq_true rfl) ⟨(Nat.le_of_ble_eq_true rfl), (Nat.le_of_ble_eq_true rfl)⟩ ⟨_, _, _, _, (hX.2.1 0 0 (by decide)), rfl⟩ (kP fun r12 hr12 hp12 => ?_)
    exact v_zret dX6_inputsAgree_15 rfl ⟨(Nat.le_of_ble_eq_true rfl), (Nat.le_of_ble_eq_true rfl)⟩ (by omega) ⟨rfl, by omega⟩
set_option maxHeartbeats 4000000 in
set_option maxRecDepth 100000 in
theorem tX6_guilty_loop {sz : Nat} {M0 : wM} {G : gG} {fw : Nat → Nat → Nat} {s : sG} {M : wM} (hX : wX G fw s M) {t : Int} (ht : bt 0 t 4000) : ∀ (k : Nat) (i : Int), 0 ≤ 13 - i → 13 - i < (k : Int) → (bt 0 i 12) → wV G qX6_guilty 0 0 sz M0 0 0 18 [(0, .ref (fw 0 0)), (1, .int (gI t)), (2, .int (gI i))] [] M (iP fun x M' => M' = M ∧ True) := by
  intro k
  induction k with
  | zero =>
    intros
    omega
  | succ k ih =>
    intro i hmz hml h1
    have h0 := hX.2.2.1
    have hnm := hX.2.2.2.1
    have hsh := hX.2.2.2.2.1
    have h8 := hX.2.2.2.2.2.1
    refine v_iloadn dX6_guilty_18 rfl ?_
    refine v_bipush dX6_guilty_19 (by decide) ?_
    refine v_icmp_ge 64 dX6_guilty_21 (by decide) (by omega) (by omega) (fun h21 => ?_) (fun h21 => ?_)
    · refine v_bipush dX6_guilty_64 (by decide) ?_
      exact v_iret dX6_guilty_66 rfl ⟨(Nat.le_of_ble_eq_true rfl), (Nat.le_of_ble_eq_true rfl)⟩ (by omega) ⟨rfl, trivial⟩
    · refine v_aloadn dX6_guilty_24 rfl ?_
      refine v_get dX6_guilty_25 gf_X6_39 (hX.2.1 0 0 (by decide)) rfl ?_
      refine v_iloadn dX6_guilty_28 rfl ?_
      refine v_aald2 (Cn := "WavePairs$Gate") dX6_guilty_29 (hX.2.1 7 0 (by decide)) (by simp) (by omega) (by omega) (by decide) ?_
      have hg := hX.2.2.2.2.2.2.2.2.2.1 i.toNat (by omega)
      refine v_astoren dX6_guilty_30 (Nat.le_of_ble_eq_true rfl) ?_
      refine v_aloadn dX6_guilty_31 rfl ?_
      refine v_getN dX6_guilty_32 gf_X6_227 (hX.2.1 15 _ (by simp [cntX]; omega)) rfl ?_
      refine v_if_eq 58 dX6_guilty_35 (by decide) (by omega) (fun h35 => ?_) (fun h35 => ?_)
      · refine v_iinc dX6_guilty_58 rfl (Nat.le_of_ble_eq_true rfl) ?_
        refine v_goto 18 dX6_guilty_61 (by decide) ?_
        refine wV.locs (lv' := [(0, .ref (fw 0 0)), (1, .int (gI t)), (2, .int (gI _))]) ⟨rfl, rfl, rfl, trivial⟩ (ih _ (by omega) (by omega) (by omega))
      · refine v_aloadn dX6_guilty_38 rfl ?_
        refine v_iloadn dX6_guilty_39 rfl ?_
        refine v_iloadn dX6_guilty_40 rfl ?_
        refine v_callV (tX6_agreeAt hX (by omega) (by omega)) lc_X6_232 ⟨(Nat.le_of_ble_eq_true rfl), (Nat.le_of_ble_eq_true rfl)⟩ dX6_guilty_41 rfl rfl (Nat.le_of_ble_eq_true rfl) ⟨(Nat.le_of_ble_eq_true rfl), (Nat.le_of_ble_eq_true rfl)⟩ ⟨_, _, _, _, (hX.2.1 0 0 (by decide)), rfl⟩ (kP fun r41 hr41 hp41 => ?_)
        refine v_if_ne 58 dX6_guilty_44 (by decide) (by omega) (fun h44 => ?_) (fun h44 => ?_)
        · refine v_iinc dX6_guilty_58 rfl (Nat.le_of_ble_eq_true rfl) ?_
          refine v_goto 18 dX6_guilty_61 (by decide) ?_
          refine wV.locs (lv' := [(0, .ref (fw 0 0)), (1, .int (gI t)), (2, .int (gI _))]) ⟨rfl, rfl, rfl, trivial⟩ (ih _ (by omega) (by omega) (by omega))
        · refine v_aloadn dX6_guilty_47 rfl ?_
          refine v_aloadn dX6_guilty_48 rfl ?_
          refine v_iloadn dX6_guilty_49 rfl ?_
          refine v_callV (tX6_inputsAgree hX (by omega) (by omega)) lc_X6_235 ⟨(Nat.le_of_ble_eq_true rfl), (Nat.le_of_ble_eq_true rfl)⟩ dX6_guilty_50 rfl rfl (Nat.le_of_ble_eq_true rfl) ⟨(Nat.le_of_ble_eq_true rfl), (Nat.le_of_ble_eq_true rfl)⟩ ⟨_, _, _, _, (hX.2.1 0 0 (by decide)), rfl⟩ (kP fun r50 hr50 hp50 => ?_)
          refine v_if_eq 58 dX6_guilty_53 (by decide) (by omega) (fun h53 => ?_) (fun h53 => ?_)
          · refine v_iinc dX6_guilty_58 rfl (Nat.le_of_ble_eq_true rfl) ?_
            refine v_goto 18 dX6_guilty_61 (by decide) ?_
            refine wV.locs (lv' := [(0, .ref (fw 0 0)), (1, .int (gI t)), (2, .int (gI _))]) ⟨rfl, rfl, rfl, trivial⟩ (ih _ (by omega) (by omega) (by omega))
          · refine v_iloadn dX6_guilty_56 rfl ?_
            exact v_iret dX6_guilty_57 rfl ⟨(Nat.le_of_ble_eq_true rfl), (Nat.le_of_ble_eq_true rfl)⟩ (by omega) ⟨rfl, trivial⟩
set_option maxHeartbeats 4000000 in
set_option maxRecDepth 100000 in
theorem tX6_guilty {G : gG} {fw : Nat → Nat → Nat} {s : sG} {M : wM} (hX : wX G fw s M) {t : Int} (ht : rng t) : wT G qX6_guilty 0 0 [.ref (fw 0 0), .int (gI t)] M (iP fun x M' => M' = M ∧ True) := by
  refine wT.intro (by decide) (Nat.le_of_ble_eq_true rfl) (fun sz => ?_)
  have h0 := hX.2.2.1
  have hnm := hX.2.2.2.1
  have hsh := hX.2.2.2.2.1
  have h8 := hX.2.2.2.2.2.1
  refine v_iloadn dX6_guilty_0 rfl ?_
  refine v_iconst dX6_guilty_1 ?_
  refine v_aloadn dX6_guilty_2 rfl ?_
  refine v_get dX6_guilty_3 gf_X6_54 (hX.2.1 0 0 (by decide)) rfl ?_
  refine v_iconst dX6_guilty_6 ?_
  refine v_isub dX6_guilty_7 ?_
  refine v_callS (tX6_outside (by omega) (by omega) (by omega)) lc_X6_69 ⟨(Nat.le_of_ble_eq_true rfl), (Nat.le_of_ble_eq_true rfl)⟩ dX6_guilty_8 rfl rfl (Nat.le_of_ble_eq_true rfl) ⟨(Nat.le_of_ble_eq_true rfl), (Nat.le_of_ble_eq_true rfl)⟩ (kP fun r8 hr8 hp8 => ?_)
  refine v_if_eq 16 dX6_guilty_11 (by decide) (by omega) (fun h11 => ?_) (fun h11 => ?_)
  · refine v_iconst dX6_guilty_16 ?_
    refine v_istoren dX6_guilty_17 (Nat.le_of_ble_eq_true rfl) ?_
    refine wV.locs (lv' := [(0, .ref (fw 0 0)), (1, .int (gI t)), (2, .int (gI (0)))]) ⟨rfl, rfl, rfl, trivial⟩ (tX6_guilty_loop hX (by omega) 20 _ (by omega) (by omega) (by omega))
  · refine v_iconst dX6_guilty_14 ?_
    exact v_iret dX6_guilty_15 rfl ⟨(Nat.le_of_ble_eq_true rfl), (Nat.le_of_ble_eq_true rfl)⟩ (by omega) ⟨rfl, trivial⟩
