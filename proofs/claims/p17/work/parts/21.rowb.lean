set_option maxHeartbeats 4000000 in
set_option maxRecDepth 100000 in
theorem tX4_isEdge {G : gG} {M : wM} {r tk vl : Nat} {n : Int} {T V : Nat → Int} (hrow : rowAt G M r tk vl n T V) {i : Int} (hi : bt (-10) i 1000) : wT G qX4_isEdge 0 0 [.ref r, .int (gI i)] M (iP fun x M' => M' = M ∧ ((x = 1 ∧ 0 < tickF n T i) ∨ x = 0)) := by
  refine wT.intro (by decide) (Nat.le_of_ble_eq_true rfl) (fun sz => ?_)
  obtain ⟨hn0, hn1⟩ := hrow.rg
  refine v_aloadn dX4_isEdge_0 rfl ?_
  refine v_iloadn dX4_isEdge_1 rfl ?_
  refine v_callV (tX4_tickOf hrow (by omega)) lc_X4_26 ⟨(Nat.le_of_ble_eq_true rfl), (Nat.le_of_ble_eq_true rfl)⟩ dX4_isEdge_2 rfl rfl (Nat.le_of_ble_eq_true rfl) ⟨(Nat.le_of_ble_eq_true rfl), (Nat.le_of_ble_eq_true rfl)⟩ ⟨_, _, _, _, hrow.1, rfl⟩ (kP fun r2 hr2 hp2 => ?_)
  refine v_if_le 32 dX4_isEdge_5 (by decide) (by omega) (fun h5 => ?_) (fun h5 => ?_)
  · refine v_iconst dX4_isEdge_32 ?_
    exact v_zret dX4_isEdge_33 rfl ⟨(Nat.le_of_ble_eq_true rfl), (Nat.le_of_ble_eq_true rfl)⟩ (by omega) ⟨rfl, by omega⟩
  · refine v_aloadn dX4_isEdge_8 rfl ?_
    refine v_iloadn dX4_isEdge_9 rfl ?_
    refine v_callV (tX4_valueOf hrow (by omega)) lc_X4_30 ⟨(Nat.le_of_ble_eq_true rfl), (Nat.le_of_ble_eq_true rfl)⟩ dX4_isEdge_10 rfl rfl (Nat.le_of_ble_eq_true rfl) ⟨(Nat.le_of_ble_eq_true rfl), (Nat.le_of_ble_eq_true rfl)⟩ ⟨_, _, _, _, hrow.1, rfl⟩ (kP fun r10 hr10 hp10 => ?_)
    refine v_iconst dX4_isEdge_13 ?_
    refine v_icmp_ne 32 dX4_isEdge_14 (by decide) (by omega) (by omega) (fun h14 => ?_) (fun h14 => ?_)
    · refine v_iconst dX4_isEdge_32 ?_
      exact v_zret dX4_isEdge_33 rfl ⟨(Nat.le_of_ble_eq_true rfl), (Nat.le_of_ble_eq_true rfl)⟩ (by omega) ⟨rfl, by omega⟩
    · refine v_aloadn dX4_isEdge_17 rfl ?_
      refine v_iloadn dX4_isEdge_18 rfl ?_
      refine v_iconst dX4_isEdge_19 ?_
      refine v_isub dX4_isEdge_20 ?_
      refine v_callV (tX4_valueOf hrow (by omega)) lc_X4_30 ⟨(Nat.le_of_ble_eq_true rfl), (Nat.le_of_ble_eq_true rfl)⟩ dX4_isEdge_21 rfl rfl (Nat.le_of_ble_eq_true rfl) ⟨(Nat.le_of_ble_eq_true rfl), (Nat.le_of_ble_eq_true rfl)⟩ ⟨_, _, _, _, hrow.1, rfl⟩ (kP fun r21 hr21 hp21 => ?_)
      refine v_iconst dX4_isEdge_24 ?_
      refine v_icmp_eq 32 dX4_isEdge_25 (by decide) (by omega) (by omega) (fun h25 => ?_) (fun h25 => ?_)
      · refine v_iconst dX4_isEdge_32 ?_
        exact v_zret dX4_isEdge_33 rfl ⟨(Nat.le_of_ble_eq_true rfl), (Nat.le_of_ble_eq_true rfl)⟩ (by omega) ⟨rfl, by omega⟩
      · refine v_iconst dX4_isEdge_28 ?_
        refine v_goto 33 dX4_isEdge_29 (by decide) ?_
        exact v_zret dX4_isEdge_33 rfl ⟨(Nat.le_of_ble_eq_true rfl), (Nat.le_of_ble_eq_true rfl)⟩ (by omega) ⟨rfl, by omega⟩
set_option maxHeartbeats 4000000 in
set_option maxRecDepth 100000 in
theorem tX4_nextEdge_loop {sz : Nat} {M0 : wM} {G : gG} {M : wM} {r tk vl : Nat} {n : Int} {T V : Nat → Int} (hrow : rowAt G M r tk vl n T V) {t b : Int} (ht : rng t) (hb : rng b) : ∀ (k : Nat) (i : Int), 0 ≤ 52 - i → 52 - i < (k : Int) → (bt 0 i 51) → wV G qX4_nextEdge 0 0 sz M0 0 0 8 [(0, .ref r), (1, .int (gI t)), (2, .int (gI b)), (3, .int (gI i))] [] M (iP fun x M' => M' = M ∧ (x = -4 ∨ bt 1 x 4000)) := by
  intro k
  induction k with
  | zero =>
    intros
    omega
  | succ k ih =>
    intro i hmz hml hi
    obtain ⟨hn0, hn1⟩ := hrow.rg
    refine v_iloadn dX4_nextEdge_8 rfl ?_
    refine v_aloadn dX4_nextEdge_9 rfl ?_
    refine v_get dX4_nextEdge_10 gf_X4_18 hrow.1 rfl ?_
    refine v_icmp_ge 45 dX4_nextEdge_13 (by decide) (by omega) (by omega) (fun h13 => ?_) (fun h13 => ?_)
    · refine v_bipush dX4_nextEdge_45 (by decide) ?_
      exact v_iret dX4_nextEdge_47 rfl ⟨(Nat.le_of_ble_eq_true rfl), (Nat.le_of_ble_eq_true rfl)⟩ (by omega) ⟨rfl, Or.inl rfl⟩
    · refine v_aloadn dX4_nextEdge_16 rfl ?_
      refine v_iloadn dX4_nextEdge_17 rfl ?_
      refine v_callV (tX4_tickOf hrow (by omega)) lc_X4_26 ⟨(Nat.le_of_ble_eq_true rfl), (Nat.le_of_ble_eq_true rfl)⟩ dX4_nextEdge_18 rfl rfl (Nat.le_of_ble_eq_true rfl) ⟨(Nat.le_of_ble_eq_true rfl), (Nat.le_of_ble_eq_true rfl)⟩ ⟨_, _, _, _, hrow.1, rfl⟩ (kP fun r18 hr18 hp18 => ?_)
      have htk : r18 = T i.toNat := by rw [hp18]; unfold tickF; rw [if_neg (by omega), if_pos (by omega)]
      have hbd := hrow.ok (i := i) (by omega) (by omega)
      refine v_iloadn dX4_nextEdge_21 rfl ?_
      refine v_icmp_ge 45 dX4_nextEdge_22 (by decide) (by omega) (by omega) (fun h22 => ?_) (fun h22 => ?_)
      · refine v_bipush dX4_nextEdge_45 (by decide) ?_
        exact v_iret dX4_nextEdge_47 rfl ⟨(Nat.le_of_ble_eq_true rfl), (Nat.le_of_ble_eq_true rfl)⟩ (by omega) ⟨rfl, Or.inl rfl⟩
      · refine v_aloadn dX4_nextEdge_25 rfl ?_
        refine v_iloadn dX4_nextEdge_26 rfl ?_
        refine v_callV (tX4_isEdge hrow (by omega)) lc_X4_33 ⟨(Nat.le_of_ble_eq_true rfl), (Nat.le_of_ble_eq_true rfl)⟩ dX4_nextEdge_27 rfl rfl (Nat.le_of_ble_eq_true rfl) ⟨(Nat.le_of_ble_eq_true rfl), (Nat.le_of_ble_eq_true rfl)⟩ ⟨_, _, _, _, hrow.1, rfl⟩ (kP fun r27 hr27 hp27 => ?_)
        refine v_if_eq 39 dX4_nextEdge_30 (by decide) (by omega) (fun h30 => ?_) (fun h30 => ?_)
        · refine v_iinc dX4_nextEdge_39 rfl (Nat.le_of_ble_eq_true rfl) ?_
          refine v_goto 8 dX4_nextEdge_42 (by decide) ?_
          refine wV.locs (lv' := [(0, .ref r), (1, .int (gI t)), (2, .int (gI b)), (3, .int (gI _))]) ⟨rfl, rfl, rfl, rfl, trivial⟩ (ih _ (by omega) (by omega) (by omega))
        · refine v_aloadn dX4_nextEdge_33 rfl ?_
          refine v_iloadn dX4_nextEdge_34 rfl ?_
          refine v_callV (tX4_tickOf hrow (by omega)) lc_X4_26 ⟨(Nat.le_of_ble_eq_true rfl), (Nat.le_of_ble_eq_true rfl)⟩ dX4_nextEdge_35 rfl rfl (Nat.le_of_ble_eq_true rfl) ⟨(Nat.le_of_ble_eq_true rfl), (Nat.le_of_ble_eq_true rfl)⟩ ⟨_, _, _, _, hrow.1, rfl⟩ (kP fun r35 hr35 hp35 => ?_)
          have htk : r35 = T i.toNat := by rw [hp35]; unfold tickF; rw [if_neg (by omega), if_pos (by omega)]
          have hbd := hrow.ok (i := i) (by omega) (by omega)
          have : tickF n T i = T i.toNat := by unfold tickF; rw [if_neg (by omega), if_pos (by omega)]
          exact v_iret dX4_nextEdge_38 rfl ⟨(Nat.le_of_ble_eq_true rfl), (Nat.le_of_ble_eq_true rfl)⟩ (by omega) ⟨rfl, Or.inr (by omega)⟩
set_option maxHeartbeats 4000000 in
set_option maxRecDepth 100000 in
theorem tX4_nextEdge {G : gG} {M : wM} {r tk vl : Nat} {n : Int} {T V : Nat → Int} (hrow : rowAt G M r tk vl n T V) {t b : Int} (ht : rng t) (hb : rng b) : wT G qX4_nextEdge 0 0 [.ref r, .int (gI t), .int (gI b)] M (iP fun x M' => M' = M ∧ (x = -4 ∨ bt 1 x 4000)) := by
  refine wT.intro (by decide) (Nat.le_of_ble_eq_true rfl) (fun sz => ?_)
  obtain ⟨hn0, hn1⟩ := hrow.rg
  refine v_aloadn dX4_nextEdge_0 rfl ?_
  refine v_iloadn dX4_nextEdge_1 rfl ?_
  refine v_callV (tX4_latest hrow (by omega)) lc_X4_22 ⟨(Nat.le_of_ble_eq_true rfl), (Nat.le_of_ble_eq_true rfl)⟩ dX4_nextEdge_2 rfl rfl (Nat.le_of_ble_eq_true rfl) ⟨(Nat.le_of_ble_eq_true rfl), (Nat.le_of_ble_eq_true rfl)⟩ ⟨_, _, _, _, hrow.1, rfl⟩ (kP fun r2 hr2 hp2 => ?_)
  have hq2 := hp2; unfold lateP at hq2
  refine v_iconst dX4_nextEdge_5 ?_
  refine v_iadd dX4_nextEdge_6 ?_
  refine v_istoren dX4_nextEdge_7 (Nat.le_of_ble_eq_true rfl) ?_
  refine wV.locs (lv' := [(0, .ref r), (1, .int (gI t)), (2, .int (gI b)), (3, .int (gI (r2 + 1)))]) ⟨rfl, rfl, rfl, rfl, trivial⟩ (tX4_nextEdge_loop hrow ht hb 60 _ (by omega) (by omega) (by omega))
set_option maxHeartbeats 4000000 in
set_option maxRecDepth 100000 in
theorem tX4_latestEdge_loop {sz : Nat} {M0 : wM} {G : gG} {M : wM} {r tk vl : Nat} {n : Int} {T V : Nat → Int} (hrow : rowAt G M r tk vl n T V) {t : Int} (ht : rng t) : ∀ (k : Nat) (i : Int), 0 ≤ i + 1 → i + 1 < (k : Int) → (bt (-1) i 49 ∧ i < n) → wV G qX4_latestEdge 0 0 sz M0 0 0 6 [(0, .ref r), (1, .int (gI t)), (2, .int (gI i))] [] M (iP fun x M' => M' = M ∧ (x = -4 ∨ bt 1 x 4000)) := by
  intro k
  induction k with
  | zero =>
    intros
    omega
  | succ k ih =>
    intro i hmz hml hi
    obtain ⟨hn0, hn1⟩ := hrow.rg
    refine v_iloadn dX4_latestEdge_6 rfl ?_
    refine v_if_lt 30 dX4_latestEdge_7 (by decide) (by omega) (fun h7 => ?_) (fun h7 => ?_)
    · refine v_bipush dX4_latestEdge_30 (by decide) ?_
      exact v_iret dX4_latestEdge_32 rfl ⟨(Nat.le_of_ble_eq_true rfl), (Nat.le_of_ble_eq_true rfl)⟩ (by omega) ⟨rfl, Or.inl rfl⟩
    · refine v_aloadn dX4_latestEdge_10 rfl ?_
      refine v_iloadn dX4_latestEdge_11 rfl ?_
      refine v_callV (tX4_isEdge hrow (by omega)) lc_X4_33 ⟨(Nat.le_of_ble_eq_true rfl), (Nat.le_of_ble_eq_true rfl)⟩ dX4_latestEdge_12 rfl rfl (Nat.le_of_ble_eq_true rfl) ⟨(Nat.le_of_ble_eq_true rfl), (Nat.le_of_ble_eq_true rfl)⟩ ⟨_, _, _, _, hrow.1, rfl⟩ (kP fun r12 hr12 hp12 => ?_)
      refine v_if_eq 24 dX4_latestEdge_15 (by decide) (by omega) (fun h15 => ?_) (fun h15 => ?_)
      · refine v_iinc dX4_latestEdge_24 rfl (Nat.le_of_ble_eq_true rfl) ?_
        refine v_goto 6 dX4_latestEdge_27 (by decide) ?_
        refine wV.locs (lv' := [(0, .ref r), (1, .int (gI t)), (2, .int (gI _))]) ⟨rfl, rfl, rfl, trivial⟩ (ih _ (by omega) (by omega) (by omega))
      · refine v_aloadn dX4_latestEdge_18 rfl ?_
        refine v_iloadn dX4_latestEdge_19 rfl ?_
        refine v_callV (tX4_tickOf hrow (by omega)) lc_X4_26 ⟨(Nat.le_of_ble_eq_true rfl), (Nat.le_of_ble_eq_true rfl)⟩ dX4_latestEdge_20 rfl rfl (Nat.le_of_ble_eq_true rfl) ⟨(Nat.le_of_ble_eq_true rfl), (Nat.le_of_ble_eq_true rfl)⟩ ⟨_, _, _, _, hrow.1, rfl⟩ (kP fun r20 hr20 hp20 => ?_)
        have htk : r20 = T i.toNat := by rw [hp20]; unfold tickF; rw [if_neg (by omega), if_pos (by omega)]
        have hbd := hrow.ok (i := i) (by omega) (by omega)
        have : tickF n T i = T i.toNat := by unfold tickF; rw [if_neg (by omega), if_pos (by omega)]
        exact v_iret dX4_latestEdge_23 rfl ⟨(Nat.le_of_ble_eq_true rfl), (Nat.le_of_ble_eq_true rfl)⟩ (by omega) ⟨rfl, Or.inr (by omega)⟩
set_option maxHeartbeats 4000000 in
set_option maxRecDepth 100000 in
theorem tX4_latestEdge {G : gG} {M : wM} {r tk vl : Nat} {n : Int} {T V : Nat → Int} (hrow : rowAt G M r tk vl n T V) {t : Int} (ht : rng t) : wT G qX4_latestEdge 0 0 [.ref r, .int (gI t)] M (iP fun x M' => M' = M ∧ (x = -4 ∨ bt 1 x 4000)) := by
  refine wT.intro (by decide) (Nat.le_of_ble_eq_true rfl) (fun sz => ?_)
  obtain ⟨hn0, hn1⟩ := hrow.rg
  refine v_aloadn dX4_latestEdge_0 rfl ?_
  refine v_iloadn dX4_latestEdge_1 rfl ?_
  refine v_callV (tX4_latest hrow (by omega)) lc_X4_22 ⟨(Nat.le_of_ble_eq_true rfl), (Nat.le_of_ble_eq_true rfl)⟩ dX4_latestEdge_2 rfl rfl (Nat.le_of_ble_eq_true rfl) ⟨(Nat.le_of_ble_eq_true rfl), (Nat.le_of_ble_eq_true rfl)⟩ ⟨_, _, _, _, hrow.1, rfl⟩ (kP fun r2 hr2 hp2 => ?_)
  have hq2 := hp2; unfold lateP at hq2
  refine v_istoren dX4_latestEdge_5 (Nat.le_of_ble_eq_true rfl) ?_
  refine wV.locs (lv' := [(0, .ref r), (1, .int (gI t)), (2, .int (gI (r2)))]) ⟨rfl, rfl, rfl, trivial⟩ (tX4_latestEdge_loop hrow ht 60 _ (by omega) (by omega) (by omega))
set_option maxHeartbeats 4000000 in
set_option maxRecDepth 100000 in
theorem tX4_turns_loop {sz : Nat} {M0 : wM} {G : gG} {M : wM} {r tk vl : Nat} {n : Int} {T V : Nat → Int} (hrow : rowAt G M r tk vl n T V) {a b : Int} (ha : bt 0 a 4000) (hb : bt 0 b 4000) : ∀ (k : Nat) (u i : Int), 0 ≤ 52 - i → 52 - i < (k : Int) → (bt 0 i 51) → wV G qX4_turns 0 0 sz M0 0 0 13 [(0, .ref r), (1, .int (gI a)), (2, .int (gI b)), (3, .int (gI u)), (4, .int (gI i))] [] M (iP fun x M' => M' = M ∧ True) := by
  intro k
  induction k with
  | zero =>
    intros
    omega
  | succ k ih =>
    intro u i hmz hml hi
    obtain ⟨hn0, hn1⟩ := hrow.rg
    refine v_iload dX4_turns_13 rfl ?_
    refine v_aloadn dX4_turns_15 rfl ?_
    refine v_get dX4_turns_16 gf_X4_18 hrow.1 rfl ?_
    refine v_icmp_ge 63 dX4_turns_19 (by decide) (by omega) (by omega) (fun h19 => ?_) (fun h19 => ?_)
    · refine v_iloadn dX4_turns_63 rfl ?_
      exact v_iretA dX4_turns_64 rfl ⟨(Nat.le_of_ble_eq_true rfl), (Nat.le_of_ble_eq_true rfl)⟩ ⟨rfl, trivial⟩
    · refine v_aloadn dX4_turns_22 rfl ?_
      refine v_iload dX4_turns_23 rfl ?_
      refine v_callV (tX4_tickOf hrow (by omega)) lc_X4_26 ⟨(Nat.le_of_ble_eq_true rfl), (Nat.le_of_ble_eq_true rfl)⟩ dX4_turns_25 rfl rfl (Nat.le_of_ble_eq_true rfl) ⟨(Nat.le_of_ble_eq_true rfl), (Nat.le_of_ble_eq_true rfl)⟩ ⟨_, _, _, _, hrow.1, rfl⟩ (kP fun r25 hr25 hp25 => ?_)
      refine v_iloadn dX4_turns_28 rfl ?_
      refine v_icmp_ge 63 dX4_turns_29 (by decide) (by omega) (by omega) (fun h29 => ?_) (fun h29 => ?_)
      · refine v_iloadn dX4_turns_63 rfl ?_
        exact v_iretA dX4_turns_64 rfl ⟨(Nat.le_of_ble_eq_true rfl), (Nat.le_of_ble_eq_true rfl)⟩ ⟨rfl, trivial⟩
      · refine v_iloadn dX4_turns_32 rfl ?_
        refine v_aloadn dX4_turns_33 rfl ?_
        refine v_iload dX4_turns_34 rfl ?_
        refine v_callV (tX4_valueOf hrow (by omega)) lc_X4_30 ⟨(Nat.le_of_ble_eq_true rfl), (Nat.le_of_ble_eq_true rfl)⟩ dX4_turns_36 rfl rfl (Nat.le_of_ble_eq_true rfl) ⟨(Nat.le_of_ble_eq_true rfl), (Nat.le_of_ble_eq_true rfl)⟩ ⟨_, _, _, _, hrow.1, rfl⟩ (kP fun r36 hr36 hp36 => ?_)
        refine v_aloadn dX4_turns_39 rfl ?_
        refine v_iload dX4_turns_40 rfl ?_
        refine v_iconst dX4_turns_42 ?_
        refine v_isub dX4_turns_43 ?_
        refine v_callV (tX4_valueOf hrow (by omega)) lc_X4_30 ⟨(Nat.le_of_ble_eq_true rfl), (Nat.le_of_ble_eq_true rfl)⟩ dX4_turns_44 rfl rfl (Nat.le_of_ble_eq_true rfl) ⟨(Nat.le_of_ble_eq_true rfl), (Nat.le_of_ble_eq_true rfl)⟩ ⟨_, _, _, _, hrow.1, rfl⟩ (kP fun r44 hr44 hp44 => ?_)
        refine v_icmp_eq 54 dX4_turns_47 (by decide) (by omega) (by omega) (fun h47 => ?_) (fun h47 => ?_)
        · refine v_iconst dX4_turns_54 ?_
          refine v_iadd dX4_turns_55 ?_
          refine v_istoren dX4_turns_56 (Nat.le_of_ble_eq_true rfl) ?_
          refine v_iinc dX4_turns_57 rfl (Nat.le_of_ble_eq_true rfl) ?_
          refine v_goto 13 dX4_turns_60 (by decide) ?_
          refine wV.locs (lv' := [(0, .ref r), (1, .int (gI a)), (2, .int (gI b)), (3, .int (gI _)), (4, .int (gI _))]) ⟨rfl, rfl, rfl, rfl, rfl, trivial⟩ (ih _ _ (by omega) (by omega) (by omega))
        · refine v_iconst dX4_turns_50 ?_
          refine v_goto 55 dX4_turns_51 (by decide) ?_
          refine v_iadd dX4_turns_55 ?_
          refine v_istoren dX4_turns_56 (Nat.le_of_ble_eq_true rfl) ?_
          refine v_iinc dX4_turns_57 rfl (Nat.le_of_ble_eq_true rfl) ?_
          refine v_goto 13 dX4_turns_60 (by decide) ?_
          refine wV.locs (lv' := [(0, .ref r), (1, .int (gI a)), (2, .int (gI b)), (3, .int (gI _)), (4, .int (gI _))]) ⟨rfl, rfl, rfl, rfl, rfl, trivial⟩ (ih _ _ (by omega) (by omega) (by omega))
set_option maxHeartbeats 4000000 in
set_option maxRecDepth 100000 in
theorem tX4_turns {G : gG} {M : wM} {r tk vl : Nat} {n : Int} {T V : Nat → Int} (hrow : rowAt G M r tk vl n T V) {a b : Int} (ha : bt 0 a 4000) (hb : bt 0 b 4000) : wT G qX4_turns 0 0 [.ref r, .int (gI a), .int (gI b)] M (iP fun x M' => M' = M ∧ True) := by
  refine wT.intro (by decide) (Nat.le_of_ble_eq_true rfl) (fun sz => ?_)
  obtain ⟨hn0, hn1⟩ := hrow.rg
  refine v_iconst dX4_turns_0 ?_
  refine v_istoren dX4_turns_1 (Nat.le_of_ble_eq_true rfl) ?_
  refine v_aloadn dX4_turns_2 rfl ?_
  refine v_iloadn dX4_turns_3 rfl ?_
  refine v_iconst dX4_turns_4 ?_
  refine v_isub dX4_turns_5 ?_
  refine v_callV (tX4_latest hrow (by omega)) lc_X4_22 ⟨(Nat.le_of_ble_eq_true rfl), (Nat.le_of_ble_eq_true rfl)⟩ dX4_turns_6 rfl rfl (Nat.le_of_ble_eq_true rfl) ⟨(Nat.le_of_ble_eq_true rfl), (Nat.le_of_ble_eq_true rfl)⟩ ⟨_, _, _, _, hrow.1, rfl⟩ (kP fun r6 hr6 hp6 => ?_)
  have hq6 := hp6; unfold lateP at hq6
  refine v_iconst dX4_turns_9 ?_
  refine v_iadd dX4_turns_10 ?_
  refine v_istore dX4_turns_11 (Nat.le_of_ble_eq_true rfl) ?_
  refine wV.locs (lv' := [(0, .ref r), (1, .int (gI a)), (2, .int (gI b)), (3, .int (gI (0))), (4, .int (gI (r6 + 1)))]) ⟨rfl, rfl, rfl, rfl, rfl, trivial⟩ (tX4_turns_loop hrow ha hb 60 _ _ (by omega) (by omega) (by omega))
set_option maxHeartbeats 4000000 in
set_option maxRecDepth 100000 in
theorem tX4_ticksWithin {G : gG} {M : wM} {r tk vl : Nat} {n : Int} {T V : Nat → Int} (hrow : rowAt G M r tk vl n T V) {i a b : Int} (hi : bt (-10) i 100) (ha : bt 0 a 4000) (hb : bt 0 b 4000) : wT G qX4_ticksWithin 0 0 [.ref r, .int (gI i), .int (gI a), .int (gI b)] M (iP fun x M' => M' = M ∧ True) := by
  refine wT.intro (by decide) (Nat.le_of_ble_eq_true rfl) (fun sz => ?_)
  obtain ⟨hn0, hn1⟩ := hrow.rg
  refine v_iloadn dX4_ticksWithin_0 rfl ?_
  refine v_aloadn dX4_ticksWithin_1 rfl ?_
  refine v_iloadn dX4_ticksWithin_2 rfl ?_
  refine v_iconst dX4_ticksWithin_3 ?_
  refine v_iadd dX4_ticksWithin_4 ?_
  refine v_callV (tX4_tickOf hrow (by omega)) lc_X4_26 ⟨(Nat.le_of_ble_eq_true rfl), (Nat.le_of_ble_eq_true rfl)⟩ dX4_ticksWithin_5 rfl rfl (Nat.le_of_ble_eq_true rfl) ⟨(Nat.le_of_ble_eq_true rfl), (Nat.le_of_ble_eq_true rfl)⟩ ⟨_, _, _, _, hrow.1, rfl⟩ (kP fun r5 hr5 hp5 => ?_)
  refine v_min dX4_ticksWithin_8 lc_X4_41 (Nat.le_of_ble_eq_true rfl) (Nat.le_of_ble_eq_true rfl) ⟨(Nat.le_of_ble_eq_true rfl), (Nat.le_of_ble_eq_true rfl)⟩ (by omega) (by omega) ?_
  refine v_iloadn dX4_ticksWithin_11 rfl ?_
  refine v_aloadn dX4_ticksWithin_12 rfl ?_
  refine v_iloadn dX4_ticksWithin_13 rfl ?_
  refine v_callV (tX4_tickOf hrow (by omega)) lc_X4_26 ⟨(Nat.le_of_ble_eq_true rfl), (Nat.le_of_ble_eq_true rfl)⟩ dX4_ticksWithin_14 rfl rfl (Nat.le_of_ble_eq_true rfl) ⟨(Nat.le_of_ble_eq_true rfl), (Nat.le_of_ble_eq_true rfl)⟩ ⟨_, _, _, _, hrow.1, rfl⟩ (kP fun r14 hr14 hp14 => ?_)
  refine v_max dX4_ticksWithin_17 lc_X4_47 (Nat.le_of_ble_eq_true rfl) (Nat.le_of_ble_eq_true rfl) ⟨(Nat.le_of_ble_eq_true rfl), (Nat.le_of_ble_eq_true rfl)⟩ (by omega) (by omega) ?_
  refine v_isub dX4_ticksWithin_20 ?_
  exact v_iretA dX4_ticksWithin_21 rfl ⟨(Nat.le_of_ble_eq_true rfl), (Nat.le_of_ble_eq_true rfl)⟩ ⟨rfl, trivial⟩
set_option maxHeartbeats 4000000 in
set_option maxRecDepth 100000 in
theorem tX4_ticksNotKnown_loop {sz : Nat} {M0 : wM} {G : gG} {M : wM} {r tk vl : Nat} {n : Int} {T V : Nat → Int} (hrow : rowAt G M r tk vl n T V) {a b : Int} (ha : bt 0 a 4000) (hb : bt 0 b 4000) : ∀ (k : Nat) (u i : Int), 0 ≤ 52 - i → 52 - i < (k : Int) → (bt (-1) i 51) → wV G qX4_ticksNotKnown 0 0 sz M0 0 0 9 [(0, .ref r), (1, .int (gI a)), (2, .int (gI b)), (3, .int (gI u)), (4, .int (gI i))] [] M (iP fun x M' => M' = M ∧ True) := by
  intro k
  induction k with
  | zero =>
    intros
    omega
  | succ k ih =>
    intro u i hmz hml hi
    obtain ⟨hn0, hn1⟩ := hrow.rg
    refine v_iload dX4_ticksNotKnown_9 rfl ?_
    refine v_aloadn dX4_ticksNotKnown_11 rfl ?_
    refine v_get dX4_ticksNotKnown_12 gf_X4_18 hrow.1 rfl ?_
    refine v_icmp_ge 61 dX4_ticksNotKnown_15 (by decide) (by omega) (by omega) (fun h15 => ?_) (fun h15 => ?_)
    · refine v_iloadn dX4_ticksNotKnown_61 rfl ?_
      exact v_iretA dX4_ticksNotKnown_62 rfl ⟨(Nat.le_of_ble_eq_true rfl), (Nat.le_of_ble_eq_true rfl)⟩ ⟨rfl, trivial⟩
    · refine v_aloadn dX4_ticksNotKnown_18 rfl ?_
      refine v_iload dX4_ticksNotKnown_19 rfl ?_
      refine v_callV (tX4_tickOf hrow (by omega)) lc_X4_26 ⟨(Nat.le_of_ble_eq_true rfl), (Nat.le_of_ble_eq_true rfl)⟩ dX4_ticksNotKnown_21 rfl rfl (Nat.le_of_ble_eq_true rfl) ⟨(Nat.le_of_ble_eq_true rfl), (Nat.le_of_ble_eq_true rfl)⟩ ⟨_, _, _, _, hrow.1, rfl⟩ (kP fun r21 hr21 hp21 => ?_)
      refine v_iloadn dX4_ticksNotKnown_24 rfl ?_
      refine v_icmp_ge 61 dX4_ticksNotKnown_25 (by decide) (by omega) (by omega) (fun h25 => ?_) (fun h25 => ?_)
      · refine v_iloadn dX4_ticksNotKnown_61 rfl ?_
        exact v_iretA dX4_ticksNotKnown_62 rfl ⟨(Nat.le_of_ble_eq_true rfl), (Nat.le_of_ble_eq_true rfl)⟩ ⟨rfl, trivial⟩
      · refine v_iloadn dX4_ticksNotKnown_28 rfl ?_
        refine v_aloadn dX4_ticksNotKnown_29 rfl ?_
        refine v_iload dX4_ticksNotKnown_30 rfl ?_
        refine v_callV (tX4_valueOf hrow (by omega)) lc_X4_30 ⟨(Nat.le_of_ble_eq_true rfl), (Nat.le_of_ble_eq_true rfl)⟩ dX4_ticksNotKnown_32 rfl rfl (Nat.le_of_ble_eq_true rfl) ⟨(Nat.le_of_ble_eq_true rfl), (Nat.le_of_ble_eq_true rfl)⟩ ⟨_, _, _, _, hrow.1, rfl⟩ (kP fun r32 hr32 hp32 => ?_)
        refine v_sipush dX4_ticksNotKnown_35 (by decide) ?_
        refine v_icmp_ne 52 dX4_ticksNotKnown_38 (by decide) (by omega) (by omega) (fun h38 => ?_) (fun h38 => ?_)
        · refine v_iconst dX4_ticksNotKnown_52 ?_
          refine v_iadd dX4_ticksNotKnown_53 ?_
          refine v_istoren dX4_ticksNotKnown_54 (Nat.le_of_ble_eq_true rfl) ?_
          refine v_iinc dX4_ticksNotKnown_55 rfl (Nat.le_of_ble_eq_true rfl) ?_
          refine v_goto 9 dX4_ticksNotKnown_58 (by decide) ?_
          refine wV.locs (lv' := [(0, .ref r), (1, .int (gI a)), (2, .int (gI b)), (3, .int (gI _)), (4, .int (gI _))]) ⟨rfl, rfl, rfl, rfl, rfl, trivial⟩ (ih _ _ (by omega) (by omega) (by omega))
        · refine v_aloadn dX4_ticksNotKnown_41 rfl ?_
          refine v_iload dX4_ticksNotKnown_42 rfl ?_
          refine v_iloadn dX4_ticksNotKnown_44 rfl ?_
          refine v_iloadn dX4_ticksNotKnown_45 rfl ?_
          refine v_callV (tX4_ticksWithin hrow (by omega) (by omega) (by omega)) lc_X4_37 ⟨(Nat.le_of_ble_eq_true rfl), (Nat.le_of_ble_eq_true rfl)⟩ dX4_ticksNotKnown_46 rfl rfl (Nat.le_of_ble_eq_true rfl) ⟨(Nat.le_of_ble_eq_true rfl), (Nat.le_of_ble_eq_true rfl)⟩ ⟨_, _, _, _, hrow.1, rfl⟩ (kP fun r46 hr46 hp46 => ?_)
          refine v_goto 53 dX4_ticksNotKnown_49 (by decide) ?_
          refine v_iadd dX4_ticksNotKnown_53 ?_
          refine v_istoren dX4_ticksNotKnown_54 (Nat.le_of_ble_eq_true rfl) ?_
          refine v_iinc dX4_ticksNotKnown_55 rfl (Nat.le_of_ble_eq_true rfl) ?_
          refine v_goto 9 dX4_ticksNotKnown_58 (by decide) ?_
          refine wV.locs (lv' := [(0, .ref r), (1, .int (gI a)), (2, .int (gI b)), (3, .int (gI _)), (4, .int (gI _))]) ⟨rfl, rfl, rfl, rfl, rfl, trivial⟩ (ih _ _ (by omega) (by omega) (by omega))
set_option maxHeartbeats 4000000 in
set_option maxRecDepth 100000 in
theorem tX4_ticksNotKnown {G : gG} {M : wM} {r tk vl : Nat} {n : Int} {T V : Nat → Int} (hrow : rowAt G M r tk vl n T V) {a b : Int} (ha : bt 0 a 4000) (hb : bt 0 b 4000) : wT G qX4_ticksNotKnown 0 0 [.ref r, .int (gI a), .int (gI b)] M (iP fun x M' => M' = M ∧ True) := by
  refine wT.intro (by decide) (Nat.le_of_ble_eq_true rfl) (fun sz => ?_)
  obtain ⟨hn0, hn1⟩ := hrow.rg
  refine v_iconst dX4_ticksNotKnown_0 ?_
  refine v_istoren dX4_ticksNotKnown_1 (Nat.le_of_ble_eq_true rfl) ?_
  refine v_aloadn dX4_ticksNotKnown_2 rfl ?_
  refine v_iloadn dX4_ticksNotKnown_3 rfl ?_
  refine v_callV (tX4_latest hrow (by omega)) lc_X4_22 ⟨(Nat.le_of_ble_eq_true rfl), (Nat.le_of_ble_eq_true rfl)⟩ dX4_ticksNotKnown_4 rfl rfl (Nat.le_of_ble_eq_true rfl) ⟨(Nat.le_of_ble_eq_true rfl), (Nat.le_of_ble_eq_true rfl)⟩ ⟨_, _, _, _, hrow.1, rfl⟩ (kP fun r4 hr4 hp4 => ?_)
  have hq4 := hp4; unfold lateP at hq4
  refine v_istore dX4_ticksNotKnown_7 (Nat.le_of_ble_eq_true rfl) ?_
  refine wV.locs (lv' := [(0, .ref r), (1, .int (gI a)), (2, .int (gI b)), (3, .int (gI (0))), (4, .int (gI (r4)))]) ⟨rfl, rfl, rfl, rfl, rfl, trivial⟩ (tX4_ticksNotKnown_loop hrow ha hb 60 _ _ (by omega) (by omega) (by omega))
set_option maxHeartbeats 4000000 in
set_option maxRecDepth 100000 in
theorem tX4_sumKnown_loop {sz : Nat} {M0 : wM} {G : gG} {M : wM} {r tk vl : Nat} {n : Int} {T V : Nat → Int} (hrow : rowAt G M r tk vl n T V) {a b : Int} (ha : bt 0 a 4000) (hb : bt 0 b 4000) : ∀ (k : Nat) (u i : Int), 0 ≤ 52 - i → 52 - i < (k : Int) → (bt (-1) i 51) → wV G qX4_sumKnown 0 0 sz M0 0 0 9 [(0, .ref r), (1, .int (gI a)), (2, .int (gI b)), (3, .int (gI u)), (4, .int (gI i))] [] M (iP fun x M' => M' = M ∧ True) := by
  intro k
  induction k with
  | zero =>
    intros
    omega
  | succ k ih =>
    intro u i hmz hml hi
    obtain ⟨hn0, hn1⟩ := hrow.rg
    refine v_iload dX4_sumKnown_9 rfl ?_
    refine v_aloadn dX4_sumKnown_11 rfl ?_
    refine v_get dX4_sumKnown_12 gf_X4_18 hrow.1 rfl ?_
    refine v_icmp_ge 68 dX4_sumKnown_15 (by decide) (by omega) (by omega) (fun h15 => ?_) (fun h15 => ?_)
    · refine v_iloadn dX4_sumKnown_68 rfl ?_
      exact v_iretA dX4_sumKnown_69 rfl ⟨(Nat.le_of_ble_eq_true rfl), (Nat.le_of_ble_eq_true rfl)⟩ ⟨rfl, trivial⟩
    · refine v_aloadn dX4_sumKnown_18 rfl ?_
      refine v_iload dX4_sumKnown_19 rfl ?_
      refine v_callV (tX4_tickOf hrow (by omega)) lc_X4_26 ⟨(Nat.le_of_ble_eq_true rfl), (Nat.le_of_ble_eq_true rfl)⟩ dX4_sumKnown_21 rfl rfl (Nat.le_of_ble_eq_true rfl) ⟨(Nat.le_of_ble_eq_true rfl), (Nat.le_of_ble_eq_true rfl)⟩ ⟨_, _, _, _, hrow.1, rfl⟩ (kP fun r21 hr21 hp21 => ?_)
      refine v_iloadn dX4_sumKnown_24 rfl ?_
      refine v_icmp_ge 68 dX4_sumKnown_25 (by decide) (by omega) (by omega) (fun h25 => ?_) (fun h25 => ?_)
      · refine v_iloadn dX4_sumKnown_68 rfl ?_
        exact v_iretA dX4_sumKnown_69 rfl ⟨(Nat.le_of_ble_eq_true rfl), (Nat.le_of_ble_eq_true rfl)⟩ ⟨rfl, trivial⟩
      · refine v_iloadn dX4_sumKnown_28 rfl ?_
        refine v_aloadn dX4_sumKnown_29 rfl ?_
        refine v_iload dX4_sumKnown_30 rfl ?_
        refine v_callV (tX4_valueOf hrow (by omega)) lc_X4_30 ⟨(Nat.le_of_ble_eq_true rfl), (Nat.le_of_ble_eq_true rfl)⟩ dX4_sumKnown_32 rfl rfl (Nat.le_of_ble_eq_true rfl) ⟨(Nat.le_of_ble_eq_true rfl), (Nat.le_of_ble_eq_true rfl)⟩ ⟨_, _, _, _, hrow.1, rfl⟩ (kP fun r32 hr32 hp32 => ?_)
        refine v_sipush dX4_sumKnown_35 (by decide) ?_
        refine v_icmp_eq 59 dX4_sumKnown_38 (by decide) (by omega) (by omega) (fun h38 => ?_) (fun h38 => ?_)
        · refine v_iconst dX4_sumKnown_59 ?_
          refine v_iadd dX4_sumKnown_60 ?_
          refine v_istoren dX4_sumKnown_61 (Nat.le_of_ble_eq_true rfl) ?_
          refine v_iinc dX4_sumKnown_62 rfl (Nat.le_of_ble_eq_true rfl) ?_
          refine v_goto 9 dX4_sumKnown_65 (by decide) ?_
          refine wV.locs (lv' := [(0, .ref r), (1, .int (gI a)), (2, .int (gI b)), (3, .int (gI _)), (4, .int (gI _))]) ⟨rfl, rfl, rfl, rfl, rfl, trivial⟩ (ih _ _ (by omega) (by omega) (by omega))
        · refine v_aloadn dX4_sumKnown_41 rfl ?_
          refine v_iload dX4_sumKnown_42 rfl ?_
          refine v_callV (tX4_valueOf hrow (by omega)) lc_X4_30 ⟨(Nat.le_of_ble_eq_true rfl), (Nat.le_of_ble_eq_true rfl)⟩ dX4_sumKnown_44 rfl rfl (Nat.le_of_ble_eq_true rfl) ⟨(Nat.le_of_ble_eq_true rfl), (Nat.le_of_ble_eq_true rfl)⟩ ⟨_, _, _, _, hrow.1, rfl⟩ (kP fun r44 hr44 hp44 => ?_)
          refine v_aloadn dX4_sumKnown_47 rfl ?_
          refine v_iload dX4_sumKnown_48 rfl ?_
          refine v_iloadn dX4_sumKnown_50 rfl ?_
          refine v_iloadn dX4_sumKnown_51 rfl ?_
          refine v_callV (tX4_ticksWithin hrow (by omega) (by omega) (by omega)) lc_X4_37 ⟨(Nat.le_of_ble_eq_true rfl), (Nat.le_of_ble_eq_true rfl)⟩ dX4_sumKnown_52 rfl rfl (Nat.le_of_ble_eq_true rfl) ⟨(Nat.le_of_ble_eq_true rfl), (Nat.le_of_ble_eq_true rfl)⟩ ⟨_, _, _, _, hrow.1, rfl⟩ (kP fun r52 hr52 hp52 => ?_)
          refine v_imul dX4_sumKnown_55 ?_
          refine v_goto 60 dX4_sumKnown_56 (by decide) ?_
          refine v_iadd dX4_sumKnown_60 ?_
          refine v_istoren dX4_sumKnown_61 (Nat.le_of_ble_eq_true rfl) ?_
          refine v_iinc dX4_sumKnown_62 rfl (Nat.le_of_ble_eq_true rfl) ?_
          refine v_goto 9 dX4_sumKnown_65 (by decide) ?_
          refine wV.locs (lv' := [(0, .ref r), (1, .int (gI a)), (2, .int (gI b)), (3, .int (gI _)), (4, .int (gI _))]) ⟨rfl, rfl, rfl, rfl, rfl, trivial⟩ (ih _ _ (by omega) (by omega) (by omega))
set_option maxHeartbeats 4000000 in
set_option maxRecDepth 100000 in
theorem tX4_sumKnown {G : gG} {M : wM} {r tk vl : Nat} {n : Int} {T V : Nat → Int} (hrow : rowAt G M r tk vl n T V) {a b : Int} (ha : bt 0 a 4000) (hb : bt 0 b 4000) : wT G qX4_sumKnown 0 0 [.ref r, .int (gI a), .int (gI b)] M (iP fun x M' => M' = M ∧ True) := by
  refine wT.intro (by decide) (Nat.le_of_ble_eq_true rfl) (fun sz => ?_)
  obtain ⟨hn0, hn1⟩ := hrow.rg
  refine v_iconst dX4_sumKnown_0 ?_
  refine v_istoren dX4_sumKnown_1 (Nat.le_of_ble_eq_true rfl) ?_
  refine v_aloadn dX4_sumKnown_2 rfl ?_
  refine v_iloadn dX4_sumKnown_3 rfl ?_
  refine v_callV (tX4_latest hrow (by omega)) lc_X4_22 ⟨(Nat.le_of_ble_eq_true rfl), (Nat.le_of_ble_eq_true rfl)⟩ dX4_sumKnown_4 rfl rfl (Nat.le_of_ble_eq_true rfl) ⟨(Nat.le_of_ble_eq_true rfl), (Nat.le_of_ble_eq_true rfl)⟩ ⟨_, _, _, _, hrow.1, rfl⟩ (kP fun r4 hr4 hp4 => ?_)
  have hq4 := hp4; unfold lateP at hq4
  refine v_istore dX4_sumKnown_7 (Nat.le_of_ble_eq_true rfl) ?_
  refine wV.locs (lv' := [(0, .ref r), (1, .int (gI a)), (2, .int (gI b)), (3, .int (gI (0))), (4, .int (gI (r4)))]) ⟨rfl, rfl, rfl, rfl, rfl, trivial⟩ (tX4_sumKnown_loop hrow ha hb 60 _ _ (by omega) (by omega) (by omega))
