theorem mono_le {n : Int} {T : Nat → Int} (hs : ∀ i j : Nat, i < j → (j : Int) < n → T i < T j) {m j : Nat} (h : j ≤ m) (hm : (m : Int) < n) : T j ≤ T m := by
  rcases Nat.lt_or_ge j m with h2 | h2
  · exact Int.le_of_lt (hs j m h2 hm)
  · have : j = m := by omega
    subst this
    exact Int.le_refl _
set_option maxHeartbeats 4000000 in
set_option maxRecDepth 100000 in
theorem tX4_size {G : gG} {M : wM} {r tk vl : Nat} {n : Int} {T V : Nat → Int} (hrow : rowAt G M r tk vl n T V) : wT G qX4_size 0 0 [.ref r] M (iP fun x M' => M' = M ∧ x = n) := by
  refine wT.intro (by decide) (Nat.le_of_ble_eq_true rfl) (fun sz => ?_)
  obtain ⟨hn0, hn1⟩ := hrow.rg
  refine v_aloadn dX4_size_0 rfl ?_
  refine v_get dX4_size_1 gf_X4_18 hrow.1 rfl ?_
  exact v_iret dX4_size_4 rfl ⟨(Nat.le_of_ble_eq_true rfl), (Nat.le_of_ble_eq_true rfl)⟩ (by omega) ⟨rfl, rfl⟩
set_option maxHeartbeats 4000000 in
set_option maxRecDepth 100000 in
theorem tX4_lacksRoom {G : gG} {M : wM} {r tk vl : Nat} {n : Int} {T V : Nat → Int} (hrow : rowAt G M r tk vl n T V) {k : Int} (hk : 0 ≤ k ∧ k ≤ 100) : wT G qX4_lacksRoom 0 0 [.ref r, .int (gI k)] M (iP fun x M' => M' = M ∧ ((x = 1 ∧ 50 < n + k) ∨ (x = 0 ∧ n + k ≤ 50))) := by
  refine wT.intro (by decide) (Nat.le_of_ble_eq_true rfl) (fun sz => ?_)
  obtain ⟨hn0, hn1⟩ := hrow.rg
  refine v_aloadn dX4_lacksRoom_0 rfl ?_
  refine v_get dX4_lacksRoom_1 gf_X4_18 hrow.1 rfl ?_
  refine v_iloadn dX4_lacksRoom_4 rfl ?_
  refine v_iadd dX4_lacksRoom_5 ?_
  refine v_bipush dX4_lacksRoom_6 (by decide) ?_
  refine v_icmp_le 15 dX4_lacksRoom_8 (by decide) (by omega) (by omega) (fun h8 => ?_) (fun h8 => ?_)
  · refine v_iconst dX4_lacksRoom_15 ?_
    exact v_zret dX4_lacksRoom_16 rfl ⟨(Nat.le_of_ble_eq_true rfl), (Nat.le_of_ble_eq_true rfl)⟩ (by omega) ⟨rfl, by omega⟩
  · refine v_iconst dX4_lacksRoom_11 ?_
    refine v_goto 16 dX4_lacksRoom_12 (by decide) ?_
    exact v_zret dX4_lacksRoom_16 rfl ⟨(Nat.le_of_ble_eq_true rfl), (Nat.le_of_ble_eq_true rfl)⟩ (by omega) ⟨rfl, by omega⟩
set_option maxHeartbeats 4000000 in
set_option maxRecDepth 100000 in
theorem tX4_tickOf {G : gG} {M : wM} {r tk vl : Nat} {n : Int} {T V : Nat → Int} (hrow : rowAt G M r tk vl n T V) {i : Int} (hi : rng i) : wT G qX4_tickOf 0 0 [.ref r, .int (gI i)] M (iP fun x M' => M' = M ∧ x = tickF n T i) := by
  refine wT.intro (by decide) (Nat.le_of_ble_eq_true rfl) (fun sz => ?_)
  obtain ⟨hn0, hn1⟩ := hrow.rg
  refine v_iloadn dX4_tickOf_0 rfl ?_
  refine v_if_ge 6 dX4_tickOf_1 (by decide) (by omega) (fun h1 => ?_) (fun h1 => ?_)
  · refine v_iloadn dX4_tickOf_6 rfl ?_
    refine v_aloadn dX4_tickOf_7 rfl ?_
    refine v_get dX4_tickOf_8 gf_X4_18 hrow.1 rfl ?_
    refine v_icmp_ge 23 dX4_tickOf_11 (by decide) (by omega) (by omega) (fun h11 => ?_) (fun h11 => ?_)
    · refine v_ldc (n := 1000000) dX4_tickOf_23 (by decide +kernel) ?_
      exact v_iret dX4_tickOf_25 rfl ⟨(Nat.le_of_ble_eq_true rfl), (Nat.le_of_ble_eq_true rfl)⟩ (by first | omega | (have := hrow.ok (i := i) (by omega) (by omega); omega)) ⟨rfl, by unfold tickF; split <;> (try split) <;> first | rfl | omega⟩
    · refine v_aloadn dX4_tickOf_14 rfl ?_
      refine v_get dX4_tickOf_15 gf_X4_9 hrow.1 rfl ?_
      refine v_iloadn dX4_tickOf_18 rfl ?_
      refine v_iald dX4_tickOf_19 hrow.2.1 (by omega) (by omega) (by decide) ?_
      refine v_goto 25 dX4_tickOf_20 (by decide) ?_
      exact v_iret dX4_tickOf_25 rfl ⟨(Nat.le_of_ble_eq_true rfl), (Nat.le_of_ble_eq_true rfl)⟩ (by first | omega | (have := hrow.ok (i := i) (by omega) (by omega); omega)) ⟨rfl, by unfold tickF; split <;> (try split) <;> first | rfl | omega⟩
  · refine v_iconst dX4_tickOf_4 ?_
    exact v_iret dX4_tickOf_5 rfl ⟨(Nat.le_of_ble_eq_true rfl), (Nat.le_of_ble_eq_true rfl)⟩ (by first | omega | (have := hrow.ok (i := i) (by omega) (by omega); omega)) ⟨rfl, by unfold tickF; split <;> (try split) <;> first | rfl | omega⟩
set_option maxHeartbeats 4000000 in
set_option maxRecDepth 100000 in
theorem tX4_valueOf {G : gG} {M : wM} {r tk vl : Nat} {n : Int} {T V : Nat → Int} (hrow : rowAt G M r tk vl n T V) {i : Int} (hi : rng i) : wT G qX4_valueOf 0 0 [.ref r, .int (gI i)] M (iP fun x M' => M' = M ∧ x = valF n V i) := by
  refine wT.intro (by decide) (Nat.le_of_ble_eq_true rfl) (fun sz => ?_)
  obtain ⟨hn0, hn1⟩ := hrow.rg
  refine v_iloadn dX4_valueOf_0 rfl ?_
  refine v_if_lt 21 dX4_valueOf_1 (by decide) (by omega) (fun h1 => ?_) (fun h1 => ?_)
  · refine v_sipush dX4_valueOf_21 (by decide) ?_
    exact v_iret dX4_valueOf_24 rfl ⟨(Nat.le_of_ble_eq_true rfl), (Nat.le_of_ble_eq_true rfl)⟩ (by first | omega | (have := hrow.ok (i := i) (by omega) (by omega); omega)) ⟨rfl, by unfold valF; split <;> first | rfl | omega⟩
  · refine v_iloadn dX4_valueOf_4 rfl ?_
    refine v_aloadn dX4_valueOf_5 rfl ?_
    refine v_get dX4_valueOf_6 gf_X4_18 hrow.1 rfl ?_
    refine v_icmp_ge 21 dX4_valueOf_9 (by decide) (by omega) (by omega) (fun h9 => ?_) (fun h9 => ?_)
    · refine v_sipush dX4_valueOf_21 (by decide) ?_
      exact v_iret dX4_valueOf_24 rfl ⟨(Nat.le_of_ble_eq_true rfl), (Nat.le_of_ble_eq_true rfl)⟩ (by first | omega | (have := hrow.ok (i := i) (by omega) (by omega); omega)) ⟨rfl, by unfold valF; split <;> first | rfl | omega⟩
    · refine v_aloadn dX4_valueOf_12 rfl ?_
      refine v_get dX4_valueOf_13 gf_X4_15 hrow.1 rfl ?_
      refine v_iloadn dX4_valueOf_16 rfl ?_
      refine v_iald dX4_valueOf_17 hrow.2.2.1 (by omega) (by omega) (by decide) ?_
      refine v_goto 24 dX4_valueOf_18 (by decide) ?_
      exact v_iret dX4_valueOf_24 rfl ⟨(Nat.le_of_ble_eq_true rfl), (Nat.le_of_ble_eq_true rfl)⟩ (by first | omega | (have := hrow.ok (i := i) (by omega) (by omega); omega)) ⟨rfl, by unfold valF; split <;> first | rfl | omega⟩
set_option maxHeartbeats 4000000 in
set_option maxRecDepth 100000 in
theorem tX4_lastTick {G : gG} {M : wM} {r tk vl : Nat} {n : Int} {T V : Nat → Int} (hrow : rowAt G M r tk vl n T V) : wT G qX4_lastTick 0 0 [.ref r] M (iP fun x M' => M' = M ∧ x = tickF n T (n - 1)) := by
  refine wT.intro (by decide) (Nat.le_of_ble_eq_true rfl) (fun sz => ?_)
  obtain ⟨hn0, hn1⟩ := hrow.rg
  refine v_aloadn dX4_lastTick_0 rfl ?_
  refine v_aloadn dX4_lastTick_1 rfl ?_
  refine v_get dX4_lastTick_2 gf_X4_18 hrow.1 rfl ?_
  refine v_iconst dX4_lastTick_5 ?_
  refine v_isub dX4_lastTick_6 ?_
  refine v_callV (tX4_tickOf hrow (by omega)) lc_X4_26 ⟨(Nat.le_of_ble_eq_true rfl), (Nat.le_of_ble_eq_true rfl)⟩ dX4_lastTick_7 rfl rfl (Nat.le_of_ble_eq_true rfl) ⟨(Nat.le_of_ble_eq_true rfl), (Nat.le_of_ble_eq_true rfl)⟩ ⟨_, _, _, _, hrow.1, rfl⟩ (kP fun r7 hr7 hp7 => ?_)
  exact v_iret dX4_lastTick_10 rfl ⟨(Nat.le_of_ble_eq_true rfl), (Nat.le_of_ble_eq_true rfl)⟩ (by omega) ⟨rfl, by assumption⟩
set_option maxHeartbeats 4000000 in
set_option maxRecDepth 100000 in
theorem tX4_latest_loop {G : gG} {M : wM} {r tk vl : Nat} {n : Int} {T V : Nat → Int} (hrow : rowAt G M r tk vl n T V) {t : Int} (ht : rng t) {sz : Nat} : ∀ (k : Nat) (lo hi sp md : Int), sp = 51 - k → 0 ≤ sp → 0 ≤ lo → lo ≤ hi → hi ≤ n → hi - lo ≤ 50 - sp ∨ lo = hi → ((∀ i j : Nat, i < j → (j : Int) < n → T i < T j) → (∀ j : Nat, (j : Int) < lo → T j ≤ t) ∧ ∀ j : Nat, hi ≤ (j : Int) → (j : Int) < n → t < T j) → wV G qX4_latest 0 0 sz M 0 0 10 [(0, .ref r), (1, .int (gI t)), (2, .int (gI lo)), (3, .int (gI hi)), (4, .int (gI sp))] [] M (iP fun x M' => M' = M ∧ lateP n T t x) := by
  obtain ⟨hn0, hn1⟩ := hrow.rg
  intro k
  induction k with
  | zero =>
    intro lo hi sp md hsp hsp0 h1 h2 h3 h4 h5
    refine v_iload dX4_latest_10 rfl ?_
    refine v_bipush dX4_latest_12 (by decide) ?_
    refine v_icmp_gt 56 dX4_latest_14 (by decide) (by omega) (by omega) (fun h14 => ?_) (fun h14 => ?_)
    · refine v_iloadn dX4_latest_56 rfl ?_
      refine v_iconst dX4_latest_57 ?_
      refine v_isub dX4_latest_58 ?_
      exact v_iret dX4_latest_59 rfl ⟨(Nat.le_of_ble_eq_true rfl), (Nat.le_of_ble_eq_true rfl)⟩ (by omega) ⟨rfl, by unfold lateP; refine ⟨by omega, by omega, fun hs => ⟨fun j hj => (h5 hs).1 j (by omega), fun j hj hj2 => (h5 hs).2 j (by omega) hj2⟩⟩⟩
    · exact absurd h14 (by omega)
  | succ k ih =>
    intro lo hi sp md hsp hsp0 h1 h2 h3 h4 h5
    refine v_iload dX4_latest_10 rfl ?_
    refine v_bipush dX4_latest_12 (by decide) ?_
    refine v_icmp_gt 56 dX4_latest_14 (by decide) (by omega) (by omega) (fun h14 => ?_) (fun h14 => ?_)
    · refine v_iloadn dX4_latest_56 rfl ?_
      refine v_iconst dX4_latest_57 ?_
      refine v_isub dX4_latest_58 ?_
      exact v_iret dX4_latest_59 rfl ⟨(Nat.le_of_ble_eq_true rfl), (Nat.le_of_ble_eq_true rfl)⟩ (by omega) ⟨rfl, by unfold lateP; refine ⟨by omega, by omega, fun hs => ⟨fun j hj => (h5 hs).1 j (by omega), fun j hj hj2 => (h5 hs).2 j (by omega) hj2⟩⟩⟩
    · refine v_iloadn dX4_latest_17 rfl ?_
      refine v_iloadn dX4_latest_18 rfl ?_
      refine v_icmp_ge 56 dX4_latest_19 (by decide) (by omega) (by omega) (fun h19 => ?_) (fun h19 => ?_)
      · refine v_iloadn dX4_latest_56 rfl ?_
        refine v_iconst dX4_latest_57 ?_
        refine v_isub dX4_latest_58 ?_
        exact v_iret dX4_latest_59 rfl ⟨(Nat.le_of_ble_eq_true rfl), (Nat.le_of_ble_eq_true rfl)⟩ (by omega) ⟨rfl, by unfold lateP; refine ⟨by omega, by omega, fun hs => ⟨fun j hj => (h5 hs).1 j (by omega), fun j hj hj2 => (h5 hs).2 j (by omega) hj2⟩⟩⟩
      · refine v_iloadn dX4_latest_22 rfl ?_
        refine v_iloadn dX4_latest_23 rfl ?_
        refine v_iadd dX4_latest_24 ?_
        refine v_iconst dX4_latest_25 ?_
        refine v_idiv2 dX4_latest_26 (by omega) (by omega) ?_
        refine v_istore dX4_latest_27 (Nat.le_of_ble_eq_true rfl) ?_
        refine v_aloadn dX4_latest_29 rfl ?_
        refine v_iload dX4_latest_30 rfl ?_
        refine v_callV (tX4_tickOf hrow (by omega)) lc_X4_26 ⟨(Nat.le_of_ble_eq_true rfl), (Nat.le_of_ble_eq_true rfl)⟩ dX4_latest_32 rfl rfl (Nat.le_of_ble_eq_true rfl) ⟨(Nat.le_of_ble_eq_true rfl), (Nat.le_of_ble_eq_true rfl)⟩ ⟨_, _, _, _, hrow.1, rfl⟩ (kP fun r32 hr32 hp32 => ?_)
        have htf : (lo + hi) / 2 < n → r32 = T ((lo + hi) / 2).toNat := fun hm => by rw [hp32]; unfold tickF; rw [if_neg (by omega), if_pos hm]
        refine v_iloadn dX4_latest_35 rfl ?_
        refine v_icmp_gt 47 dX4_latest_36 (by decide) (by omega) (by omega) (fun h36 => ?_) (fun h36 => ?_)
        · refine v_iload dX4_latest_47 rfl ?_
          refine v_istoren dX4_latest_49 (Nat.le_of_ble_eq_true rfl) ?_
          refine v_iinc dX4_latest_50 rfl (Nat.le_of_ble_eq_true rfl) ?_
          refine v_goto 10 dX4_latest_53 (by decide) ?_
          refine wV.locs (lv' := [(0, .ref r), (1, .int (gI t)), (2, .int (gI _)), (3, .int (gI _)), (4, .int (gI _))]) ⟨rfl, rfl, rfl, rfl, rfl, trivial⟩ (ih _ _ _ 0 (by omega) (by omega) (by omega) (by omega) (by omega) (by omega) (fun hs => ?_))
          obtain ⟨g1, g2⟩ := h5 hs
          have htf := htf (by omega)
          refine ⟨fun j hj => ?_, fun j hj hj2 => ?_⟩
          · first | exact g1 j (by omega) | (have := mono_le hs (m := ((lo + hi) / 2).toNat) (j := j) (by omega) (by omega); omega)
          · first | exact g2 j (by omega) hj2 | (have := mono_le hs (m := j) (j := ((lo + hi) / 2).toNat) (by omega) hj2; omega)
        · refine v_iload dX4_latest_39 rfl ?_
          refine v_iconst dX4_latest_41 ?_
          refine v_iadd dX4_latest_42 ?_
          refine v_istoren dX4_latest_43 (Nat.le_of_ble_eq_true rfl) ?_
          refine v_goto 50 dX4_latest_44 (by decide) ?_
          refine v_iinc dX4_latest_50 rfl (Nat.le_of_ble_eq_true rfl) ?_
          refine v_goto 10 dX4_latest_53 (by decide) ?_
          refine wV.locs (lv' := [(0, .ref r), (1, .int (gI t)), (2, .int (gI _)), (3, .int (gI _)), (4, .int (gI _))]) ⟨rfl, rfl, rfl, rfl, rfl, trivial⟩ (ih _ _ _ 0 (by omega) (by omega) (by omega) (by omega) (by omega) (by omega) (fun hs => ?_))
          obtain ⟨g1, g2⟩ := h5 hs
          have htf := htf (by omega)
          refine ⟨fun j hj => ?_, fun j hj hj2 => ?_⟩
          · first | exact g1 j (by omega) | (have := mono_le hs (m := ((lo + hi) / 2).toNat) (j := j) (by omega) (by omega); omega)
          · first | exact g2 j (by omega) hj2 | (have := mono_le hs (m := j) (j := ((lo + hi) / 2).toNat) (by omega) hj2; omega)
set_option maxHeartbeats 4000000 in
set_option maxRecDepth 100000 in
theorem tX4_latest {G : gG} {M : wM} {r tk vl : Nat} {n : Int} {T V : Nat → Int} (hrow : rowAt G M r tk vl n T V) {t : Int} (ht : rng t) : wT G qX4_latest 0 0 [.ref r, .int (gI t)] M (iP fun x M' => M' = M ∧ lateP n T t x) := by
  refine wT.intro (by decide) (Nat.le_of_ble_eq_true rfl) (fun sz => ?_)
  obtain ⟨hn0, hn1⟩ := hrow.rg
  refine v_iconst dX4_latest_0 ?_
  refine v_istoren dX4_latest_1 (Nat.le_of_ble_eq_true rfl) ?_
  refine v_aloadn dX4_latest_2 rfl ?_
  refine v_get dX4_latest_3 gf_X4_18 hrow.1 rfl ?_
  refine v_istoren dX4_latest_6 (Nat.le_of_ble_eq_true rfl) ?_
  refine v_iconst dX4_latest_7 ?_
  refine v_istore dX4_latest_8 (Nat.le_of_ble_eq_true rfl) ?_
  refine wV.locs (lv' := [(0, .ref r), (1, .int (gI t)), (2, .int (gI 0)), (3, .int (gI n)), (4, .int (gI 0))]) ⟨rfl, rfl, rfl, rfl, rfl, trivial⟩ (tX4_latest_loop hrow ht 51 0 n 0 0 (by omega) (by omega) (by omega) (by omega) (by omega) (by omega) (fun hs => ⟨fun j hj => by omega, fun j hj hj2 => by omega⟩))
set_option maxHeartbeats 4000000 in
set_option maxRecDepth 100000 in
theorem tX4_valueAt {G : gG} {M : wM} {r tk vl : Nat} {n : Int} {T V : Nat → Int} (hrow : rowAt G M r tk vl n T V) {t : Int} (ht : rng t) : wT G qX4_valueAt 0 0 [.ref r, .int (gI t)] M (iP fun x M' => M' = M ∧ ∃ i, lateP n T t i ∧ x = valF n V i) := by
  refine wT.intro (by decide) (Nat.le_of_ble_eq_true rfl) (fun sz => ?_)
  obtain ⟨hn0, hn1⟩ := hrow.rg
  refine v_aloadn dX4_valueAt_0 rfl ?_
  refine v_aloadn dX4_valueAt_1 rfl ?_
  refine v_iloadn dX4_valueAt_2 rfl ?_
  refine v_callV (tX4_latest hrow ht) lc_X4_22 ⟨(Nat.le_of_ble_eq_true rfl), (Nat.le_of_ble_eq_true rfl)⟩ dX4_valueAt_3 rfl rfl (Nat.le_of_ble_eq_true rfl) ⟨(Nat.le_of_ble_eq_true rfl), (Nat.le_of_ble_eq_true rfl)⟩ ⟨_, _, _, _, hrow.1, rfl⟩ (kP fun r3 hr3 hp3 => ?_)
  refine v_callV (tX4_valueOf hrow (by omega)) lc_X4_30 ⟨(Nat.le_of_ble_eq_true rfl), (Nat.le_of_ble_eq_true rfl)⟩ dX4_valueAt_6 rfl rfl (Nat.le_of_ble_eq_true rfl) ⟨(Nat.le_of_ble_eq_true rfl), (Nat.le_of_ble_eq_true rfl)⟩ ⟨_, _, _, _, hrow.1, rfl⟩ (kP fun r6 hr6 hp6 => ?_)
  exact v_iret dX4_valueAt_9 rfl ⟨(Nat.le_of_ble_eq_true rfl), (Nat.le_of_ble_eq_true rfl)⟩ (by omega) ⟨rfl, _, hp3, hp6⟩
