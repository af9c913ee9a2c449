set_option maxHeartbeats 4000000 in
set_option maxRecDepth 100000 in
theorem tX4_isEdge {G : gG} {M : wM} {r tk vl : Nat} {n : Int} {T V : Nat → Int} (hrow : rowAt G M r tk vl n T V) {i : Int} (hi : bt (-10) i 1000) : wT G qX4_isEdge 0 0 [.ref r, .int (gI i)] M (iP fun x M' => M' = M ∧ ((x = 1 ∧ 0 < tickF n T i) ∨ x = 0)) := by
  refine wT.intro (by decide) (Nat.le_of_ble_eq_true rfl) (fun sz => ?_)
  obtain ⟨hn0, hn1⟩ := hrow.rg
  refine v_aloadn dX4_isEdge_0 rfl ?_
  refine v_iloadn dX4_isEdge_1 rfl ?_
  refine v_callV (tX4_tickOf hrow (by omega)) lc_X4_26 ⟨(Nat.le_of_ble_eq_true rfl), (Nat.le_of_ble_eq_true rfl)⟩ dX4_isEdge_2 rfl rfl (Nat.le_of_ble_eq_true rfl) ⟨(Nat.le_of_ble_eq_true rfl), (Nat.le_of_ble_eq_true rfl)⟩ ⟨_, _, _, _, hrow.1, rfl⟩ (kP fun r2 hr2 hp2 => ?_)
  refine v_if_le 32 dX4_isEdge_5 (by decide) (by omega) (fun h5 => ?_) (fun h5 => ?_)
  · refine v_iconst dX4_isEdge_32 ?_
    exact v_zret dX4_isEdge_33 rfl ⟨(Nat.le_of_ble_eq_true rfl), (Nat.le_of_ble_eq_true rfl)⟩ (by omega) ⟨rfl, by omega⟩
  · refine v_aloadn dX4_isEdge_8 rfl ?_
    refine v_iloadn dX4_isEdge_9 rfl ?_
    refine v_callV (tX4_valueOf hrow (by omega)) lc_X4_30 ⟨(Nat.le_of_ble_eq_true rfl), (Nat.le_of_ble_eq_true rfl)⟩ dX4_isEdge_10 rfl rfl (Nat.le_of_ble_eq_true rfl) ⟨(Nat.le_of_ble_eq_true rfl), (Nat.le_of_ble_eq_true rfl)⟩ ⟨_, _, _, _, hrow.1, rfl⟩ (kP fun r10 hr10 hp10 => ?_)
    refine v_iconst dX4_isEdge_13 ?_
    refine v_icmp_ne 32 dX4_isEdge_14 (by decide) (by omega) (by omega) (fun h14 => ?_) (fun h14 => ?_)
    · refine v_iconst dX4_isEdge_32 ?_
      exact v_zret dX4_isEdge_33 rfl ⟨(Nat.le_of_ble_eq_true rfl), (Nat.le_of_ble_eq_true rfl)⟩ (by omega) ⟨rfl, by omega⟩
    · refine v_aloadn dX4_isEdge_17 rfl ?_
      refine v_iloadn dX4_isEdge_18 rfl ?_
      refine v_iconst dX4_isEdge_19 ?_
      refine v_isub dX4_isEdge_20 ?_
      refine v_callV (tX4_valueOf hrow (by omega)) lc_X4_30 ⟨(Nat.le_of_ble_eq_true rfl), (Nat.le_of_ble_eq_true rfl)⟩ dX4_isEdge_21 rfl rfl (Nat.le_of_ble_eq_true rfl) ⟨(Nat.le_of_ble_eq_true rfl), (Nat.le_of_ble_eq_true rfl)⟩ ⟨_, _, _, _, hrow.1, rfl⟩ (kP fun r21 hr21 hp21 => ?_)
      refine v_iconst dX4_isEdge_24 ?_
      refine v_icmp_eq 32 dX4_isEdge_25 (by decide) (by omega) (by omega) (fun h25 => ?_) (fun h25 => ?_)
      · refine v_iconst dX4_isEdge_32 ?_
        exact v_zret dX4_isEdge_33 rfl ⟨(Nat.le_of_ble_eq_true rfl), (Nat.le_of_ble_eq_true rfl)⟩ (by omega) ⟨rfl, by omega⟩
      · refine v_iconst dX4_isEdge_28 ?_
        refine v_goto 33 dX4_isEdge_29 (by decide) ?_
        exact v_zret dX4_isEdge_33 rfl ⟨(Nat.le_of_ble_eq_true rfl), (Nat.le_of_ble_eq_true rfl)⟩ (by omega) ⟨rfl, by omega⟩
