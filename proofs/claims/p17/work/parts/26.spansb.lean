set_option maxHeartbeats 4000000 in
set_option maxRecDepth 100000 in
theorem tX5_find_loop {sz : Nat} {M0 : wM} {G : gG} {fw : Nat → Nat → Nat} {si : sG} {Mi : wM} {n l d : Int} (hn : rng n) (hl : rng l) (hd : bt (-60) d 4000) : ∀ (k : Nat) (s : sG) (M : wM) (u : Int), 0 ≤ 4002 - u → 4002 - u < (k : Int) → (wX G fw s M) → (wO cntX fw Mi M) → (∀ k, k ≠ 8 → s k = si k) → (bt 0 u 4001 ∧ bt 0 (s 8 0 2) u ∧ bt (-60) (s 8 0 3) 4000 ∧ s 8 0 1 = si 8 0 1) → wV G qX5_find 0 0 sz M0 0 0 18 [(0, .ref (fw 8 0)), (1, .int (gI n)), (2, .int (gI l)), (3, .int (gI d)), (4, .int (gI u))] [] M (iP fun x M' => ∃ s', wX G fw s' M' ∧ wO cntX fw Mi M' ∧ (∀ k, k ≠ 8 → s' k = si k) ∧ s' 8 0 1 = si 8 0 1 ∧ bt 0 (s' 8 0 2) 4001 ∧ bt (-60) (s' 8 0 3) 4000 ∧ (x = 1 → bt (-60) (s' 8 0 4) 4000) ∧ (x = 0 ∨ x = 1)) := by
  intro k
  induction k with
  | zero =>
    intros
    omega
  | succ k ih =>
    intro s M u hmz hml hX hO hE h1
    obtain ⟨hJ, hH, hI⟩ := id hX
    have h8 := hX.2.2.2.2.2.1
    refine v_iload dX5_find_18 rfl ?_
    refine v_sipush dX5_find_20 (by decide) ?_
    refine v_icmp_gt 99 dX5_find_23 (by decide) (by omega) (by omega) (fun h23 => ?_) (fun h23 => ?_)
    · refine v_iconst dX5_find_99 ?_
      exact v_zret dX5_find_100 rfl ⟨(Nat.le_of_ble_eq_true rfl), (Nat.le_of_ble_eq_true rfl)⟩ (by omega) ⟨s, hX, hO, hE, by omega, by omega, by omega, by omega, by omega⟩
    · refine v_aloadn dX5_find_26 rfl ?_
      refine v_get dX5_find_27 gf_X5_24 (hH 8 0 (by decide)) rfl ?_
      refine v_iloadn dX5_find_30 rfl ?_
      refine v_icmp_ge 99 dX5_find_31 (by decide) (by omega) (by omega) (fun h31 => ?_) (fun h31 => ?_)
      · refine v_iconst dX5_find_99 ?_
        exact v_zret dX5_find_100 rfl ⟨(Nat.le_of_ble_eq_true rfl), (Nat.le_of_ble_eq_true rfl)⟩ (by omega) ⟨s, hX, hO, hE, by omega, by omega, by omega, by omega, by omega⟩
      · refine v_aloadn dX5_find_34 rfl ?_
        refine v_aloadn dX5_find_35 rfl ?_
        refine v_aloadn dX5_find_36 rfl ?_
        refine v_get dX5_find_37 gf_X5_24 (hH 8 0 (by decide)) rfl ?_
        refine v_iloadn dX5_find_40 rfl ?_
        refine v_callV (tX5_stop hX (by omega) (by omega)) lc_X5_44 ⟨(Nat.le_of_ble_eq_true rfl), (Nat.le_of_ble_eq_true rfl)⟩ dX5_find_41 rfl rfl (Nat.le_of_ble_eq_true rfl) ⟨(Nat.le_of_ble_eq_true rfl), (Nat.le_of_ble_eq_true rfl)⟩ ⟨_, _, _, _, hH 8 0 (by decide), rfl⟩ (kP fun r41 hr41 hp41 => ?_)
        refine v_put dX5_find_44 pf_X5_27 (hH 8 0 (by decide)) rfl rfl (Nat.le_of_ble_eq_true rfl) ?_
        generalize hMe44 : wup _ _ _ = M44
        have hO : wO cntX fw Mi M44 := by rw [← hMe44]; exact hO.up (k := 8) (i := 0) (by decide)
        obtain ⟨s44, hs44⟩ : ∃ z, z = ups s 8 0 (4) (r41) := ⟨_, rfl⟩
        have hH : wH cntX (cellX G fw) fw s44 M44 := by rw [← hMe44, hs44]; exact wH.up hJ hH (k := 8) (i := 0) (4) (r41) (by decide) rfl
        have hX : wX G fw s44 M44 := ⟨hJ, hH, invX_p hI (fun k hk => by rw [hs44]; exact ups_kf _ hk) (by rw [hs44]; simp [ups_at, upz] <;> omega)⟩
        obtain ⟨hJ, hH, hI⟩ := id hX
        have h8 := hX.2.2.2.2.2.1
        have hE : ∀ k, k ≠ 8 → s44 k = si k := fun k hk => (show s44 k = s k by rw [hs44, ups_kf _ hk]).trans (hE k hk)
        have e44_1 : s44 8 0 1 = s 8 0 1 := by rw [hs44, ups_at]; rfl
        have e44_2 : s44 8 0 2 = s 8 0 2 := by rw [hs44, ups_at]; rfl
        have e44_3 : s44 8 0 3 = s 8 0 3 := by rw [hs44, ups_at]; rfl
        have e44_4 : s44 8 0 4 = (r41) := by rw [hs44, ups_at]; rfl
        refine v_aloadn dX5_find_47 rfl ?_
        refine v_get dX5_find_48 gf_X5_27 (hH 8 0 (by decide)) rfl ?_
        refine v_aloadn dX5_find_51 rfl ?_
        refine v_get dX5_find_52 gf_X5_24 (hH 8 0 (by decide)) rfl ?_
        refine v_isub dX5_find_55 ?_
        refine v_iloadn dX5_find_56 rfl ?_
        refine v_icmp_lt 80 dX5_find_57 (by decide) (by omega) (by omega) (fun h57 => ?_) (fun h57 => ?_)
        · refine v_aloadn dX5_find_80 rfl ?_
          refine v_aloadn dX5_find_81 rfl ?_
          refine v_aloadn dX5_find_82 rfl ?_
          refine v_get dX5_find_83 gf_X5_27 (hH 8 0 (by decide)) rfl ?_
          refine v_iloadn dX5_find_86 rfl ?_
          refine v_callV (tX5_start hX (by omega) (by omega)) lc_X5_41 ⟨(Nat.le_of_ble_eq_true rfl), (Nat.le_of_ble_eq_true rfl)⟩ dX5_find_87 rfl rfl (Nat.le_of_ble_eq_true rfl) ⟨(Nat.le_of_ble_eq_true rfl), (Nat.le_of_ble_eq_true rfl)⟩ ⟨_, _, _, _, hH 8 0 (by decide), rfl⟩ (kP fun r87 hr87 hp87 => ?_)
          refine v_put dX5_find_90 pf_X5_24 (hH 8 0 (by decide)) rfl rfl (Nat.le_of_ble_eq_true rfl) ?_
          generalize hMe90 : wup _ _ _ = M90
          have hO : wO cntX fw Mi M90 := by rw [← hMe90]; exact hO.up (k := 8) (i := 0) (by decide)
          obtain ⟨s90, hs90⟩ : ∃ z, z = ups s44 8 0 (3) (r87) := ⟨_, rfl⟩
          have hH : wH cntX (cellX G fw) fw s90 M90 := by rw [← hMe90, hs90]; exact wH.up hJ hH (k := 8) (i := 0) (3) (r87) (by decide) rfl
          have hX : wX G fw s90 M90 := ⟨hJ, hH, invX_p hI (fun k hk => by rw [hs90]; exact ups_kf _ hk) (by rw [hs90]; simp [ups_at, upz] <;> omega)⟩
          obtain ⟨hJ, hH, hI⟩ := id hX
          have h8 := hX.2.2.2.2.2.1
          have hE : ∀ k, k ≠ 8 → s90 k = si k := fun k hk => (show s90 k = s44 k by rw [hs90, ups_kf _ hk]).trans (hE k hk)
          have e90_1 : s90 8 0 1 = s44 8 0 1 := by rw [hs90, ups_at]; rfl
          have e90_2 : s90 8 0 2 = s44 8 0 2 := by rw [hs90, ups_at]; rfl
          have e90_3 : s90 8 0 3 = (r87) := by rw [hs90, ups_at]; rfl
          have e90_4 : s90 8 0 4 = s44 8 0 4 := by rw [hs90, ups_at]; rfl
          refine v_iinc dX5_find_93 rfl (Nat.le_of_ble_eq_true rfl) ?_
          refine v_goto 18 dX5_find_96 (by decide) ?_
          refine wV.locs (lv' := [(0, .ref (fw 8 0)), (1, .int (gI n)), (2, .int (gI l)), (3, .int (gI d)), (4, .int (gI (_)))]) ⟨rfl, rfl, rfl, rfl, rfl, trivial⟩ (ih _ _ _ (by omega) (by omega) hX hO hE (by omega))
        · refine v_aloadn dX5_find_60 rfl ?_
          refine v_get dX5_find_61 gf_X5_21 (hH 8 0 (by decide)) rfl ?_
          refine v_iloadn dX5_find_64 rfl ?_
          refine v_icmp_ne 70 dX5_find_65 (by decide) (by omega) (by omega) (fun h65 => ?_) (fun h65 => ?_)
          · refine v_aloadn dX5_find_70 rfl ?_
            refine v_dup dX5_find_71 rfl ?_
            refine v_get dX5_find_72 gf_X5_21 (hH 8 0 (by decide)) rfl ?_
            refine v_iconst dX5_find_75 ?_
            refine v_iadd dX5_find_76 ?_
            refine v_put dX5_find_77 pf_X5_21 (hH 8 0 (by decide)) rfl rfl (Nat.le_of_ble_eq_true rfl) ?_
            generalize hMe77 : wup _ _ _ = M77
            have hO : wO cntX fw Mi M77 := by rw [← hMe77]; exact hO.up (k := 8) (i := 0) (by decide)
            obtain ⟨s77, hs77⟩ : ∃ z, z = ups s44 8 0 (2) (s44 8 0 2 + 1) := ⟨_, rfl⟩
            have hH : wH cntX (cellX G fw) fw s77 M77 := by rw [← hMe77, hs77]; exact wH.up hJ hH (k := 8) (i := 0) (2) (s44 8 0 2 + 1) (by decide) rfl
            have hX : wX G fw s77 M77 := ⟨hJ, hH, invX_p hI (fun k hk => by rw [hs77]; exact ups_kf _ hk) (by rw [hs77]; simp [ups_at, upz] <;> omega)⟩
            obtain ⟨hJ, hH, hI⟩ := id hX
            have h8 := hX.2.2.2.2.2.1
            have hE : ∀ k, k ≠ 8 → s77 k = si k := fun k hk => (show s77 k = s44 k by rw [hs77, ups_kf _ hk]).trans (hE k hk)
            have e77_1 : s77 8 0 1 = s44 8 0 1 := by rw [hs77, ups_at]; rfl
            have e77_2 : s77 8 0 2 = (s44 8 0 2 + 1) := by rw [hs77, ups_at]; rfl
            have e77_3 : s77 8 0 3 = s44 8 0 3 := by rw [hs77, ups_at]; rfl
            have e77_4 : s77 8 0 4 = s44 8 0 4 := by rw [hs77, ups_at]; rfl
            refine v_aloadn dX5_find_80 rfl ?_
            refine v_aloadn dX5_find_81 rfl ?_
            refine v_aloadn dX5_find_82 rfl ?_
            refine v_get dX5_find_83 gf_X5_27 (hH 8 0 (by decide)) rfl ?_
            refine v_iloadn dX5_find_86 rfl ?_
            refine v_callV (tX5_start hX (by omega) (by omega)) lc_X5_41 ⟨(Nat.le_of_ble_eq_true rfl), (Nat.le_of_ble_eq_true rfl)⟩ dX5_find_87 rfl rfl (Nat.le_of_ble_eq_true rfl) ⟨(Nat.le_of_ble_eq_true rfl), (Nat.le_of_ble_eq_true rfl)⟩ ⟨_, _, _, _, hH 8 0 (by decide), rfl⟩ (kP fun r87 hr87 hp87 => ?_)
            refine v_put dX5_find_90 pf_X5_24 (hH 8 0 (by decide)) rfl rfl (Nat.le_of_ble_eq_true rfl) ?_
            generalize hMe90 : wup _ _ _ = M90
            have hO : wO cntX fw Mi M90 := by rw [← hMe90]; exact hO.up (k := 8) (i := 0) (by decide)
            obtain ⟨s90, hs90⟩ : ∃ z, z = ups s77 8 0 (3) (r87) := ⟨_, rfl⟩
            have hH : wH cntX (cellX G fw) fw s90 M90 := by rw [← hMe90, hs90]; exact wH.up hJ hH (k := 8) (i := 0) (3) (r87) (by decide) rfl
            have hX : wX G fw s90 M90 := ⟨hJ, hH, invX_p hI (fun k hk => by rw [hs90]; exact ups_kf _ hk) (by rw [hs90]; simp [ups_at, upz] <;> omega)⟩
            obtain ⟨hJ, hH, hI⟩ := id hX
            have h8 := hX.2.2.2.2.2.1
            have hE : ∀ k, k ≠ 8 → s90 k = si k := fun k hk => (show s90 k = s77 k by rw [hs90, ups_kf _ hk]).trans (hE k hk)
            have e90_1 : s90 8 0 1 = s77 8 0 1 := by rw [hs90, ups_at]; rfl
            have e90_2 : s90 8 0 2 = s77 8 0 2 := by rw [hs90, ups_at]; rfl
            have e90_3 : s90 8 0 3 = (r87) := by rw [hs90, ups_at]; rfl
            have e90_4 : s90 8 0 4 = s77 8 0 4 := by rw [hs90, ups_at]; rfl
            refine v_iinc dX5_find_93 rfl (Nat.le_of_ble_eq_true rfl) ?_
            refine v_goto 18 dX5_find_96 (by decide) ?_
            refine wV.locs (lv' := [(0, .ref (fw 8 0)), (1, .int (gI n)), (2, .int (gI l)), (3, .int (gI d)), (4, .int (gI (_)))]) ⟨rfl, rfl, rfl, rfl, rfl, trivial⟩ (ih _ _ _ (by omega) (by omega) hX hO hE (by omega))
          · refine v_iconst dX5_find_68 ?_
            exact v_zret dX5_find_69 rfl ⟨(Nat.le_of_ble_eq_true rfl), (Nat.le_of_ble_eq_true rfl)⟩ (by omega) ⟨s44, hX, hO, hE, by omega, by omega, by omega, by omega, by omega⟩
set_option maxHeartbeats 4000000 in
set_option maxRecDepth 100000 in
theorem tX5_find {G : gG} {fw : Nat → Nat → Nat} {si : sG} {Mi : wM} (hX : wX G fw si Mi) {n l d : Int} (hn : rng n) (hl : rng l) (hd : bt (-60) d 4000) : wT G qX5_find 0 0 [.ref (fw 8 0), .int (gI n), .int (gI l), .int (gI d)] Mi (iP fun x M' => ∃ s', wX G fw s' M' ∧ wO cntX fw Mi M' ∧ (∀ k, k ≠ 8 → s' k = si k) ∧ s' 8 0 1 = si 8 0 1 ∧ bt 0 (s' 8 0 2) 4001 ∧ bt (-60) (s' 8 0 3) 4000 ∧ (x = 1 → bt (-60) (s' 8 0 4) 4000) ∧ (x = 0 ∨ x = 1)) := by
  refine wT.intro (by decide) (Nat.le_of_ble_eq_true rfl) (fun sz => ?_)
  obtain ⟨hJ, hH, hI⟩ := id hX
  have h8 := hX.2.2.2.2.2.1
  have hO : wO cntX fw Mi Mi := wO.rf
  have hE : ∀ k, k ≠ 8 → si k = si k := fun _ _ => rfl
  refine v_aloadn dX5_find_0 rfl ?_
  refine v_iconst dX5_find_1 ?_
  refine v_put dX5_find_2 pf_X5_21 (hH 8 0 (by decide)) rfl rfl (Nat.le_of_ble_eq_true rfl) ?_
  generalize hMe2 : wup _ _ _ = M2
  have hO : wO cntX fw Mi M2 := by rw [← hMe2]; exact hO.up (k := 8) (i := 0) (by decide)
  obtain ⟨s2, hs2⟩ : ∃ z, z = ups si 8 0 (2) (0) := ⟨_, rfl⟩
  have hH : wH cntX (cellX G fw) fw s2 M2 := by rw [← hMe2, hs2]; exact wH.up hJ hH (k := 8) (i := 0) (2) (0) (by decide) rfl
  have hX : wX G fw s2 M2 := ⟨hJ, hH, invX_p hI (fun k hk => by rw [hs2]; exact ups_kf _ hk) (by rw [hs2]; simp [ups_at, upz] <;> omega)⟩
  obtain ⟨hJ, hH, hI⟩ := id hX
  have h8 := hX.2.2.2.2.2.1
  have hE : ∀ k, k ≠ 8 → s2 k = si k := fun k hk => (show s2 k = si k by rw [hs2, ups_kf _ hk]).trans (hE k hk)
  have e2_1 : s2 8 0 1 = si 8 0 1 := by rw [hs2, ups_at]; rfl
  have e2_2 : s2 8 0 2 = (0) := by rw [hs2, ups_at]; rfl
  have e2_3 : s2 8 0 3 = si 8 0 3 := by rw [hs2, ups_at]; rfl
  have e2_4 : s2 8 0 4 = si 8 0 4 := by rw [hs2, ups_at]; rfl
  refine v_aloadn dX5_find_5 rfl ?_
  refine v_aloadn dX5_find_6 rfl ?_
  refine v_iconst dX5_find_7 ?_
  refine v_iloadn dX5_find_8 rfl ?_
  refine v_callV (tX5_start hX (by omega) (by omega)) lc_X5_41 ⟨(Nat.le_of_ble_eq_true rfl), (Nat.le_of_ble_eq_true rfl)⟩ dX5_find_9 rfl rfl (Nat.le_of_ble_eq_true rfl) ⟨(Nat.le_of_ble_eq_true rfl), (Nat.le_of_ble_eq_true rfl)⟩ ⟨_, _, _, _, hH 8 0 (by decide), rfl⟩ (kP fun r9 hr9 hp9 => ?_)
  refine v_put dX5_find_12 pf_X5_24 (hH 8 0 (by decide)) rfl rfl (Nat.le_of_ble_eq_true rfl) ?_
  generalize hMe12 : wup _ _ _ = M12
  have hO : wO cntX fw Mi M12 := by rw [← hMe12]; exact hO.up (k := 8) (i := 0) (by decide)
  obtain ⟨s12, hs12⟩ : ∃ z, z = ups s2 8 0 (3) (r9) := ⟨_, rfl⟩
  have hH : wH cntX (cellX G fw) fw s12 M12 := by rw [← hMe12, hs12]; exact wH.up hJ hH (k := 8) (i := 0) (3) (r9) (by decide) rfl
  have hX : wX G fw s12 M12 := ⟨hJ, hH, invX_p hI (fun k hk => by rw [hs12]; exact ups_kf _ hk) (by rw [hs12]; simp [ups_at, upz] <;> omega)⟩
  obtain ⟨hJ, hH, hI⟩ := id hX
  have h8 := hX.2.2.2.2.2.1
  have hE : ∀ k, k ≠ 8 → s12 k = si k := fun k hk => (show s12 k = s2 k by rw [hs12, ups_kf _ hk]).trans (hE k hk)
  have e12_1 : s12 8 0 1 = s2 8 0 1 := by rw [hs12, ups_at]; rfl
  have e12_2 : s12 8 0 2 = s2 8 0 2 := by rw [hs12, ups_at]; rfl
  have e12_3 : s12 8 0 3 = (r9) := by rw [hs12, ups_at]; rfl
  have e12_4 : s12 8 0 4 = s2 8 0 4 := by rw [hs12, ups_at]; rfl
  refine v_iconst dX5_find_15 ?_
  refine v_istore dX5_find_16 (Nat.le_of_ble_eq_true rfl) ?_
  refine wV.locs (lv' := [(0, .ref (fw 8 0)), (1, .int (gI n)), (2, .int (gI l)), (3, .int (gI d)), (4, .int (gI (0)))]) ⟨rfl, rfl, rfl, rfl, rfl, trivial⟩ (tX5_find_loop hn hl hd 4010 _ _ _ (by omega) (by omega) hX hO hE (by omega))
set_option maxHeartbeats 4000000 in
set_option maxRecDepth 100000 in
theorem tX5_howMany {G : gG} {fw : Nat → Nat → Nat} {s : sG} {M : wM} (hX : wX G fw s M) {l d : Int} (hl : rng l) (hd : bt (-60) d 4000) : wT G qX5_howMany 0 0 [.ref (fw 8 0), .int (gI l), .int (gI d)] M (iP fun x M' => bt 0 x 4001 ∧ ∃ s', wX G fw s' M' ∧ wO cntX fw M M' ∧ keepX s s') := by
  refine wT.intro (by decide) (Nat.le_of_ble_eq_true rfl) (fun sz => ?_)
  refine v_aloadn dX5_howMany_0 rfl ?_
  refine v_iconst dX5_howMany_1 ?_
  refine v_iloadn dX5_howMany_2 rfl ?_
  refine v_iloadn dX5_howMany_3 rfl ?_
  refine v_callV (tX5_find hX (by omega) hl hd) lc_X5_47 ⟨(Nat.le_of_ble_eq_true rfl), (Nat.le_of_ble_eq_true rfl)⟩ dX5_howMany_4 rfl rfl (Nat.le_of_ble_eq_true rfl) ⟨(Nat.le_of_ble_eq_true rfl), (Nat.le_of_ble_eq_true rfl)⟩ ⟨_, _, _, _, hX.2.1 8 0 (by decide), rfl⟩ (kI fun r4 M4 hr4 hp4 => ?_)
  obtain ⟨s4, hX4, hO4, hE4, e1, e2, e3, e4, e5⟩ := hp4
  refine v_pop dX5_howMany_7 rfl ?_
  refine v_aloadn dX5_howMany_8 rfl ?_
  refine v_get dX5_howMany_9 gf_X5_21 (hX4.2.1 8 0 (by decide)) rfl ?_
  exact v_iret dX5_howMany_12 rfl ⟨(Nat.le_of_ble_eq_true rfl), (Nat.le_of_ble_eq_true rfl)⟩ (by omega) ⟨by omega, s4, hX4, hO4, fun k i' hq => by rw [hE4 k (fun z => hq (Or.inl z))]⟩
set_option maxHeartbeats 4000000 in
set_option maxRecDepth 100000 in
theorem tX5_seen {G : gG} {fw : Nat → Nat → Nat} {s : sG} {M : wM} (hX : wX G fw s M) : wT G qX5_seen 0 0 [.ref (fw 8 0)] M (iP fun x M' => M' = M ∧ x = s 8 0 2) := by
  refine wT.intro (by decide) (Nat.le_of_ble_eq_true rfl) (fun sz => ?_)
  have h8 := hX.2.2.2.2.2.1
  refine v_aloadn dX5_seen_0 rfl ?_
  refine v_get dX5_seen_1 gf_X5_21 (hX.2.1 8 0 (by decide)) rfl ?_
  exact v_iret dX5_seen_4 rfl ⟨(Nat.le_of_ble_eq_true rfl), (Nat.le_of_ble_eq_true rfl)⟩ (by omega) ⟨rfl, rfl⟩
set_option maxHeartbeats 4000000 in
set_option maxRecDepth 100000 in
theorem tX5_edgeFound {G : gG} {fw : Nat → Nat → Nat} {s : sG} {M : wM} (hX : wX G fw s M) {w : Int} (hw : rng w) : wT G qX5_edgeFound 0 0 [.ref (fw 8 0), .int (gI w)] M (iP fun x M' => M' = M ∧ x = if w = 0 then s 8 0 3 else s 8 0 4) := by
  refine wT.intro (by decide) (Nat.le_of_ble_eq_true rfl) (fun sz => ?_)
  have h8 := hX.2.2.2.2.2.1
  refine v_iloadn dX5_edgeFound_0 rfl ?_
  refine v_if_ne 11 dX5_edgeFound_1 (by decide) (by omega) (fun h1 => ?_) (fun h1 => ?_)
  · refine v_aloadn dX5_edgeFound_11 rfl ?_
    refine v_get dX5_edgeFound_12 gf_X5_27 (hX.2.1 8 0 (by decide)) rfl ?_
    exact v_iret dX5_edgeFound_15 rfl ⟨(Nat.le_of_ble_eq_true rfl), (Nat.le_of_ble_eq_true rfl)⟩ (by omega) ⟨rfl, by split <;> first | rfl | omega⟩
  · refine v_aloadn dX5_edgeFound_4 rfl ?_
    refine v_get dX5_edgeFound_5 gf_X5_24 (hX.2.1 8 0 (by decide)) rfl ?_
    refine v_goto 15 dX5_edgeFound_8 (by decide) ?_
    exact v_iret dX5_edgeFound_15 rfl ⟨(Nat.le_of_ble_eq_true rfl), (Nat.le_of_ble_eq_true rfl)⟩ (by omega) ⟨rfl, by split <;> first | rfl | omega⟩
set_option maxHeartbeats 4000000 in
set_option maxRecDepth 100000 in
theorem tX5_clear {G : gG} {fw : Nat → Nat → Nat} {s : sG} {M : wM} (hX : wX G fw s M) : wT G qX5_clear 0 0 [.ref (fw 8 0)] M (vP fun M' => ∃ s', wX G fw s' M' ∧ wO cntX fw M M' ∧ s' = ups s 8 0 1 0) := by
  refine wT.intro (by decide) (Nat.le_of_ble_eq_true rfl) (fun sz => ?_)
  obtain ⟨hJ, hH, hI⟩ := id hX
  have hO : wO cntX fw M M := wO.rf
  have h8 := hX.2.2.2.2.2.1
  refine v_aloadn dX5_clear_0 rfl ?_
  refine v_iconst dX5_clear_1 ?_
  refine v_put dX5_clear_2 pf_X5_17 (hH 8 0 (by decide)) rfl rfl (Nat.le_of_ble_eq_true rfl) ?_
  generalize hMe2 : wup _ _ _ = M2
  have hO : wO cntX fw M M2 := by rw [← hMe2]; exact hO.up (k := 8) (i := 0) (by decide)
  obtain ⟨s2, hs2⟩ : ∃ z, z = ups s 8 0 (1) (0) := ⟨_, rfl⟩
  have hH : wH cntX (cellX G fw) fw s2 M2 := by rw [← hMe2, hs2]; exact wH.up hJ hH (k := 8) (i := 0) (1) (0) (by decide) rfl
  exact v_vret dX5_clear_5 rfl ⟨(Nat.le_of_ble_eq_true rfl), (Nat.le_of_ble_eq_true rfl)⟩ ⟨s2, ⟨hJ, hH, invX_p hI (fun k hk => by rw [hs2]; exact ups_kf _ hk) (by rw [hs2]; simp [ups_at, upz] <;> omega)⟩, hO, hs2⟩
set_option maxHeartbeats 4000000 in
set_option maxRecDepth 100000 in
theorem tX5_take {G : gG} {fw : Nat → Nat → Nat} {s : sG} {M : wM} (hX : wX G fw s M) : wT G qX5_take 0 0 [.ref (fw 8 0)] M (rP fun a M' => ∃ s' j, j < 11 ∧ a = fw 16 j ∧ wX G fw s' M' ∧ wO cntX fw M M' ∧ (j : Int) = (if 10 < s 8 0 1 then 10 else s 8 0 1) ∧ s' = ups s 8 0 1 ((j : Int) + 1)) := by
  refine wT.intro (by decide) (Nat.le_of_ble_eq_true rfl) (fun sz => ?_)
  obtain ⟨hJ, hH, hI⟩ := id hX
  have hO : wO cntX fw M M := wO.rf
  have h8 := hX.2.2.2.2.2.1
  refine v_aloadn dX5_take_0 rfl ?_
  refine v_get dX5_take_1 gf_X5_17 (hH 8 0 (by decide)) rfl ?_
  refine v_aloadn dX5_take_4 rfl ?_
  refine v_get dX5_take_5 gf_X5_11 (hH 8 0 (by decide)) rfl ?_
  refine v_alen (ty := .int) dX5_take_8 (hH 9 0 (by decide)) (by simp) rfl ?_
  refine v_iconst dX5_take_9 ?_
  refine v_isub dX5_take_10 ?_
  refine v_min dX5_take_11 lc_X5_31 (Nat.le_of_ble_eq_true rfl) (Nat.le_of_ble_eq_true rfl) ⟨(Nat.le_of_ble_eq_true rfl), (Nat.le_of_ble_eq_true rfl)⟩ (by omega) (by omega) ?_
  obtain ⟨j, hj⟩ : ∃ j : Nat, (j : Int) = (if (11 : Int) - 1 < s 8 0 1 then 11 - 1 else s 8 0 1) := ⟨(if (11 : Int) - 1 < s 8 0 1 then 11 - 1 else s 8 0 1).toNat, by split <;> omega⟩
  have hj2 : j < 11 := by split at hj <;> omega
  refine wV.stk (st' := [.int (gI (j : Int))]) (by rw [hj]; rfl) ?_
  refine v_istoren dX5_take_14 (Nat.le_of_ble_eq_true rfl) ?_
  refine v_aloadn dX5_take_15 rfl ?_
  refine v_iloadn dX5_take_16 rfl ?_
  refine v_iconst dX5_take_17 ?_
  refine v_iadd dX5_take_18 ?_
  refine v_put dX5_take_19 pf_X5_17 (hH 8 0 (by decide)) rfl rfl (Nat.le_of_ble_eq_true rfl) ?_
  generalize hMe19 : wup _ _ _ = M19
  have hO : wO cntX fw M M19 := by rw [← hMe19]; exact hO.up (k := 8) (i := 0) (by decide)
  obtain ⟨s19, hs19⟩ : ∃ z, z = ups s 8 0 (1) ((j : Int) + 1) := ⟨_, rfl⟩
  have hH : wH cntX (cellX G fw) fw s19 M19 := by rw [← hMe19, hs19]; exact wH.up hJ hH (k := 8) (i := 0) (1) ((j : Int) + 1) (by decide) rfl
  refine v_aloadn dX5_take_22 rfl ?_
  refine v_get dX5_take_23 gf_X5_11 (hH 8 0 (by decide)) rfl ?_
  refine v_iloadn dX5_take_26 rfl ?_
  refine v_aald2 (Cn := "WavePairs$Pair") dX5_take_27 (hH 9 0 (by decide)) (by simp) (by omega) (by omega) (by decide) ?_
  exact v_aret dX5_take_28 rfl ⟨(Nat.le_of_ble_eq_true rfl), (Nat.le_of_ble_eq_true rfl)⟩ ⟨s19, j, hj2, by simp, ⟨hJ, hH, invX_p hI (fun k hk => by rw [hs19]; exact ups_kf _ hk) (by rw [hs19]; simp [ups_at, upz] <;> omega)⟩, hO, by rw [hj]; rfl, hs19⟩
