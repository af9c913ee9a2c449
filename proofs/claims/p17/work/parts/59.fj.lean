set_option maxHeartbeats 4000000 in
set_option maxRecDepth 100000 in
theorem fX5_start_in {sz : Nat} {M0 : wM} {G : gG} {fw : Nat → Nat → Nat} {s : sG} {M : wM} (hX : wX G fw s M) (hA : aS s) {f d : Int} (hf : bt 0 f 4000) (hd : bt (-60) d 4000) {u b : Int} {Post : Option Value → wM → Prop} (hbd : bt 0 b 4000 ∧ b < d) (hk : ∀ z, bt b z d → (∀ v, b ≤ v → v < z → ¬ aW s v) → (z = b → aW s b) → wV G qX5_start 0 0 sz M0 0 0 58 [(0, .ref (fw 8 0)), (1, .int (gI f)), (2, .int (gI d)), (3, .int (gI z)), (4, .int (gI u)), (5, .int (gI b))] [] M Post) : ∀ (k : Nat) (z i : Int), 0 ≤ 12 - i → 12 - i < (k : Int) → (bt 0 i 11 ∧ i ≤ s 8 0 1) → (bt b z d) → (∀ v, b ≤ v → v < z → ¬ aW s v) → (z = b → ∀ j : Nat, (j : Int) < i → pW s j b) → wV G qX5_start 0 0 sz M0 0 0 24 [(0, .ref (fw 8 0)), (1, .int (gI f)), (2, .int (gI d)), (3, .int (gI z)), (4, .int (gI u)), (5, .int (gI b)), (6, .int (gI i))] [] M (Post) := by
  intro k
  induction k with
  | zero =>
    intros
    omega
  | succ k ih =>
    intro z i hmz hml h1 h2 h3 h4
    have h8 := hX.2.2.2.2.2.1
    refine v_iload dX5_start_24 rfl ?_
    refine v_aloadn dX5_start_26 rfl ?_
    refine v_get dX5_start_27 gf_X5_17 (hX.2.1 8 0 (by decide)) rfl ?_
    refine v_icmp_ge 58 dX5_start_30 (by decide) (by omega) (by omega) (fun h30 => ?_) (fun h30 => ?_)
    · refine wV.locs (lv' := [(0, .ref (fw 8 0)), (1, .int (gI f)), (2, .int (gI d)), (3, .int (gI z)), (4, .int (gI u)), (5, .int (gI b))]) ⟨rfl, rfl, rfl, rfl, rfl, rfl, trivial⟩ (hk _ h2 h3 (fun e j hj => h4 e j (by omega)))
    · refine v_iloadn dX5_start_33 rfl ?_
      refine v_iloadn dX5_start_34 rfl ?_
      refine v_icmp_ge 58 dX5_start_35 (by decide) (by omega) (by omega) (fun h35 => ?_) (fun h35 => ?_)
      · refine wV.locs (lv' := [(0, .ref (fw 8 0)), (1, .int (gI f)), (2, .int (gI d)), (3, .int (gI z)), (4, .int (gI u)), (5, .int (gI b))]) ⟨rfl, rfl, rfl, rfl, rfl, rfl, trivial⟩ (hk _ h2 h3 (fun e j hj => h4 e j (by omega)))
      · refine v_aloadn dX5_start_38 rfl ?_
        refine v_get dX5_start_39 gf_X5_11 (hX.2.1 8 0 (by decide)) rfl ?_
        refine v_iload dX5_start_42 rfl ?_
        refine v_aald2 (Cn := "WavePairs$Pair") dX5_start_44 (hX.2.1 9 0 (by decide)) (by simp) (by omega) (by omega) (by decide) ?_
        refine v_iloadn dX5_start_45 rfl ?_
        refine v_iloadn dX5_start_46 rfl ?_
        refine v_iconst dX5_start_47 ?_
        refine v_callV (fX3_nextTick hX (by omega) (hA _ (by omega)) (by omega) (by omega) (by omega)) lc_X5_37 ⟨(Nat.le_of_ble_eq_true rfl), (Nat.le_of_ble_eq_true rfl)⟩ dX5_start_48 rfl rfl (Nat.le_of_ble_eq_true rfl) ⟨(Nat.le_of_ble_eq_true rfl), (Nat.le_of_ble_eq_true rfl)⟩ ⟨_, _, _, _, hX.2.1 16 _ (by simp [cntX]; omega), rfl⟩ (kP fun r48 hr48 hp48 => ?_)
        obtain ⟨q1, q2, q3, q4, q5⟩ : z < d ∧ z ≤ r48 ∧ r48 ≤ d ∧ (r48 < d → (pW s i.toNat r48 ↔ (1 : Int) = 1)) ∧ ∀ v, z ≤ v → v < r48 → ¬ (pW s i.toNat v ↔ (1 : Int) = 1) := by
          rcases hp48 with ⟨c1, c2⟩ | c
          · omega
          · exact c
        clear hp48
        refine v_istoren dX5_start_51 (Nat.le_of_ble_eq_true rfl) ?_
        refine v_iinc dX5_start_52 rfl (Nat.le_of_ble_eq_true rfl) ?_
        refine v_goto 24 dX5_start_55 (by decide) ?_
        refine wV.locs (lv' := [(0, .ref (fw 8 0)), (1, .int (gI f)), (2, .int (gI d)), (3, .int (gI _)), (4, .int (gI u)), (5, .int (gI b)), (6, .int (gI _))]) ⟨rfl, rfl, rfl, rfl, rfl, rfl, rfl, trivial⟩ (ih _ _ (by omega) (by omega) (by omega) (by omega) (fun v v1 v2 => by
                    rcases (show v < z ∨ z ≤ v by omega) with c | c
                    · exact h3 v v1 c
                    · exact fun hh => q5 v c v2 ⟨fun _ => rfl, fun _ => hh i.toNat (by omega)⟩) (fun e j hj => by
                    rcases (show (j : Int) < i ∨ j = i.toNat by omega) with c | c
                    · exact h4 (by omega) j c
                    · rw [c, ← e]; exact (q4 (by omega)).mpr rfl))
set_option maxHeartbeats 4000000 in
set_option maxRecDepth 100000 in
theorem fX5_start_out {sz : Nat} {M0 : wM} {G : gG} {fw : Nat → Nat → Nat} {s : sG} {M : wM} (hX : wX G fw s M) (hA : aS s) {f d : Int} (hf : bt 0 f 4000) (hd : bt (-60) d 4000) : ∀ (k : Nat) (z u : Int), 0 ≤ 4002 - u → 4002 - u < (k : Int) → (bt 0 u 4001) → (f + u ≤ z ∧ (z ≤ d ∨ z = f) ∧ z ≤ 4000) → (∀ v, f ≤ v → v < z → v < d → ¬ aW s v) → wV G qX5_start 0 0 sz M0 0 0 5 [(0, .ref (fw 8 0)), (1, .int (gI f)), (2, .int (gI d)), (3, .int (gI z)), (4, .int (gI u))] [] M (iP fun x M' => M' = M ∧ fstP (aW s) f d x) := by
  intro k
  induction k with
  | zero =>
    intros
    omega
  | succ k ih =>
    intro z u hmz hml h1 h2 h3
    have h8 := hX.2.2.2.2.2.1
    refine v_iload dX5_start_5 rfl ?_
    refine v_sipush dX5_start_7 (by decide) ?_
    refine v_icmp_gt 72 dX5_start_10 (by decide) (by omega) (by omega) (fun h10 => ?_) (fun h10 => ?_)
    · refine v_iloadn dX5_start_72 rfl ?_
      exact v_iret dX5_start_73 rfl ⟨(Nat.le_of_ble_eq_true rfl), (Nat.le_of_ble_eq_true rfl)⟩ (by omega) ⟨rfl, by
      rcases (show d ≤ f ∨ f < d by omega) with c | c
      · exact Or.inl ⟨c, rfl⟩
      · exact Or.inr ⟨c, by omega, by omega, fun q => absurd q (by omega), fun v v1 v2 => h3 v v1 (by omega) v2⟩⟩
    · refine v_iloadn dX5_start_13 rfl ?_
      refine v_iloadn dX5_start_14 rfl ?_
      refine v_icmp_ge 72 dX5_start_15 (by decide) (by omega) (by omega) (fun h15 => ?_) (fun h15 => ?_)
      · refine v_iloadn dX5_start_72 rfl ?_
        exact v_iret dX5_start_73 rfl ⟨(Nat.le_of_ble_eq_true rfl), (Nat.le_of_ble_eq_true rfl)⟩ (by omega) ⟨rfl, by
      rcases (show d ≤ f ∨ f < d by omega) with c | c
      · exact Or.inl ⟨c, rfl⟩
      · exact Or.inr ⟨c, by omega, by omega, fun q => absurd q (by omega), fun v v1 v2 => h3 v v1 (by omega) v2⟩⟩
      · refine v_iloadn dX5_start_18 rfl ?_
        refine v_istore dX5_start_19 (Nat.le_of_ble_eq_true rfl) ?_
        refine v_iconst dX5_start_21 ?_
        refine v_istore dX5_start_22 (Nat.le_of_ble_eq_true rfl) ?_
        refine wV.locs (lv' := [(0, .ref (fw 8 0)), (1, .int (gI f)), (2, .int (gI d)), (3, .int (gI z)), (4, .int (gI u)), (5, .int (gI z)), (6, .int (gI 0))]) ⟨rfl, rfl, rfl, rfl, rfl, rfl, rfl, trivial⟩ (fX5_start_in hX hA hf hd (by omega) (fun y y1 y2 y3 => ?_) 20 z 0 (by omega) (by omega) (by omega) (by omega) (fun v v1 v2 => by omega) (fun _ j hj => by omega))
        refine v_iloadn dX5_start_58 rfl ?_
        refine v_iload dX5_start_59 rfl ?_
        refine v_icmp_ne 66 dX5_start_61 (by decide) (by omega) (by omega) (fun h61 => ?_) (fun h61 => ?_)
        · refine v_iinc dX5_start_66 rfl (Nat.le_of_ble_eq_true rfl) ?_
          refine v_goto 5 dX5_start_69 (by decide) ?_
          refine wV.locs (lv' := [(0, .ref (fw 8 0)), (1, .int (gI f)), (2, .int (gI d)), (3, .int (gI _)), (4, .int (gI _))]) ⟨rfl, rfl, rfl, rfl, rfl, trivial⟩ (ih _ _ (by omega) (by omega) (by omega) (by omega) (fun v v1 v2 v3 => (show v < z ∨ z ≤ v by omega).elim (fun c => h3 v v1 c v3) (fun c => y2 v c v2)))
        · refine v_iloadn dX5_start_64 rfl ?_
          exact v_iret dX5_start_65 rfl ⟨(Nat.le_of_ble_eq_true rfl), (Nat.le_of_ble_eq_true rfl)⟩ (by omega) ⟨rfl, Or.inr ⟨by omega, by omega, by omega, fun _ => by rw [show y = z by omega]; exact y3 (by omega), fun v v1 v2 => h3 v v1 (by omega) (by omega)⟩⟩
set_option maxHeartbeats 4000000 in
set_option maxRecDepth 100000 in
theorem fX5_start {G : gG} {fw : Nat → Nat → Nat} {s : sG} {M : wM} (hX : wX G fw s M) (hA : aS s) {f d : Int} (hf : bt 0 f 4000) (hd : bt (-60) d 4000) : wT G qX5_start 0 0 [.ref (fw 8 0), .int (gI f), .int (gI d)] M (iP fun x M' => M' = M ∧ fstP (aW s) f d x) := by
  refine wT.intro (by decide) (Nat.le_of_ble_eq_true rfl) (fun sz => ?_)
  refine v_iloadn dX5_start_0 rfl ?_
  refine v_istoren dX5_start_1 (Nat.le_of_ble_eq_true rfl) ?_
  refine v_iconst dX5_start_2 ?_
  refine v_istore dX5_start_3 (Nat.le_of_ble_eq_true rfl) ?_
  refine wV.locs (lv' := [(0, .ref (fw 8 0)), (1, .int (gI f)), (2, .int (gI d)), (3, .int (gI (f))), (4, .int (gI (0)))]) ⟨rfl, rfl, rfl, rfl, rfl, trivial⟩ (fX5_start_out hX hA hf hd 4010 _ _ (by omega) (by omega) (by omega) (by omega) (fun v v1 v2 => by omega))
set_option maxHeartbeats 4000000 in
set_option maxRecDepth 100000 in
theorem fX5_stop_loop {sz : Nat} {M0 : wM} {G : gG} {fw : Nat → Nat → Nat} {s : sG} {M : wM} (hX : wX G fw s M) (hA : aS s) {f d : Int} (hf : bt 0 f 4000) (hd : bt (-60) d 4000) (hfd : f < d) : ∀ (k : Nat) (z i : Int), 0 ≤ 12 - i → 12 - i < (k : Int) → (bt 0 i 11 ∧ i ≤ s 8 0 1) → (bt f z d) → (fstP (fun v => ∃ j : Nat, (j : Int) < i ∧ ¬ pW s j v) f d z) → wV G qX5_stop 0 0 sz M0 0 0 5 [(0, .ref (fw 8 0)), (1, .int (gI f)), (2, .int (gI d)), (3, .int (gI z)), (4, .int (gI i))] [] M (iP fun x M' => M' = M ∧ fstP (fun v => ¬ aW s v) f d x) := by
  intro k
  induction k with
  | zero =>
    intros
    omega
  | succ k ih =>
    intro z i hmz hml h1 h2 h3
    have h8 := hX.2.2.2.2.2.1
    refine v_iload dX5_stop_5 rfl ?_
    refine v_aloadn dX5_stop_7 rfl ?_
    refine v_get dX5_stop_8 gf_X5_17 (hX.2.1 8 0 (by decide)) rfl ?_
    refine v_icmp_ge 34 dX5_stop_11 (by decide) (by omega) (by omega) (fun h11 => ?_) (fun h11 => ?_)
    · refine v_iloadn dX5_stop_34 rfl ?_
      exact v_iret dX5_stop_35 rfl ⟨(Nat.le_of_ble_eq_true rfl), (Nat.le_of_ble_eq_true rfl)⟩ (by omega) ⟨rfl, stop_end (by omega) h3⟩
    · refine v_aloadn dX5_stop_14 rfl ?_
      refine v_get dX5_stop_15 gf_X5_11 (hX.2.1 8 0 (by decide)) rfl ?_
      refine v_iload dX5_stop_18 rfl ?_
      refine v_aald2 (Cn := "WavePairs$Pair") dX5_stop_20 (hX.2.1 9 0 (by decide)) (by simp) (by omega) (by omega) (by decide) ?_
      refine v_iloadn dX5_stop_21 rfl ?_
      refine v_iloadn dX5_stop_22 rfl ?_
      refine v_iconst dX5_stop_23 ?_
      refine v_callV (fX3_nextTick hX (by omega) (hA _ (by omega)) (by omega) (by omega) (by omega)) lc_X5_37 ⟨(Nat.le_of_ble_eq_true rfl), (Nat.le_of_ble_eq_true rfl)⟩ dX5_stop_24 rfl rfl (Nat.le_of_ble_eq_true rfl) ⟨(Nat.le_of_ble_eq_true rfl), (Nat.le_of_ble_eq_true rfl)⟩ ⟨_, _, _, _, hX.2.1 16 _ (by simp [cntX]; omega), rfl⟩ (kP fun r24 hr24 hp24 => ?_)
      have hst := stop_step (by omega) hfd h3 hp24
      have hbb : bt f r24 d := by rcases hst with ⟨c1, c2⟩ | ⟨c1, c2, c3, -⟩ <;> omega
      refine v_istoren dX5_stop_27 (Nat.le_of_ble_eq_true rfl) ?_
      refine v_iinc dX5_stop_28 rfl (Nat.le_of_ble_eq_true rfl) ?_
      refine v_goto 5 dX5_stop_31 (by decide) ?_
      refine wV.locs (lv' := [(0, .ref (fw 8 0)), (1, .int (gI f)), (2, .int (gI d)), (3, .int (gI _)), (4, .int (gI _))]) ⟨rfl, rfl, rfl, rfl, rfl, trivial⟩ (ih _ _ (by omega) (by omega) (by omega) (by omega) hst)
set_option maxHeartbeats 4000000 in
set_option maxRecDepth 100000 in
theorem fX5_stop {G : gG} {fw : Nat → Nat → Nat} {s : sG} {M : wM} (hX : wX G fw s M) (hA : aS s) {f d : Int} (hf : bt 0 f 4000) (hd : bt (-60) d 4000) (hfd : f < d) : wT G qX5_stop 0 0 [.ref (fw 8 0), .int (gI f), .int (gI d)] M (iP fun x M' => M' = M ∧ fstP (fun v => ¬ aW s v) f d x) := by
  refine wT.intro (by decide) (Nat.le_of_ble_eq_true rfl) (fun sz => ?_)
  have h8 := hX.2.2.2.2.2.1
  refine v_iloadn dX5_stop_0 rfl ?_
  refine v_istoren dX5_stop_1 (Nat.le_of_ble_eq_true rfl) ?_
  refine v_iconst dX5_stop_2 ?_
  refine v_istore dX5_stop_3 (Nat.le_of_ble_eq_true rfl) ?_
  refine wV.locs (lv' := [(0, .ref (fw 8 0)), (1, .int (gI f)), (2, .int (gI d)), (3, .int (gI (d))), (4, .int (gI (0)))]) ⟨rfl, rfl, rfl, rfl, rfl, trivial⟩ (fX5_stop_loop hX hA hf hd hfd 20 _ _ (by omega) (by omega) (by omega) (by omega) (Or.inr ⟨hfd, by omega, by omega, fun q => absurd q (by omega), fun v v1 v2 q => by obtain ⟨j, hj, -⟩ := q; omega⟩))
