theorem start_at {A : Int → Prop} {l d f t : Int} (hl : 1 ≤ l) (hf : 0 ≤ f) (h0 : f = 0 ∨ (f ≤ d ∧ (f < d → ¬ A f))) (h : fstP A f d t) (hd : f ≤ d) : cS A l d t = cS A l d f ∧ bt f t d ∧ (t = d ∨ (A t ∧ (t = 0 ∨ ¬ A (t - 1)))) ∧ (f < d → 0 < f → f < t) := by
  rcases h with ⟨a1, a2⟩ | ⟨a1, a2, a3, a4, a5⟩
  · have : t = f := by omega
    subst this
    exact ⟨rfl, by omega, Or.inl (by omega), fun _ _ => by omega⟩
  · refine ⟨c_gap hl hf a2 a5, ⟨a2, a3⟩, ?_, fun q1 q2 => ?_⟩
    · rcases (show t = d ∨ t < d by omega) with c | c
      · exact Or.inl c
      · refine Or.inr ⟨a4 c, ?_⟩
        rcases (show t = f ∨ f < t by omega) with e | e
        · rcases h0 with h0 | h0
          · exact Or.inl (by omega)
          · exact absurd (e ▸ a4 c) (h0.2 a1)
        · exact Or.inr (a5 (t - 1) (by omega) (by omega))
    · rcases (show t = f ∨ f < t by omega) with e | e
      · rcases h0 with h0 | h0
        · omega
        · exact absurd (e ▸ a4 (by omega)) (h0.2 a1)
      · exact e
set_option maxHeartbeats 4000000 in
set_option maxRecDepth 100000 in
theorem fX5_find_loop {sz : Nat} {M0 : wM} {G : gG} {fw : Nat → Nat → Nat} {si : sG} {Mi : wM} (hA : aS si) {n l d : Int} (hn : rng n) (hl : bt 1 l 4000) (hd : bt 0 d 4000) : ∀ (k : Nat) (s : sG) (M : wM) (u : Int), 0 ≤ 4002 - u → 4002 - u < (k : Int) → (wX G fw s M) → (wO cntX fw Mi M) → (∀ k, k ≠ 8 → s k = si k) → (bt 0 u 4001 ∧ s 8 0 1 = si 8 0 1 ∧ bt u (s 8 0 3) d ∧ (0 ≤ n → s 8 0 2 ≤ n)) → (s 8 0 2 = cS (aW si) l d (s 8 0 3)) → (s 8 0 3 = d ∨ (aW si (s 8 0 3) ∧ (s 8 0 3 = 0 ∨ ¬ aW si (s 8 0 3 - 1)))) → wV G qX5_find 0 0 sz M0 0 0 18 [(0, .ref (fw 8 0)), (1, .int (gI n)), (2, .int (gI l)), (3, .int (gI d)), (4, .int (gI u))] [] M (iP fun x M' => ∃ s', wX G fw s' M' ∧ wO cntX fw Mi M' ∧ (∀ k, k ≠ 8 → s' k = si k) ∧ s' 8 0 1 = si 8 0 1 ∧ ((x = 1 ∧ spP (aW si) l d n (s' 8 0 3) (s' 8 0 4)) ∨ (x = 0 ∧ s' 8 0 2 = cS (aW si) l d d ∧ (0 ≤ n → cS (aW si) l d d ≤ n)))) := by
  intro k
  induction k with
  | zero =>
    intros
    omega
  | succ k ih =>
    intro s M u hmz hml hX hO hE h1 h2 h3
    obtain ⟨hJ, hH, hI⟩ := id hX
    have h8 := hX.2.2.2.2.2.1
    refine v_iload dX5_find_18 rfl ?_
    refine v_sipush dX5_find_20 (by decide) ?_
    refine v_icmp_gt 99 dX5_find_23 (by decide) (by omega) (by omega) (fun h23 => ?_) (fun h23 => ?_)
    · refine v_iconst dX5_find_99 ?_
      exact v_zret dX5_find_100 rfl ⟨(Nat.le_of_ble_eq_true rfl), (Nat.le_of_ble_eq_true rfl)⟩ (by omega) ⟨s, hX, hO, hE, by omega, Or.inr ⟨rfl, by rw [h2, show s 8 0 3 = d by omega], fun q => by have e : cS (aW si) l d (s 8 0 3) = cS (aW si) l d d := (by rw [show s 8 0 3 = d by omega]); rw [← e, ← h2]; omega⟩⟩
    · refine v_aloadn dX5_find_26 rfl ?_
      refine v_get dX5_find_27 gf_X5_24 (hH 8 0 (by decide)) rfl ?_
      refine v_iloadn dX5_find_30 rfl ?_
      refine v_icmp_ge 99 dX5_find_31 (by decide) (by omega) (by omega) (fun h31 => ?_) (fun h31 => ?_)
      · refine v_iconst dX5_find_99 ?_
        exact v_zret dX5_find_100 rfl ⟨(Nat.le_of_ble_eq_true rfl), (Nat.le_of_ble_eq_true rfl)⟩ (by omega) ⟨s, hX, hO, hE, by omega, Or.inr ⟨rfl, by rw [h2, show s 8 0 3 = d by omega], fun q => by have e : cS (aW si) l d (s 8 0 3) = cS (aW si) l d d := (by rw [show s 8 0 3 = d by omega]); rw [← e, ← h2]; omega⟩⟩
      · refine v_aloadn dX5_find_34 rfl ?_
        refine v_aloadn dX5_find_35 rfl ?_
        refine v_aloadn dX5_find_36 rfl ?_
        refine v_get dX5_find_37 gf_X5_24 (hH 8 0 (by decide)) rfl ?_
        refine v_iloadn dX5_find_40 rfl ?_
        refine v_callV (fX5_stop hX (aS_8 hE (by omega) hA) (by omega) (by omega) (by omega)) lc_X5_44 ⟨(Nat.le_of_ble_eq_true rfl), (Nat.le_of_ble_eq_true rfl)⟩ dX5_find_41 rfl rfl (Nat.le_of_ble_eq_true rfl) ⟨(Nat.le_of_ble_eq_true rfl), (Nat.le_of_ble_eq_true rfl)⟩ ⟨_, _, _, _, hH 8 0 (by decide), rfl⟩ (kP fun r41 hr41 hp41 => ?_)
        have hst : fstP (fun v => ¬ aW si v) (s 8 0 3) d r41 := hp41.congr (fun t _ _ => not_congr (aW_8 hE (by omega) t))
        obtain ⟨b1, b2, b3, b4, b5⟩ : s 8 0 3 < d ∧ s 8 0 3 ≤ r41 ∧ r41 ≤ d ∧ (r41 < d → ¬ aW si r41) ∧ ∀ v, s 8 0 3 ≤ v → v < r41 → ¬ ¬ aW si v := by
          rcases hst with ⟨c1, c2⟩ | c
          · omega
          · exact c
        have h3b : aW si (s 8 0 3) ∧ (s 8 0 3 = 0 ∨ ¬ aW si (s 8 0 3 - 1)) := h3.elim (fun c => by omega) id
        have b6 : s 8 0 3 < r41 := by
          rcases (show s 8 0 3 < r41 ∨ r41 = s 8 0 3 by omega) with c | c
          · exact c
          · exact absurd (c ▸ h3b.1) (b4 (by omega))
        have hA5 : ∀ v, s 8 0 3 ≤ v → v < r41 → aW si v := fun v v1 v2 => Classical.not_not.mp (b5 v v1 v2)
        have hA6 : r41 = d ∨ ¬ aW si r41 := by
          rcases (show r41 = d ∨ r41 < d by omega) with c | c
          · exact Or.inl c
          · exact Or.inr (b4 c)
        have hrun := c_run (A := aW si) (d := d) hl.1 (by omega) b6 b3 hA5 h3b.2 hA6
        have hcg := cS_rg (A := aW si) (l := l) (d := d) (x := s 8 0 3) (by omega)
        rw [← h2] at hrun hcg
        clear hp41 hst
        refine v_put dX5_find_44 pf_X5_27 (hH 8 0 (by decide)) rfl rfl (Nat.le_of_ble_eq_true rfl) ?_
        generalize hMe44 : wup _ _ _ = M44
        have hO : wO cntX fw Mi M44 := by rw [← hMe44]; exact hO.up (k := 8) (i := 0) (by decide)
        obtain ⟨s44, hs44⟩ : ∃ z, z = ups s 8 0 (4) (r41) := ⟨_, rfl⟩
        have hH : wH cntX (cellX G fw) fw s44 M44 := by rw [← hMe44, hs44]; exact wH.up hJ hH (k := 8) (i := 0) (4) (r41) (by decide) rfl
        have hX : wX G fw s44 M44 := ⟨hJ, hH, invX_p hI (fun k hk => by rw [hs44]; exact ups_kf _ hk) (by rw [hs44]; simp [ups_at, upz] <;> omega)⟩
        obtain ⟨hJ, hH, hI⟩ := id hX
        have h8 := hX.2.2.2.2.2.1
        have hE : ∀ k, k ≠ 8 → s44 k = si k := fun k hk => (show s44 k = s k by rw [hs44, ups_kf _ hk]).trans (hE k hk)
        have e44_1 : s44 8 0 1 = s 8 0 1 := by rw [hs44, ups_at]; rfl
        have e44_2 : s44 8 0 2 = s 8 0 2 := by rw [hs44, ups_at]; rfl
        have e44_3 : s44 8 0 3 = s 8 0 3 := by rw [hs44, ups_at]; rfl
        have e44_4 : s44 8 0 4 = (r41) := by rw [hs44, ups_at]; rfl
        refine v_aloadn dX5_find_47 rfl ?_
        refine v_get dX5_find_48 gf_X5_27 (hH 8 0 (by decide)) rfl ?_
        refine v_aloadn dX5_find_51 rfl ?_
        refine v_get dX5_find_52 gf_X5_24 (hH 8 0 (by decide)) rfl ?_
        refine v_isub dX5_find_55 ?_
        refine v_iloadn dX5_find_56 rfl ?_
        refine v_icmp_lt 80 dX5_find_57 (by decide) (by omega) (by omega) (fun h57 => ?_) (fun h57 => ?_)
        · refine v_aloadn dX5_find_80 rfl ?_
          refine v_aloadn dX5_find_81 rfl ?_
          refine v_aloadn dX5_find_82 rfl ?_
          refine v_get dX5_find_83 gf_X5_27 (hH 8 0 (by decide)) rfl ?_
          refine v_iloadn dX5_find_86 rfl ?_
          refine v_callV (fX5_start hX (aS_8 hE (by omega) hA) (by omega) (by omega)) lc_X5_41 ⟨(Nat.le_of_ble_eq_true rfl), (Nat.le_of_ble_eq_true rfl)⟩ dX5_find_87 rfl rfl (Nat.le_of_ble_eq_true rfl) ⟨(Nat.le_of_ble_eq_true rfl), (Nat.le_of_ble_eq_true rfl)⟩ ⟨_, _, _, _, hH 8 0 (by decide), rfl⟩ (kP fun r87 hr87 hp87 => ?_)
          have hst2 : fstP (aW si) (s44 8 0 4) d r87 := hp87.congr (fun t _ _ => aW_8 hE (by omega) t)
          obtain ⟨g1, g2, g3, g4⟩ := start_at (l := l) hl.1 (by omega) (Or.inr ⟨by omega, fun q => by rw [show s44 8 0 4 = r41 by omega]; exact b4 (by omega)⟩) hst2 (by omega)
          rw [show s44 8 0 4 = r41 by omega] at g1 g2
          clear hp87 hst2
          rw [if_neg (by omega)] at hrun
          refine v_put dX5_find_90 pf_X5_24 (hH 8 0 (by decide)) rfl rfl (Nat.le_of_ble_eq_true rfl) ?_
          generalize hMe90 : wup _ _ _ = M90
          have hO : wO cntX fw Mi M90 := by rw [← hMe90]; exact hO.up (k := 8) (i := 0) (by decide)
          obtain ⟨s90, hs90⟩ : ∃ z, z = ups s44 8 0 (3) (r87) := ⟨_, rfl⟩
          have hH : wH cntX (cellX G fw) fw s90 M90 := by rw [← hMe90, hs90]; exact wH.up hJ hH (k := 8) (i := 0) (3) (r87) (by decide) rfl
          have hX : wX G fw s90 M90 := ⟨hJ, hH, invX_p hI (fun k hk => by rw [hs90]; exact ups_kf _ hk) (by rw [hs90]; simp [ups_at, upz] <;> omega)⟩
          obtain ⟨hJ, hH, hI⟩ := id hX
          have h8 := hX.2.2.2.2.2.1
          have hE : ∀ k, k ≠ 8 → s90 k = si k := fun k hk => (show s90 k = s44 k by rw [hs90, ups_kf _ hk]).trans (hE k hk)
          have e90_1 : s90 8 0 1 = s44 8 0 1 := by rw [hs90, ups_at]; rfl
          have e90_2 : s90 8 0 2 = s44 8 0 2 := by rw [hs90, ups_at]; rfl
          have e90_3 : s90 8 0 3 = (r87) := by rw [hs90, ups_at]; rfl
          have e90_4 : s90 8 0 4 = s44 8 0 4 := by rw [hs90, ups_at]; rfl
          refine v_iinc dX5_find_93 rfl (Nat.le_of_ble_eq_true rfl) ?_
          refine v_goto 18 dX5_find_96 (by decide) ?_
          refine wV.locs (lv' := [(0, .ref (fw 8 0)), (1, .int (gI n)), (2, .int (gI l)), (3, .int (gI d)), (4, .int (gI (_)))]) ⟨rfl, rfl, rfl, rfl, rfl, trivial⟩ (ih _ _ _ (by omega) (by omega) hX hO hE (by omega) (by rw [e90_2, e90_3]; omega) (by rw [e90_3]; exact g3))
        · refine v_aloadn dX5_find_60 rfl ?_
          refine v_get dX5_find_61 gf_X5_21 (hH 8 0 (by decide)) rfl ?_
          refine v_iloadn dX5_find_64 rfl ?_
          refine v_icmp_ne 70 dX5_find_65 (by decide) (by omega) (by omega) (fun h65 => ?_) (fun h65 => ?_)
          · refine v_aloadn dX5_find_70 rfl ?_
            refine v_dup dX5_find_71 rfl ?_
            refine v_get dX5_find_72 gf_X5_21 (hH 8 0 (by decide)) rfl ?_
            refine v_iconst dX5_find_75 ?_
            refine v_iadd dX5_find_76 ?_
            refine v_put dX5_find_77 pf_X5_21 (hH 8 0 (by decide)) rfl rfl (Nat.le_of_ble_eq_true rfl) ?_
            generalize hMe77 : wup _ _ _ = M77
            have hO : wO cntX fw Mi M77 := by rw [← hMe77]; exact hO.up (k := 8) (i := 0) (by decide)
            obtain ⟨s77, hs77⟩ : ∃ z, z = ups s44 8 0 (2) (s44 8 0 2 + 1) := ⟨_, rfl⟩
            have hH : wH cntX (cellX G fw) fw s77 M77 := by rw [← hMe77, hs77]; exact wH.up hJ hH (k := 8) (i := 0) (2) (s44 8 0 2 + 1) (by decide) rfl
            have hX : wX G fw s77 M77 := ⟨hJ, hH, invX_p hI (fun k hk => by rw [hs77]; exact ups_kf _ hk) (by rw [hs77]; simp [ups_at, upz] <;> omega)⟩
            obtain ⟨hJ, hH, hI⟩ := id hX
            have h8 := hX.2.2.2.2.2.1
            have hE : ∀ k, k ≠ 8 → s77 k = si k := fun k hk => (show s77 k = s44 k by rw [hs77, ups_kf _ hk]).trans (hE k hk)
            have e77_1 : s77 8 0 1 = s44 8 0 1 := by rw [hs77, ups_at]; rfl
            have e77_2 : s77 8 0 2 = (s44 8 0 2 + 1) := by rw [hs77, ups_at]; rfl
            have e77_3 : s77 8 0 3 = s44 8 0 3 := by rw [hs77, ups_at]; rfl
            have e77_4 : s77 8 0 4 = s44 8 0 4 := by rw [hs77, ups_at]; rfl
            refine v_aloadn dX5_find_80 rfl ?_
            refine v_aloadn dX5_find_81 rfl ?_
            refine v_aloadn dX5_find_82 rfl ?_
            refine v_get dX5_find_83 gf_X5_27 (hH 8 0 (by decide)) rfl ?_
            refine v_iloadn dX5_find_86 rfl ?_
            refine v_callV (fX5_start hX (aS_8 hE (by omega) hA) (by omega) (by omega)) lc_X5_41 ⟨(Nat.le_of_ble_eq_true rfl), (Nat.le_of_ble_eq_true rfl)⟩ dX5_find_87 rfl rfl (Nat.le_of_ble_eq_true rfl) ⟨(Nat.le_of_ble_eq_true rfl), (Nat.le_of_ble_eq_true rfl)⟩ ⟨_, _, _, _, hH 8 0 (by decide), rfl⟩ (kP fun r87 hr87 hp87 => ?_)
            have hst2 : fstP (aW si) (s77 8 0 4) d r87 := hp87.congr (fun t _ _ => aW_8 hE (by omega) t)
            obtain ⟨g1, g2, g3, g4⟩ := start_at (l := l) hl.1 (by omega) (Or.inr ⟨by omega, fun q => by rw [show s77 8 0 4 = r41 by omega]; exact b4 (by omega)⟩) hst2 (by omega)
            rw [show s77 8 0 4 = r41 by omega] at g1 g2
            clear hp87 hst2
            rw [if_pos (by omega)] at hrun
            refine v_put dX5_find_90 pf_X5_24 (hH 8 0 (by decide)) rfl rfl (Nat.le_of_ble_eq_true rfl) ?_
            generalize hMe90 : wup _ _ _ = M90
            have hO : wO cntX fw Mi M90 := by rw [← hMe90]; exact hO.up (k := 8) (i := 0) (by decide)
            obtain ⟨s90, hs90⟩ : ∃ z, z = ups s77 8 0 (3) (r87) := ⟨_, rfl⟩
            have hH : wH cntX (cellX G fw) fw s90 M90 := by rw [← hMe90, hs90]; exact wH.up hJ hH (k := 8) (i := 0) (3) (r87) (by decide) rfl
            have hX : wX G fw s90 M90 := ⟨hJ, hH, invX_p hI (fun k hk => by rw [hs90]; exact ups_kf _ hk) (by rw [hs90]; simp [ups_at, upz] <;> omega)⟩
            obtain ⟨hJ, hH, hI⟩ := id hX
            have h8 := hX.2.2.2.2.2.1
            have hE : ∀ k, k ≠ 8 → s90 k = si k := fun k hk => (show s90 k = s77 k by rw [hs90, ups_kf _ hk]).trans (hE k hk)
            have e90_1 : s90 8 0 1 = s77 8 0 1 := by rw [hs90, ups_at]; rfl
            have e90_2 : s90 8 0 2 = s77 8 0 2 := by rw [hs90, ups_at]; rfl
            have e90_3 : s90 8 0 3 = (r87) := by rw [hs90, ups_at]; rfl
            have e90_4 : s90 8 0 4 = s77 8 0 4 := by rw [hs90, ups_at]; rfl
            refine v_iinc dX5_find_93 rfl (Nat.le_of_ble_eq_true rfl) ?_
            refine v_goto 18 dX5_find_96 (by decide) ?_
            refine wV.locs (lv' := [(0, .ref (fw 8 0)), (1, .int (gI n)), (2, .int (gI l)), (3, .int (gI d)), (4, .int (gI (_)))]) ⟨rfl, rfl, rfl, rfl, rfl, trivial⟩ (ih _ _ _ (by omega) (by omega) hX hO hE (by omega) (by rw [e90_2, e90_3]; omega) (by rw [e90_3]; exact g3))
          · refine v_iconst dX5_find_68 ?_
            exact v_zret dX5_find_69 rfl ⟨(Nat.le_of_ble_eq_true rfl), (Nat.le_of_ble_eq_true rfl)⟩ (by omega) ⟨s44, hX, hO, hE, by omega, Or.inl ⟨rfl, by rw [e44_3, e44_4]; exact ⟨⟨by omega, b6, b3⟩, hA5, h3b.2, hA6, by omega, by omega⟩⟩⟩
set_option maxHeartbeats 4000000 in
set_option maxRecDepth 100000 in
theorem fX5_find {G : gG} {fw : Nat → Nat → Nat} {si : sG} {Mi : wM} (hX : wX G fw si Mi) (hA : aS si) {n l d : Int} (hn : rng n) (hl : bt 1 l 4000) (hd : bt 0 d 4000) : wT G qX5_find 0 0 [.ref (fw 8 0), .int (gI n), .int (gI l), .int (gI d)] Mi (iP fun x M' => ∃ s', wX G fw s' M' ∧ wO cntX fw Mi M' ∧ (∀ k, k ≠ 8 → s' k = si k) ∧ s' 8 0 1 = si 8 0 1 ∧ ((x = 1 ∧ spP (aW si) l d n (s' 8 0 3) (s' 8 0 4)) ∨ (x = 0 ∧ s' 8 0 2 = cS (aW si) l d d ∧ (0 ≤ n → cS (aW si) l d d ≤ n)))) := by
  refine wT.intro (by decide) (Nat.le_of_ble_eq_true rfl) (fun sz => ?_)
  obtain ⟨hJ, hH, hI⟩ := id hX
  have h8 := hX.2.2.2.2.2.1
  have hO : wO cntX fw Mi Mi := wO.rf
  have hE : ∀ k, k ≠ 8 → si k = si k := fun _ _ => rfl
  refine v_aloadn dX5_find_0 rfl ?_
  refine v_iconst dX5_find_1 ?_
  refine v_put dX5_find_2 pf_X5_21 (hH 8 0 (by decide)) rfl rfl (Nat.le_of_ble_eq_true rfl) ?_
  generalize hMe2 : wup _ _ _ = M2
  have hO : wO cntX fw Mi M2 := by rw [← hMe2]; exact hO.up (k := 8) (i := 0) (by decide)
  obtain ⟨s2, hs2⟩ : ∃ z, z = ups si 8 0 (2) (0) := ⟨_, rfl⟩
  have hH : wH cntX (cellX G fw) fw s2 M2 := by rw [← hMe2, hs2]; exact wH.up hJ hH (k := 8) (i := 0) (2) (0) (by decide) rfl
  have hX : wX G fw s2 M2 := ⟨hJ, hH, invX_p hI (fun k hk => by rw [hs2]; exact ups_kf _ hk) (by rw [hs2]; simp [ups_at, upz] <;> omega)⟩
  obtain ⟨hJ, hH, hI⟩ := id hX
  have h8 := hX.2.2.2.2.2.1
  have hE : ∀ k, k ≠ 8 → s2 k = si k := fun k hk => (show s2 k = si k by rw [hs2, ups_kf _ hk]).trans (hE k hk)
  have e2_1 : s2 8 0 1 = si 8 0 1 := by rw [hs2, ups_at]; rfl
  have e2_2 : s2 8 0 2 = (0) := by rw [hs2, ups_at]; rfl
  have e2_3 : s2 8 0 3 = si 8 0 3 := by rw [hs2, ups_at]; rfl
  have e2_4 : s2 8 0 4 = si 8 0 4 := by rw [hs2, ups_at]; rfl
  refine v_aloadn dX5_find_5 rfl ?_
  refine v_aloadn dX5_find_6 rfl ?_
  refine v_iconst dX5_find_7 ?_
  refine v_iloadn dX5_find_8 rfl ?_
  refine v_callV (fX5_start hX (aS_8 hE (by omega) hA) (by omega) (by omega)) lc_X5_41 ⟨(Nat.le_of_ble_eq_true rfl), (Nat.le_of_ble_eq_true rfl)⟩ dX5_find_9 rfl rfl (Nat.le_of_ble_eq_true rfl) ⟨(Nat.le_of_ble_eq_true rfl), (Nat.le_of_ble_eq_true rfl)⟩ ⟨_, _, _, _, hH 8 0 (by decide), rfl⟩ (kP fun r9 hr9 hp9 => ?_)
  have hst2 : fstP (aW si) 0 d r9 := hp9.congr (fun t _ _ => aW_8 hE (by omega) t)
  obtain ⟨g1, g2, g3, g4⟩ := start_at (l := l) hl.1 (by omega) (Or.inl rfl) hst2 (by omega)
  rw [cS_0] at g1
  clear hp9 hst2
  refine v_put dX5_find_12 pf_X5_24 (hH 8 0 (by decide)) rfl rfl (Nat.le_of_ble_eq_true rfl) ?_
  generalize hMe12 : wup _ _ _ = M12
  have hO : wO cntX fw Mi M12 := by rw [← hMe12]; exact hO.up (k := 8) (i := 0) (by decide)
  obtain ⟨s12, hs12⟩ : ∃ z, z = ups s2 8 0 (3) (r9) := ⟨_, rfl⟩
  have hH : wH cntX (cellX G fw) fw s12 M12 := by rw [← hMe12, hs12]; exact wH.up hJ hH (k := 8) (i := 0) (3) (r9) (by decide) rfl
  have hX : wX G fw s12 M12 := ⟨hJ, hH, invX_p hI (fun k hk => by rw [hs12]; exact ups_kf _ hk) (by rw [hs12]; simp [ups_at, upz] <;> omega)⟩
  obtain ⟨hJ, hH, hI⟩ := id hX
  have h8 := hX.2.2.2.2.2.1
  have hE : ∀ k, k ≠ 8 → s12 k = si k := fun k hk => (show s12 k = s2 k by rw [hs12, ups_kf _ hk]).trans (hE k hk)
  have e12_1 : s12 8 0 1 = s2 8 0 1 := by rw [hs12, ups_at]; rfl
  have e12_2 : s12 8 0 2 = s2 8 0 2 := by rw [hs12, ups_at]; rfl
  have e12_3 : s12 8 0 3 = (r9) := by rw [hs12, ups_at]; rfl
  have e12_4 : s12 8 0 4 = s2 8 0 4 := by rw [hs12, ups_at]; rfl
  refine v_iconst dX5_find_15 ?_
  refine v_istore dX5_find_16 (Nat.le_of_ble_eq_true rfl) ?_
  refine wV.locs (lv' := [(0, .ref (fw 8 0)), (1, .int (gI n)), (2, .int (gI l)), (3, .int (gI d)), (4, .int (gI (0)))]) ⟨rfl, rfl, rfl, rfl, rfl, trivial⟩ (fX5_find_loop hA hn hl hd 4010 _ _ _ (by omega) (by omega) hX hO hE (by omega) (by rw [e12_2, e12_3]; omega) (by rw [e12_3]; exact g3))
