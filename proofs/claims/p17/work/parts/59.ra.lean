/-! masks, what differs, how long it stays so -/
def mY (s : sG) (k : Nat) (t : Int) : Prop := (s 10 0 k < 0 ∧ s 8 0 k ≤ t ∧ t < s 9 0 k) ∨ (0 ≤ s 10 0 k ∧ vY s (s 10 0 k).toNat t = s 8 0 k)
theorem mY_t {s : sG} {k : Nat} {t : Int} (h : s 10 0 k < 0) : mY s k t ↔ (s 8 0 k ≤ t ∧ t < s 9 0 k) := ⟨fun z => z.elim (fun y => y.2) (fun y => absurd y.1 (by omega)), fun z => Or.inl ⟨h, z⟩⟩
theorem mY_w {s : sG} {k : Nat} {t : Int} (h : 0 ≤ s 10 0 k) : mY s k t ↔ vY s (s 10 0 k).toNat t = s 8 0 k := ⟨fun z => z.elim (fun y => absurd y.1 (by omega)) (fun y => y.2), fun z => Or.inr ⟨h, z⟩⟩
def imP (s : sG) (a t u i : Int) : Prop := (u = 1 ∧ ∃ k : Nat, (k : Int) < i ∧ s 7 0 k = a ∧ mY s k t) ∨ (u = 0 ∧ ∀ k : Nat, (k : Int) < i → s 7 0 k = a → ¬ mY s k t)
theorem im_old {s : sG} {a t u i : Int} (hu : u ≠ 0) (h : imP s a t u i) : imP s a t 1 (i + 1) := by
  rcases h with ⟨h1, k, h2, h3⟩ | ⟨h1, h2⟩
  · exact Or.inl ⟨rfl, k, by omega, h3⟩
  · exact absurd h1 hu
theorem im_new {s : sG} {a t i : Int} (hi : 0 ≤ i) (h1 : s 7 0 i.toNat = a) (h2 : mY s i.toNat t) : imP s a t 1 (i + 1) := Or.inl ⟨rfl, i.toNat, by omega, h1, h2⟩
theorem im_no {s : sG} {a t u i : Int} (hu : u = 0) (h : imP s a t u i) (hi : 0 ≤ i) (h1 : s 7 0 i.toNat = a → ¬ mY s i.toNat t) : imP s a t 0 (i + 1) := by
  rcases h with ⟨h2, -⟩ | ⟨-, h2⟩
  · omega
  · refine Or.inr ⟨rfl, fun k hk => ?_⟩
    rcases (show (k : Int) < i ∨ k = i.toNat by omega) with c | c
    · exact h2 k c
    · rw [c]; exact h1
def dY (s : sG) (a b t : Int) : Prop := agF (vY s a.toNat t) (vY s (12 + s 4 0 a.toNat).toNat (t + b)) (s 0 0 1) = 0 ∧ ∀ k : Nat, (k : Int) < s 0 0 8 → s 7 0 k = a → ¬ mY s k t
set_option maxHeartbeats 4000000 in
set_option maxRecDepth 100000 in
theorem fX7_isMasked_loop {sz : Nat} {M0 : wM} {G : gG} {fw : Nat → Nat → Nat} {s : sG} {M : wM} (hsY : srY s) (hY : wY G fw s M) {a t : Int} (ha : bt 0 a 11) (ht : rng t) : ∀ (k : Nat) (u i : Int), 0 ≤ 11 - i → 11 - i < (k : Int) → (bt 0 i (s 0 0 8)) → (bt 0 u 1) → (imP s a t u i) → wV G qX7_isMasked 0 0 sz M0 0 0 5 [(0, .ref (fw 0 0)), (1, .int (gI a)), (2, .int (gI t)), (3, .int (gI u)), (4, .int (gI i))] [] M (iP fun x M' => M' = M ∧ imP s a t x (s 0 0 8)) := by
  intro k
  induction k with
  | zero =>
    intros
    omega
  | succ k ih =>
    intro u i hmz hml h1 h3 h2
    have h0 := hY.2.2.1
    have hrw := hY.2.2.2.1
    have hnm := hY.2.2.2.2.1
    have hsh := hY.2.2.2.2.2.1
    have hmk := hY.2.2.2.2.2.2.1
    have hic := hY.2.2.2.2.2.2.2.1
    have hcn := hY.2.2.2.2.2.2.2.2.1
    have hgt := hY.2.2.2.2.2.2.2.2.2
    refine v_iload dX7_isMasked_5 rfl ?_
    refine v_aloadn dX7_isMasked_7 rfl ?_
    refine v_get dX7_isMasked_8 gf_X7_90 (hY.2.1 0 0 (by decide)) rfl ?_
    refine v_icmp_ge 100 dX7_isMasked_11 (by decide) (by omega) (by omega) (fun h11 => ?_) (fun h11 => ?_)
    · refine v_iloadn dX7_isMasked_100 rfl ?_
      exact v_zret dX7_isMasked_101 rfl ⟨(Nat.le_of_ble_eq_true rfl), (Nat.le_of_ble_eq_true rfl)⟩ (by omega) ⟨rfl, by rw [show s 0 0 8 = i by omega]; exact h2⟩
    · refine v_iloadn dX7_isMasked_14 rfl ?_
      refine v_if_ne 88 dX7_isMasked_15 (by decide) (by omega) (fun h15 => ?_) (fun h15 => ?_)
      · refine v_iconst dX7_isMasked_88 ?_
        refine v_goto 93 dX7_isMasked_89 (by decide) ?_
        refine v_istoren dX7_isMasked_93 (Nat.le_of_ble_eq_true rfl) ?_
        refine v_iinc dX7_isMasked_94 rfl (Nat.le_of_ble_eq_true rfl) ?_
        refine v_goto 5 dX7_isMasked_97 (by decide) ?_
        refine wV.locs (lv' := [(0, .ref (fw 0 0)), (1, .int (gI a)), (2, .int (gI t)), (3, .int (gI _)), (4, .int (gI _))]) ⟨rfl, rfl, rfl, rfl, rfl, trivial⟩ (ih _ _ (by omega) (by omega) (by omega) (by omega) (by first | exact im_old (by omega) h2 | exact im_new (by omega) (by omega) (by first | exact (mY_t (by omega)).mpr (by omega) | exact (mY_w (by omega)).mpr (by omega)) | exact im_no (by omega) h2 (by omega) (fun e => by first | omega | exact fun z => absurd ((mY_t (by omega)).mp z) (by omega) | exact fun z => absurd ((mY_w (by omega)).mp z) (by omega))))
      · refine v_aloadn dX7_isMasked_18 rfl ?_
        refine v_get dX7_isMasked_19 gf_X7_32 (hY.2.1 0 0 (by decide)) rfl ?_
        refine v_iload dX7_isMasked_22 rfl ?_
        refine v_iald dX7_isMasked_24 (hY.2.1 7 0 (by decide)) (by omega) (by omega) (by decide) ?_
        have hmi := hmk i.toNat (by omega)
        refine v_iloadn dX7_isMasked_25 rfl ?_
        refine v_icmp_ne 92 dX7_isMasked_26 (by decide) (by omega) (by omega) (fun h26 => ?_) (fun h26 => ?_)
        · refine v_iconst dX7_isMasked_92 ?_
          refine v_istoren dX7_isMasked_93 (Nat.le_of_ble_eq_true rfl) ?_
          refine v_iinc dX7_isMasked_94 rfl (Nat.le_of_ble_eq_true rfl) ?_
          refine v_goto 5 dX7_isMasked_97 (by decide) ?_
          refine wV.locs (lv' := [(0, .ref (fw 0 0)), (1, .int (gI a)), (2, .int (gI t)), (3, .int (gI _)), (4, .int (gI _))]) ⟨rfl, rfl, rfl, rfl, rfl, trivial⟩ (ih _ _ (by omega) (by omega) (by omega) (by omega) (by first | exact im_old (by omega) h2 | exact im_new (by omega) (by omega) (by first | exact (mY_t (by omega)).mpr (by omega) | exact (mY_w (by omega)).mpr (by omega)) | exact im_no (by omega) h2 (by omega) (fun e => by first | omega | exact fun z => absurd ((mY_t (by omega)).mp z) (by omega) | exact fun z => absurd ((mY_w (by omega)).mp z) (by omega))))
        · refine v_aloadn dX7_isMasked_29 rfl ?_
          refine v_get dX7_isMasked_30 gf_X7_41 (hY.2.1 0 0 (by decide)) rfl ?_
          refine v_iload dX7_isMasked_33 rfl ?_
          refine v_iald dX7_isMasked_35 (hY.2.1 10 0 (by decide)) (by omega) (by omega) (by decide) ?_
          refine v_if_ge 65 dX7_isMasked_36 (by decide) (by omega) (fun h36 => ?_) (fun h36 => ?_)
          · refine v_aloadn dX7_isMasked_65 rfl ?_
            refine v_iconst dX7_isMasked_66 ?_
            refine v_aloadn dX7_isMasked_67 rfl ?_
            refine v_get dX7_isMasked_68 gf_X7_41 (hY.2.1 0 0 (by decide)) rfl ?_
            refine v_iload dX7_isMasked_71 rfl ?_
            refine v_iald dX7_isMasked_73 (hY.2.1 10 0 (by decide)) (by omega) (by omega) (by decide) ?_
            refine v_iloadn dX7_isMasked_74 rfl ?_
            refine v_callV (tX7_at hY (by omega) (by omega) (by omega)) lc_X7_83 ⟨(Nat.le_of_ble_eq_true rfl), (Nat.le_of_ble_eq_true rfl)⟩ dX7_isMasked_75 rfl rfl (Nat.le_of_ble_eq_true rfl) ⟨(Nat.le_of_ble_eq_true rfl), (Nat.le_of_ble_eq_true rfl)⟩ ⟨_, _, _, _, hY.2.1 0 0 (by decide), rfl⟩ (kP fun r75 hr75 hp75 => ?_)
            have hv75 := vY_atP (by omega) (hsY _ (by omega)) hp75.2
            rw [show 12 * 0 + s 10 0 i.toNat = s 10 0 i.toNat by omega] at hv75
            refine v_aloadn dX7_isMasked_78 rfl ?_
            refine v_get dX7_isMasked_79 gf_X7_35 (hY.2.1 0 0 (by decide)) rfl ?_
            refine v_iload dX7_isMasked_82 rfl ?_
            refine v_iald dX7_isMasked_84 (hY.2.1 8 0 (by decide)) (by omega) (by omega) (by decide) ?_
            refine v_icmp_ne 92 dX7_isMasked_85 (by decide) (by omega) (by omega) (fun h85 => ?_) (fun h85 => ?_)
            · refine v_iconst dX7_isMasked_92 ?_
              refine v_istoren dX7_isMasked_93 (Nat.le_of_ble_eq_true rfl) ?_
              refine v_iinc dX7_isMasked_94 rfl (Nat.le_of_ble_eq_true rfl) ?_
              refine v_goto 5 dX7_isMasked_97 (by decide) ?_
              refine wV.locs (lv' := [(0, .ref (fw 0 0)), (1, .int (gI a)), (2, .int (gI t)), (3, .int (gI _)), (4, .int (gI _))]) ⟨rfl, rfl, rfl, rfl, rfl, trivial⟩ (ih _ _ (by omega) (by omega) (by omega) (by omega) (by first | exact im_old (by omega) h2 | exact im_new (by omega) (by omega) (by first | exact (mY_t (by omega)).mpr (by omega) | exact (mY_w (by omega)).mpr (by omega)) | exact im_no (by omega) h2 (by omega) (fun e => by first | omega | exact fun z => absurd ((mY_t (by omega)).mp z) (by omega) | exact fun z => absurd ((mY_w (by omega)).mp z) (by omega))))
            · refine v_iconst dX7_isMasked_88 ?_
              refine v_goto 93 dX7_isMasked_89 (by decide) ?_
              refine v_istoren dX7_isMasked_93 (Nat.le_of_ble_eq_true rfl) ?_
              refine v_iinc dX7_isMasked_94 rfl (Nat.le_of_ble_eq_true rfl) ?_
              refine v_goto 5 dX7_isMasked_97 (by decide) ?_
              refine wV.locs (lv' := [(0, .ref (fw 0 0)), (1, .int (gI a)), (2, .int (gI t)), (3, .int (gI _)), (4, .int (gI _))]) ⟨rfl, rfl, rfl, rfl, rfl, trivial⟩ (ih _ _ (by omega) (by omega) (by omega) (by omega) (by first | exact im_old (by omega) h2 | exact im_new (by omega) (by omega) (by first | exact (mY_t (by omega)).mpr (by omega) | exact (mY_w (by omega)).mpr (by omega)) | exact im_no (by omega) h2 (by omega) (fun e => by first | omega | exact fun z => absurd ((mY_t (by omega)).mp z) (by omega) | exact fun z => absurd ((mY_w (by omega)).mp z) (by omega))))
          · refine v_iloadn dX7_isMasked_39 rfl ?_
            refine v_aloadn dX7_isMasked_40 rfl ?_
            refine v_get dX7_isMasked_41 gf_X7_35 (hY.2.1 0 0 (by decide)) rfl ?_
            refine v_iload dX7_isMasked_44 rfl ?_
            refine v_iald dX7_isMasked_46 (hY.2.1 8 0 (by decide)) (by omega) (by omega) (by decide) ?_
            refine v_aloadn dX7_isMasked_47 rfl ?_
            refine v_get dX7_isMasked_48 gf_X7_38 (hY.2.1 0 0 (by decide)) rfl ?_
            refine v_iload dX7_isMasked_51 rfl ?_
            refine v_iald dX7_isMasked_53 (hY.2.1 9 0 (by decide)) (by omega) (by omega) (by decide) ?_
            refine v_iconst dX7_isMasked_54 ?_
            refine v_isub dX7_isMasked_55 ?_
            refine v_callS (tX7_in (by omega) (by omega) (by omega)) lc_X7_60 ⟨(Nat.le_of_ble_eq_true rfl), (Nat.le_of_ble_eq_true rfl)⟩ dX7_isMasked_56 rfl rfl (Nat.le_of_ble_eq_true rfl) ⟨(Nat.le_of_ble_eq_true rfl), (Nat.le_of_ble_eq_true rfl)⟩ (kP fun r56 hr56 hp56 => ?_)
            refine v_if_eq 92 dX7_isMasked_59 (by decide) (by omega) (fun h59 => ?_) (fun h59 => ?_)
            · refine v_iconst dX7_isMasked_92 ?_
              refine v_istoren dX7_isMasked_93 (Nat.le_of_ble_eq_true rfl) ?_
              refine v_iinc dX7_isMasked_94 rfl (Nat.le_of_ble_eq_true rfl) ?_
              refine v_goto 5 dX7_isMasked_97 (by decide) ?_
              refine wV.locs (lv' := [(0, .ref (fw 0 0)), (1, .int (gI a)), (2, .int (gI t)), (3, .int (gI _)), (4, .int (gI _))]) ⟨rfl, rfl, rfl, rfl, rfl, trivial⟩ (ih _ _ (by omega) (by omega) (by omega) (by omega) (by first | exact im_old (by omega) h2 | exact im_new (by omega) (by omega) (by first | exact (mY_t (by omega)).mpr (by omega) | exact (mY_w (by omega)).mpr (by omega)) | exact im_no (by omega) h2 (by omega) (fun e => by first | omega | exact fun z => absurd ((mY_t (by omega)).mp z) (by omega) | exact fun z => absurd ((mY_w (by omega)).mp z) (by omega))))
            · refine v_goto 88 dX7_isMasked_62 (by decide) ?_
              refine v_iconst dX7_isMasked_88 ?_
              refine v_goto 93 dX7_isMasked_89 (by decide) ?_
              refine v_istoren dX7_isMasked_93 (Nat.le_of_ble_eq_true rfl) ?_
              refine v_iinc dX7_isMasked_94 rfl (Nat.le_of_ble_eq_true rfl) ?_
              refine v_goto 5 dX7_isMasked_97 (by decide) ?_
              refine wV.locs (lv' := [(0, .ref (fw 0 0)), (1, .int (gI a)), (2, .int (gI t)), (3, .int (gI _)), (4, .int (gI _))]) ⟨rfl, rfl, rfl, rfl, rfl, trivial⟩ (ih _ _ (by omega) (by omega) (by omega) (by omega) (by first | exact im_old (by omega) h2 | exact im_new (by omega) (by omega) (by first | exact (mY_t (by omega)).mpr (by omega) | exact (mY_w (by omega)).mpr (by omega)) | exact im_no (by omega) h2 (by omega) (fun e => by first | omega | exact fun z => absurd ((mY_t (by omega)).mp z) (by omega) | exact fun z => absurd ((mY_w (by omega)).mp z) (by omega))))
set_option maxHeartbeats 4000000 in
set_option maxRecDepth 100000 in
theorem fX7_isMasked {G : gG} {fw : Nat → Nat → Nat} {s : sG} {M : wM} (hsY : srY s) (hY : wY G fw s M) {a t : Int} (ha : bt 0 a 11) (ht : rng t) : wT G qX7_isMasked 0 0 [.ref (fw 0 0), .int (gI a), .int (gI t)] M (iP fun x M' => M' = M ∧ imP s a t x (s 0 0 8)) := by
  refine wT.intro (by decide) (Nat.le_of_ble_eq_true rfl) (fun sz => ?_)
  have h0 := hY.2.2.1
  have hrw := hY.2.2.2.1
  have hnm := hY.2.2.2.2.1
  have hsh := hY.2.2.2.2.2.1
  have hmk := hY.2.2.2.2.2.2.1
  have hic := hY.2.2.2.2.2.2.2.1
  have hcn := hY.2.2.2.2.2.2.2.2.1
  have hgt := hY.2.2.2.2.2.2.2.2.2
  refine v_iconst dX7_isMasked_0 ?_
  refine v_istoren dX7_isMasked_1 (Nat.le_of_ble_eq_true rfl) ?_
  refine v_iconst dX7_isMasked_2 ?_
  refine v_istore dX7_isMasked_3 (Nat.le_of_ble_eq_true rfl) ?_
  refine wV.locs (lv' := [(0, .ref (fw 0 0)), (1, .int (gI a)), (2, .int (gI t)), (3, .int (gI (0))), (4, .int (gI (0)))]) ⟨rfl, rfl, rfl, rfl, rfl, trivial⟩ (fX7_isMasked_loop hsY hY ha ht 20 _ _ (by omega) (by omega) (by omega) (by omega) (Or.inr ⟨rfl, fun k hk => by omega⟩))
set_option maxHeartbeats 4000000 in
set_option maxRecDepth 100000 in
theorem fX7_differs {G : gG} {fw : Nat → Nat → Nat} {s : sG} {M : wM} (hsY : srY s) (hY : wY G fw s M) {a t k : Int} (ha : bt 0 a 11) (ht : bt 0 t 4000) (hk : bt (-50) k 50) : wT G qX7_differs 0 0 [.ref (fw 0 0), .int (gI a), .int (gI t), .int (gI k)] M (iP fun x M' => M' = M ∧ ((x = 1 ∧ dY s a k t) ∨ (x = 0 ∧ ¬ dY s a k t))) := by
  refine wT.intro (by decide) (Nat.le_of_ble_eq_true rfl) (fun sz => ?_)
  have h0 := hY.2.2.1
  have hrw := hY.2.2.2.1
  have hnm := hY.2.2.2.2.1
  have hsh := hY.2.2.2.2.2.1
  have hmk := hY.2.2.2.2.2.2.1
  have hic := hY.2.2.2.2.2.2.2.1
  have hcn := hY.2.2.2.2.2.2.2.2.1
  have hgt := hY.2.2.2.2.2.2.2.2.2
  have hna := hnm a.toNat (by omega)
  refine v_aloadn dX7_differs_0 rfl ?_
  refine v_aloadn dX7_differs_1 rfl ?_
  refine v_iconst dX7_differs_2 ?_
  refine v_iloadn dX7_differs_3 rfl ?_
  refine v_iloadn dX7_differs_4 rfl ?_
  refine v_callV (tX7_at hY (by omega) (by omega) (by omega)) lc_X7_83 ⟨(Nat.le_of_ble_eq_true rfl), (Nat.le_of_ble_eq_true rfl)⟩ dX7_differs_5 rfl rfl (Nat.le_of_ble_eq_true rfl) ⟨(Nat.le_of_ble_eq_true rfl), (Nat.le_of_ble_eq_true rfl)⟩ ⟨_, _, _, _, hY.2.1 0 0 (by decide), rfl⟩ (kP fun r5 hr5 hp5 => ?_)
  have hv5 := vY_atP (by omega) (hsY _ (by omega)) hp5.2
  rw [show 12 * 0 + a = a by omega] at hv5
  refine v_aloadn dX7_differs_8 rfl ?_
  refine v_iconst dX7_differs_9 ?_
  refine v_aloadn dX7_differs_10 rfl ?_
  refine v_get dX7_differs_11 gf_X7_23 (hY.2.1 0 0 (by decide)) rfl ?_
  refine v_iloadn dX7_differs_14 rfl ?_
  refine v_iald dX7_differs_15 (hY.2.1 4 0 (by decide)) (by omega) (by omega) (by decide) ?_
  refine v_iloadn dX7_differs_16 rfl ?_
  refine v_iloadn dX7_differs_17 rfl ?_
  refine v_iadd dX7_differs_18 ?_
  refine v_callV (tX7_at hY (by omega) (by omega) (by omega)) lc_X7_83 ⟨(Nat.le_of_ble_eq_true rfl), (Nat.le_of_ble_eq_true rfl)⟩ dX7_differs_19 rfl rfl (Nat.le_of_ble_eq_true rfl) ⟨(Nat.le_of_ble_eq_true rfl), (Nat.le_of_ble_eq_true rfl)⟩ ⟨_, _, _, _, hY.2.1 0 0 (by decide), rfl⟩ (kP fun r19 hr19 hp19 => ?_)
  have hv19 := vY_atP (by omega) (hsY _ (by omega)) hp19.2
  rw [show 12 * 1 + s 4 0 a.toNat = 12 + s 4 0 a.toNat by omega] at hv19
  refine v_callV (tX7_agree hY hr5 hr19) lc_X7_97 ⟨(Nat.le_of_ble_eq_true rfl), (Nat.le_of_ble_eq_true rfl)⟩ dX7_differs_22 rfl rfl (Nat.le_of_ble_eq_true rfl) ⟨(Nat.le_of_ble_eq_true rfl), (Nat.le_of_ble_eq_true rfl)⟩ ⟨_, _, _, _, hY.2.1 0 0 (by decide), rfl⟩ (kP fun r22 hr22 hp22 => ?_)
  have hag : r22 = agF (vY s a.toNat t) (vY s (12 + s 4 0 a.toNat).toNat (t + k)) (s 0 0 1) := by rw [hp22.1, hv5, hv19]
  have hp22 := hp22.2
  refine v_if_ne 41 dX7_differs_25 (by decide) (by omega) (fun h25 => ?_) (fun h25 => ?_)
  · refine v_iconst dX7_differs_41 ?_
    exact v_zret dX7_differs_42 rfl ⟨(Nat.le_of_ble_eq_true rfl), (Nat.le_of_ble_eq_true rfl)⟩ (by omega) ⟨rfl, by first | exact Or.inl ⟨rfl, by omega, hp31.elim (fun z => absurd z.1 (by omega)) (fun z => z.2)⟩ | exact Or.inr ⟨rfl, fun y => hp31.elim (fun z => by obtain ⟨-, j, j1, j2, j3⟩ := z; exact y.2 j j1 j2 j3) (fun z => absurd z.1 (by omega))⟩ | exact Or.inr ⟨rfl, fun y => absurd y.1 (by omega)⟩⟩
  · refine v_aloadn dX7_differs_28 rfl ?_
    refine v_iloadn dX7_differs_29 rfl ?_
    refine v_iloadn dX7_differs_30 rfl ?_
    refine v_callV (fX7_isMasked hsY hY ha (by omega)) lc_X7_100 ⟨(Nat.le_of_ble_eq_true rfl), (Nat.le_of_ble_eq_true rfl)⟩ dX7_differs_31 rfl rfl (Nat.le_of_ble_eq_true rfl) ⟨(Nat.le_of_ble_eq_true rfl), (Nat.le_of_ble_eq_true rfl)⟩ ⟨_, _, _, _, hY.2.1 0 0 (by decide), rfl⟩ (kP fun r31 hr31 hp31 => ?_)
    have hbi : r31 = 0 ∨ r31 = 1 := hp31.elim (fun z => Or.inr z.1) (fun z => Or.inl z.1)
    refine v_if_ne 41 dX7_differs_34 (by decide) (by omega) (fun h34 => ?_) (fun h34 => ?_)
    · refine v_iconst dX7_differs_41 ?_
      exact v_zret dX7_differs_42 rfl ⟨(Nat.le_of_ble_eq_true rfl), (Nat.le_of_ble_eq_true rfl)⟩ (by omega) ⟨rfl, by first | exact Or.inl ⟨rfl, by omega, hp31.elim (fun z => absurd z.1 (by omega)) (fun z => z.2)⟩ | exact Or.inr ⟨rfl, fun y => hp31.elim (fun z => by obtain ⟨-, j, j1, j2, j3⟩ := z; exact y.2 j j1 j2 j3) (fun z => absurd z.1 (by omega))⟩ | exact Or.inr ⟨rfl, fun y => absurd y.1 (by omega)⟩⟩
    · refine v_iconst dX7_differs_37 ?_
      refine v_goto 42 dX7_differs_38 (by decide) ?_
      exact v_zret dX7_differs_42 rfl ⟨(Nat.le_of_ble_eq_true rfl), (Nat.le_of_ble_eq_true rfl)⟩ (by omega) ⟨rfl, by first | exact Or.inl ⟨rfl, by omega, hp31.elim (fun z => absurd z.1 (by omega)) (fun z => z.2)⟩ | exact Or.inr ⟨rfl, fun y => hp31.elim (fun z => by obtain ⟨-, j, j1, j2, j3⟩ := z; exact y.2 j j1 j2 j3) (fun z => absurd z.1 (by omega))⟩ | exact Or.inr ⟨rfl, fun y => absurd y.1 (by omega)⟩⟩
theorem dY_const {s : sG} {a w t u i : Int} (hi : i = s 0 0 8) (h : vY s a.toNat u = vY s a.toNat t ∧ vY s (12 + s 4 0 a.toNat).toNat (u + w) = vY s (12 + s 4 0 a.toNat).toNat (t + w) ∧ ∀ m : Nat, (m : Int) < i → s 7 0 m = a → (mY s m u ↔ mY s m t)) : dY s a w u ↔ dY s a w t := by
  unfold dY
  rw [h.1, h.2.1]
  exact and_congr Iff.rfl ⟨fun z m h1 h2 y => z m h1 h2 ((h.2.2 m (by omega) h2).mpr y), fun z m h1 h2 y => z m h1 h2 ((h.2.2 m (by omega) h2).mp y)⟩
set_option maxHeartbeats 4000000 in
set_option maxRecDepth 100000 in
theorem fX7_next_loop {sz : Nat} {M0 : wM} {G : gG} {fw : Nat → Nat → Nat} {s : sG} {M : wM} (hsY : srY s) (hY : wY G fw s M) {a t w : Int} (ha : bt 0 a 11) (ht : bt 0 t 4000) (hw : bt (-50) w 50) : ∀ (k : Nat) (n i : Int), 0 ≤ 11 - i → 11 - i < (k : Int) → (bt 0 i (s 0 0 8)) → (bt (t + 1) n 100050) → (∀ u, t ≤ u → u < n → vY s a.toNat u = vY s a.toNat t ∧ vY s (12 + s 4 0 a.toNat).toNat (u + w) = vY s (12 + s 4 0 a.toNat).toNat (t + w) ∧ ∀ m : Nat, (m : Int) < i → s 7 0 m = a → (mY s m u ↔ mY s m t)) → wV G qX7_next 0 0 sz M0 0 0 31 [(0, .ref (fw 0 0)), (1, .int (gI a)), (2, .int (gI t)), (3, .int (gI w)), (4, .int (gI n)), (5, .int (gI i))] [] M (iP fun x M' => M' = M ∧ (bt (t + 1) x 100050 ∧ ∀ u, t ≤ u → u < x → (dY s a w u ↔ dY s a w t))) := by
  intro k
  induction k with
  | zero =>
    intros
    omega
  | succ k ih =>
    intro n i hmz hml h1 h2 h3
    have h0 := hY.2.2.1
    have hrw := hY.2.2.2.1
    have hnm := hY.2.2.2.2.1
    have hsh := hY.2.2.2.2.2.1
    have hmk := hY.2.2.2.2.2.2.1
    have hic := hY.2.2.2.2.2.2.2.1
    have hcn := hY.2.2.2.2.2.2.2.2.1
    have hgt := hY.2.2.2.2.2.2.2.2.2
    refine v_iload dX7_next_31 rfl ?_
    refine v_aloadn dX7_next_33 rfl ?_
    refine v_get dX7_next_34 gf_X7_90 (hY.2.1 0 0 (by decide)) rfl ?_
    refine v_icmp_ge 157 dX7_next_37 (by decide) (by omega) (by omega) (fun h37 => ?_) (fun h37 => ?_)
    · refine v_iload dX7_next_157 rfl ?_
      exact v_iret dX7_next_159 rfl ⟨(Nat.le_of_ble_eq_true rfl), (Nat.le_of_ble_eq_true rfl)⟩ (by omega) ⟨rfl, h2, fun u u1 u2 => dY_const (by omega) (h3 u u1 u2)⟩
    · refine v_aloadn dX7_next_40 rfl ?_
      refine v_get dX7_next_41 gf_X7_32 (hY.2.1 0 0 (by decide)) rfl ?_
      refine v_iload dX7_next_44 rfl ?_
      refine v_iald dX7_next_46 (hY.2.1 7 0 (by decide)) (by omega) (by omega) (by decide) ?_
      have hmi := hmk i.toNat (by omega)
      refine v_iloadn dX7_next_47 rfl ?_
      refine v_icmp_ne 84 dX7_next_48 (by decide) (by omega) (by omega) (fun h48 => ?_) (fun h48 => ?_)
      · refine v_aloadn dX7_next_84 rfl ?_
        refine v_get dX7_next_85 gf_X7_32 (hY.2.1 0 0 (by decide)) rfl ?_
        refine v_iload dX7_next_88 rfl ?_
        refine v_iald dX7_next_90 (hY.2.1 7 0 (by decide)) (by omega) (by omega) (by decide) ?_
        have hmi := hmk i.toNat (by omega)
        refine v_iloadn dX7_next_91 rfl ?_
        refine v_icmp_ne 151 dX7_next_92 (by decide) (by omega) (by omega) (fun h92 => ?_) (fun h92 => ?_)
        · refine v_iinc dX7_next_151 rfl (Nat.le_of_ble_eq_true rfl) ?_
          refine v_goto 31 dX7_next_154 (by decide) ?_
          refine wV.locs (lv' := [(0, .ref (fw 0 0)), (1, .int (gI a)), (2, .int (gI t)), (3, .int (gI w)), (4, .int (gI _)), (5, .int (gI _))]) ⟨rfl, rfl, rfl, rfl, rfl, rfl, trivial⟩ (ih _ _ (by omega) (by omega) (by omega) (by omega) (fun u u1 u2 => ⟨(h3 u u1 (by omega)).1, (h3 u u1 (by omega)).2.1, fun m hm e => (show (m : Int) < i ∨ m = i.toNat by omega).elim (fun c => (h3 u u1 (by omega)).2.2 m c e) (fun c => by subst c; first | exact absurd e (by omega) | (rw [mY_w (by omega), mY_w (by omega), hp73.2 u u1 (by omega)]) | (rw [mY_t (by omega), mY_t (by omega)]; omega))⟩))
        · refine v_aloadn dX7_next_95 rfl ?_
          refine v_get dX7_next_96 gf_X7_35 (hY.2.1 0 0 (by decide)) rfl ?_
          refine v_iload dX7_next_99 rfl ?_
          refine v_iald dX7_next_101 (hY.2.1 8 0 (by decide)) (by omega) (by omega) (by decide) ?_
          refine v_iloadn dX7_next_102 rfl ?_
          refine v_icmp_le 121 dX7_next_103 (by decide) (by omega) (by omega) (fun h103 => ?_) (fun h103 => ?_)
          · refine v_aloadn dX7_next_121 rfl ?_
            refine v_get dX7_next_122 gf_X7_38 (hY.2.1 0 0 (by decide)) rfl ?_
            refine v_iload dX7_next_125 rfl ?_
            refine v_iald dX7_next_127 (hY.2.1 9 0 (by decide)) (by omega) (by omega) (by decide) ?_
            refine v_iloadn dX7_next_128 rfl ?_
            refine v_icmp_le 147 dX7_next_129 (by decide) (by omega) (by omega) (fun h129 => ?_) (fun h129 => ?_)
            · refine v_iload dX7_next_147 rfl ?_
              refine v_istore dX7_next_149 (Nat.le_of_ble_eq_true rfl) ?_
              refine v_iinc dX7_next_151 rfl (Nat.le_of_ble_eq_true rfl) ?_
              refine v_goto 31 dX7_next_154 (by decide) ?_
              refine wV.locs (lv' := [(0, .ref (fw 0 0)), (1, .int (gI a)), (2, .int (gI t)), (3, .int (gI w)), (4, .int (gI _)), (5, .int (gI _))]) ⟨rfl, rfl, rfl, rfl, rfl, rfl, trivial⟩ (ih _ _ (by omega) (by omega) (by omega) (by omega) (fun u u1 u2 => ⟨(h3 u u1 (by omega)).1, (h3 u u1 (by omega)).2.1, fun m hm e => (show (m : Int) < i ∨ m = i.toNat by omega).elim (fun c => (h3 u u1 (by omega)).2.2 m c e) (fun c => by subst c; first | exact absurd e (by omega) | (rw [mY_w (by omega), mY_w (by omega), hp73.2 u u1 (by omega)]) | (rw [mY_t (by omega), mY_t (by omega)]; omega))⟩))
            · refine v_iload dX7_next_132 rfl ?_
              refine v_aloadn dX7_next_134 rfl ?_
              refine v_get dX7_next_135 gf_X7_38 (hY.2.1 0 0 (by decide)) rfl ?_
              refine v_iload dX7_next_138 rfl ?_
              refine v_iald dX7_next_140 (hY.2.1 9 0 (by decide)) (by omega) (by omega) (by decide) ?_
              refine v_callS (tX7_least (by omega) (by omega)) lc_X7_106 ⟨(Nat.le_of_ble_eq_true rfl), (Nat.le_of_ble_eq_true rfl)⟩ dX7_next_141 rfl rfl (Nat.le_of_ble_eq_true rfl) ⟨(Nat.le_of_ble_eq_true rfl), (Nat.le_of_ble_eq_true rfl)⟩ (kP fun r141 hr141 hp141 => ?_)
              refine v_goto 149 dX7_next_144 (by decide) ?_
              refine v_istore dX7_next_149 (Nat.le_of_ble_eq_true rfl) ?_
              refine v_iinc dX7_next_151 rfl (Nat.le_of_ble_eq_true rfl) ?_
              refine v_goto 31 dX7_next_154 (by decide) ?_
              refine wV.locs (lv' := [(0, .ref (fw 0 0)), (1, .int (gI a)), (2, .int (gI t)), (3, .int (gI w)), (4, .int (gI _)), (5, .int (gI _))]) ⟨rfl, rfl, rfl, rfl, rfl, rfl, trivial⟩ (ih _ _ (by omega) (by omega) (by omega) (by omega) (fun u u1 u2 => ⟨(h3 u u1 (by omega)).1, (h3 u u1 (by omega)).2.1, fun m hm e => (show (m : Int) < i ∨ m = i.toNat by omega).elim (fun c => (h3 u u1 (by omega)).2.2 m c e) (fun c => by subst c; first | exact absurd e (by omega) | (rw [mY_w (by omega), mY_w (by omega), hp73.2 u u1 (by omega)]) | (rw [mY_t (by omega), mY_t (by omega)]; omega))⟩))
          · refine v_iload dX7_next_106 rfl ?_
            refine v_aloadn dX7_next_108 rfl ?_
            refine v_get dX7_next_109 gf_X7_35 (hY.2.1 0 0 (by decide)) rfl ?_
            refine v_iload dX7_next_112 rfl ?_
            refine v_iald dX7_next_114 (hY.2.1 8 0 (by decide)) (by omega) (by omega) (by decide) ?_
            refine v_callS (tX7_least (by omega) (by omega)) lc_X7_106 ⟨(Nat.le_of_ble_eq_true rfl), (Nat.le_of_ble_eq_true rfl)⟩ dX7_next_115 rfl rfl (Nat.le_of_ble_eq_true rfl) ⟨(Nat.le_of_ble_eq_true rfl), (Nat.le_of_ble_eq_true rfl)⟩ (kP fun r115 hr115 hp115 => ?_)
            refine v_goto 149 dX7_next_118 (by decide) ?_
            refine v_istore dX7_next_149 (Nat.le_of_ble_eq_true rfl) ?_
            refine v_iinc dX7_next_151 rfl (Nat.le_of_ble_eq_true rfl) ?_
            refine v_goto 31 dX7_next_154 (by decide) ?_
            refine wV.locs (lv' := [(0, .ref (fw 0 0)), (1, .int (gI a)), (2, .int (gI t)), (3, .int (gI w)), (4, .int (gI _)), (5, .int (gI _))]) ⟨rfl, rfl, rfl, rfl, rfl, rfl, trivial⟩ (ih _ _ (by omega) (by omega) (by omega) (by omega) (fun u u1 u2 => ⟨(h3 u u1 (by omega)).1, (h3 u u1 (by omega)).2.1, fun m hm e => (show (m : Int) < i ∨ m = i.toNat by omega).elim (fun c => (h3 u u1 (by omega)).2.2 m c e) (fun c => by subst c; first | exact absurd e (by omega) | (rw [mY_w (by omega), mY_w (by omega), hp73.2 u u1 (by omega)]) | (rw [mY_t (by omega), mY_t (by omega)]; omega))⟩))
      · refine v_aloadn dX7_next_51 rfl ?_
        refine v_get dX7_next_52 gf_X7_41 (hY.2.1 0 0 (by decide)) rfl ?_
        refine v_iload dX7_next_55 rfl ?_
        refine v_iald dX7_next_57 (hY.2.1 10 0 (by decide)) (by omega) (by omega) (by decide) ?_
        refine v_if_lt 84 dX7_next_58 (by decide) (by omega) (fun h58 => ?_) (fun h58 => ?_)
        · refine v_aloadn dX7_next_84 rfl ?_
          refine v_get dX7_next_85 gf_X7_32 (hY.2.1 0 0 (by decide)) rfl ?_
          refine v_iload dX7_next_88 rfl ?_
          refine v_iald dX7_next_90 (hY.2.1 7 0 (by decide)) (by omega) (by omega) (by decide) ?_
          have hmi := hmk i.toNat (by omega)
          refine v_iloadn dX7_next_91 rfl ?_
          refine v_icmp_ne 151 dX7_next_92 (by decide) (by omega) (by omega) (fun h92 => ?_) (fun h92 => ?_)
          · refine v_iinc dX7_next_151 rfl (Nat.le_of_ble_eq_true rfl) ?_
            refine v_goto 31 dX7_next_154 (by decide) ?_
            refine wV.locs (lv' := [(0, .ref (fw 0 0)), (1, .int (gI a)), (2, .int (gI t)), (3, .int (gI w)), (4, .int (gI _)), (5, .int (gI _))]) ⟨rfl, rfl, rfl, rfl, rfl, rfl, trivial⟩ (ih _ _ (by omega) (by omega) (by omega) (by omega) (fun u u1 u2 => ⟨(h3 u u1 (by omega)).1, (h3 u u1 (by omega)).2.1, fun m hm e => (show (m : Int) < i ∨ m = i.toNat by omega).elim (fun c => (h3 u u1 (by omega)).2.2 m c e) (fun c => by subst c; first | exact absurd e (by omega) | (rw [mY_w (by omega), mY_w (by omega), hp73.2 u u1 (by omega)]) | (rw [mY_t (by omega), mY_t (by omega)]; omega))⟩))
          · refine v_aloadn dX7_next_95 rfl ?_
            refine v_get dX7_next_96 gf_X7_35 (hY.2.1 0 0 (by decide)) rfl ?_
            refine v_iload dX7_next_99 rfl ?_
            refine v_iald dX7_next_101 (hY.2.1 8 0 (by decide)) (by omega) (by omega) (by decide) ?_
            refine v_iloadn dX7_next_102 rfl ?_
            refine v_icmp_le 121 dX7_next_103 (by decide) (by omega) (by omega) (fun h103 => ?_) (fun h103 => ?_)
            · refine v_aloadn dX7_next_121 rfl ?_
              refine v_get dX7_next_122 gf_X7_38 (hY.2.1 0 0 (by decide)) rfl ?_
              refine v_iload dX7_next_125 rfl ?_
              refine v_iald dX7_next_127 (hY.2.1 9 0 (by decide)) (by omega) (by omega) (by decide) ?_
              refine v_iloadn dX7_next_128 rfl ?_
              refine v_icmp_le 147 dX7_next_129 (by decide) (by omega) (by omega) (fun h129 => ?_) (fun h129 => ?_)
              · refine v_iload dX7_next_147 rfl ?_
                refine v_istore dX7_next_149 (Nat.le_of_ble_eq_true rfl) ?_
                refine v_iinc dX7_next_151 rfl (Nat.le_of_ble_eq_true rfl) ?_
                refine v_goto 31 dX7_next_154 (by decide) ?_
                refine wV.locs (lv' := [(0, .ref (fw 0 0)), (1, .int (gI a)), (2, .int (gI t)), (3, .int (gI w)), (4, .int (gI _)), (5, .int (gI _))]) ⟨rfl, rfl, rfl, rfl, rfl, rfl, trivial⟩ (ih _ _ (by omega) (by omega) (by omega) (by omega) (fun u u1 u2 => ⟨(h3 u u1 (by omega)).1, (h3 u u1 (by omega)).2.1, fun m hm e => (show (m : Int) < i ∨ m = i.toNat by omega).elim (fun c => (h3 u u1 (by omega)).2.2 m c e) (fun c => by subst c; first | exact absurd e (by omega) | (rw [mY_w (by omega), mY_w (by omega), hp73.2 u u1 (by omega)]) | (rw [mY_t (by omega), mY_t (by omega)]; omega))⟩))
              · refine v_iload dX7_next_132 rfl ?_
                refine v_aloadn dX7_next_134 rfl ?_
                refine v_get dX7_next_135 gf_X7_38 (hY.2.1 0 0 (by decide)) rfl ?_
                refine v_iload dX7_next_138 rfl ?_
                refine v_iald dX7_next_140 (hY.2.1 9 0 (by decide)) (by omega) (by omega) (by decide) ?_
                refine v_callS (tX7_least (by omega) (by omega)) lc_X7_106 ⟨(Nat.le_of_ble_eq_true rfl), (Nat.le_of_ble_eq_true rfl)⟩ dX7_next_141 rfl rfl (Nat.le_of_ble_eq_true rfl) ⟨(Nat.le_of_ble_eq_true rfl), (Nat.le_of_ble_eq_true rfl)⟩ (kP fun r141 hr141 hp141 => ?_)
                refine v_goto 149 dX7_next_144 (by decide) ?_
                refine v_istore dX7_next_149 (Nat.le_of_ble_eq_true rfl) ?_
                refine v_iinc dX7_next_151 rfl (Nat.le_of_ble_eq_true rfl) ?_
                refine v_goto 31 dX7_next_154 (by decide) ?_
                refine wV.locs (lv' := [(0, .ref (fw 0 0)), (1, .int (gI a)), (2, .int (gI t)), (3, .int (gI w)), (4, .int (gI _)), (5, .int (gI _))]) ⟨rfl, rfl, rfl, rfl, rfl, rfl, trivial⟩ (ih _ _ (by omega) (by omega) (by omega) (by omega) (fun u u1 u2 => ⟨(h3 u u1 (by omega)).1, (h3 u u1 (by omega)).2.1, fun m hm e => (show (m : Int) < i ∨ m = i.toNat by omega).elim (fun c => (h3 u u1 (by omega)).2.2 m c e) (fun c => by subst c; first | exact absurd e (by omega) | (rw [mY_w (by omega), mY_w (by omega), hp73.2 u u1 (by omega)]) | (rw [mY_t (by omega), mY_t (by omega)]; omega))⟩))
            · refine v_iload dX7_next_106 rfl ?_
              refine v_aloadn dX7_next_108 rfl ?_
              refine v_get dX7_next_109 gf_X7_35 (hY.2.1 0 0 (by decide)) rfl ?_
              refine v_iload dX7_next_112 rfl ?_
              refine v_iald dX7_next_114 (hY.2.1 8 0 (by decide)) (by omega) (by omega) (by decide) ?_
              refine v_callS (tX7_least (by omega) (by omega)) lc_X7_106 ⟨(Nat.le_of_ble_eq_true rfl), (Nat.le_of_ble_eq_true rfl)⟩ dX7_next_115 rfl rfl (Nat.le_of_ble_eq_true rfl) ⟨(Nat.le_of_ble_eq_true rfl), (Nat.le_of_ble_eq_true rfl)⟩ (kP fun r115 hr115 hp115 => ?_)
              refine v_goto 149 dX7_next_118 (by decide) ?_
              refine v_istore dX7_next_149 (Nat.le_of_ble_eq_true rfl) ?_
              refine v_iinc dX7_next_151 rfl (Nat.le_of_ble_eq_true rfl) ?_
              refine v_goto 31 dX7_next_154 (by decide) ?_
              refine wV.locs (lv' := [(0, .ref (fw 0 0)), (1, .int (gI a)), (2, .int (gI t)), (3, .int (gI w)), (4, .int (gI _)), (5, .int (gI _))]) ⟨rfl, rfl, rfl, rfl, rfl, rfl, trivial⟩ (ih _ _ (by omega) (by omega) (by omega) (by omega) (fun u u1 u2 => ⟨(h3 u u1 (by omega)).1, (h3 u u1 (by omega)).2.1, fun m hm e => (show (m : Int) < i ∨ m = i.toNat by omega).elim (fun c => (h3 u u1 (by omega)).2.2 m c e) (fun c => by subst c; first | exact absurd e (by omega) | (rw [mY_w (by omega), mY_w (by omega), hp73.2 u u1 (by omega)]) | (rw [mY_t (by omega), mY_t (by omega)]; omega))⟩))
        · refine v_iload dX7_next_61 rfl ?_
          refine v_aloadn dX7_next_63 rfl ?_
          refine v_iconst dX7_next_64 ?_
          refine v_aloadn dX7_next_65 rfl ?_
          refine v_get dX7_next_66 gf_X7_41 (hY.2.1 0 0 (by decide)) rfl ?_
          refine v_iload dX7_next_69 rfl ?_
          refine v_iald dX7_next_71 (hY.2.1 10 0 (by decide)) (by omega) (by omega) (by decide) ?_
          refine v_iloadn dX7_next_72 rfl ?_
          refine v_callV (fX7_nextChange hsY hY (by omega) (by omega) (by omega) (by omega)) lc_X7_103 ⟨(Nat.le_of_ble_eq_true rfl), (Nat.le_of_ble_eq_true rfl)⟩ dX7_next_73 rfl rfl (Nat.le_of_ble_eq_true rfl) ⟨(Nat.le_of_ble_eq_true rfl), (Nat.le_of_ble_eq_true rfl)⟩ ⟨_, _, _, _, hY.2.1 0 0 (by decide), rfl⟩ (kP fun r73 hr73 hp73 => ?_)
          rw [show 12 * 0 + s 10 0 i.toNat = s 10 0 i.toNat by omega] at hp73
          refine v_callS (tX7_least (by omega) (by omega)) lc_X7_106 ⟨(Nat.le_of_ble_eq_true rfl), (Nat.le_of_ble_eq_true rfl)⟩ dX7_next_76 rfl rfl (Nat.le_of_ble_eq_true rfl) ⟨(Nat.le_of_ble_eq_true rfl), (Nat.le_of_ble_eq_true rfl)⟩ (kP fun r76 hr76 hp76 => ?_)
          refine v_istore dX7_next_79 (Nat.le_of_ble_eq_true rfl) ?_
          refine v_goto 151 dX7_next_81 (by decide) ?_
          refine v_iinc dX7_next_151 rfl (Nat.le_of_ble_eq_true rfl) ?_
          refine v_goto 31 dX7_next_154 (by decide) ?_
          refine wV.locs (lv' := [(0, .ref (fw 0 0)), (1, .int (gI a)), (2, .int (gI t)), (3, .int (gI w)), (4, .int (gI _)), (5, .int (gI _))]) ⟨rfl, rfl, rfl, rfl, rfl, rfl, trivial⟩ (ih _ _ (by omega) (by omega) (by omega) (by omega) (fun u u1 u2 => ⟨(h3 u u1 (by omega)).1, (h3 u u1 (by omega)).2.1, fun m hm e => (show (m : Int) < i ∨ m = i.toNat by omega).elim (fun c => (h3 u u1 (by omega)).2.2 m c e) (fun c => by subst c; first | exact absurd e (by omega) | (rw [mY_w (by omega), mY_w (by omega), hp73.2 u u1 (by omega)]) | (rw [mY_t (by omega), mY_t (by omega)]; omega))⟩))
set_option maxHeartbeats 4000000 in
set_option maxRecDepth 100000 in
theorem fX7_next {G : gG} {fw : Nat → Nat → Nat} {s : sG} {M : wM} (hsY : srY s) (hY : wY G fw s M) {a t w : Int} (ha : bt 0 a 11) (ht : bt 0 t 4000) (hw : bt (-50) w 50) : wT G qX7_next 0 0 [.ref (fw 0 0), .int (gI a), .int (gI t), .int (gI w)] M (iP fun x M' => M' = M ∧ (bt (t + 1) x 100050 ∧ ∀ u, t ≤ u → u < x → (dY s a w u ↔ dY s a w t))) := by
  refine wT.intro (by decide) (Nat.le_of_ble_eq_true rfl) (fun sz => ?_)
  have h0 := hY.2.2.1
  have hrw := hY.2.2.2.1
  have hnm := hY.2.2.2.2.1
  have hsh := hY.2.2.2.2.2.1
  have hmk := hY.2.2.2.2.2.2.1
  have hic := hY.2.2.2.2.2.2.2.1
  have hcn := hY.2.2.2.2.2.2.2.2.1
  have hgt := hY.2.2.2.2.2.2.2.2.2
  have hna := hnm a.toNat (by omega)
  refine v_aloadn dX7_next_0 rfl ?_
  refine v_iconst dX7_next_1 ?_
  refine v_iloadn dX7_next_2 rfl ?_
  refine v_iloadn dX7_next_3 rfl ?_
  refine v_callV (fX7_nextChange hsY hY (by omega) (by omega) (by omega) (by omega)) lc_X7_103 ⟨(Nat.le_of_ble_eq_true rfl), (Nat.le_of_ble_eq_true rfl)⟩ dX7_next_4 rfl rfl (Nat.le_of_ble_eq_true rfl) ⟨(Nat.le_of_ble_eq_true rfl), (Nat.le_of_ble_eq_true rfl)⟩ ⟨_, _, _, _, hY.2.1 0 0 (by decide), rfl⟩ (kP fun r4 hr4 hp4 => ?_)
  rw [show 12 * 0 + a = a by omega] at hp4
  refine v_aloadn dX7_next_7 rfl ?_
  refine v_iconst dX7_next_8 ?_
  refine v_aloadn dX7_next_9 rfl ?_
  refine v_get dX7_next_10 gf_X7_23 (hY.2.1 0 0 (by decide)) rfl ?_
  refine v_iloadn dX7_next_13 rfl ?_
  refine v_iald dX7_next_14 (hY.2.1 4 0 (by decide)) (by omega) (by omega) (by decide) ?_
  refine v_iloadn dX7_next_15 rfl ?_
  refine v_iloadn dX7_next_16 rfl ?_
  refine v_iadd dX7_next_17 ?_
  refine v_callV (fX7_nextChange hsY hY (by omega) (by omega) (by omega) (by omega)) lc_X7_103 ⟨(Nat.le_of_ble_eq_true rfl), (Nat.le_of_ble_eq_true rfl)⟩ dX7_next_18 rfl rfl (Nat.le_of_ble_eq_true rfl) ⟨(Nat.le_of_ble_eq_true rfl), (Nat.le_of_ble_eq_true rfl)⟩ ⟨_, _, _, _, hY.2.1 0 0 (by decide), rfl⟩ (kP fun r18 hr18 hp18 => ?_)
  rw [show 12 * 1 + s 4 0 a.toNat = 12 + s 4 0 a.toNat by omega] at hp18
  refine v_iloadn dX7_next_21 rfl ?_
  refine v_isub dX7_next_22 ?_
  refine v_callS (tX7_least (by omega) (by omega)) lc_X7_106 ⟨(Nat.le_of_ble_eq_true rfl), (Nat.le_of_ble_eq_true rfl)⟩ dX7_next_23 rfl rfl (Nat.le_of_ble_eq_true rfl) ⟨(Nat.le_of_ble_eq_true rfl), (Nat.le_of_ble_eq_true rfl)⟩ (kP fun r23 hr23 hp23 => ?_)
  refine v_istore dX7_next_26 (Nat.le_of_ble_eq_true rfl) ?_
  refine v_iconst dX7_next_28 ?_
  refine v_istore dX7_next_29 (Nat.le_of_ble_eq_true rfl) ?_
  refine wV.locs (lv' := [(0, .ref (fw 0 0)), (1, .int (gI a)), (2, .int (gI t)), (3, .int (gI w)), (4, .int (gI (_))), (5, .int (gI (0)))]) ⟨rfl, rfl, rfl, rfl, rfl, rfl, trivial⟩ (fX7_next_loop hsY hY ha ht hw 20 _ _ (by omega) (by omega) (by omega) (by omega) (fun u u1 u2 => ⟨hp4.2 u u1 (by omega), hp18.2 (u + w) (by omega) (by omega), fun m hm => by omega⟩))
