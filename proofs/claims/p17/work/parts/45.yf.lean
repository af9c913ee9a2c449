set_option maxHeartbeats 4000000 in
set_option maxRecDepth 100000 in
theorem tX7_fits_in {sz : Nat} {M0 : wM} {G : gG} {fw : Nat → Nat → Nat} {s : sG} {M : wM} (hY : wY G fw s M) {g w f u : Int} (hg : rng g) (hw : bt (-50) w 50) (hf : bt 0 f 50) (hu : bt (-60) u 4000) {a : Int} (ha : bt 0 a 11) {Post : Option Value → wM → Prop} (hk : ∀ b, bt 0 b 1 → wV G qX7_fits 0 0 sz M0 0 0 117 [(0, .ref (fw 0 0)), (1, .int (gI g)), (2, .int (gI w)), (3, .int (gI f)), (4, .int (gI u)), (5, .int (gI b)), (6, .int (gI a))] [] M Post) : ∀ (k : Nat) (b t : Int), 0 ≤ 100050 - t → 100050 - t < (k : Int) → (bt 0 t 100050) → (bt 0 b 1) → wV G qX7_fits 0 0 sz M0 0 0 61 [(0, .ref (fw 0 0)), (1, .int (gI g)), (2, .int (gI w)), (3, .int (gI f)), (4, .int (gI u)), (5, .int (gI b)), (6, .int (gI a)), (7, .int (gI t))] [] M (Post) := by
  intro k
  induction k with
  | zero =>
    intros
    omega
  | succ k ih =>
    intro b t hmz hml h1 h2
    have h0 := hY.2.2.1
    have hrw := hY.2.2.2.1
    have hnm := hY.2.2.2.2.1
    have hsh := hY.2.2.2.2.2.1
    have hmk := hY.2.2.2.2.2.2.1
    have hic := hY.2.2.2.2.2.2.2.1
    have hcn := hY.2.2.2.2.2.2.2.2.1
    have hgt := hY.2.2.2.2.2.2.2.2.2
    refine v_iload dX7_fits_61 rfl ?_
    refine v_iload dX7_fits_63 rfl ?_
    refine v_icmp_ge 117 dX7_fits_65 (by decide) (by omega) (by omega) (fun h65 => ?_) (fun h65 => ?_)
    · refine wV.locs (lv' := [(0, .ref (fw 0 0)), (1, .int (gI g)), (2, .int (gI w)), (3, .int (gI f)), (4, .int (gI u)), (5, .int (gI b)), (6, .int (gI a))]) ⟨rfl, rfl, rfl, rfl, rfl, rfl, rfl, trivial⟩ (hk _ (by omega))
    · refine v_iload dX7_fits_68 rfl ?_
      refine v_if_eq 117 dX7_fits_70 (by decide) (by omega) (fun h70 => ?_) (fun h70 => ?_)
      · refine wV.locs (lv' := [(0, .ref (fw 0 0)), (1, .int (gI g)), (2, .int (gI w)), (3, .int (gI f)), (4, .int (gI u)), (5, .int (gI b)), (6, .int (gI a))]) ⟨rfl, rfl, rfl, rfl, rfl, rfl, rfl, trivial⟩ (hk _ (by omega))
      · refine v_aloadn dX7_fits_73 rfl ?_
        refine v_get dX7_fits_74 gf_X7_26 (hY.2.1 0 0 (by decide)) rfl ?_
        refine v_iload dX7_fits_77 rfl ?_
        refine v_iald dX7_fits_79 (hY.2.1 5 0 (by decide)) (by omega) (by omega) (by decide) ?_
        have hga := hnm a.toNat (by omega)
        refine v_iloadn dX7_fits_80 rfl ?_
        refine v_icmp_ne 117 dX7_fits_81 (by decide) (by omega) (by omega) (fun h81 => ?_) (fun h81 => ?_)
        · refine wV.locs (lv' := [(0, .ref (fw 0 0)), (1, .int (gI g)), (2, .int (gI w)), (3, .int (gI f)), (4, .int (gI u)), (5, .int (gI b)), (6, .int (gI a))]) ⟨rfl, rfl, rfl, rfl, rfl, rfl, rfl, trivial⟩ (hk _ (by omega))
        · refine v_aloadn dX7_fits_84 rfl ?_
          refine v_iload dX7_fits_85 rfl ?_
          refine v_iload dX7_fits_87 rfl ?_
          refine v_iloadn dX7_fits_89 rfl ?_
          refine v_callV (tX7_differs hY (by omega) (by omega) (by omega)) lc_X7_110 ⟨(Nat.le_of_ble_eq_true rfl), (Nat.le_of_ble_eq_true rfl)⟩ dX7_fits_90 rfl rfl (Nat.le_of_ble_eq_true rfl) ⟨(Nat.le_of_ble_eq_true rfl), (Nat.le_of_ble_eq_true rfl)⟩ ⟨_, _, _, _, hY.2.1 0 0 (by decide), rfl⟩ (kP fun r90 hr90 hp90 => ?_)
          refine v_if_ne 100 dX7_fits_93 (by decide) (by omega) (fun h93 => ?_) (fun h93 => ?_)
          · refine v_iconst dX7_fits_100 ?_
            refine v_istore dX7_fits_101 (Nat.le_of_ble_eq_true rfl) ?_
            refine v_aloadn dX7_fits_103 rfl ?_
            refine v_iload dX7_fits_104 rfl ?_
            refine v_iload dX7_fits_106 rfl ?_
            refine v_iloadn dX7_fits_108 rfl ?_
            refine v_callV (tX7_next hY (by omega) (by omega) (by omega)) lc_X7_117 ⟨(Nat.le_of_ble_eq_true rfl), (Nat.le_of_ble_eq_true rfl)⟩ dX7_fits_109 rfl rfl (Nat.le_of_ble_eq_true rfl) ⟨(Nat.le_of_ble_eq_true rfl), (Nat.le_of_ble_eq_true rfl)⟩ ⟨_, _, _, _, hY.2.1 0 0 (by decide), rfl⟩ (kP fun r109 hr109 hp109 => ?_)
            refine v_istore dX7_fits_112 (Nat.le_of_ble_eq_true rfl) ?_
            refine v_goto 61 dX7_fits_114 (by decide) ?_
            refine wV.locs (lv' := [(0, .ref (fw 0 0)), (1, .int (gI g)), (2, .int (gI w)), (3, .int (gI f)), (4, .int (gI u)), (5, .int (gI _)), (6, .int (gI a)), (7, .int (gI _))]) ⟨rfl, rfl, rfl, rfl, rfl, rfl, rfl, rfl, trivial⟩ (ih _ _ (by omega) (by omega) (by omega) (by omega))
          · refine v_iconst dX7_fits_96 ?_
            refine v_goto 101 dX7_fits_97 (by decide) ?_
            refine v_istore dX7_fits_101 (Nat.le_of_ble_eq_true rfl) ?_
            refine v_aloadn dX7_fits_103 rfl ?_
            refine v_iload dX7_fits_104 rfl ?_
            refine v_iload dX7_fits_106 rfl ?_
            refine v_iloadn dX7_fits_108 rfl ?_
            refine v_callV (tX7_next hY (by omega) (by omega) (by omega)) lc_X7_117 ⟨(Nat.le_of_ble_eq_true rfl), (Nat.le_of_ble_eq_true rfl)⟩ dX7_fits_109 rfl rfl (Nat.le_of_ble_eq_true rfl) ⟨(Nat.le_of_ble_eq_true rfl), (Nat.le_of_ble_eq_true rfl)⟩ ⟨_, _, _, _, hY.2.1 0 0 (by decide), rfl⟩ (kP fun r109 hr109 hp109 => ?_)
            refine v_istore dX7_fits_112 (Nat.le_of_ble_eq_true rfl) ?_
            refine v_goto 61 dX7_fits_114 (by decide) ?_
            refine wV.locs (lv' := [(0, .ref (fw 0 0)), (1, .int (gI g)), (2, .int (gI w)), (3, .int (gI f)), (4, .int (gI u)), (5, .int (gI _)), (6, .int (gI a)), (7, .int (gI _))]) ⟨rfl, rfl, rfl, rfl, rfl, rfl, rfl, rfl, trivial⟩ (ih _ _ (by omega) (by omega) (by omega) (by omega))
set_option maxHeartbeats 4000000 in
set_option maxRecDepth 100000 in
theorem tX7_fits_out {sz : Nat} {M0 : wM} {G : gG} {fw : Nat → Nat → Nat} {s : sG} {M : wM} (hY : wY G fw s M) {g w f u : Int} (hg : rng g) (hw : bt (-50) w 50) (hf : bt 0 f 50) (hu : bt (-60) u 4000) : ∀ (k : Nat) (b a : Int), 0 ≤ 12 - a → 12 - a < (k : Int) → (bt 0 a 12) → (bt 0 b 1) → wV G qX7_fits 0 0 sz M0 0 0 46 [(0, .ref (fw 0 0)), (1, .int (gI g)), (2, .int (gI w)), (3, .int (gI f)), (4, .int (gI u)), (5, .int (gI b)), (6, .int (gI a))] [] M (iP fun x M' => M' = M ∧ (x = 0 ∨ x = 1)) := by
  intro k
  induction k with
  | zero =>
    intros
    omega
  | succ k ih =>
    intro b a hmz hml h1 h2
    have h0 := hY.2.2.1
    have hrw := hY.2.2.2.1
    have hnm := hY.2.2.2.2.1
    have hsh := hY.2.2.2.2.2.1
    have hmk := hY.2.2.2.2.2.2.1
    have hic := hY.2.2.2.2.2.2.2.1
    have hcn := hY.2.2.2.2.2.2.2.2.1
    have hgt := hY.2.2.2.2.2.2.2.2.2
    refine v_iload dX7_fits_46 rfl ?_
    refine v_bipush dX7_fits_48 (by decide) ?_
    refine v_icmp_ge 123 dX7_fits_50 (by decide) (by omega) (by omega) (fun h50 => ?_) (fun h50 => ?_)
    · refine v_iload dX7_fits_123 rfl ?_
      exact v_zret dX7_fits_125 rfl ⟨(Nat.le_of_ble_eq_true rfl), (Nat.le_of_ble_eq_true rfl)⟩ (by omega) ⟨rfl, by omega⟩
    · refine v_iload dX7_fits_53 rfl ?_
      refine v_if_eq 123 dX7_fits_55 (by decide) (by omega) (fun h55 => ?_) (fun h55 => ?_)
      · refine v_iload dX7_fits_123 rfl ?_
        exact v_zret dX7_fits_125 rfl ⟨(Nat.le_of_ble_eq_true rfl), (Nat.le_of_ble_eq_true rfl)⟩ (by omega) ⟨rfl, by omega⟩
      · refine v_iloadn dX7_fits_58 rfl ?_
        refine v_istore dX7_fits_59 (Nat.le_of_ble_eq_true rfl) ?_
        refine wV.locs (lv' := [(0, .ref (fw 0 0)), (1, .int (gI g)), (2, .int (gI w)), (3, .int (gI f)), (4, .int (gI u)), (5, .int (gI b)), (6, .int (gI a)), (7, .int (gI f))]) ⟨rfl, rfl, rfl, rfl, rfl, rfl, rfl, rfl, trivial⟩ (tX7_fits_in hY hg hw hf hu (by omega) (fun b hb => ?_) 100060 _ _ (by omega) (by omega) (by omega) (by omega))
        refine v_iinc dX7_fits_117 rfl (Nat.le_of_ble_eq_true rfl) ?_
        refine v_goto 46 dX7_fits_120 (by decide) ?_
        refine wV.locs (lv' := [(0, .ref (fw 0 0)), (1, .int (gI g)), (2, .int (gI w)), (3, .int (gI f)), (4, .int (gI u)), (5, .int (gI _)), (6, .int (gI _))]) ⟨rfl, rfl, rfl, rfl, rfl, rfl, rfl, trivial⟩ (ih _ _ (by omega) (by omega) (by omega) (by omega))
set_option maxHeartbeats 4000000 in
set_option maxRecDepth 100000 in
theorem tX7_fits {G : gG} {fw : Nat → Nat → Nat} {s : sG} {M : wM} (hY : wY G fw s M) {g w : Int} (hg : rng g) (hw : bt (-50) w 50) : wT G qX7_fits 0 0 [.ref (fw 0 0), .int (gI g), .int (gI w)] M (iP fun x M' => M' = M ∧ (x = 0 ∨ x = 1)) := by
  refine wT.intro (by decide) (Nat.le_of_ble_eq_true rfl) (fun sz => ?_)
  have h0 := hY.2.2.1
  have hrw := hY.2.2.2.1
  have hnm := hY.2.2.2.2.1
  have hsh := hY.2.2.2.2.2.1
  have hmk := hY.2.2.2.2.2.2.1
  have hic := hY.2.2.2.2.2.2.2.1
  have hcn := hY.2.2.2.2.2.2.2.2.1
  have hgt := hY.2.2.2.2.2.2.2.2.2
  refine v_iloadn dX7_fits_0 rfl ?_
  refine v_if_ge 9 dX7_fits_1 (by decide) (by omega) (fun h1 => ?_) (fun h1 => ?_)
  · refine v_iconst dX7_fits_9 ?_
    refine v_istoren dX7_fits_10 (Nat.le_of_ble_eq_true rfl) ?_
    refine v_iloadn dX7_fits_11 rfl ?_
    refine v_if_le 24 dX7_fits_12 (by decide) (by omega) (fun h12 => ?_) (fun h12 => ?_)
    · refine v_aloadn dX7_fits_24 rfl ?_
      refine v_get dX7_fits_25 gf_X7_7 (hY.2.1 0 0 (by decide)) rfl ?_
      refine v_istore dX7_fits_28 (Nat.le_of_ble_eq_true rfl) ?_
      refine v_iloadn dX7_fits_30 rfl ?_
      refine v_iload dX7_fits_31 rfl ?_
      refine v_icmp_ge 40 dX7_fits_33 (by decide) (by omega) (by omega) (fun h33 => ?_) (fun h33 => ?_)
      · refine v_iconst dX7_fits_40 ?_
        refine v_istore dX7_fits_41 (Nat.le_of_ble_eq_true rfl) ?_
        refine v_iconst dX7_fits_43 ?_
        refine v_istore dX7_fits_44 (Nat.le_of_ble_eq_true rfl) ?_
        refine wV.locs (lv' := [(0, .ref (fw 0 0)), (1, .int (gI g)), (2, .int (gI w)), (3, .int (gI _)), (4, .int (gI _)), (5, .int (gI (_))), (6, .int (gI (0)))]) ⟨rfl, rfl, rfl, rfl, rfl, rfl, rfl, trivial⟩ (tX7_fits_out hY hg hw (by omega) (by omega) 20 _ _ (by omega) (by omega) (by omega) (by omega))
      · refine v_iconst dX7_fits_36 ?_
        refine v_goto 41 dX7_fits_37 (by decide) ?_
        refine v_istore dX7_fits_41 (Nat.le_of_ble_eq_true rfl) ?_
        refine v_iconst dX7_fits_43 ?_
        refine v_istore dX7_fits_44 (Nat.le_of_ble_eq_true rfl) ?_
        refine wV.locs (lv' := [(0, .ref (fw 0 0)), (1, .int (gI g)), (2, .int (gI w)), (3, .int (gI _)), (4, .int (gI _)), (5, .int (gI (_))), (6, .int (gI (0)))]) ⟨rfl, rfl, rfl, rfl, rfl, rfl, rfl, trivial⟩ (tX7_fits_out hY hg hw (by omega) (by omega) 20 _ _ (by omega) (by omega) (by omega) (by omega))
    · refine v_aloadn dX7_fits_15 rfl ?_
      refine v_get dX7_fits_16 gf_X7_7 (hY.2.1 0 0 (by decide)) rfl ?_
      refine v_iloadn dX7_fits_19 rfl ?_
      refine v_isub dX7_fits_20 ?_
      refine v_goto 28 dX7_fits_21 (by decide) ?_
      refine v_istore dX7_fits_28 (Nat.le_of_ble_eq_true rfl) ?_
      refine v_iloadn dX7_fits_30 rfl ?_
      refine v_iload dX7_fits_31 rfl ?_
      refine v_icmp_ge 40 dX7_fits_33 (by decide) (by omega) (by omega) (fun h33 => ?_) (fun h33 => ?_)
      · refine v_iconst dX7_fits_40 ?_
        refine v_istore dX7_fits_41 (Nat.le_of_ble_eq_true rfl) ?_
        refine v_iconst dX7_fits_43 ?_
        refine v_istore dX7_fits_44 (Nat.le_of_ble_eq_true rfl) ?_
        refine wV.locs (lv' := [(0, .ref (fw 0 0)), (1, .int (gI g)), (2, .int (gI w)), (3, .int (gI _)), (4, .int (gI _)), (5, .int (gI (_))), (6, .int (gI (0)))]) ⟨rfl, rfl, rfl, rfl, rfl, rfl, rfl, trivial⟩ (tX7_fits_out hY hg hw (by omega) (by omega) 20 _ _ (by omega) (by omega) (by omega) (by omega))
      · refine v_iconst dX7_fits_36 ?_
        refine v_goto 41 dX7_fits_37 (by decide) ?_
        refine v_istore dX7_fits_41 (Nat.le_of_ble_eq_true rfl) ?_
        refine v_iconst dX7_fits_43 ?_
        refine v_istore dX7_fits_44 (Nat.le_of_ble_eq_true rfl) ?_
        refine wV.locs (lv' := [(0, .ref (fw 0 0)), (1, .int (gI g)), (2, .int (gI w)), (3, .int (gI _)), (4, .int (gI _)), (5, .int (gI (_))), (6, .int (gI (0)))]) ⟨rfl, rfl, rfl, rfl, rfl, rfl, rfl, trivial⟩ (tX7_fits_out hY hg hw (by omega) (by omega) 20 _ _ (by omega) (by omega) (by omega) (by omega))
  · refine v_iloadn dX7_fits_4 rfl ?_
    refine v_ineg dX7_fits_5 ?_
    refine v_goto 10 dX7_fits_6 (by decide) ?_
    refine v_istoren dX7_fits_10 (Nat.le_of_ble_eq_true rfl) ?_
    refine v_iloadn dX7_fits_11 rfl ?_
    refine v_if_le 24 dX7_fits_12 (by decide) (by omega) (fun h12 => ?_) (fun h12 => ?_)
    · refine v_aloadn dX7_fits_24 rfl ?_
      refine v_get dX7_fits_25 gf_X7_7 (hY.2.1 0 0 (by decide)) rfl ?_
      refine v_istore dX7_fits_28 (Nat.le_of_ble_eq_true rfl) ?_
      refine v_iloadn dX7_fits_30 rfl ?_
      refine v_iload dX7_fits_31 rfl ?_
      refine v_icmp_ge 40 dX7_fits_33 (by decide) (by omega) (by omega) (fun h33 => ?_) (fun h33 => ?_)
      · refine v_iconst dX7_fits_40 ?_
        refine v_istore dX7_fits_41 (Nat.le_of_ble_eq_true rfl) ?_
        refine v_iconst dX7_fits_43 ?_
        refine v_istore dX7_fits_44 (Nat.le_of_ble_eq_true rfl) ?_
        refine wV.locs (lv' := [(0, .ref (fw 0 0)), (1, .int (gI g)), (2, .int (gI w)), (3, .int (gI _)), (4, .int (gI _)), (5, .int (gI (_))), (6, .int (gI (0)))]) ⟨rfl, rfl, rfl, rfl, rfl, rfl, rfl, trivial⟩ (tX7_fits_out hY hg hw (by omega) (by omega) 20 _ _ (by omega) (by omega) (by omega) (by omega))
      · refine v_iconst dX7_fits_36 ?_
        refine v_goto 41 dX7_fits_37 (by decide) ?_
        refine v_istore dX7_fits_41 (Nat.le_of_ble_eq_true rfl) ?_
        refine v_iconst dX7_fits_43 ?_
        refine v_istore dX7_fits_44 (Nat.le_of_ble_eq_true rfl) ?_
        refine wV.locs (lv' := [(0, .ref (fw 0 0)), (1, .int (gI g)), (2, .int (gI w)), (3, .int (gI _)), (4, .int (gI _)), (5, .int (gI (_))), (6, .int (gI (0)))]) ⟨rfl, rfl, rfl, rfl, rfl, rfl, rfl, trivial⟩ (tX7_fits_out hY hg hw (by omega) (by omega) 20 _ _ (by omega) (by omega) (by omega) (by omega))
    · refine v_aloadn dX7_fits_15 rfl ?_
      refine v_get dX7_fits_16 gf_X7_7 (hY.2.1 0 0 (by decide)) rfl ?_
      refine v_iloadn dX7_fits_19 rfl ?_
      refine v_isub dX7_fits_20 ?_
      refine v_goto 28 dX7_fits_21 (by decide) ?_
      refine v_istore dX7_fits_28 (Nat.le_of_ble_eq_true rfl) ?_
      refine v_iloadn dX7_fits_30 rfl ?_
      refine v_iload dX7_fits_31 rfl ?_
      refine v_icmp_ge 40 dX7_fits_33 (by decide) (by omega) (by omega) (fun h33 => ?_) (fun h33 => ?_)
      · refine v_iconst dX7_fits_40 ?_
        refine v_istore dX7_fits_41 (Nat.le_of_ble_eq_true rfl) ?_
        refine v_iconst dX7_fits_43 ?_
        refine v_istore dX7_fits_44 (Nat.le_of_ble_eq_true rfl) ?_
        refine wV.locs (lv' := [(0, .ref (fw 0 0)), (1, .int (gI g)), (2, .int (gI w)), (3, .int (gI _)), (4, .int (gI _)), (5, .int (gI (_))), (6, .int (gI (0)))]) ⟨rfl, rfl, rfl, rfl, rfl, rfl, rfl, trivial⟩ (tX7_fits_out hY hg hw (by omega) (by omega) 20 _ _ (by omega) (by omega) (by omega) (by omega))
      · refine v_iconst dX7_fits_36 ?_
        refine v_goto 41 dX7_fits_37 (by decide) ?_
        refine v_istore dX7_fits_41 (Nat.le_of_ble_eq_true rfl) ?_
        refine v_iconst dX7_fits_43 ?_
        refine v_istore dX7_fits_44 (Nat.le_of_ble_eq_true rfl) ?_
        refine wV.locs (lv' := [(0, .ref (fw 0 0)), (1, .int (gI g)), (2, .int (gI w)), (3, .int (gI _)), (4, .int (gI _)), (5, .int (gI (_))), (6, .int (gI (0)))]) ⟨rfl, rfl, rfl, rfl, rfl, rfl, rfl, trivial⟩ (tX7_fits_out hY hg hw (by omega) (by omega) 20 _ _ (by omega) (by omega) (by omega) (by omega))
set_option maxHeartbeats 4000000 in
set_option maxRecDepth 100000 in
theorem tX7_fit_b {sz : Nat} {M0 : wM} {G : gG} {fw : Nat → Nat → Nat} {s : sG} {M : wM} (hY : wY G fw s M) {g : Int} (hg : rng g) : ∀ (k : Nat) (i : Int), 0 ≤ 52 - i → 52 - i < (k : Int) → (bt 0 i 51) → wV G qX7_fit 0 0 sz M0 0 0 59 [(0, .ref (fw 0 0)), (1, .int (gI g)), (3, .int (gI i))] [] M (iP fun x M' => M' = M ∧ True) := by
  intro k
  induction k with
  | zero =>
    intros
    omega
  | succ k ih =>
    intro i hmz hml h1
    have h0 := hY.2.2.1
    have hrw := hY.2.2.2.1
    have hnm := hY.2.2.2.2.1
    have hsh := hY.2.2.2.2.2.1
    have hmk := hY.2.2.2.2.2.2.1
    have hic := hY.2.2.2.2.2.2.2.1
    have hcn := hY.2.2.2.2.2.2.2.2.1
    have hgt := hY.2.2.2.2.2.2.2.2.2
    refine v_iloadn dX7_fit_59 rfl ?_
    refine v_bipush dX7_fit_60 (by decide) ?_
    refine v_icmp_gt 95 dX7_fit_62 (by decide) (by omega) (by omega) (fun h62 => ?_) (fun h62 => ?_)
    · refine v_sipush dX7_fit_95 (by decide) ?_
      exact v_iret dX7_fit_98 rfl ⟨(Nat.le_of_ble_eq_true rfl), (Nat.le_of_ble_eq_true rfl)⟩ (by omega) ⟨rfl, trivial⟩
    · refine v_aloadn dX7_fit_65 rfl ?_
      refine v_iloadn dX7_fit_66 rfl ?_
      refine v_iloadn dX7_fit_67 rfl ?_
      refine v_ineg dX7_fit_68 ?_
      refine v_callV (tX7_fits hY (by omega) (by omega)) lc_X7_147 ⟨(Nat.le_of_ble_eq_true rfl), (Nat.le_of_ble_eq_true rfl)⟩ dX7_fit_69 rfl rfl (Nat.le_of_ble_eq_true rfl) ⟨(Nat.le_of_ble_eq_true rfl), (Nat.le_of_ble_eq_true rfl)⟩ ⟨_, _, _, _, hY.2.1 0 0 (by decide), rfl⟩ (kP fun r69 hr69 hp69 => ?_)
      refine v_if_eq 78 dX7_fit_72 (by decide) (by omega) (fun h72 => ?_) (fun h72 => ?_)
      · refine v_aloadn dX7_fit_78 rfl ?_
        refine v_iloadn dX7_fit_79 rfl ?_
        refine v_iloadn dX7_fit_80 rfl ?_
        refine v_callV (tX7_fits hY (by omega) (by omega)) lc_X7_147 ⟨(Nat.le_of_ble_eq_true rfl), (Nat.le_of_ble_eq_true rfl)⟩ dX7_fit_81 rfl rfl (Nat.le_of_ble_eq_true rfl) ⟨(Nat.le_of_ble_eq_true rfl), (Nat.le_of_ble_eq_true rfl)⟩ ⟨_, _, _, _, hY.2.1 0 0 (by decide), rfl⟩ (kP fun r81 hr81 hp81 => ?_)
        refine v_if_eq 89 dX7_fit_84 (by decide) (by omega) (fun h84 => ?_) (fun h84 => ?_)
        · refine v_iinc dX7_fit_89 rfl (Nat.le_of_ble_eq_true rfl) ?_
          refine v_goto 59 dX7_fit_92 (by decide) ?_
          refine wV.locs (lv' := [(0, .ref (fw 0 0)), (1, .int (gI g)), (3, .int (gI _))]) ⟨rfl, rfl, rfl, trivial⟩ (ih _ (by omega) (by omega) (by omega))
        · refine v_iloadn dX7_fit_87 rfl ?_
          exact v_iret dX7_fit_88 rfl ⟨(Nat.le_of_ble_eq_true rfl), (Nat.le_of_ble_eq_true rfl)⟩ (by omega) ⟨rfl, trivial⟩
      · refine v_iloadn dX7_fit_75 rfl ?_
        refine v_ineg dX7_fit_76 ?_
        exact v_iret dX7_fit_77 rfl ⟨(Nat.le_of_ble_eq_true rfl), (Nat.le_of_ble_eq_true rfl)⟩ (by omega) ⟨rfl, trivial⟩
set_option maxHeartbeats 4000000 in
set_option maxRecDepth 100000 in
theorem tX7_fit_a {sz : Nat} {M0 : wM} {G : gG} {fw : Nat → Nat → Nat} {s : sG} {M : wM} (hY : wY G fw s M) {g : Int} (hg : rng g) : ∀ (k : Nat) (b i : Int), 0 ≤ 13 - i → 13 - i < (k : Int) → (bt 0 i 12) → (bt 0 b 1) → wV G qX7_fit 0 0 sz M0 0 0 17 [(0, .ref (fw 0 0)), (1, .int (gI g)), (2, .int (gI b)), (3, .int (gI i))] [] M (iP fun x M' => M' = M ∧ True) := by
  intro k
  induction k with
  | zero =>
    intros
    omega
  | succ k ih =>
    intro b i hmz hml h1 h2
    have h0 := hY.2.2.1
    have hrw := hY.2.2.2.1
    have hnm := hY.2.2.2.2.1
    have hsh := hY.2.2.2.2.2.1
    have hmk := hY.2.2.2.2.2.2.1
    have hic := hY.2.2.2.2.2.2.2.1
    have hcn := hY.2.2.2.2.2.2.2.2.1
    have hgt := hY.2.2.2.2.2.2.2.2.2
    refine v_iloadn dX7_fit_17 rfl ?_
    refine v_bipush dX7_fit_18 (by decide) ?_
    refine v_icmp_ge 49 dX7_fit_20 (by decide) (by omega) (by omega) (fun h20 => ?_) (fun h20 => ?_)
    · refine v_iloadn dX7_fit_49 rfl ?_
      refine v_if_ne 57 dX7_fit_50 (by decide) (by omega) (fun h50 => ?_) (fun h50 => ?_)
      · refine v_iconst dX7_fit_57 ?_
        refine v_istoren dX7_fit_58 (Nat.le_of_ble_eq_true rfl) ?_
        refine wV.locs (lv' := [(0, .ref (fw 0 0)), (1, .int (gI g)), (3, .int (gI (0)))]) ⟨rfl, rfl, rfl, trivial⟩ (tX7_fit_b hY hg 60 _ (by omega) (by omega) (by omega))
      · refine v_sipush dX7_fit_53 (by decide) ?_
        exact v_iret dX7_fit_56 rfl ⟨(Nat.le_of_ble_eq_true rfl), (Nat.le_of_ble_eq_true rfl)⟩ (by omega) ⟨rfl, trivial⟩
    · refine v_iloadn dX7_fit_23 rfl ?_
      refine v_if_ne 37 dX7_fit_24 (by decide) (by omega) (fun h24 => ?_) (fun h24 => ?_)
      · refine v_iconst dX7_fit_37 ?_
        refine v_goto 42 dX7_fit_38 (by decide) ?_
        refine v_istoren dX7_fit_42 (Nat.le_of_ble_eq_true rfl) ?_
        refine v_iinc dX7_fit_43 rfl (Nat.le_of_ble_eq_true rfl) ?_
        refine v_goto 17 dX7_fit_46 (by decide) ?_
        refine wV.locs (lv' := [(0, .ref (fw 0 0)), (1, .int (gI g)), (2, .int (gI _)), (3, .int (gI _))]) ⟨rfl, rfl, rfl, rfl, trivial⟩ (ih _ _ (by omega) (by omega) (by omega) (by omega))
      · refine v_aloadn dX7_fit_27 rfl ?_
        refine v_get dX7_fit_28 gf_X7_26 (hY.2.1 0 0 (by decide)) rfl ?_
        refine v_iloadn dX7_fit_31 rfl ?_
        refine v_iald dX7_fit_32 (hY.2.1 5 0 (by decide)) (by omega) (by omega) (by decide) ?_
        have hga := hnm i.toNat (by omega)
        refine v_iloadn dX7_fit_33 rfl ?_
        refine v_icmp_ne 41 dX7_fit_34 (by decide) (by omega) (by omega) (fun h34 => ?_) (fun h34 => ?_)
        · refine v_iconst dX7_fit_41 ?_
          refine v_istoren dX7_fit_42 (Nat.le_of_ble_eq_true rfl) ?_
          refine v_iinc dX7_fit_43 rfl (Nat.le_of_ble_eq_true rfl) ?_
          refine v_goto 17 dX7_fit_46 (by decide) ?_
          refine wV.locs (lv' := [(0, .ref (fw 0 0)), (1, .int (gI g)), (2, .int (gI _)), (3, .int (gI _))]) ⟨rfl, rfl, rfl, rfl, trivial⟩ (ih _ _ (by omega) (by omega) (by omega) (by omega))
        · refine v_iconst dX7_fit_37 ?_
          refine v_goto 42 dX7_fit_38 (by decide) ?_
          refine v_istoren dX7_fit_42 (Nat.le_of_ble_eq_true rfl) ?_
          refine v_iinc dX7_fit_43 rfl (Nat.le_of_ble_eq_true rfl) ?_
          refine v_goto 17 dX7_fit_46 (by decide) ?_
          refine wV.locs (lv' := [(0, .ref (fw 0 0)), (1, .int (gI g)), (2, .int (gI _)), (3, .int (gI _))]) ⟨rfl, rfl, rfl, rfl, trivial⟩ (ih _ _ (by omega) (by omega) (by omega) (by omega))
set_option maxHeartbeats 4000000 in
set_option maxRecDepth 100000 in
theorem tX7_fit {G : gG} {fw : Nat → Nat → Nat} {s : sG} {M : wM} (hY : wY G fw s M) {g : Int} (hg : rng g) : wT G qX7_fit 0 0 [.ref (fw 0 0), .int (gI g)] M (iP fun x M' => M' = M ∧ True) := by
  refine wT.intro (by decide) (Nat.le_of_ble_eq_true rfl) (fun sz => ?_)
  have h0 := hY.2.2.1
  have hrw := hY.2.2.2.1
  have hnm := hY.2.2.2.2.1
  have hsh := hY.2.2.2.2.2.1
  have hmk := hY.2.2.2.2.2.2.1
  have hic := hY.2.2.2.2.2.2.2.1
  have hcn := hY.2.2.2.2.2.2.2.2.1
  have hgt := hY.2.2.2.2.2.2.2.2.2
  refine v_iloadn dX7_fit_0 rfl ?_
  refine v_iconst dX7_fit_1 ?_
  refine v_iconst dX7_fit_2 ?_
  refine v_callS (tX7_in (by omega) (by omega) (by omega)) lc_X7_60 ⟨(Nat.le_of_ble_eq_true rfl), (Nat.le_of_ble_eq_true rfl)⟩ dX7_fit_3 rfl rfl (Nat.le_of_ble_eq_true rfl) ⟨(Nat.le_of_ble_eq_true rfl), (Nat.le_of_ble_eq_true rfl)⟩ (kP fun r3 hr3 hp3 => ?_)
  refine v_if_ne 13 dX7_fit_6 (by decide) (by omega) (fun h6 => ?_) (fun h6 => ?_)
  · refine v_iconst dX7_fit_13 ?_
    refine v_istoren dX7_fit_14 (Nat.le_of_ble_eq_true rfl) ?_
    refine v_iconst dX7_fit_15 ?_
    refine v_istoren dX7_fit_16 (Nat.le_of_ble_eq_true rfl) ?_
    refine wV.locs (lv' := [(0, .ref (fw 0 0)), (1, .int (gI g)), (2, .int (gI (0))), (3, .int (gI (0)))]) ⟨rfl, rfl, rfl, rfl, trivial⟩ (tX7_fit_a hY hg 20 _ _ (by omega) (by omega) (by omega) (by omega))
  · refine v_sipush dX7_fit_9 (by decide) ?_
    exact v_iret dX7_fit_12 rfl ⟨(Nat.le_of_ble_eq_true rfl), (Nat.le_of_ble_eq_true rfl)⟩ (by omega) ⟨rfl, trivial⟩
set_option maxHeartbeats 4000000 in
set_option maxRecDepth 100000 in
theorem tX7_agreeAt {G : gG} {fw : Nat → Nat → Nat} {s : sG} {M : wM} (hY : wY G fw s M) {a t : Int} (ha : bt 0 a 11) (ht : rng t) : wT G qX7_agreeAt 0 0 [.ref (fw 0 0), .int (gI a), .int (gI t)] M (iP fun x M' => M' = M ∧ (x = 0 ∨ x = 1)) := by
  refine wT.intro (by decide) (Nat.le_of_ble_eq_true rfl) (fun sz => ?_)
  have h0 := hY.2.2.1
  have hrw := hY.2.2.2.1
  have hnm := hY.2.2.2.2.1
  have hsh := hY.2.2.2.2.2.1
  have hmk := hY.2.2.2.2.2.2.1
  have hic := hY.2.2.2.2.2.2.2.1
  have hcn := hY.2.2.2.2.2.2.2.2.1
  have hgt := hY.2.2.2.2.2.2.2.2.2
  have hna := hnm a.toNat (by omega)
  refine v_aloadn dX7_agreeAt_0 rfl ?_
  refine v_aloadn dX7_agreeAt_1 rfl ?_
  refine v_iconst dX7_agreeAt_2 ?_
  refine v_iloadn dX7_agreeAt_3 rfl ?_
  refine v_iloadn dX7_agreeAt_4 rfl ?_
  refine v_callV (tX7_at hY (by omega) (by omega) (by omega)) lc_X7_83 ⟨(Nat.le_of_ble_eq_true rfl), (Nat.le_of_ble_eq_true rfl)⟩ dX7_agreeAt_5 rfl rfl (Nat.le_of_ble_eq_true rfl) ⟨(Nat.le_of_ble_eq_true rfl), (Nat.le_of_ble_eq_true rfl)⟩ ⟨_, _, _, _, hY.2.1 0 0 (by decide), rfl⟩ (kP fun r5 hr5 hp5 => ?_)
  refine v_aloadn dX7_agreeAt_8 rfl ?_
  refine v_iconst dX7_agreeAt_9 ?_
  refine v_aloadn dX7_agreeAt_10 rfl ?_
  refine v_get dX7_agreeAt_11 gf_X7_23 (hY.2.1 0 0 (by decide)) rfl ?_
  refine v_iloadn dX7_agreeAt_14 rfl ?_
  refine v_iald dX7_agreeAt_15 (hY.2.1 4 0 (by decide)) (by omega) (by omega) (by decide) ?_
  refine v_iloadn dX7_agreeAt_16 rfl ?_
  refine v_callV (tX7_at hY (by omega) (by omega) (by omega)) lc_X7_83 ⟨(Nat.le_of_ble_eq_true rfl), (Nat.le_of_ble_eq_true rfl)⟩ dX7_agreeAt_17 rfl rfl (Nat.le_of_ble_eq_true rfl) ⟨(Nat.le_of_ble_eq_true rfl), (Nat.le_of_ble_eq_true rfl)⟩ ⟨_, _, _, _, hY.2.1 0 0 (by decide), rfl⟩ (kP fun r17 hr17 hp17 => ?_)
  refine v_callV (tX7_agree hY hr5 hr17) lc_X7_97 ⟨(Nat.le_of_ble_eq_true rfl), (Nat.le_of_ble_eq_true rfl)⟩ dX7_agreeAt_20 rfl rfl (Nat.le_of_ble_eq_true rfl) ⟨(Nat.le_of_ble_eq_true rfl), (Nat.le_of_ble_eq_true rfl)⟩ ⟨_, _, _, _, hY.2.1 0 0 (by decide), rfl⟩ (kP fun r20 hr20 hp20 => ?_)
  exact v_zret dX7_agreeAt_23 rfl ⟨(Nat.le_of_ble_eq_true rfl), (Nat.le_of_ble_eq_true rfl)⟩ (hp20.2) ⟨rfl, hp20.2⟩
set_option maxHeartbeats 4000000 in
set_option maxRecDepth 100000 in
theorem tX7_edge_loop {sz : Nat} {M0 : wM} {G : gG} {fw : Nat → Nat → Nat} {s : sG} {M : wM} (hY : wY G fw s M) {a b t : Int} (ha : bt 0 a 1) (hb : bt 0 b 11) (ht : bt 0 t 4000) : ∀ (k : Nat) (u e : Int), 0 ≤ 100000 - e → 100000 - e < (k : Int) → (bt 0 e 100000) → (bt (-1) u 4000) → wV G qX7_edge 0 0 sz M0 0 0 12 [(0, .ref (fw 0 0)), (1, .int (gI a)), (2, .int (gI b)), (3, .int (gI t)), (4, .int (gI u)), (5, .int (gI e))] [] M (iP fun x M' => M' = M ∧ bt (-1) x 4000) := by
  intro k
  induction k with
  | zero =>
    intros
    omega
  | succ k ih =>
    intro u e hmz hml h1 h2
    have h0 := hY.2.2.1
    have hrw := hY.2.2.2.1
    have hnm := hY.2.2.2.2.1
    have hsh := hY.2.2.2.2.2.1
    have hmk := hY.2.2.2.2.2.2.1
    have hic := hY.2.2.2.2.2.2.2.1
    have hcn := hY.2.2.2.2.2.2.2.2.1
    have hgt := hY.2.2.2.2.2.2.2.2.2
    refine v_iload dX7_edge_12 rfl ?_
    refine v_iloadn dX7_edge_14 rfl ?_
    refine v_icmp_gt 51 dX7_edge_15 (by decide) (by omega) (by omega) (fun h15 => ?_) (fun h15 => ?_)
    · refine v_iload dX7_edge_51 rfl ?_
      exact v_iret dX7_edge_53 rfl ⟨(Nat.le_of_ble_eq_true rfl), (Nat.le_of_ble_eq_true rfl)⟩ (by omega) ⟨rfl, by omega⟩
    · refine v_aloadn dX7_edge_18 rfl ?_
      refine v_iloadn dX7_edge_19 rfl ?_
      refine v_iloadn dX7_edge_20 rfl ?_
      refine v_iload dX7_edge_21 rfl ?_
      refine v_callV (tX7_isEdge hY (by omega) (by omega) (by omega)) lc_X7_135 ⟨(Nat.le_of_ble_eq_true rfl), (Nat.le_of_ble_eq_true rfl)⟩ dX7_edge_23 rfl rfl (Nat.le_of_ble_eq_true rfl) ⟨(Nat.le_of_ble_eq_true rfl), (Nat.le_of_ble_eq_true rfl)⟩ ⟨_, _, _, _, hY.2.1 0 0 (by decide), rfl⟩ (kP fun r23 hr23 hp23 => ?_)
      refine v_if_eq 34 dX7_edge_26 (by decide) (by omega) (fun h26 => ?_) (fun h26 => ?_)
      · refine v_iload dX7_edge_34 rfl ?_
        refine v_istore dX7_edge_36 (Nat.le_of_ble_eq_true rfl) ?_
        refine v_aloadn dX7_edge_38 rfl ?_
        refine v_iloadn dX7_edge_39 rfl ?_
        refine v_iloadn dX7_edge_40 rfl ?_
        refine v_iload dX7_edge_41 rfl ?_
        refine v_callV (tX7_nextChange hY (by omega) (by omega) (by omega) (by omega)) lc_X7_103 ⟨(Nat.le_of_ble_eq_true rfl), (Nat.le_of_ble_eq_true rfl)⟩ dX7_edge_43 rfl rfl (Nat.le_of_ble_eq_true rfl) ⟨(Nat.le_of_ble_eq_true rfl), (Nat.le_of_ble_eq_true rfl)⟩ ⟨_, _, _, _, hY.2.1 0 0 (by decide), rfl⟩ (kP fun r43 hr43 hp43 => ?_)
        refine v_istore dX7_edge_46 (Nat.le_of_ble_eq_true rfl) ?_
        refine v_goto 12 dX7_edge_48 (by decide) ?_
        refine wV.locs (lv' := [(0, .ref (fw 0 0)), (1, .int (gI a)), (2, .int (gI b)), (3, .int (gI t)), (4, .int (gI _)), (5, .int (gI _))]) ⟨rfl, rfl, rfl, rfl, rfl, rfl, trivial⟩ (ih _ _ (by omega) (by omega) (by omega) (by omega))
      · refine v_iload dX7_edge_29 rfl ?_
        refine v_goto 36 dX7_edge_31 (by decide) ?_
        refine v_istore dX7_edge_36 (Nat.le_of_ble_eq_true rfl) ?_
        refine v_aloadn dX7_edge_38 rfl ?_
        refine v_iloadn dX7_edge_39 rfl ?_
        refine v_iloadn dX7_edge_40 rfl ?_
        refine v_iload dX7_edge_41 rfl ?_
        refine v_callV (tX7_nextChange hY (by omega) (by omega) (by omega) (by omega)) lc_X7_103 ⟨(Nat.le_of_ble_eq_true rfl), (Nat.le_of_ble_eq_true rfl)⟩ dX7_edge_43 rfl rfl (Nat.le_of_ble_eq_true rfl) ⟨(Nat.le_of_ble_eq_true rfl), (Nat.le_of_ble_eq_true rfl)⟩ ⟨_, _, _, _, hY.2.1 0 0 (by decide), rfl⟩ (kP fun r43 hr43 hp43 => ?_)
        refine v_istore dX7_edge_46 (Nat.le_of_ble_eq_true rfl) ?_
        refine v_goto 12 dX7_edge_48 (by decide) ?_
        refine wV.locs (lv' := [(0, .ref (fw 0 0)), (1, .int (gI a)), (2, .int (gI b)), (3, .int (gI t)), (4, .int (gI _)), (5, .int (gI _))]) ⟨rfl, rfl, rfl, rfl, rfl, rfl, trivial⟩ (ih _ _ (by omega) (by omega) (by omega) (by omega))
set_option maxHeartbeats 4000000 in
set_option maxRecDepth 100000 in
theorem tX7_edge {G : gG} {fw : Nat → Nat → Nat} {s : sG} {M : wM} (hY : wY G fw s M) {a b t : Int} (ha : bt 0 a 1) (hb : bt 0 b 11) (ht : bt 0 t 4000) : wT G qX7_edge 0 0 [.ref (fw 0 0), .int (gI a), .int (gI b), .int (gI t)] M (iP fun x M' => M' = M ∧ bt (-1) x 4000) := by
  refine wT.intro (by decide) (Nat.le_of_ble_eq_true rfl) (fun sz => ?_)
  have h0 := hY.2.2.1
  have hrw := hY.2.2.2.1
  have hnm := hY.2.2.2.2.1
  have hsh := hY.2.2.2.2.2.1
  have hmk := hY.2.2.2.2.2.2.1
  have hic := hY.2.2.2.2.2.2.2.1
  have hcn := hY.2.2.2.2.2.2.2.2.1
  have hgt := hY.2.2.2.2.2.2.2.2.2
  refine v_iconst dX7_edge_0 ?_
  refine v_istore dX7_edge_1 (Nat.le_of_ble_eq_true rfl) ?_
  refine v_aloadn dX7_edge_3 rfl ?_
  refine v_iloadn dX7_edge_4 rfl ?_
  refine v_iloadn dX7_edge_5 rfl ?_
  refine v_iconst dX7_edge_6 ?_
  refine v_callV (tX7_nextChange hY (by omega) (by omega) (by omega) (by omega)) lc_X7_103 ⟨(Nat.le_of_ble_eq_true rfl), (Nat.le_of_ble_eq_true rfl)⟩ dX7_edge_7 rfl rfl (Nat.le_of_ble_eq_true rfl) ⟨(Nat.le_of_ble_eq_true rfl), (Nat.le_of_ble_eq_true rfl)⟩ ⟨_, _, _, _, hY.2.1 0 0 (by decide), rfl⟩ (kP fun r7 hr7 hp7 => ?_)
  refine v_istore dX7_edge_10 (Nat.le_of_ble_eq_true rfl) ?_
  refine wV.locs (lv' := [(0, .ref (fw 0 0)), (1, .int (gI a)), (2, .int (gI b)), (3, .int (gI t)), (4, .int (gI (-1))), (5, .int (gI (_)))]) ⟨rfl, rfl, rfl, rfl, rfl, rfl, trivial⟩ (tX7_edge_loop hY ha hb ht 100010 _ _ (by omega) (by omega) (by omega) (by omega))
set_option maxHeartbeats 4000000 in
set_option maxRecDepth 100000 in
theorem tX7_inputsAgree {G : gG} {fw : Nat → Nat → Nat} {s : sG} {M : wM} (hY : wY G fw s M) {a t : Int} (ha : bt 0 a 11) (ht : bt 0 t 4000) (hg : 0 < s 13 0 a.toNat) : wT G qX7_inputsAgree 0 0 [.ref (fw 0 0), .int (gI a), .int (gI t)] M (iP fun x M' => M' = M ∧ (x = 0 ∨ x = 1)) := by
  refine wT.intro (by decide) (Nat.le_of_ble_eq_true rfl) (fun sz => ?_)
  have h0 := hY.2.2.1
  have hrw := hY.2.2.2.1
  have hnm := hY.2.2.2.2.1
  have hsh := hY.2.2.2.2.2.1
  have hmk := hY.2.2.2.2.2.2.1
  have hic := hY.2.2.2.2.2.2.2.1
  have hcn := hY.2.2.2.2.2.2.2.2.1
  have hgt := hY.2.2.2.2.2.2.2.2.2
  have hga := hgt a.toNat (by omega)
  refine v_aloadn dX7_inputsAgree_0 rfl ?_
  refine v_get dX7_inputsAgree_1 gf_X7_51 (hY.2.1 0 0 (by decide)) rfl ?_
  refine v_iloadn dX7_inputsAgree_4 rfl ?_
  refine v_iald dX7_inputsAgree_5 (hY.2.1 13 0 (by decide)) (by omega) (by omega) (by decide) ?_
  refine v_bipush dX7_inputsAgree_6 (by decide) ?_
  refine v_icmp_ge 55 dX7_inputsAgree_8 (by decide) (by omega) (by omega) (fun h8 => ?_) (fun h8 => ?_)
  · refine v_aloadn dX7_inputsAgree_55 rfl ?_
    refine v_iconst dX7_inputsAgree_56 ?_
    refine v_aloadn dX7_inputsAgree_57 rfl ?_
    refine v_get dX7_inputsAgree_58 gf_X7_57 (hY.2.1 0 0 (by decide)) rfl ?_
    refine v_iloadn dX7_inputsAgree_61 rfl ?_
    refine v_iald dX7_inputsAgree_62 (hY.2.1 15 0 (by decide)) (by omega) (by omega) (by decide) ?_
    refine v_iloadn dX7_inputsAgree_63 rfl ?_
    refine v_callV (tX7_edge hY (by omega) (by omega) (by omega)) lc_X7_153 ⟨(Nat.le_of_ble_eq_true rfl), (Nat.le_of_ble_eq_true rfl)⟩ dX7_inputsAgree_64 rfl rfl (Nat.le_of_ble_eq_true rfl) ⟨(Nat.le_of_ble_eq_true rfl), (Nat.le_of_ble_eq_true rfl)⟩ ⟨_, _, _, _, hY.2.1 0 0 (by decide), rfl⟩ (kP fun r64 hr64 hp64 => ?_)
    refine v_istoren dX7_inputsAgree_67 (Nat.le_of_ble_eq_true rfl) ?_
    refine v_aloadn dX7_inputsAgree_68 rfl ?_
    refine v_iconst dX7_inputsAgree_69 ?_
    refine v_aloadn dX7_inputsAgree_70 rfl ?_
    refine v_get dX7_inputsAgree_71 gf_X7_23 (hY.2.1 0 0 (by decide)) rfl ?_
    refine v_aloadn dX7_inputsAgree_74 rfl ?_
    refine v_get dX7_inputsAgree_75 gf_X7_57 (hY.2.1 0 0 (by decide)) rfl ?_
    refine v_iloadn dX7_inputsAgree_78 rfl ?_
    refine v_iald dX7_inputsAgree_79 (hY.2.1 15 0 (by decide)) (by omega) (by omega) (by decide) ?_
    have hnb := hnm (s 15 0 a.toNat).toNat (by omega)
    refine v_iald dX7_inputsAgree_80 (hY.2.1 4 0 (by decide)) (by omega) (by omega) (by decide) ?_
    refine v_iloadn dX7_inputsAgree_81 rfl ?_
    refine v_callV (tX7_edge hY (by omega) (by omega) (by omega)) lc_X7_153 ⟨(Nat.le_of_ble_eq_true rfl), (Nat.le_of_ble_eq_true rfl)⟩ dX7_inputsAgree_82 rfl rfl (Nat.le_of_ble_eq_true rfl) ⟨(Nat.le_of_ble_eq_true rfl), (Nat.le_of_ble_eq_true rfl)⟩ ⟨_, _, _, _, hY.2.1 0 0 (by decide), rfl⟩ (kP fun r82 hr82 hp82 => ?_)
    refine v_istore dX7_inputsAgree_85 (Nat.le_of_ble_eq_true rfl) ?_
    refine v_iloadn dX7_inputsAgree_87 rfl ?_
    refine v_if_lt 117 dX7_inputsAgree_88 (by decide) (by omega) (fun h88 => ?_) (fun h88 => ?_)
    · refine v_iconst dX7_inputsAgree_117 ?_
      exact v_zret dX7_inputsAgree_118 rfl ⟨(Nat.le_of_ble_eq_true rfl), (Nat.le_of_ble_eq_true rfl)⟩ (by omega) ⟨rfl, by omega⟩
    · refine v_iloadn dX7_inputsAgree_91 rfl ?_
      refine v_iload dX7_inputsAgree_92 rfl ?_
      refine v_icmp_ne 117 dX7_inputsAgree_94 (by decide) (by omega) (by omega) (fun h94 => ?_) (fun h94 => ?_)
      · refine v_iconst dX7_inputsAgree_117 ?_
        exact v_zret dX7_inputsAgree_118 rfl ⟨(Nat.le_of_ble_eq_true rfl), (Nat.le_of_ble_eq_true rfl)⟩ (by omega) ⟨rfl, by omega⟩
      · refine v_aloadn dX7_inputsAgree_97 rfl ?_
        refine v_aloadn dX7_inputsAgree_98 rfl ?_
        refine v_get dX7_inputsAgree_99 gf_X7_54 (hY.2.1 0 0 (by decide)) rfl ?_
        refine v_iloadn dX7_inputsAgree_102 rfl ?_
        refine v_iald dX7_inputsAgree_103 (hY.2.1 14 0 (by decide)) (by omega) (by omega) (by decide) ?_
        refine v_iloadn dX7_inputsAgree_104 rfl ?_
        refine v_iconst dX7_inputsAgree_105 ?_
        refine v_isub dX7_inputsAgree_106 ?_
        refine v_callV (tX7_agreeAt hY (by omega) (by omega)) lc_X7_150 ⟨(Nat.le_of_ble_eq_true rfl), (Nat.le_of_ble_eq_true rfl)⟩ dX7_inputsAgree_107 rfl rfl (Nat.le_of_ble_eq_true rfl) ⟨(Nat.le_of_ble_eq_true rfl), (Nat.le_of_ble_eq_true rfl)⟩ ⟨_, _, _, _, hY.2.1 0 0 (by decide), rfl⟩ (kP fun r107 hr107 hp107 => ?_)
        refine v_if_eq 117 dX7_inputsAgree_110 (by decide) (by omega) (fun h110 => ?_) (fun h110 => ?_)
        · refine v_iconst dX7_inputsAgree_117 ?_
          exact v_zret dX7_inputsAgree_118 rfl ⟨(Nat.le_of_ble_eq_true rfl), (Nat.le_of_ble_eq_true rfl)⟩ (by omega) ⟨rfl, by omega⟩
        · refine v_iconst dX7_inputsAgree_113 ?_
          refine v_goto 118 dX7_inputsAgree_114 (by decide) ?_
          exact v_zret dX7_inputsAgree_118 rfl ⟨(Nat.le_of_ble_eq_true rfl), (Nat.le_of_ble_eq_true rfl)⟩ (by omega) ⟨rfl, by omega⟩
  · refine v_aloadn dX7_inputsAgree_11 rfl ?_
    refine v_aloadn dX7_inputsAgree_12 rfl ?_
    refine v_get dX7_inputsAgree_13 gf_X7_54 (hY.2.1 0 0 (by decide)) rfl ?_
    refine v_iloadn dX7_inputsAgree_16 rfl ?_
    refine v_iald dX7_inputsAgree_17 (hY.2.1 14 0 (by decide)) (by omega) (by omega) (by decide) ?_
    refine v_iloadn dX7_inputsAgree_18 rfl ?_
    refine v_callV (tX7_agreeAt hY (by omega) (by omega)) lc_X7_150 ⟨(Nat.le_of_ble_eq_true rfl), (Nat.le_of_ble_eq_true rfl)⟩ dX7_inputsAgree_19 rfl rfl (Nat.le_of_ble_eq_true rfl) ⟨(Nat.le_of_ble_eq_true rfl), (Nat.le_of_ble_eq_true rfl)⟩ ⟨_, _, _, _, hY.2.1 0 0 (by decide), rfl⟩ (kP fun r19 hr19 hp19 => ?_)
    refine v_if_eq 53 dX7_inputsAgree_22 (by decide) (by omega) (fun h22 => ?_) (fun h22 => ?_)
    · refine v_iconst dX7_inputsAgree_53 ?_
      exact v_zret dX7_inputsAgree_54 rfl ⟨(Nat.le_of_ble_eq_true rfl), (Nat.le_of_ble_eq_true rfl)⟩ (by omega) ⟨rfl, by omega⟩
    · refine v_aloadn dX7_inputsAgree_25 rfl ?_
      refine v_get dX7_inputsAgree_26 gf_X7_51 (hY.2.1 0 0 (by decide)) rfl ?_
      refine v_iloadn dX7_inputsAgree_29 rfl ?_
      refine v_iald dX7_inputsAgree_30 (hY.2.1 13 0 (by decide)) (by omega) (by omega) (by decide) ?_
      refine v_iconst dX7_inputsAgree_31 ?_
      refine v_icmp_eq 49 dX7_inputsAgree_32 (by decide) (by omega) (by omega) (fun h32 => ?_) (fun h32 => ?_)
      · refine v_iconst dX7_inputsAgree_49 ?_
        refine v_goto 54 dX7_inputsAgree_50 (by decide) ?_
        exact v_zret dX7_inputsAgree_54 rfl ⟨(Nat.le_of_ble_eq_true rfl), (Nat.le_of_ble_eq_true rfl)⟩ (by omega) ⟨rfl, by omega⟩
      · refine v_aloadn dX7_inputsAgree_35 rfl ?_
        refine v_aloadn dX7_inputsAgree_36 rfl ?_
        refine v_get dX7_inputsAgree_37 gf_X7_57 (hY.2.1 0 0 (by decide)) rfl ?_
        refine v_iloadn dX7_inputsAgree_40 rfl ?_
        refine v_iald dX7_inputsAgree_41 (hY.2.1 15 0 (by decide)) (by omega) (by omega) (by decide) ?_
        refine v_iloadn dX7_inputsAgree_42 rfl ?_
        refine v_callV (tX7_agreeAt hY (by omega) (by omega)) lc_X7_150 ⟨(Nat.le_of_ble_eq_true rfl), (Nat.le_of_ble_eq_true rfl)⟩ dX7_inputsAgree_43 rfl rfl (Nat.le_of_ble_eq_true rfl) ⟨(Nat.le_of_ble_eq_true rfl), (Nat.le_of_ble_eq_true rfl)⟩ ⟨_, _, _, _, hY.2.1 0 0 (by decide), rfl⟩ (kP fun r43 hr43 hp43 => ?_)
        refine v_if_eq 53 dX7_inputsAgree_46 (by decide) (by omega) (fun h46 => ?_) (fun h46 => ?_)
        · refine v_iconst dX7_inputsAgree_53 ?_
          exact v_zret dX7_inputsAgree_54 rfl ⟨(Nat.le_of_ble_eq_true rfl), (Nat.le_of_ble_eq_true rfl)⟩ (by omega) ⟨rfl, by omega⟩
        · refine v_iconst dX7_inputsAgree_49 ?_
          refine v_goto 54 dX7_inputsAgree_50 (by decide) ?_
          exact v_zret dX7_inputsAgree_54 rfl ⟨(Nat.le_of_ble_eq_true rfl), (Nat.le_of_ble_eq_true rfl)⟩ (by omega) ⟨rfl, by omega⟩
set_option maxHeartbeats 4000000 in
set_option maxRecDepth 100000 in
theorem tX7_guilty_loop {sz : Nat} {M0 : wM} {G : gG} {fw : Nat → Nat → Nat} {s : sG} {M : wM} (hY : wY G fw s M) {t : Int} (ht : bt 0 t 4000) : ∀ (k : Nat) (i : Int), 0 ≤ 13 - i → 13 - i < (k : Int) → (bt 0 i 12) → wV G qX7_guilty 0 0 sz M0 0 0 18 [(0, .ref (fw 0 0)), (1, .int (gI t)), (2, .int (gI i))] [] M (iP fun x M' => M' = M ∧ True) := by
  intro k
  induction k with
  | zero =>
    intros
    omega
  | succ k ih =>
    intro i hmz hml h1
    have h0 := hY.2.2.1
    have hrw := hY.2.2.2.1
    have hnm := hY.2.2.2.2.1
    have hsh := hY.2.2.2.2.2.1
    have hmk := hY.2.2.2.2.2.2.1
    have hic := hY.2.2.2.2.2.2.2.1
    have hcn := hY.2.2.2.2.2.2.2.2.1
    have hgt := hY.2.2.2.2.2.2.2.2.2
    refine v_iloadn dX7_guilty_18 rfl ?_
    refine v_bipush dX7_guilty_19 (by decide) ?_
    refine v_icmp_ge 59 dX7_guilty_21 (by decide) (by omega) (by omega) (fun h21 => ?_) (fun h21 => ?_)
    · refine v_bipush dX7_guilty_59 (by decide) ?_
      exact v_iret dX7_guilty_61 rfl ⟨(Nat.le_of_ble_eq_true rfl), (Nat.le_of_ble_eq_true rfl)⟩ (by omega) ⟨rfl, trivial⟩
    · refine v_aloadn dX7_guilty_24 rfl ?_
      refine v_get dX7_guilty_25 gf_X7_51 (hY.2.1 0 0 (by decide)) rfl ?_
      refine v_iloadn dX7_guilty_28 rfl ?_
      refine v_iald dX7_guilty_29 (hY.2.1 13 0 (by decide)) (by omega) (by omega) (by decide) ?_
      have hga := hgt i.toNat (by omega)
      refine v_if_le 53 dX7_guilty_30 (by decide) (by omega) (fun h30 => ?_) (fun h30 => ?_)
      · refine v_iinc dX7_guilty_53 rfl (Nat.le_of_ble_eq_true rfl) ?_
        refine v_goto 18 dX7_guilty_56 (by decide) ?_
        refine wV.locs (lv' := [(0, .ref (fw 0 0)), (1, .int (gI t)), (2, .int (gI _))]) ⟨rfl, rfl, rfl, trivial⟩ (ih _ (by omega) (by omega) (by omega))
      · refine v_aloadn dX7_guilty_33 rfl ?_
        refine v_iloadn dX7_guilty_34 rfl ?_
        refine v_iloadn dX7_guilty_35 rfl ?_
        refine v_callV (tX7_agreeAt hY (by omega) (by omega)) lc_X7_150 ⟨(Nat.le_of_ble_eq_true rfl), (Nat.le_of_ble_eq_true rfl)⟩ dX7_guilty_36 rfl rfl (Nat.le_of_ble_eq_true rfl) ⟨(Nat.le_of_ble_eq_true rfl), (Nat.le_of_ble_eq_true rfl)⟩ ⟨_, _, _, _, hY.2.1 0 0 (by decide), rfl⟩ (kP fun r36 hr36 hp36 => ?_)
        refine v_if_ne 53 dX7_guilty_39 (by decide) (by omega) (fun h39 => ?_) (fun h39 => ?_)
        · refine v_iinc dX7_guilty_53 rfl (Nat.le_of_ble_eq_true rfl) ?_
          refine v_goto 18 dX7_guilty_56 (by decide) ?_
          refine wV.locs (lv' := [(0, .ref (fw 0 0)), (1, .int (gI t)), (2, .int (gI _))]) ⟨rfl, rfl, rfl, trivial⟩ (ih _ (by omega) (by omega) (by omega))
        · refine v_aloadn dX7_guilty_42 rfl ?_
          refine v_iloadn dX7_guilty_43 rfl ?_
          refine v_iloadn dX7_guilty_44 rfl ?_
          refine v_callV (tX7_inputsAgree hY (by omega) ht (by omega)) lc_X7_156 ⟨(Nat.le_of_ble_eq_true rfl), (Nat.le_of_ble_eq_true rfl)⟩ dX7_guilty_45 rfl rfl (Nat.le_of_ble_eq_true rfl) ⟨(Nat.le_of_ble_eq_true rfl), (Nat.le_of_ble_eq_true rfl)⟩ ⟨_, _, _, _, hY.2.1 0 0 (by decide), rfl⟩ (kP fun r45 hr45 hp45 => ?_)
          refine v_if_eq 53 dX7_guilty_48 (by decide) (by omega) (fun h48 => ?_) (fun h48 => ?_)
          · refine v_iinc dX7_guilty_53 rfl (Nat.le_of_ble_eq_true rfl) ?_
            refine v_goto 18 dX7_guilty_56 (by decide) ?_
            refine wV.locs (lv' := [(0, .ref (fw 0 0)), (1, .int (gI t)), (2, .int (gI _))]) ⟨rfl, rfl, rfl, trivial⟩ (ih _ (by omega) (by omega) (by omega))
          · refine v_iloadn dX7_guilty_51 rfl ?_
            exact v_iret dX7_guilty_52 rfl ⟨(Nat.le_of_ble_eq_true rfl), (Nat.le_of_ble_eq_true rfl)⟩ (by omega) ⟨rfl, trivial⟩
set_option maxHeartbeats 4000000 in
set_option maxRecDepth 100000 in
theorem tX7_guilty {G : gG} {fw : Nat → Nat → Nat} {s : sG} {M : wM} (hY : wY G fw s M) {t : Int} (ht : rng t) : wT G qX7_guilty 0 0 [.ref (fw 0 0), .int (gI t)] M (iP fun x M' => M' = M ∧ True) := by
  refine wT.intro (by decide) (Nat.le_of_ble_eq_true rfl) (fun sz => ?_)
  have h0 := hY.2.2.1
  have hrw := hY.2.2.2.1
  have hnm := hY.2.2.2.2.1
  have hsh := hY.2.2.2.2.2.1
  have hmk := hY.2.2.2.2.2.2.1
  have hic := hY.2.2.2.2.2.2.2.1
  have hcn := hY.2.2.2.2.2.2.2.2.1
  have hgt := hY.2.2.2.2.2.2.2.2.2
  refine v_iloadn dX7_guilty_0 rfl ?_
  refine v_iconst dX7_guilty_1 ?_
  refine v_aloadn dX7_guilty_2 rfl ?_
  refine v_get dX7_guilty_3 gf_X7_7 (hY.2.1 0 0 (by decide)) rfl ?_
  refine v_iconst dX7_guilty_6 ?_
  refine v_isub dX7_guilty_7 ?_
  refine v_callS (tX7_in (by omega) (by omega) (by omega)) lc_X7_60 ⟨(Nat.le_of_ble_eq_true rfl), (Nat.le_of_ble_eq_true rfl)⟩ dX7_guilty_8 rfl rfl (Nat.le_of_ble_eq_true rfl) ⟨(Nat.le_of_ble_eq_true rfl), (Nat.le_of_ble_eq_true rfl)⟩ (kP fun r8 hr8 hp8 => ?_)
  refine v_if_ne 16 dX7_guilty_11 (by decide) (by omega) (fun h11 => ?_) (fun h11 => ?_)
  · refine v_iconst dX7_guilty_16 ?_
    refine v_istoren dX7_guilty_17 (Nat.le_of_ble_eq_true rfl) ?_
    refine wV.locs (lv' := [(0, .ref (fw 0 0)), (1, .int (gI t)), (2, .int (gI (0)))]) ⟨rfl, rfl, rfl, trivial⟩ (tX7_guilty_loop hY (by omega) 20 _ (by omega) (by omega) (by omega))
  · refine v_iconst dX7_guilty_14 ?_
    exact v_iret dX7_guilty_15 rfl ⟨(Nat.le_of_ble_eq_true rfl), (Nat.le_of_ble_eq_true rfl)⟩ (by omega) ⟨rfl, trivial⟩
set_option maxHeartbeats 4000000 in
set_option maxRecDepth 100000 in
theorem tX7_behave_loop {sz : Nat} {M0 : wM} {G : gG} {fw : Nat → Nat → Nat} {s : sG} {M : wM} (hY : wY G fw s M) {a b : Int} (ha : bt 0 a 11) (hb : bt 0 b 11) : ∀ (k : Nat) (u t : Int), 0 ≤ 100000 - t → 100000 - t < (k : Int) → (bt 0 t 100000) → (bt 0 u 1) → wV G qX7_behave 0 0 sz M0 0 0 5 [(0, .ref (fw 0 0)), (1, .int (gI a)), (2, .int (gI b)), (3, .int (gI u)), (4, .int (gI t))] [] M (iP fun x M' => M' = M ∧ (x = 0 ∨ x = 1)) := by
  intro k
  induction k with
  | zero =>
    intros
    omega
  | succ k ih =>
    intro u t hmz hml h1 h2
    have h0 := hY.2.2.1
    have hrw := hY.2.2.2.1
    have hnm := hY.2.2.2.2.1
    have hsh := hY.2.2.2.2.2.1
    have hmk := hY.2.2.2.2.2.2.1
    have hic := hY.2.2.2.2.2.2.2.1
    have hcn := hY.2.2.2.2.2.2.2.2.1
    have hgt := hY.2.2.2.2.2.2.2.2.2
    refine v_iload dX7_behave_5 rfl ?_
    refine v_aloadn dX7_behave_7 rfl ?_
    refine v_get dX7_behave_8 gf_X7_7 (hY.2.1 0 0 (by decide)) rfl ?_
    refine v_icmp_ge 63 dX7_behave_11 (by decide) (by omega) (by omega) (fun h11 => ?_) (fun h11 => ?_)
    · refine v_iloadn dX7_behave_63 rfl ?_
      exact v_zret dX7_behave_64 rfl ⟨(Nat.le_of_ble_eq_true rfl), (Nat.le_of_ble_eq_true rfl)⟩ (by omega) ⟨rfl, by omega⟩
    · refine v_iloadn dX7_behave_14 rfl ?_
      refine v_if_eq 63 dX7_behave_15 (by decide) (by omega) (fun h15 => ?_) (fun h15 => ?_)
      · refine v_iloadn dX7_behave_63 rfl ?_
        exact v_zret dX7_behave_64 rfl ⟨(Nat.le_of_ble_eq_true rfl), (Nat.le_of_ble_eq_true rfl)⟩ (by omega) ⟨rfl, by omega⟩
      · refine v_aloadn dX7_behave_18 rfl ?_
        refine v_aloadn dX7_behave_19 rfl ?_
        refine v_iconst dX7_behave_20 ?_
        refine v_iloadn dX7_behave_21 rfl ?_
        refine v_iload dX7_behave_22 rfl ?_
        refine v_callV (tX7_at hY (by omega) (by omega) (by omega)) lc_X7_83 ⟨(Nat.le_of_ble_eq_true rfl), (Nat.le_of_ble_eq_true rfl)⟩ dX7_behave_24 rfl rfl (Nat.le_of_ble_eq_true rfl) ⟨(Nat.le_of_ble_eq_true rfl), (Nat.le_of_ble_eq_true rfl)⟩ ⟨_, _, _, _, hY.2.1 0 0 (by decide), rfl⟩ (kP fun r24 hr24 hp24 => ?_)
        refine v_aloadn dX7_behave_27 rfl ?_
        refine v_iconst dX7_behave_28 ?_
        refine v_iloadn dX7_behave_29 rfl ?_
        refine v_iload dX7_behave_30 rfl ?_
        refine v_callV (tX7_at hY (by omega) (by omega) (by omega)) lc_X7_83 ⟨(Nat.le_of_ble_eq_true rfl), (Nat.le_of_ble_eq_true rfl)⟩ dX7_behave_32 rfl rfl (Nat.le_of_ble_eq_true rfl) ⟨(Nat.le_of_ble_eq_true rfl), (Nat.le_of_ble_eq_true rfl)⟩ ⟨_, _, _, _, hY.2.1 0 0 (by decide), rfl⟩ (kP fun r32 hr32 hp32 => ?_)
        refine v_callV (tX7_agree hY hr24 hr32) lc_X7_97 ⟨(Nat.le_of_ble_eq_true rfl), (Nat.le_of_ble_eq_true rfl)⟩ dX7_behave_35 rfl rfl (Nat.le_of_ble_eq_true rfl) ⟨(Nat.le_of_ble_eq_true rfl), (Nat.le_of_ble_eq_true rfl)⟩ ⟨_, _, _, _, hY.2.1 0 0 (by decide), rfl⟩ (kP fun r35 hr35 hp35 => ?_)
        have hu35 := hp35.2
        refine v_istoren dX7_behave_38 (Nat.le_of_ble_eq_true rfl) ?_
        refine v_aloadn dX7_behave_39 rfl ?_
        refine v_iconst dX7_behave_40 ?_
        refine v_iloadn dX7_behave_41 rfl ?_
        refine v_iload dX7_behave_42 rfl ?_
        refine v_callV (tX7_nextChange hY (by omega) (by omega) (by omega) (by omega)) lc_X7_103 ⟨(Nat.le_of_ble_eq_true rfl), (Nat.le_of_ble_eq_true rfl)⟩ dX7_behave_44 rfl rfl (Nat.le_of_ble_eq_true rfl) ⟨(Nat.le_of_ble_eq_true rfl), (Nat.le_of_ble_eq_true rfl)⟩ ⟨_, _, _, _, hY.2.1 0 0 (by decide), rfl⟩ (kP fun r44 hr44 hp44 => ?_)
        refine v_aloadn dX7_behave_47 rfl ?_
        refine v_iconst dX7_behave_48 ?_
        refine v_iloadn dX7_behave_49 rfl ?_
        refine v_iload dX7_behave_50 rfl ?_
        refine v_callV (tX7_nextChange hY (by omega) (by omega) (by omega) (by omega)) lc_X7_103 ⟨(Nat.le_of_ble_eq_true rfl), (Nat.le_of_ble_eq_true rfl)⟩ dX7_behave_52 rfl rfl (Nat.le_of_ble_eq_true rfl) ⟨(Nat.le_of_ble_eq_true rfl), (Nat.le_of_ble_eq_true rfl)⟩ ⟨_, _, _, _, hY.2.1 0 0 (by decide), rfl⟩ (kP fun r52 hr52 hp52 => ?_)
        refine v_callS (tX7_least (by omega) (by omega)) lc_X7_106 ⟨(Nat.le_of_ble_eq_true rfl), (Nat.le_of_ble_eq_true rfl)⟩ dX7_behave_55 rfl rfl (Nat.le_of_ble_eq_true rfl) ⟨(Nat.le_of_ble_eq_true rfl), (Nat.le_of_ble_eq_true rfl)⟩ (kP fun r55 hr55 hp55 => ?_)
        refine v_istore dX7_behave_58 (Nat.le_of_ble_eq_true rfl) ?_
        refine v_goto 5 dX7_behave_60 (by decide) ?_
        refine wV.locs (lv' := [(0, .ref (fw 0 0)), (1, .int (gI a)), (2, .int (gI b)), (3, .int (gI _)), (4, .int (gI _))]) ⟨rfl, rfl, rfl, rfl, rfl, trivial⟩ (ih _ _ (by omega) (by omega) (by omega) (by omega))
set_option maxHeartbeats 4000000 in
set_option maxRecDepth 100000 in
theorem tX7_behave {G : gG} {fw : Nat → Nat → Nat} {s : sG} {M : wM} (hY : wY G fw s M) {a b : Int} (ha : bt 0 a 11) (hb : bt 0 b 11) : wT G qX7_behave 0 0 [.ref (fw 0 0), .int (gI a), .int (gI b)] M (iP fun x M' => M' = M ∧ (x = 0 ∨ x = 1)) := by
  refine wT.intro (by decide) (Nat.le_of_ble_eq_true rfl) (fun sz => ?_)
  have h0 := hY.2.2.1
  have hrw := hY.2.2.2.1
  have hnm := hY.2.2.2.2.1
  have hsh := hY.2.2.2.2.2.1
  have hmk := hY.2.2.2.2.2.2.1
  have hic := hY.2.2.2.2.2.2.2.1
  have hcn := hY.2.2.2.2.2.2.2.2.1
  have hgt := hY.2.2.2.2.2.2.2.2.2
  refine v_iconst dX7_behave_0 ?_
  refine v_istoren dX7_behave_1 (Nat.le_of_ble_eq_true rfl) ?_
  refine v_iconst dX7_behave_2 ?_
  refine v_istore dX7_behave_3 (Nat.le_of_ble_eq_true rfl) ?_
  refine wV.locs (lv' := [(0, .ref (fw 0 0)), (1, .int (gI a)), (2, .int (gI b)), (3, .int (gI (1))), (4, .int (gI (0)))]) ⟨rfl, rfl, rfl, rfl, rfl, trivial⟩ (tX7_behave_loop hY ha hb 100010 _ _ (by omega) (by omega) (by omega) (by omega))
set_option maxHeartbeats 4000000 in
set_option maxRecDepth 100000 in
theorem tX7_alike_loop {sz : Nat} {M0 : wM} {G : gG} {fw : Nat → Nat → Nat} {s : sG} {M : wM} (hY : wY G fw s M) {a : Int} (ha : bt 0 a 11) : ∀ (k : Nat) (b i : Int), 0 ≤ 13 - i → 13 - i < (k : Int) → (bt 0 i 12) → wV G qX7_alike 0 0 sz M0 0 0 13 [(0, .ref (fw 0 0)), (1, .int (gI a)), (2, .int (gI b)), (3, .int (gI i))] [] M (iP fun x M' => M' = M ∧ True) := by
  intro k
  induction k with
  | zero =>
    intros
    omega
  | succ k ih =>
    intro b i hmz hml h1
    have h0 := hY.2.2.1
    have hrw := hY.2.2.2.1
    have hnm := hY.2.2.2.2.1
    have hsh := hY.2.2.2.2.2.1
    have hmk := hY.2.2.2.2.2.2.1
    have hic := hY.2.2.2.2.2.2.2.1
    have hcn := hY.2.2.2.2.2.2.2.2.1
    have hgt := hY.2.2.2.2.2.2.2.2.2
    refine v_iloadn dX7_alike_13 rfl ?_
    refine v_bipush dX7_alike_14 (by decide) ?_
    refine v_icmp_ge 44 dX7_alike_16 (by decide) (by omega) (by omega) (fun h16 => ?_) (fun h16 => ?_)
    · refine v_iloadn dX7_alike_44 rfl ?_
      exact v_iretA dX7_alike_45 rfl ⟨(Nat.le_of_ble_eq_true rfl), (Nat.le_of_ble_eq_true rfl)⟩ ⟨rfl, trivial⟩
    · refine v_iloadn dX7_alike_19 rfl ?_
      refine v_aloadn dX7_alike_20 rfl ?_
      refine v_iloadn dX7_alike_21 rfl ?_
      refine v_iloadn dX7_alike_22 rfl ?_
      refine v_callV (tX7_behave hY (by omega) (by omega)) lc_X7_159 ⟨(Nat.le_of_ble_eq_true rfl), (Nat.le_of_ble_eq_true rfl)⟩ dX7_alike_23 rfl rfl (Nat.le_of_ble_eq_true rfl) ⟨(Nat.le_of_ble_eq_true rfl), (Nat.le_of_ble_eq_true rfl)⟩ ⟨_, _, _, _, hY.2.1 0 0 (by decide), rfl⟩ (kP fun r23 hr23 hp23 => ?_)
      refine v_if_eq 35 dX7_alike_26 (by decide) (by omega) (fun h26 => ?_) (fun h26 => ?_)
      · refine v_iconst dX7_alike_35 ?_
        refine v_ior dX7_alike_36 ?_
        rw [gI_of (gI b ||| _)]
        refine v_istoren dX7_alike_37 (Nat.le_of_ble_eq_true rfl) ?_
        refine v_iinc dX7_alike_38 rfl (Nat.le_of_ble_eq_true rfl) ?_
        refine v_goto 13 dX7_alike_41 (by decide) ?_
        refine wV.locs (lv' := [(0, .ref (fw 0 0)), (1, .int (gI a)), (2, .int (gI _)), (3, .int (gI _))]) ⟨rfl, rfl, rfl, rfl, trivial⟩ (ih _ _ (by omega) (by omega) (by omega))
      · refine v_iconst dX7_alike_29 ?_
        refine v_iloadn dX7_alike_30 rfl ?_
        refine v_ishl dX7_alike_31 ?_
        refine v_goto 36 dX7_alike_32 (by decide) ?_
        refine v_ior dX7_alike_36 ?_
        rw [gI_of (gI b ||| _)]
        refine v_istoren dX7_alike_37 (Nat.le_of_ble_eq_true rfl) ?_
        refine v_iinc dX7_alike_38 rfl (Nat.le_of_ble_eq_true rfl) ?_
        refine v_goto 13 dX7_alike_41 (by decide) ?_
        refine wV.locs (lv' := [(0, .ref (fw 0 0)), (1, .int (gI a)), (2, .int (gI _)), (3, .int (gI _))]) ⟨rfl, rfl, rfl, rfl, trivial⟩ (ih _ _ (by omega) (by omega) (by omega))
set_option maxHeartbeats 4000000 in
set_option maxRecDepth 100000 in
theorem tX7_alike {G : gG} {fw : Nat → Nat → Nat} {s : sG} {M : wM} (hY : wY G fw s M) {a : Int} (ha : rng a) : wT G qX7_alike 0 0 [.ref (fw 0 0), .int (gI a)] M (iP fun x M' => M' = M ∧ True) := by
  refine wT.intro (by decide) (Nat.le_of_ble_eq_true rfl) (fun sz => ?_)
  have h0 := hY.2.2.1
  have hrw := hY.2.2.2.1
  have hnm := hY.2.2.2.2.1
  have hsh := hY.2.2.2.2.2.1
  have hmk := hY.2.2.2.2.2.2.1
  have hic := hY.2.2.2.2.2.2.2.1
  have hcn := hY.2.2.2.2.2.2.2.2.1
  have hgt := hY.2.2.2.2.2.2.2.2.2
  refine v_iloadn dX7_alike_0 rfl ?_
  refine v_callS (tX7_isSignal (by omega)) lc_X7_64 ⟨(Nat.le_of_ble_eq_true rfl), (Nat.le_of_ble_eq_true rfl)⟩ dX7_alike_1 rfl rfl (Nat.le_of_ble_eq_true rfl) ⟨(Nat.le_of_ble_eq_true rfl), (Nat.le_of_ble_eq_true rfl)⟩ (kP fun r1 hr1 hp1 => ?_)
  refine v_if_ne 9 dX7_alike_4 (by decide) (by omega) (fun h4 => ?_) (fun h4 => ?_)
  · refine v_iconst dX7_alike_9 ?_
    refine v_istoren dX7_alike_10 (Nat.le_of_ble_eq_true rfl) ?_
    refine v_iconst dX7_alike_11 ?_
    refine v_istoren dX7_alike_12 (Nat.le_of_ble_eq_true rfl) ?_
    refine wV.locs (lv' := [(0, .ref (fw 0 0)), (1, .int (gI a)), (2, .int (gI (0))), (3, .int (gI (0)))]) ⟨rfl, rfl, rfl, rfl, trivial⟩ (tX7_alike_loop hY (by omega) 20 _ _ (by omega) (by omega) (by omega))
  · refine v_iconst dX7_alike_7 ?_
    exact v_iret dX7_alike_8 rfl ⟨(Nat.le_of_ble_eq_true rfl), (Nat.le_of_ble_eq_true rfl)⟩ (by omega) ⟨rfl, trivial⟩
