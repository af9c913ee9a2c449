set_option maxHeartbeats 4000000 in
set_option maxRecDepth 100000 in
theorem fX7_fits_in {sz : Nat} {M0 : wM} {G : gG} {fw : Nat → Nat → Nat} {s : sG} {M : wM} (hsY : srY s) (hY : wY G fw s M) {g w : Int} (hg : rng g) (hw : bt (-50) w 50) (hf : bt 0 (frm w) 50) (hu : bt (-60) (upt (s 0 0 0) w) 4000) {a : Int} (ha : bt 0 a 11) {Post : Option Value → wM → Prop} (hk : ∀ b, bt 0 b 1 → (b = 1 → s 5 0 a.toNat = g → ∀ v, frm w ≤ v → v < upt (s 0 0 0) w → ¬ dY s a w v) → (b = 0 → ¬ ftP (fun o k t => dY s (o : Int) k t) (fun o => s 5 0 o) (s 0 0 0) g w) → wV G qX7_fits 0 0 sz M0 0 0 117 [(0, .ref (fw 0 0)), (1, .int (gI g)), (2, .int (gI w)), (3, .int (gI (frm w))), (4, .int (gI (upt (s 0 0 0) w))), (5, .int (gI b)), (6, .int (gI a))] [] M Post) : ∀ (k : Nat) (b t : Int), 0 ≤ 100050 - t → 100050 - t < (k : Int) → (bt (frm w) t 100050) → (bt 0 b 1) → (b = 1 → s 5 0 a.toNat = g → ∀ v, frm w ≤ v → v < t → v < upt (s 0 0 0) w → ¬ dY s a w v) → (b = 0 → ¬ ftP (fun o k t => dY s (o : Int) k t) (fun o => s 5 0 o) (s 0 0 0) g w) → wV G qX7_fits 0 0 sz M0 0 0 61 [(0, .ref (fw 0 0)), (1, .int (gI g)), (2, .int (gI w)), (3, .int (gI (frm w))), (4, .int (gI (upt (s 0 0 0) w))), (5, .int (gI b)), (6, .int (gI a)), (7, .int (gI t))] [] M (Post) := by
  intro k
  induction k with
  | zero =>
    intros
    omega
  | succ k ih =>
    intro b t hmz hml h1 h2 h3 h4
    have h0 := hY.2.2.1
    have hrw := hY.2.2.2.1
    have hnm := hY.2.2.2.2.1
    have hsh := hY.2.2.2.2.2.1
    have hmk := hY.2.2.2.2.2.2.1
    have hic := hY.2.2.2.2.2.2.2.1
    have hcn := hY.2.2.2.2.2.2.2.2.1
    have hgt := hY.2.2.2.2.2.2.2.2.2
    refine v_iload dX7_fits_61 rfl ?_
    refine v_iload dX7_fits_63 rfl ?_
    refine v_icmp_ge 117 dX7_fits_65 (by decide) (by omega) (by omega) (fun h65 => ?_) (fun h65 => ?_)
    · refine wV.locs (lv' := [(0, .ref (fw 0 0)), (1, .int (gI g)), (2, .int (gI w)), (3, .int (gI (frm w))), (4, .int (gI (upt (s 0 0 0) w))), (5, .int (gI b)), (6, .int (gI a))]) ⟨rfl, rfl, rfl, rfl, rfl, rfl, rfl, trivial⟩ (hk _ (by omega) (fun q e v v1 v2 => by first | exact h3 q e v v1 (by omega) v2 | exact absurd e (by omega) | exact absurd q (by omega)) h4)
    · refine v_iload dX7_fits_68 rfl ?_
      refine v_if_eq 117 dX7_fits_70 (by decide) (by omega) (fun h70 => ?_) (fun h70 => ?_)
      · refine wV.locs (lv' := [(0, .ref (fw 0 0)), (1, .int (gI g)), (2, .int (gI w)), (3, .int (gI (frm w))), (4, .int (gI (upt (s 0 0 0) w))), (5, .int (gI b)), (6, .int (gI a))]) ⟨rfl, rfl, rfl, rfl, rfl, rfl, rfl, trivial⟩ (hk _ (by omega) (fun q e v v1 v2 => by first | exact h3 q e v v1 (by omega) v2 | exact absurd e (by omega) | exact absurd q (by omega)) h4)
      · refine v_aloadn dX7_fits_73 rfl ?_
        refine v_get dX7_fits_74 gf_X7_26 (hY.2.1 0 0 (by decide)) rfl ?_
        refine v_iload dX7_fits_77 rfl ?_
        refine v_iald dX7_fits_79 (hY.2.1 5 0 (by decide)) (by omega) (by omega) (by decide) ?_
        have hga := hnm a.toNat (by omega)
        refine v_iloadn dX7_fits_80 rfl ?_
        refine v_icmp_ne 117 dX7_fits_81 (by decide) (by omega) (by omega) (fun h81 => ?_) (fun h81 => ?_)
        · refine wV.locs (lv' := [(0, .ref (fw 0 0)), (1, .int (gI g)), (2, .int (gI w)), (3, .int (gI (frm w))), (4, .int (gI (upt (s 0 0 0) w))), (5, .int (gI b)), (6, .int (gI a))]) ⟨rfl, rfl, rfl, rfl, rfl, rfl, rfl, trivial⟩ (hk _ (by omega) (fun q e v v1 v2 => by first | exact h3 q e v v1 (by omega) v2 | exact absurd e (by omega) | exact absurd q (by omega)) h4)
        · refine v_aloadn dX7_fits_84 rfl ?_
          refine v_iload dX7_fits_85 rfl ?_
          refine v_iload dX7_fits_87 rfl ?_
          refine v_iloadn dX7_fits_89 rfl ?_
          refine v_callV (fX7_differs hsY hY (by omega) (by omega) (by omega)) lc_X7_110 ⟨(Nat.le_of_ble_eq_true rfl), (Nat.le_of_ble_eq_true rfl)⟩ dX7_fits_90 rfl rfl (Nat.le_of_ble_eq_true rfl) ⟨(Nat.le_of_ble_eq_true rfl), (Nat.le_of_ble_eq_true rfl)⟩ ⟨_, _, _, _, hY.2.1 0 0 (by decide), rfl⟩ (kP fun r90 hr90 hp90 => ?_)
          have hb90 : r90 = 0 ∨ r90 = 1 := hp90.elim (fun z => Or.inr z.1) (fun z => Or.inl z.1)
          refine v_if_ne 100 dX7_fits_93 (by decide) (by omega) (fun h93 => ?_) (fun h93 => ?_)
          · refine v_iconst dX7_fits_100 ?_
            refine v_istore dX7_fits_101 (Nat.le_of_ble_eq_true rfl) ?_
            refine v_aloadn dX7_fits_103 rfl ?_
            refine v_iload dX7_fits_104 rfl ?_
            refine v_iload dX7_fits_106 rfl ?_
            refine v_iloadn dX7_fits_108 rfl ?_
            refine v_callV (fX7_next hsY hY (by omega) (by omega) (by omega)) lc_X7_117 ⟨(Nat.le_of_ble_eq_true rfl), (Nat.le_of_ble_eq_true rfl)⟩ dX7_fits_109 rfl rfl (Nat.le_of_ble_eq_true rfl) ⟨(Nat.le_of_ble_eq_true rfl), (Nat.le_of_ble_eq_true rfl)⟩ ⟨_, _, _, _, hY.2.1 0 0 (by decide), rfl⟩ (kP fun r109 hr109 hp109 => ?_)
            refine v_istore dX7_fits_112 (Nat.le_of_ble_eq_true rfl) ?_
            refine v_goto 61 dX7_fits_114 (by decide) ?_
            refine wV.locs (lv' := [(0, .ref (fw 0 0)), (1, .int (gI g)), (2, .int (gI w)), (3, .int (gI (frm w))), (4, .int (gI (upt (s 0 0 0) w))), (5, .int (gI _)), (6, .int (gI a)), (7, .int (gI _))]) ⟨rfl, rfl, rfl, rfl, rfl, rfl, rfl, rfl, trivial⟩ (ih _ _ (by omega) (by omega) (by omega) (by omega) (fun q e v v1 v2 v3 => by
                        rcases (show v < t ∨ t ≤ v by omega) with c | c
                        · exact h3 (by omega) e v v1 c v3
                        · rw [hp109.2 v c v2]; exact hp90.elim (fun z => absurd z.1 (by omega)) (fun z => z.2)) (fun q => by
                        first
                          | exact absurd q (by omega)
                          | exact fun z => z.2 a.toNat (by omega) (by show s 5 0 a.toNat = g; omega) t (by omega) (by omega) (by show dY s ((a.toNat : Nat) : Int) w t; rw [show ((a.toNat : Nat) : Int) = a by omega]; exact hp90.elim (fun z => z.2) (fun z => absurd z.1 (by omega)))))
          · refine v_iconst dX7_fits_96 ?_
            refine v_goto 101 dX7_fits_97 (by decide) ?_
            refine v_istore dX7_fits_101 (Nat.le_of_ble_eq_true rfl) ?_
            refine v_aloadn dX7_fits_103 rfl ?_
            refine v_iload dX7_fits_104 rfl ?_
            refine v_iload dX7_fits_106 rfl ?_
            refine v_iloadn dX7_fits_108 rfl ?_
            refine v_callV (fX7_next hsY hY (by omega) (by omega) (by omega)) lc_X7_117 ⟨(Nat.le_of_ble_eq_true rfl), (Nat.le_of_ble_eq_true rfl)⟩ dX7_fits_109 rfl rfl (Nat.le_of_ble_eq_true rfl) ⟨(Nat.le_of_ble_eq_true rfl), (Nat.le_of_ble_eq_true rfl)⟩ ⟨_, _, _, _, hY.2.1 0 0 (by decide), rfl⟩ (kP fun r109 hr109 hp109 => ?_)
            refine v_istore dX7_fits_112 (Nat.le_of_ble_eq_true rfl) ?_
            refine v_goto 61 dX7_fits_114 (by decide) ?_
            refine wV.locs (lv' := [(0, .ref (fw 0 0)), (1, .int (gI g)), (2, .int (gI w)), (3, .int (gI (frm w))), (4, .int (gI (upt (s 0 0 0) w))), (5, .int (gI _)), (6, .int (gI a)), (7, .int (gI _))]) ⟨rfl, rfl, rfl, rfl, rfl, rfl, rfl, rfl, trivial⟩ (ih _ _ (by omega) (by omega) (by omega) (by omega) (fun q e v v1 v2 v3 => by
                        rcases (show v < t ∨ t ≤ v by omega) with c | c
                        · exact h3 (by omega) e v v1 c v3
                        · rw [hp109.2 v c v2]; exact hp90.elim (fun z => absurd z.1 (by omega)) (fun z => z.2)) (fun q => by
                        first
                          | exact absurd q (by omega)
                          | exact fun z => z.2 a.toNat (by omega) (by show s 5 0 a.toNat = g; omega) t (by omega) (by omega) (by show dY s ((a.toNat : Nat) : Int) w t; rw [show ((a.toNat : Nat) : Int) = a by omega]; exact hp90.elim (fun z => z.2) (fun z => absurd z.1 (by omega)))))
set_option maxHeartbeats 4000000 in
set_option maxRecDepth 100000 in
theorem fX7_fits_out {sz : Nat} {M0 : wM} {G : gG} {fw : Nat → Nat → Nat} {s : sG} {M : wM} (hsY : srY s) (hY : wY G fw s M) {g w : Int} (hg : rng g) (hw : bt (-50) w 50) (hf : bt 0 (frm w) 50) (hu : bt (-60) (upt (s 0 0 0) w) 4000) : ∀ (k : Nat) (b a : Int), 0 ≤ 12 - a → 12 - a < (k : Int) → (bt 0 a 12) → (bt 0 b 1) → (b = 1 → frm w < upt (s 0 0 0) w ∧ ∀ o : Nat, (o : Int) < a → s 5 0 o = g → ∀ v, frm w ≤ v → v < upt (s 0 0 0) w → ¬ dY s (o : Int) w v) → (b = 0 → ¬ ftP (fun o k t => dY s (o : Int) k t) (fun o => s 5 0 o) (s 0 0 0) g w) → wV G qX7_fits 0 0 sz M0 0 0 46 [(0, .ref (fw 0 0)), (1, .int (gI g)), (2, .int (gI w)), (3, .int (gI (frm w))), (4, .int (gI (upt (s 0 0 0) w))), (5, .int (gI b)), (6, .int (gI a))] [] M (iP fun x M' => M' = M ∧ ((x = 1 ∧ ftP (fun o k t => dY s (o : Int) k t) (fun o => s 5 0 o) (s 0 0 0) g w) ∨ (x = 0 ∧ ¬ ftP (fun o k t => dY s (o : Int) k t) (fun o => s 5 0 o) (s 0 0 0) g w))) := by
  intro k
  induction k with
  | zero =>
    intros
    omega
  | succ k ih =>
    intro b a hmz hml h1 h2 h3 h4
    have h0 := hY.2.2.1
    have hrw := hY.2.2.2.1
    have hnm := hY.2.2.2.2.1
    have hsh := hY.2.2.2.2.2.1
    have hmk := hY.2.2.2.2.2.2.1
    have hic := hY.2.2.2.2.2.2.2.1
    have hcn := hY.2.2.2.2.2.2.2.2.1
    have hgt := hY.2.2.2.2.2.2.2.2.2
    refine v_iload dX7_fits_46 rfl ?_
    refine v_bipush dX7_fits_48 (by decide) ?_
    refine v_icmp_ge 123 dX7_fits_50 (by decide) (by omega) (by omega) (fun h50 => ?_) (fun h50 => ?_)
    · refine v_iload dX7_fits_123 rfl ?_
      exact v_zret dX7_fits_125 rfl ⟨(Nat.le_of_ble_eq_true rfl), (Nat.le_of_ble_eq_true rfl)⟩ (by omega) ⟨rfl, by
      rcases (show b = 1 ∨ b = 0 by omega) with c | c
      · refine Or.inl ⟨c, (h3 c).1, fun o o1 e v v1 v2 => (h3 c).2 o (by omega) e v v1 v2⟩
      · exact Or.inr ⟨c, h4 c⟩⟩
    · refine v_iload dX7_fits_53 rfl ?_
      refine v_if_eq 123 dX7_fits_55 (by decide) (by omega) (fun h55 => ?_) (fun h55 => ?_)
      · refine v_iload dX7_fits_123 rfl ?_
        exact v_zret dX7_fits_125 rfl ⟨(Nat.le_of_ble_eq_true rfl), (Nat.le_of_ble_eq_true rfl)⟩ (by omega) ⟨rfl, by
      rcases (show b = 1 ∨ b = 0 by omega) with c | c
      · refine Or.inl ⟨c, (h3 c).1, fun o o1 e v v1 v2 => (h3 c).2 o (by omega) e v v1 v2⟩
      · exact Or.inr ⟨c, h4 c⟩⟩
      · refine v_iloadn dX7_fits_58 rfl ?_
        refine v_istore dX7_fits_59 (Nat.le_of_ble_eq_true rfl) ?_
        refine wV.locs (lv' := [(0, .ref (fw 0 0)), (1, .int (gI g)), (2, .int (gI w)), (3, .int (gI (frm w))), (4, .int (gI (upt (s 0 0 0) w))), (5, .int (gI b)), (6, .int (gI a)), (7, .int (gI (frm w)))]) ⟨rfl, rfl, rfl, rfl, rfl, rfl, rfl, rfl, trivial⟩ (fX7_fits_in hsY hY hg hw hf hu (by omega) (fun y y1 y2 y3 => ?_) 100060 _ _ (by omega) (by omega) (by omega) (by omega) (fun q e v v1 v2 => by omega) (fun q => absurd q (by omega)))
        refine v_iinc dX7_fits_117 rfl (Nat.le_of_ble_eq_true rfl) ?_
        refine v_goto 46 dX7_fits_120 (by decide) ?_
        refine wV.locs (lv' := [(0, .ref (fw 0 0)), (1, .int (gI g)), (2, .int (gI w)), (3, .int (gI (frm w))), (4, .int (gI (upt (s 0 0 0) w))), (5, .int (gI _)), (6, .int (gI _))]) ⟨rfl, rfl, rfl, rfl, rfl, rfl, rfl, trivial⟩ (ih _ _ (by omega) (by omega) (by omega) y1 (fun q => ⟨(h3 (by omega)).1, fun o o1 e v v1 v2 => by
            rcases (show (o : Int) < a ∨ o = a.toNat by omega) with c | c
            · exact (h3 (by omega)).2 o c e v v1 v2
            · subst c
              rw [show ((a.toNat : Nat) : Int) = a by omega]
              exact y2 q e v v1 v2⟩) y3)
set_option maxHeartbeats 4000000 in
set_option maxRecDepth 100000 in
theorem fX7_fits {G : gG} {fw : Nat → Nat → Nat} {s : sG} {M : wM} (hsY : srY s) (hY : wY G fw s M) {g w : Int} (hg : rng g) (hw : bt (-50) w 50) : wT G qX7_fits 0 0 [.ref (fw 0 0), .int (gI g), .int (gI w)] M (iP fun x M' => M' = M ∧ ((x = 1 ∧ ftP (fun o k t => dY s (o : Int) k t) (fun o => s 5 0 o) (s 0 0 0) g w) ∨ (x = 0 ∧ ¬ ftP (fun o k t => dY s (o : Int) k t) (fun o => s 5 0 o) (s 0 0 0) g w))) := by
  refine wT.intro (by decide) (Nat.le_of_ble_eq_true rfl) (fun sz => ?_)
  have h0 := hY.2.2.1
  have hrw := hY.2.2.2.1
  have hnm := hY.2.2.2.2.1
  have hsh := hY.2.2.2.2.2.1
  have hmk := hY.2.2.2.2.2.2.1
  have hic := hY.2.2.2.2.2.2.2.1
  have hcn := hY.2.2.2.2.2.2.2.2.1
  have hgt := hY.2.2.2.2.2.2.2.2.2
  have hf : bt 0 (frm w) 50 := by unfold frm; split <;> omega
  have hu : bt (-60) (upt (s 0 0 0) w) 4000 := by unfold upt; split <;> omega
  refine v_iloadn dX7_fits_0 rfl ?_
  refine v_if_ge 9 dX7_fits_1 (by decide) (by omega) (fun h1 => ?_) (fun h1 => ?_)
  · refine v_iconst dX7_fits_9 ?_
    refine v_istoren dX7_fits_10 (Nat.le_of_ble_eq_true rfl) ?_
    refine v_iloadn dX7_fits_11 rfl ?_
    refine v_if_le 24 dX7_fits_12 (by decide) (by omega) (fun h12 => ?_) (fun h12 => ?_)
    · refine v_aloadn dX7_fits_24 rfl ?_
      refine v_get dX7_fits_25 gf_X7_7 (hY.2.1 0 0 (by decide)) rfl ?_
      refine v_istore dX7_fits_28 (Nat.le_of_ble_eq_true rfl) ?_
      refine v_iloadn dX7_fits_30 rfl ?_
      refine v_iload dX7_fits_31 rfl ?_
      refine v_icmp_ge 40 dX7_fits_33 (by decide) (by omega) (by omega) (fun h33 => ?_) (fun h33 => ?_)
      · refine v_iconst dX7_fits_40 ?_
        refine v_istore dX7_fits_41 (Nat.le_of_ble_eq_true rfl) ?_
        refine v_iconst dX7_fits_43 ?_
        refine v_istore dX7_fits_44 (Nat.le_of_ble_eq_true rfl) ?_
        have hef : (0 : Int) = frm w := by unfold frm; split <;> omega
        have heu : s 0 0 0 = upt (s 0 0 0) w := by unfold upt; split <;> omega
        refine wV.locs (lv' := [(0, .ref (fw 0 0)), (1, .int (gI g)), (2, .int (gI w)), (3, .int (gI (frm w))), (4, .int (gI (upt (s 0 0 0) w))), (5, .int (gI 0)), (6, .int (gI 0))]) ⟨rfl, rfl, rfl, by rw [← hef]; rfl, by rw [← heu]; rfl, rfl, rfl, trivial⟩ (fX7_fits_out hsY hY hg hw hf hu 20 _ _ (by omega) (by omega) (by omega) (by omega) (fun q => ⟨by omega, fun o o1 => by omega⟩) (fun q z => absurd z.1 (by omega)))
      · refine v_iconst dX7_fits_36 ?_
        refine v_goto 41 dX7_fits_37 (by decide) ?_
        refine v_istore dX7_fits_41 (Nat.le_of_ble_eq_true rfl) ?_
        refine v_iconst dX7_fits_43 ?_
        refine v_istore dX7_fits_44 (Nat.le_of_ble_eq_true rfl) ?_
        have hef : (0 : Int) = frm w := by unfold frm; split <;> omega
        have heu : s 0 0 0 = upt (s 0 0 0) w := by unfold upt; split <;> omega
        refine wV.locs (lv' := [(0, .ref (fw 0 0)), (1, .int (gI g)), (2, .int (gI w)), (3, .int (gI (frm w))), (4, .int (gI (upt (s 0 0 0) w))), (5, .int (gI 1)), (6, .int (gI 0))]) ⟨rfl, rfl, rfl, by rw [← hef]; rfl, by rw [← heu]; rfl, rfl, rfl, trivial⟩ (fX7_fits_out hsY hY hg hw hf hu 20 _ _ (by omega) (by omega) (by omega) (by omega) (fun q => ⟨by omega, fun o o1 => by omega⟩) (fun q z => absurd z.1 (by omega)))
    · refine v_aloadn dX7_fits_15 rfl ?_
      refine v_get dX7_fits_16 gf_X7_7 (hY.2.1 0 0 (by decide)) rfl ?_
      refine v_iloadn dX7_fits_19 rfl ?_
      refine v_isub dX7_fits_20 ?_
      refine v_goto 28 dX7_fits_21 (by decide) ?_
      refine v_istore dX7_fits_28 (Nat.le_of_ble_eq_true rfl) ?_
      refine v_iloadn dX7_fits_30 rfl ?_
      refine v_iload dX7_fits_31 rfl ?_
      refine v_icmp_ge 40 dX7_fits_33 (by decide) (by omega) (by omega) (fun h33 => ?_) (fun h33 => ?_)
      · refine v_iconst dX7_fits_40 ?_
        refine v_istore dX7_fits_41 (Nat.le_of_ble_eq_true rfl) ?_
        refine v_iconst dX7_fits_43 ?_
        refine v_istore dX7_fits_44 (Nat.le_of_ble_eq_true rfl) ?_
        have hef : (0 : Int) = frm w := by unfold frm; split <;> omega
        have heu : s 0 0 0 - w = upt (s 0 0 0) w := by unfold upt; split <;> omega
        refine wV.locs (lv' := [(0, .ref (fw 0 0)), (1, .int (gI g)), (2, .int (gI w)), (3, .int (gI (frm w))), (4, .int (gI (upt (s 0 0 0) w))), (5, .int (gI 0)), (6, .int (gI 0))]) ⟨rfl, rfl, rfl, by rw [← hef]; rfl, by rw [← heu]; rfl, rfl, rfl, trivial⟩ (fX7_fits_out hsY hY hg hw hf hu 20 _ _ (by omega) (by omega) (by omega) (by omega) (fun q => ⟨by omega, fun o o1 => by omega⟩) (fun q z => absurd z.1 (by omega)))
      · refine v_iconst dX7_fits_36 ?_
        refine v_goto 41 dX7_fits_37 (by decide) ?_
        refine v_istore dX7_fits_41 (Nat.le_of_ble_eq_true rfl) ?_
        refine v_iconst dX7_fits_43 ?_
        refine v_istore dX7_fits_44 (Nat.le_of_ble_eq_true rfl) ?_
        have hef : (0 : Int) = frm w := by unfold frm; split <;> omega
        have heu : s 0 0 0 - w = upt (s 0 0 0) w := by unfold upt; split <;> omega
        refine wV.locs (lv' := [(0, .ref (fw 0 0)), (1, .int (gI g)), (2, .int (gI w)), (3, .int (gI (frm w))), (4, .int (gI (upt (s 0 0 0) w))), (5, .int (gI 1)), (6, .int (gI 0))]) ⟨rfl, rfl, rfl, by rw [← hef]; rfl, by rw [← heu]; rfl, rfl, rfl, trivial⟩ (fX7_fits_out hsY hY hg hw hf hu 20 _ _ (by omega) (by omega) (by omega) (by omega) (fun q => ⟨by omega, fun o o1 => by omega⟩) (fun q z => absurd z.1 (by omega)))
  · refine v_iloadn dX7_fits_4 rfl ?_
    refine v_ineg dX7_fits_5 ?_
    refine v_goto 10 dX7_fits_6 (by decide) ?_
    refine v_istoren dX7_fits_10 (Nat.le_of_ble_eq_true rfl) ?_
    refine v_iloadn dX7_fits_11 rfl ?_
    refine v_if_le 24 dX7_fits_12 (by decide) (by omega) (fun h12 => ?_) (fun h12 => ?_)
    · refine v_aloadn dX7_fits_24 rfl ?_
      refine v_get dX7_fits_25 gf_X7_7 (hY.2.1 0 0 (by decide)) rfl ?_
      refine v_istore dX7_fits_28 (Nat.le_of_ble_eq_true rfl) ?_
      refine v_iloadn dX7_fits_30 rfl ?_
      refine v_iload dX7_fits_31 rfl ?_
      refine v_icmp_ge 40 dX7_fits_33 (by decide) (by omega) (by omega) (fun h33 => ?_) (fun h33 => ?_)
      · refine v_iconst dX7_fits_40 ?_
        refine v_istore dX7_fits_41 (Nat.le_of_ble_eq_true rfl) ?_
        refine v_iconst dX7_fits_43 ?_
        refine v_istore dX7_fits_44 (Nat.le_of_ble_eq_true rfl) ?_
        have hef : (-w : Int) = frm w := by unfold frm; split <;> omega
        have heu : s 0 0 0 = upt (s 0 0 0) w := by unfold upt; split <;> omega
        refine wV.locs (lv' := [(0, .ref (fw 0 0)), (1, .int (gI g)), (2, .int (gI w)), (3, .int (gI (frm w))), (4, .int (gI (upt (s 0 0 0) w))), (5, .int (gI 0)), (6, .int (gI 0))]) ⟨rfl, rfl, rfl, by rw [← hef]; rfl, by rw [← heu]; rfl, rfl, rfl, trivial⟩ (fX7_fits_out hsY hY hg hw hf hu 20 _ _ (by omega) (by omega) (by omega) (by omega) (fun q => ⟨by omega, fun o o1 => by omega⟩) (fun q z => absurd z.1 (by omega)))
      · refine v_iconst dX7_fits_36 ?_
        refine v_goto 41 dX7_fits_37 (by decide) ?_
        refine v_istore dX7_fits_41 (Nat.le_of_ble_eq_true rfl) ?_
        refine v_iconst dX7_fits_43 ?_
        refine v_istore dX7_fits_44 (Nat.le_of_ble_eq_true rfl) ?_
        have hef : (-w : Int) = frm w := by unfold frm; split <;> omega
        have heu : s 0 0 0 = upt (s 0 0 0) w := by unfold upt; split <;> omega
        refine wV.locs (lv' := [(0, .ref (fw 0 0)), (1, .int (gI g)), (2, .int (gI w)), (3, .int (gI (frm w))), (4, .int (gI (upt (s 0 0 0) w))), (5, .int (gI 1)), (6, .int (gI 0))]) ⟨rfl, rfl, rfl, by rw [← hef]; rfl, by rw [← heu]; rfl, rfl, rfl, trivial⟩ (fX7_fits_out hsY hY hg hw hf hu 20 _ _ (by omega) (by omega) (by omega) (by omega) (fun q => ⟨by omega, fun o o1 => by omega⟩) (fun q z => absurd z.1 (by omega)))
    · refine v_aloadn dX7_fits_15 rfl ?_
      refine v_get dX7_fits_16 gf_X7_7 (hY.2.1 0 0 (by decide)) rfl ?_
      refine v_iloadn dX7_fits_19 rfl ?_
      refine v_isub dX7_fits_20 ?_
      refine v_goto 28 dX7_fits_21 (by decide) ?_
      refine v_istore dX7_fits_28 (Nat.le_of_ble_eq_true rfl) ?_
      refine v_iloadn dX7_fits_30 rfl ?_
      refine v_iload dX7_fits_31 rfl ?_
      refine v_icmp_ge 40 dX7_fits_33 (by decide) (by omega) (by omega) (fun h33 => ?_) (fun h33 => ?_)
      · refine v_iconst dX7_fits_40 ?_
        refine v_istore dX7_fits_41 (Nat.le_of_ble_eq_true rfl) ?_
        refine v_iconst dX7_fits_43 ?_
        refine v_istore dX7_fits_44 (Nat.le_of_ble_eq_true rfl) ?_
        have hef : (-w : Int) = frm w := by unfold frm; split <;> omega
        have heu : s 0 0 0 - w = upt (s 0 0 0) w := by unfold upt; split <;> omega
        refine wV.locs (lv' := [(0, .ref (fw 0 0)), (1, .int (gI g)), (2, .int (gI w)), (3, .int (gI (frm w))), (4, .int (gI (upt (s 0 0 0) w))), (5, .int (gI 0)), (6, .int (gI 0))]) ⟨rfl, rfl, rfl, by rw [← hef]; rfl, by rw [← heu]; rfl, rfl, rfl, trivial⟩ (fX7_fits_out hsY hY hg hw hf hu 20 _ _ (by omega) (by omega) (by omega) (by omega) (fun q => ⟨by omega, fun o o1 => by omega⟩) (fun q z => absurd z.1 (by omega)))
      · refine v_iconst dX7_fits_36 ?_
        refine v_goto 41 dX7_fits_37 (by decide) ?_
        refine v_istore dX7_fits_41 (Nat.le_of_ble_eq_true rfl) ?_
        refine v_iconst dX7_fits_43 ?_
        refine v_istore dX7_fits_44 (Nat.le_of_ble_eq_true rfl) ?_
        have hef : (-w : Int) = frm w := by unfold frm; split <;> omega
        have heu : s 0 0 0 - w = upt (s 0 0 0) w := by unfold upt; split <;> omega
        refine wV.locs (lv' := [(0, .ref (fw 0 0)), (1, .int (gI g)), (2, .int (gI w)), (3, .int (gI (frm w))), (4, .int (gI (upt (s 0 0 0) w))), (5, .int (gI 1)), (6, .int (gI 0))]) ⟨rfl, rfl, rfl, by rw [← hef]; rfl, by rw [← heu]; rfl, rfl, rfl, trivial⟩ (fX7_fits_out hsY hY hg hw hf hu 20 _ _ (by omega) (by omega) (by omega) (by omega) (fun q => ⟨by omega, fun o o1 => by omega⟩) (fun q z => absurd z.1 (by omega)))
set_option maxHeartbeats 4000000 in
set_option maxRecDepth 100000 in
theorem fX7_fit_b {sz : Nat} {M0 : wM} {G : gG} {fw : Nat → Nat → Nat} {s : sG} {M : wM} (hsY : srY s) (hY : wY G fw s M) {a y : Int} (ha : bt 0 a 3) (hH : (∃ o : Nat, o < 12 ∧ s 5 0 o = a)) : ∀ (k : Nat) (i : Int), 0 ≤ 52 - i → 52 - i < (k : Int) → (bt 0 i 51) → (∀ y, 0 ≤ y → y < i → ¬ (fun k => ftP (fun o k t => dY s (o : Int) k t) (fun o => s 5 0 o) (s 0 0 0) a k) (-y) ∧ ¬ (fun k => ftP (fun o k t => dY s (o : Int) k t) (fun o => s 5 0 o) (s 0 0 0) a k) y) → wV G qX7_fit 0 0 sz M0 0 0 59 [(0, .ref (fw 0 0)), (1, .int (gI a)), (2, .int (gI y)), (3, .int (gI i))] [] M (iP fun x M' => M' = M ∧ ((¬ bt 0 a 3 ∧ x = -1001) ∨ (bt 0 a 3 ∧ ((¬ (∃ o : Nat, o < 12 ∧ s 5 0 o = a) ∧ x = -1002) ∨ ((∃ o : Nat, o < 12 ∧ s 5 0 o = a) ∧ frP (fun k => ftP (fun o k t => dY s (o : Int) k t) (fun o => s 5 0 o) (s 0 0 0) a k) x))))) := by
  intro k
  induction k with
  | zero =>
    intros
    omega
  | succ k ih =>
    intro i hmz hml h1 h2
    have h0 := hY.2.2.1
    have hrw := hY.2.2.2.1
    have hnm := hY.2.2.2.2.1
    have hsh := hY.2.2.2.2.2.1
    have hmk := hY.2.2.2.2.2.2.1
    have hic := hY.2.2.2.2.2.2.2.1
    have hcn := hY.2.2.2.2.2.2.2.2.1
    have hgt := hY.2.2.2.2.2.2.2.2.2
    refine v_iloadn dX7_fit_59 rfl ?_
    refine v_bipush dX7_fit_60 (by decide) ?_
    refine v_icmp_gt 95 dX7_fit_62 (by decide) (by omega) (by omega) (fun h62 => ?_) (fun h62 => ?_)
    · refine v_sipush dX7_fit_95 (by decide) ?_
      exact v_iret dX7_fit_98 rfl ⟨(Nat.le_of_ble_eq_true rfl), (Nat.le_of_ble_eq_true rfl)⟩ (by omega) ⟨rfl, Or.inr ⟨ha, Or.inr ⟨hH, Or.inr ⟨fun y y1 y2 => h2 y y1 (by omega), rfl⟩⟩⟩⟩
    · refine v_aloadn dX7_fit_65 rfl ?_
      refine v_iloadn dX7_fit_66 rfl ?_
      refine v_iloadn dX7_fit_67 rfl ?_
      refine v_ineg dX7_fit_68 ?_
      refine v_callV (fX7_fits hsY hY (by omega) (by omega)) lc_X7_147 ⟨(Nat.le_of_ble_eq_true rfl), (Nat.le_of_ble_eq_true rfl)⟩ dX7_fit_69 rfl rfl (Nat.le_of_ble_eq_true rfl) ⟨(Nat.le_of_ble_eq_true rfl), (Nat.le_of_ble_eq_true rfl)⟩ ⟨_, _, _, _, hY.2.1 0 0 (by decide), rfl⟩ (kP fun r69 hr69 hp69 => ?_)
      refine v_if_eq 78 dX7_fit_72 (by decide) (by omega) (fun h72 => ?_) (fun h72 => ?_)
      · refine v_aloadn dX7_fit_78 rfl ?_
        refine v_iloadn dX7_fit_79 rfl ?_
        refine v_iloadn dX7_fit_80 rfl ?_
        refine v_callV (fX7_fits hsY hY (by omega) (by omega)) lc_X7_147 ⟨(Nat.le_of_ble_eq_true rfl), (Nat.le_of_ble_eq_true rfl)⟩ dX7_fit_81 rfl rfl (Nat.le_of_ble_eq_true rfl) ⟨(Nat.le_of_ble_eq_true rfl), (Nat.le_of_ble_eq_true rfl)⟩ ⟨_, _, _, _, hY.2.1 0 0 (by decide), rfl⟩ (kP fun r81 hr81 hp81 => ?_)
        refine v_if_eq 89 dX7_fit_84 (by decide) (by omega) (fun h84 => ?_) (fun h84 => ?_)
        · refine v_iinc dX7_fit_89 rfl (Nat.le_of_ble_eq_true rfl) ?_
          refine v_goto 59 dX7_fit_92 (by decide) ?_
          refine wV.locs (lv' := [(0, .ref (fw 0 0)), (1, .int (gI a)), (2, .int (gI y)), (3, .int (gI _))]) ⟨rfl, rfl, rfl, rfl, trivial⟩ (ih _ (by omega) (by omega) (by omega) (fun y y1 y2 => (show y < i ∨ y = i by omega).elim (fun c => h2 y y1 c) (fun c => by rw [c]; exact ⟨hp69.elim (fun z => absurd z.1 (by omega)) (fun z => z.2), hp81.elim (fun z => absurd z.1 (by omega)) (fun z => z.2)⟩)))
        · refine v_iloadn dX7_fit_87 rfl ?_
          exact v_iret dX7_fit_88 rfl ⟨(Nat.le_of_ble_eq_true rfl), (Nat.le_of_ble_eq_true rfl)⟩ (by clear hp69 hp81; omega) ⟨rfl, Or.inr ⟨ha, Or.inr ⟨hH, Or.inl ⟨i, by clear hp69 hp81; omega, h2, Or.inr ⟨hp69.elim (fun z => absurd z.1 (by omega)) (fun z => z.2), hp81.elim (fun z => z.2) (fun z => absurd z.1 (by omega)), rfl⟩⟩⟩⟩⟩
      · refine v_iloadn dX7_fit_75 rfl ?_
        refine v_ineg dX7_fit_76 ?_
        exact v_iret dX7_fit_77 rfl ⟨(Nat.le_of_ble_eq_true rfl), (Nat.le_of_ble_eq_true rfl)⟩ (by clear hp69; omega) ⟨rfl, Or.inr ⟨ha, Or.inr ⟨hH, Or.inl ⟨i, by clear hp69; omega, h2, Or.inl ⟨hp69.elim (fun z => z.2) (fun z => absurd z.1 (by omega)), rfl⟩⟩⟩⟩⟩
def anP (s : sG) (a u i : Int) : Prop := (u = 1 ∧ ∃ o : Nat, (o : Int) < i ∧ s 5 0 o = a) ∨ (u = 0 ∧ ∀ o : Nat, (o : Int) < i → s 5 0 o ≠ a)
theorem an_old {s : sG} {a u i : Int} (hu : u ≠ 0) (h : anP s a u i) : anP s a 1 (i + 1) := by
  rcases h with ⟨h1, k, h2, h3⟩ | ⟨h1, h2⟩
  · exact Or.inl ⟨rfl, k, by omega, h3⟩
  · exact absurd h1 hu
theorem an_new {s : sG} {a i : Int} (hi : 0 ≤ i) (h1 : s 5 0 i.toNat = a) : anP s a 1 (i + 1) := Or.inl ⟨rfl, i.toNat, by omega, h1⟩
theorem an_no {s : sG} {a u i : Int} (hu : u = 0) (h : anP s a u i) (hi : 0 ≤ i) (h1 : s 5 0 i.toNat ≠ a) : anP s a 0 (i + 1) := by
  rcases h with ⟨h2, -⟩ | ⟨-, h2⟩
  · omega
  · refine Or.inr ⟨rfl, fun k hk => ?_⟩
    rcases (show (k : Int) < i ∨ k = i.toNat by omega) with c | c
    · exact h2 k c
    · rw [c]; exact h1
set_option maxHeartbeats 4000000 in
set_option maxRecDepth 100000 in
theorem fX7_fit_a {sz : Nat} {M0 : wM} {G : gG} {fw : Nat → Nat → Nat} {s : sG} {M : wM} (hsY : srY s) (hY : wY G fw s M) {a : Int} (ha : bt 0 a 3) : ∀ (k : Nat) (u i : Int), 0 ≤ 13 - i → 13 - i < (k : Int) → (bt 0 i 12) → (bt 0 u 1) → (anP s a u i) → wV G qX7_fit 0 0 sz M0 0 0 17 [(0, .ref (fw 0 0)), (1, .int (gI a)), (2, .int (gI u)), (3, .int (gI i))] [] M (iP fun x M' => M' = M ∧ ((¬ bt 0 a 3 ∧ x = -1001) ∨ (bt 0 a 3 ∧ ((¬ (∃ o : Nat, o < 12 ∧ s 5 0 o = a) ∧ x = -1002) ∨ ((∃ o : Nat, o < 12 ∧ s 5 0 o = a) ∧ frP (fun k => ftP (fun o k t => dY s (o : Int) k t) (fun o => s 5 0 o) (s 0 0 0) a k) x))))) := by
  intro k
  induction k with
  | zero =>
    intros
    omega
  | succ k ih =>
    intro u i hmz hml h1 h3 h2
    have h0 := hY.2.2.1
    have hrw := hY.2.2.2.1
    have hnm := hY.2.2.2.2.1
    have hsh := hY.2.2.2.2.2.1
    have hmk := hY.2.2.2.2.2.2.1
    have hic := hY.2.2.2.2.2.2.2.1
    have hcn := hY.2.2.2.2.2.2.2.2.1
    have hgt := hY.2.2.2.2.2.2.2.2.2
    refine v_iloadn dX7_fit_17 rfl ?_
    refine v_bipush dX7_fit_18 (by decide) ?_
    refine v_icmp_ge 49 dX7_fit_20 (by decide) (by omega) (by omega) (fun h20 => ?_) (fun h20 => ?_)
    · refine v_iloadn dX7_fit_49 rfl ?_
      refine v_if_ne 57 dX7_fit_50 (by decide) (by omega) (fun h50 => ?_) (fun h50 => ?_)
      · refine v_iconst dX7_fit_57 ?_
        refine v_istoren dX7_fit_58 (Nat.le_of_ble_eq_true rfl) ?_
        refine wV.locs (lv' := [(0, .ref (fw 0 0)), (1, .int (gI a)), (2, .int (gI u)), (3, .int (gI (0)))]) ⟨rfl, rfl, rfl, rfl, trivial⟩ (fX7_fit_b hsY hY ha (h2.elim (fun z => by obtain ⟨-, o, o1, o2⟩ := z; exact ⟨o, by omega, o2⟩) (fun z => absurd z.1 (by omega))) 60 _ (by omega) (by omega) (by omega) (fun y y1 y2 => by omega))
      · refine v_sipush dX7_fit_53 (by decide) ?_
        exact v_iret dX7_fit_56 rfl ⟨(Nat.le_of_ble_eq_true rfl), (Nat.le_of_ble_eq_true rfl)⟩ (by omega) ⟨rfl, Or.inr ⟨ha, Or.inl ⟨h2.elim (fun z => absurd z.1 (by omega)) (fun z y => by obtain ⟨o, o1, o2⟩ := y; exact z.2 o (by omega) o2), rfl⟩⟩⟩
    · refine v_iloadn dX7_fit_23 rfl ?_
      refine v_if_ne 37 dX7_fit_24 (by decide) (by omega) (fun h24 => ?_) (fun h24 => ?_)
      · refine v_iconst dX7_fit_37 ?_
        refine v_goto 42 dX7_fit_38 (by decide) ?_
        refine v_istoren dX7_fit_42 (Nat.le_of_ble_eq_true rfl) ?_
        refine v_iinc dX7_fit_43 rfl (Nat.le_of_ble_eq_true rfl) ?_
        refine v_goto 17 dX7_fit_46 (by decide) ?_
        refine wV.locs (lv' := [(0, .ref (fw 0 0)), (1, .int (gI a)), (2, .int (gI _)), (3, .int (gI _))]) ⟨rfl, rfl, rfl, rfl, trivial⟩ (ih _ _ (by omega) (by omega) (by omega) (by omega) (by first | exact an_old (by omega) h2 | exact an_new (by omega) (by omega) | exact an_no (by omega) h2 (by omega) (by omega)))
      · refine v_aloadn dX7_fit_27 rfl ?_
        refine v_get dX7_fit_28 gf_X7_26 (hY.2.1 0 0 (by decide)) rfl ?_
        refine v_iloadn dX7_fit_31 rfl ?_
        refine v_iald dX7_fit_32 (hY.2.1 5 0 (by decide)) (by omega) (by omega) (by decide) ?_
        have hga := hnm i.toNat (by omega)
        refine v_iloadn dX7_fit_33 rfl ?_
        refine v_icmp_ne 41 dX7_fit_34 (by decide) (by omega) (by omega) (fun h34 => ?_) (fun h34 => ?_)
        · refine v_iconst dX7_fit_41 ?_
          refine v_istoren dX7_fit_42 (Nat.le_of_ble_eq_true rfl) ?_
          refine v_iinc dX7_fit_43 rfl (Nat.le_of_ble_eq_true rfl) ?_
          refine v_goto 17 dX7_fit_46 (by decide) ?_
          refine wV.locs (lv' := [(0, .ref (fw 0 0)), (1, .int (gI a)), (2, .int (gI _)), (3, .int (gI _))]) ⟨rfl, rfl, rfl, rfl, trivial⟩ (ih _ _ (by omega) (by omega) (by omega) (by omega) (by first | exact an_old (by omega) h2 | exact an_new (by omega) (by omega) | exact an_no (by omega) h2 (by omega) (by omega)))
        · refine v_iconst dX7_fit_37 ?_
          refine v_goto 42 dX7_fit_38 (by decide) ?_
          refine v_istoren dX7_fit_42 (Nat.le_of_ble_eq_true rfl) ?_
          refine v_iinc dX7_fit_43 rfl (Nat.le_of_ble_eq_true rfl) ?_
          refine v_goto 17 dX7_fit_46 (by decide) ?_
          refine wV.locs (lv' := [(0, .ref (fw 0 0)), (1, .int (gI a)), (2, .int (gI _)), (3, .int (gI _))]) ⟨rfl, rfl, rfl, rfl, trivial⟩ (ih _ _ (by omega) (by omega) (by omega) (by omega) (by first | exact an_old (by omega) h2 | exact an_new (by omega) (by omega) | exact an_no (by omega) h2 (by omega) (by omega)))
set_option maxHeartbeats 4000000 in
set_option maxRecDepth 100000 in
theorem fX7_fit {G : gG} {fw : Nat → Nat → Nat} {s : sG} {M : wM} (hsY : srY s) (hY : wY G fw s M) {a : Int} (ha : rng a) : wT G qX7_fit 0 0 [.ref (fw 0 0), .int (gI a)] M (iP fun x M' => M' = M ∧ ((¬ bt 0 a 3 ∧ x = -1001) ∨ (bt 0 a 3 ∧ ((¬ (∃ o : Nat, o < 12 ∧ s 5 0 o = a) ∧ x = -1002) ∨ ((∃ o : Nat, o < 12 ∧ s 5 0 o = a) ∧ frP (fun k => ftP (fun o k t => dY s (o : Int) k t) (fun o => s 5 0 o) (s 0 0 0) a k) x))))) := by
  refine wT.intro (by decide) (Nat.le_of_ble_eq_true rfl) (fun sz => ?_)
  have h0 := hY.2.2.1
  have hrw := hY.2.2.2.1
  have hnm := hY.2.2.2.2.1
  have hsh := hY.2.2.2.2.2.1
  have hmk := hY.2.2.2.2.2.2.1
  have hic := hY.2.2.2.2.2.2.2.1
  have hcn := hY.2.2.2.2.2.2.2.2.1
  have hgt := hY.2.2.2.2.2.2.2.2.2
  refine v_iloadn dX7_fit_0 rfl ?_
  refine v_iconst dX7_fit_1 ?_
  refine v_iconst dX7_fit_2 ?_
  refine v_callS (tX7_in (by omega) (by omega) (by omega)) lc_X7_60 ⟨(Nat.le_of_ble_eq_true rfl), (Nat.le_of_ble_eq_true rfl)⟩ dX7_fit_3 rfl rfl (Nat.le_of_ble_eq_true rfl) ⟨(Nat.le_of_ble_eq_true rfl), (Nat.le_of_ble_eq_true rfl)⟩ (kP fun r3 hr3 hp3 => ?_)
  refine v_if_ne 13 dX7_fit_6 (by decide) (by omega) (fun h6 => ?_) (fun h6 => ?_)
  · refine v_iconst dX7_fit_13 ?_
    refine v_istoren dX7_fit_14 (Nat.le_of_ble_eq_true rfl) ?_
    refine v_iconst dX7_fit_15 ?_
    refine v_istoren dX7_fit_16 (Nat.le_of_ble_eq_true rfl) ?_
    refine wV.locs (lv' := [(0, .ref (fw 0 0)), (1, .int (gI a)), (2, .int (gI (0))), (3, .int (gI (0)))]) ⟨rfl, rfl, rfl, rfl, trivial⟩ (fX7_fit_a hsY hY (by omega) 20 _ _ (by omega) (by omega) (by omega) (by omega) (Or.inr ⟨rfl, fun o ho => by omega⟩))
  · refine v_sipush dX7_fit_9 (by decide) ?_
    exact v_iret dX7_fit_12 rfl ⟨(Nat.le_of_ble_eq_true rfl), (Nat.le_of_ble_eq_true rfl)⟩ (by omega) ⟨rfl, Or.inl ⟨by omega, by omega⟩⟩
