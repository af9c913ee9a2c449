def alY (s : sG) (a : Int) (o : Nat) : Prop := ∀ t, 0 ≤ t → t < s 0 0 0 → agF (vY s a.toNat t) (vY s (12 + o) t) (s 0 0 1) ≠ 0
set_option maxHeartbeats 4000000 in
set_option maxRecDepth 100000 in
theorem fX7_behave_loop {sz : Nat} {M0 : wM} {G : gG} {fw : Nat → Nat → Nat} {s : sG} {M : wM} (hsY : srY s) (hY : wY G fw s M) {a o : Int} (ha : bt 0 a 11) (ho : bt 0 o 11) : ∀ (k : Nat) (b t : Int), 0 ≤ 100000 - t → 100000 - t < (k : Int) → (bt 0 t 100000) → (bt 0 b 1) → ((b = 1 ∧ ∀ u, 0 ≤ u → u < t → u < s 0 0 0 → agF (vY s a.toNat u) (vY s (12 + o.toNat) u) (s 0 0 1) ≠ 0) ∨ (b = 0 ∧ ¬ alY s a o.toNat)) → wV G qX7_behave 0 0 sz M0 0 0 5 [(0, .ref (fw 0 0)), (1, .int (gI a)), (2, .int (gI o)), (3, .int (gI b)), (4, .int (gI t))] [] M (iP fun x M' => M' = M ∧ ((x = 1 ∧ alY s a o.toNat) ∨ (x = 0 ∧ ¬ alY s a o.toNat))) := by
  intro k
  induction k with
  | zero =>
    intros
    omega
  | succ k ih =>
    intro b t hmz hml h1 h3 h2
    have h0 := hY.2.2.1
    have hrw := hY.2.2.2.1
    have hnm := hY.2.2.2.2.1
    have hsh := hY.2.2.2.2.2.1
    have hmk := hY.2.2.2.2.2.2.1
    have hic := hY.2.2.2.2.2.2.2.1
    have hcn := hY.2.2.2.2.2.2.2.2.1
    have hgt := hY.2.2.2.2.2.2.2.2.2
    refine v_iload dX7_behave_5 rfl ?_
    refine v_aloadn dX7_behave_7 rfl ?_
    refine v_get dX7_behave_8 gf_X7_7 (hY.2.1 0 0 (by decide)) rfl ?_
    refine v_icmp_ge 63 dX7_behave_11 (by decide) (by omega) (by omega) (fun h11 => ?_) (fun h11 => ?_)
    · refine v_iloadn dX7_behave_63 rfl ?_
      exact v_zret dX7_behave_64 rfl ⟨(Nat.le_of_ble_eq_true rfl), (Nat.le_of_ble_eq_true rfl)⟩ (by omega) ⟨rfl, h2.imp (fun z => ⟨z.1, fun u u1 u2 => z.2 u u1 (by omega) u2⟩) id⟩
    · refine v_iloadn dX7_behave_14 rfl ?_
      refine v_if_eq 63 dX7_behave_15 (by decide) (by omega) (fun h15 => ?_) (fun h15 => ?_)
      · refine v_iloadn dX7_behave_63 rfl ?_
        exact v_zret dX7_behave_64 rfl ⟨(Nat.le_of_ble_eq_true rfl), (Nat.le_of_ble_eq_true rfl)⟩ (by omega) ⟨rfl, h2.imp (fun z => ⟨z.1, fun u u1 u2 => z.2 u u1 (by omega) u2⟩) id⟩
      · refine v_aloadn dX7_behave_18 rfl ?_
        refine v_aloadn dX7_behave_19 rfl ?_
        refine v_iconst dX7_behave_20 ?_
        refine v_iloadn dX7_behave_21 rfl ?_
        refine v_iload dX7_behave_22 rfl ?_
        refine v_callV (tX7_at hY (by omega) (by omega) (by omega)) lc_X7_83 ⟨(Nat.le_of_ble_eq_true rfl), (Nat.le_of_ble_eq_true rfl)⟩ dX7_behave_24 rfl rfl (Nat.le_of_ble_eq_true rfl) ⟨(Nat.le_of_ble_eq_true rfl), (Nat.le_of_ble_eq_true rfl)⟩ ⟨_, _, _, _, hY.2.1 0 0 (by decide), rfl⟩ (kP fun r24 hr24 hp24 => ?_)
        have hv24 := vY_atP (by omega) (hsY _ (by omega)) hp24.2
        rw [show 12 * 0 + a = a by omega] at hv24
        refine v_aloadn dX7_behave_27 rfl ?_
        refine v_iconst dX7_behave_28 ?_
        refine v_iloadn dX7_behave_29 rfl ?_
        refine v_iload dX7_behave_30 rfl ?_
        refine v_callV (tX7_at hY (by omega) (by omega) (by omega)) lc_X7_83 ⟨(Nat.le_of_ble_eq_true rfl), (Nat.le_of_ble_eq_true rfl)⟩ dX7_behave_32 rfl rfl (Nat.le_of_ble_eq_true rfl) ⟨(Nat.le_of_ble_eq_true rfl), (Nat.le_of_ble_eq_true rfl)⟩ ⟨_, _, _, _, hY.2.1 0 0 (by decide), rfl⟩ (kP fun r32 hr32 hp32 => ?_)
        have hv32 := vY_atP (by omega) (hsY _ (by omega)) hp32.2
        rw [show 12 * 1 + o = 12 + o by omega] at hv32
        rw [show (12 + o).toNat = 12 + o.toNat by omega] at hv32
        refine v_callV (tX7_agree hY hr24 hr32) lc_X7_97 ⟨(Nat.le_of_ble_eq_true rfl), (Nat.le_of_ble_eq_true rfl)⟩ dX7_behave_35 rfl rfl (Nat.le_of_ble_eq_true rfl) ⟨(Nat.le_of_ble_eq_true rfl), (Nat.le_of_ble_eq_true rfl)⟩ ⟨_, _, _, _, hY.2.1 0 0 (by decide), rfl⟩ (kP fun r35 hr35 hp35 => ?_)
        refine v_istoren dX7_behave_38 (Nat.le_of_ble_eq_true rfl) ?_
        refine v_aloadn dX7_behave_39 rfl ?_
        refine v_iconst dX7_behave_40 ?_
        refine v_iloadn dX7_behave_41 rfl ?_
        refine v_iload dX7_behave_42 rfl ?_
        refine v_callV (fX7_nextChange hsY hY (by omega) (by omega) (by omega) (by omega)) lc_X7_103 ⟨(Nat.le_of_ble_eq_true rfl), (Nat.le_of_ble_eq_true rfl)⟩ dX7_behave_44 rfl rfl (Nat.le_of_ble_eq_true rfl) ⟨(Nat.le_of_ble_eq_true rfl), (Nat.le_of_ble_eq_true rfl)⟩ ⟨_, _, _, _, hY.2.1 0 0 (by decide), rfl⟩ (kP fun r44 hr44 hp44 => ?_)
        rw [show 12 * 0 + a = a by omega] at hp44
        refine v_aloadn dX7_behave_47 rfl ?_
        refine v_iconst dX7_behave_48 ?_
        refine v_iloadn dX7_behave_49 rfl ?_
        refine v_iload dX7_behave_50 rfl ?_
        refine v_callV (fX7_nextChange hsY hY (by omega) (by omega) (by omega) (by omega)) lc_X7_103 ⟨(Nat.le_of_ble_eq_true rfl), (Nat.le_of_ble_eq_true rfl)⟩ dX7_behave_52 rfl rfl (Nat.le_of_ble_eq_true rfl) ⟨(Nat.le_of_ble_eq_true rfl), (Nat.le_of_ble_eq_true rfl)⟩ ⟨_, _, _, _, hY.2.1 0 0 (by decide), rfl⟩ (kP fun r52 hr52 hp52 => ?_)
        rw [show 12 * 1 + o = 12 + o by omega] at hp52
        rw [show (12 + o).toNat = 12 + o.toNat by omega] at hp52
        refine v_callS (tX7_least (by omega) (by omega)) lc_X7_106 ⟨(Nat.le_of_ble_eq_true rfl), (Nat.le_of_ble_eq_true rfl)⟩ dX7_behave_55 rfl rfl (Nat.le_of_ble_eq_true rfl) ⟨(Nat.le_of_ble_eq_true rfl), (Nat.le_of_ble_eq_true rfl)⟩ (kP fun r55 hr55 hp55 => ?_)
        have hb1 : b = 1 ∧ ∀ u, 0 ≤ u → u < t → u < s 0 0 0 → agF (vY s a.toNat u) (vY s (12 + o.toNat) u) (s 0 0 1) ≠ 0 := h2.elim id (fun z => absurd z.1 (by omega))
        have hcs : ∀ u, t ≤ u → u < r55 → agF (vY s a.toNat u) (vY s (12 + o.toNat) u) (s 0 0 1) = r35 := fun u u1 u2 => by rw [hp35.1, hp44.2 u u1 (by omega), hp52.2 u u1 (by omega), ← hv24, ← hv32]
        have hnx : (r35 = 1 ∧ ∀ u, 0 ≤ u → u < r55 → u < s 0 0 0 → agF (vY s a.toNat u) (vY s (12 + o.toNat) u) (s 0 0 1) ≠ 0) ∨ (r35 = 0 ∧ ¬ alY s a o.toNat) := by
          rcases hp35.2 with z | z
          · refine Or.inr ⟨z, fun y => y t (by omega) (by omega) ?_⟩
            rw [hcs t (by omega) (by omega)]
            exact z
          · refine Or.inl ⟨z, fun u u1 u2 u3 => ?_⟩
            rcases (show u < t ∨ t ≤ u by omega) with c | c
            · exact hb1.2 u u1 c u3
            · rw [hcs u c u2]; omega
        clear hcs h2 hb1
        refine v_istore dX7_behave_58 (Nat.le_of_ble_eq_true rfl) ?_
        refine v_goto 5 dX7_behave_60 (by decide) ?_
        refine wV.locs (lv' := [(0, .ref (fw 0 0)), (1, .int (gI a)), (2, .int (gI o)), (3, .int (gI _)), (4, .int (gI _))]) ⟨rfl, rfl, rfl, rfl, rfl, trivial⟩ (ih _ _ (by omega) (by omega) (by omega) (by omega) hnx)
set_option maxHeartbeats 4000000 in
set_option maxRecDepth 100000 in
theorem fX7_behave {G : gG} {fw : Nat → Nat → Nat} {s : sG} {M : wM} (hsY : srY s) (hY : wY G fw s M) {a o : Int} (ha : bt 0 a 11) (ho : bt 0 o 11) : wT G qX7_behave 0 0 [.ref (fw 0 0), .int (gI a), .int (gI o)] M (iP fun x M' => M' = M ∧ ((x = 1 ∧ alY s a o.toNat) ∨ (x = 0 ∧ ¬ alY s a o.toNat))) := by
  refine wT.intro (by decide) (Nat.le_of_ble_eq_true rfl) (fun sz => ?_)
  have h0 := hY.2.2.1
  have hrw := hY.2.2.2.1
  have hnm := hY.2.2.2.2.1
  have hsh := hY.2.2.2.2.2.1
  have hmk := hY.2.2.2.2.2.2.1
  have hic := hY.2.2.2.2.2.2.2.1
  have hcn := hY.2.2.2.2.2.2.2.2.1
  have hgt := hY.2.2.2.2.2.2.2.2.2
  refine v_iconst dX7_behave_0 ?_
  refine v_istoren dX7_behave_1 (Nat.le_of_ble_eq_true rfl) ?_
  refine v_iconst dX7_behave_2 ?_
  refine v_istore dX7_behave_3 (Nat.le_of_ble_eq_true rfl) ?_
  refine wV.locs (lv' := [(0, .ref (fw 0 0)), (1, .int (gI a)), (2, .int (gI o)), (3, .int (gI (1))), (4, .int (gI (0)))]) ⟨rfl, rfl, rfl, rfl, rfl, trivial⟩ (fX7_behave_loop hsY hY ha ho 100010 _ _ (by omega) (by omega) (by omega) (by omega) (Or.inl ⟨rfl, fun u u1 u2 => by omega⟩))
theorem or_gI0 (x : Int32) : x ||| gI 0 = x := by
  have : gI 0 = 0 := rfl
  rw [this]
  exact Int32.or_zero
set_option maxHeartbeats 4000000 in
set_option maxRecDepth 100000 in
theorem fX7_alike_loop {sz : Nat} {M0 : wM} {G : gG} {fw : Nat → Nat → Nat} {s : sG} {M : wM} (hsY : srY s) (hY : wY G fw s M) {a : Int} (ha : bt 0 a 11) : ∀ (k : Nat) (b i : Int), 0 ≤ 13 - i → 13 - i < (k : Int) → (bt 0 i 12) → (gI b = bF (alY s a) i.toNat) → wV G qX7_alike 0 0 sz M0 0 0 13 [(0, .ref (fw 0 0)), (1, .int (gI a)), (2, .int (gI b)), (3, .int (gI i))] [] M (iP fun x M' => M' = M ∧ ((¬ bt 0 a 11 ∧ x = -1) ∨ (bt 0 a 11 ∧ x = (bF (alY s a) 12).toInt))) := by
  intro k
  induction k with
  | zero =>
    intros
    omega
  | succ k ih =>
    intro b i hmz hml h1 h2
    have h0 := hY.2.2.1
    have hrw := hY.2.2.2.1
    have hnm := hY.2.2.2.2.1
    have hsh := hY.2.2.2.2.2.1
    have hmk := hY.2.2.2.2.2.2.1
    have hic := hY.2.2.2.2.2.2.2.1
    have hcn := hY.2.2.2.2.2.2.2.2.1
    have hgt := hY.2.2.2.2.2.2.2.2.2
    refine v_iloadn dX7_alike_13 rfl ?_
    refine v_bipush dX7_alike_14 (by decide) ?_
    refine v_icmp_ge 44 dX7_alike_16 (by decide) (by omega) (by omega) (fun h16 => ?_) (fun h16 => ?_)
    · refine v_iloadn dX7_alike_44 rfl ?_
      exact v_iretA dX7_alike_45 rfl ⟨(Nat.le_of_ble_eq_true rfl), (Nat.le_of_ble_eq_true rfl)⟩ ⟨rfl, Or.inr ⟨ha, by rw [h2, show i.toNat = 12 by omega]⟩⟩
    · refine v_iloadn dX7_alike_19 rfl ?_
      refine v_aloadn dX7_alike_20 rfl ?_
      refine v_iloadn dX7_alike_21 rfl ?_
      refine v_iloadn dX7_alike_22 rfl ?_
      refine v_callV (fX7_behave hsY hY (by omega) (by omega)) lc_X7_159 ⟨(Nat.le_of_ble_eq_true rfl), (Nat.le_of_ble_eq_true rfl)⟩ dX7_alike_23 rfl rfl (Nat.le_of_ble_eq_true rfl) ⟨(Nat.le_of_ble_eq_true rfl), (Nat.le_of_ble_eq_true rfl)⟩ ⟨_, _, _, _, hY.2.1 0 0 (by decide), rfl⟩ (kP fun r23 hr23 hp23 => ?_)
      refine v_if_eq 35 dX7_alike_26 (by decide) (by omega) (fun h26 => ?_) (fun h26 => ?_)
      · refine v_iconst dX7_alike_35 ?_
        refine v_ior dX7_alike_36 ?_
        rw [gI_of (gI b ||| gI 0)]
        refine v_istoren dX7_alike_37 (Nat.le_of_ble_eq_true rfl) ?_
        refine v_iinc dX7_alike_38 rfl (Nat.le_of_ble_eq_true rfl) ?_
        refine v_goto 13 dX7_alike_41 (by decide) ?_
        refine wV.locs (lv' := [(0, .ref (fw 0 0)), (1, .int (gI a)), (2, .int (gI _)), (3, .int (gI _))]) ⟨rfl, rfl, rfl, rfl, trivial⟩ (ih _ _ (by clear hp23; omega) (by clear hp23; omega) (by clear hp23; omega) (by rw [← gI_of, or_gI0, show (i + 1).toNat = i.toNat + 1 by omega, bF_0 (hp23.elim (fun z => absurd z.1 (by omega)) (fun z => z.2))]; exact h2))
      · refine v_iconst dX7_alike_29 ?_
        refine v_iloadn dX7_alike_30 rfl ?_
        refine v_ishl dX7_alike_31 ?_
        refine v_goto 36 dX7_alike_32 (by decide) ?_
        refine v_ior dX7_alike_36 ?_
        rw [gI_of (gI b ||| gI 1 <<< (gI i &&& 31))]
        refine v_istoren dX7_alike_37 (Nat.le_of_ble_eq_true rfl) ?_
        refine v_iinc dX7_alike_38 rfl (Nat.le_of_ble_eq_true rfl) ?_
        refine v_goto 13 dX7_alike_41 (by decide) ?_
        refine wV.locs (lv' := [(0, .ref (fw 0 0)), (1, .int (gI a)), (2, .int (gI _)), (3, .int (gI _))]) ⟨rfl, rfl, rfl, rfl, trivial⟩ (ih _ _ (by clear hp23; omega) (by clear hp23; omega) (by clear hp23; omega) (by rw [← gI_of, show (i + 1).toNat = i.toNat + 1 by omega, bF_1 (hp23.elim (fun z => z.2) (fun z => absurd z.1 (by omega))), ← h2, show ((i.toNat : Nat) : Int) = i by omega]))
set_option maxHeartbeats 4000000 in
set_option maxRecDepth 100000 in
theorem fX7_alike {G : gG} {fw : Nat → Nat → Nat} {s : sG} {M : wM} (hsY : srY s) (hY : wY G fw s M) {a : Int} (ha : rng a) : wT G qX7_alike 0 0 [.ref (fw 0 0), .int (gI a)] M (iP fun x M' => M' = M ∧ ((¬ bt 0 a 11 ∧ x = -1) ∨ (bt 0 a 11 ∧ x = (bF (alY s a) 12).toInt))) := by
  refine wT.intro (by decide) (Nat.le_of_ble_eq_true rfl) (fun sz => ?_)
  have h0 := hY.2.2.1
  have hrw := hY.2.2.2.1
  have hnm := hY.2.2.2.2.1
  have hsh := hY.2.2.2.2.2.1
  have hmk := hY.2.2.2.2.2.2.1
  have hic := hY.2.2.2.2.2.2.2.1
  have hcn := hY.2.2.2.2.2.2.2.2.1
  have hgt := hY.2.2.2.2.2.2.2.2.2
  refine v_iloadn dX7_alike_0 rfl ?_
  refine v_callS (tX7_isSignal (by omega)) lc_X7_64 ⟨(Nat.le_of_ble_eq_true rfl), (Nat.le_of_ble_eq_true rfl)⟩ dX7_alike_1 rfl rfl (Nat.le_of_ble_eq_true rfl) ⟨(Nat.le_of_ble_eq_true rfl), (Nat.le_of_ble_eq_true rfl)⟩ (kP fun r1 hr1 hp1 => ?_)
  refine v_if_ne 9 dX7_alike_4 (by decide) (by omega) (fun h4 => ?_) (fun h4 => ?_)
  · refine v_iconst dX7_alike_9 ?_
    refine v_istoren dX7_alike_10 (Nat.le_of_ble_eq_true rfl) ?_
    refine v_iconst dX7_alike_11 ?_
    refine v_istoren dX7_alike_12 (Nat.le_of_ble_eq_true rfl) ?_
    refine wV.locs (lv' := [(0, .ref (fw 0 0)), (1, .int (gI a)), (2, .int (gI (0))), (3, .int (gI (0)))]) ⟨rfl, rfl, rfl, rfl, trivial⟩ (fX7_alike_loop hsY hY (by omega) 20 _ _ (by omega) (by omega) (by omega) rfl)
  · refine v_iconst dX7_alike_7 ?_
    exact v_iret dX7_alike_8 rfl ⟨(Nat.le_of_ble_eq_true rfl), (Nat.le_of_ble_eq_true rfl)⟩ (by omega) ⟨rfl, Or.inl ⟨by omega, by omega⟩⟩
