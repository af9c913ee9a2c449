theorem turn_step {n : Int} {T V : Nat → Int} (hs : srt n T) (h0 : ∀ j : Nat, (j : Int) < n → 0 ≤ T j ∧ T j ≤ 4000) {a b i : Int} (h1 : 0 ≤ i) (h2 : i < n) (h3 : a ≤ tickF n T i) (h4 : tickF n T i < b) : Sm (w0 (atF n T V)) a (min b (tickF n T (i + 1))) = Sm (w0 (atF n T V)) a (min b (tickF n T i)) + (if valF n V i ≠ valF n V (i - 1) then 1 else 0) := by
  have m1 := tick_mono hs h0 (i := i) (by omega) h2
  have m2 := tick_mono hs h0 (i := i - 1) (by omega) (by omega)
  rw [show i - 1 + 1 = i by omega] at m2
  rw [show min b (tickF n T i) = tickF n T i by omega, Sm_split (b := tickF n T i) h3 (by omega), Sm_split (a := tickF n T i) (b := tickF n T i + 1) (by omega) (by omega)]
  rw [Sm_const (a := tickF n T i) (b := tickF n T i + 1) (w := if valF n V i ≠ valF n V (i - 1) then 1 else 0) (by omega) (fun u hu1 hu2 => ?_), Sm_const (a := tickF n T i + 1) (w := 0) (by omega) (fun u hu1 hu2 => ?_)]
  · omega
  · unfold w0
    rw [seg hs (i := i) (by omega) h2 (by omega) (by omega), seg hs (i := i) (u := u - 1) (by omega) h2 (by omega) (by omega)]
    simp
  · have e : u = tickF n T i := by omega
    unfold w0
    rw [e, seg hs (i := i) (by omega) h2 (by omega) m1, seg hs (i := i - 1) (by omega) (by omega) (by omega) (by rw [show i - 1 + 1 = i by omega]; omega)]
theorem tick_nx {n : Int} {T : Nat → Int} (hs : srt n T) (h0 : ∀ j : Nat, (j : Int) < n → 0 ≤ T j ∧ T j ≤ 4000) {a i : Int} (ha : a ≤ 4000) (h1 : -1 ≤ i) (h : a < tickF n T (i + 1)) : a < tickF n T (i + 1 + 1) := by
  rcases (show i + 1 < n ∨ n ≤ i + 1 by omega) with q | q
  · have := tick_mono hs h0 (i := i + 1) (by omega) q
    omega
  · unfold tickF
    rw [if_neg (by omega), if_neg (by omega)]
    omega
theorem turn_0 {n : Int} {T V : Nat → Int} (hs : srt n T) {a b i : Int} (ha : 0 ≤ a) (ha2 : a ≤ 4000) (hab : a < b) (h : lateP n T (a - 1) i) : Sm (w0 (atF n T V)) a (min b (tickF n T (i + 1))) = 0 ∧ a ≤ tickF n T (i + 1) := by
  obtain ⟨g1, g2⟩ := late_tick hs (by omega) (by omega) h
  have h1 := h.1
  have h2 := h.2.1
  refine ⟨?_, by omega⟩
  rw [Sm_const (w := 0) (by omega) (fun u hu1 hu2 => ?_)]
  · omega
  · unfold w0
    rw [seg hs (i := i) h1 h2 (by omega) (by omega), seg hs (i := i) (u := u - 1) h1 h2 (by omega) (by omega)]
    simp
set_option maxHeartbeats 4000000 in
set_option maxRecDepth 100000 in
theorem fX4_turns_loop {sz : Nat} {M0 : wM} {G : gG} {M : wM} {r tk vl : Nat} {n : Int} {T V : Nat → Int} (hrow : rowAt G M r tk vl n T V) (hs : srt n T) {a b : Int} (ha : bt 0 a 4000) (hb : bt 0 b 4000) (hab : a < b) : ∀ (k : Nat) (u i : Int), 0 ≤ 52 - i → 52 - i < (k : Int) → (bt 0 i 51) → (a ≤ tickF n T i) → (u = Sm (w0 (atF n T V)) a (min b (tickF n T i))) → wV G qX4_turns 0 0 sz M0 0 0 13 [(0, .ref r), (1, .int (gI a)), (2, .int (gI b)), (3, .int (gI u)), (4, .int (gI i))] [] M (iP fun x M' => M' = M ∧ x = (gI (Sm (w0 (atF n T V)) a b)).toInt) := by
  intro k
  induction k with
  | zero =>
    intros
    omega
  | succ k ih =>
    intro u i hmz hml hi h2 h3
    obtain ⟨hn0, hn1⟩ := hrow.rg
    have hto : n ≤ i → tickF n T i = 1000000 := fun h => by unfold tickF; rw [if_neg (by omega), if_neg (by omega)]
    refine v_iload dX4_turns_13 rfl ?_
    refine v_aloadn dX4_turns_15 rfl ?_
    refine v_get dX4_turns_16 gf_X4_18 hrow.1 rfl ?_
    refine v_icmp_ge 63 dX4_turns_19 (by decide) (by omega) (by omega) (fun h19 => ?_) (fun h19 => ?_)
    · refine v_iloadn dX4_turns_63 rfl ?_
      exact v_iretA dX4_turns_64 rfl ⟨(Nat.le_of_ble_eq_true rfl), (Nat.le_of_ble_eq_true rfl)⟩ ⟨rfl, by rw [h3, show min b (tickF n T i) = b by omega]⟩
    · refine v_aloadn dX4_turns_22 rfl ?_
      refine v_iload dX4_turns_23 rfl ?_
      refine v_callV (tX4_tickOf hrow (by omega)) lc_X4_26 ⟨(Nat.le_of_ble_eq_true rfl), (Nat.le_of_ble_eq_true rfl)⟩ dX4_turns_25 rfl rfl (Nat.le_of_ble_eq_true rfl) ⟨(Nat.le_of_ble_eq_true rfl), (Nat.le_of_ble_eq_true rfl)⟩ ⟨_, _, _, _, hrow.1, rfl⟩ (kP fun r25 hr25 hp25 => ?_)
      refine v_iloadn dX4_turns_28 rfl ?_
      refine v_icmp_ge 63 dX4_turns_29 (by decide) (by omega) (by omega) (fun h29 => ?_) (fun h29 => ?_)
      · refine v_iloadn dX4_turns_63 rfl ?_
        exact v_iretA dX4_turns_64 rfl ⟨(Nat.le_of_ble_eq_true rfl), (Nat.le_of_ble_eq_true rfl)⟩ ⟨rfl, by rw [h3, show min b (tickF n T i) = b by omega]⟩
      · refine v_iloadn dX4_turns_32 rfl ?_
        refine v_aloadn dX4_turns_33 rfl ?_
        refine v_iload dX4_turns_34 rfl ?_
        refine v_callV (tX4_valueOf hrow (by omega)) lc_X4_30 ⟨(Nat.le_of_ble_eq_true rfl), (Nat.le_of_ble_eq_true rfl)⟩ dX4_turns_36 rfl rfl (Nat.le_of_ble_eq_true rfl) ⟨(Nat.le_of_ble_eq_true rfl), (Nat.le_of_ble_eq_true rfl)⟩ ⟨_, _, _, _, hrow.1, rfl⟩ (kP fun r36 hr36 hp36 => ?_)
        refine v_aloadn dX4_turns_39 rfl ?_
        refine v_iload dX4_turns_40 rfl ?_
        refine v_iconst dX4_turns_42 ?_
        refine v_isub dX4_turns_43 ?_
        refine v_callV (tX4_valueOf hrow (by omega)) lc_X4_30 ⟨(Nat.le_of_ble_eq_true rfl), (Nat.le_of_ble_eq_true rfl)⟩ dX4_turns_44 rfl rfl (Nat.le_of_ble_eq_true rfl) ⟨(Nat.le_of_ble_eq_true rfl), (Nat.le_of_ble_eq_true rfl)⟩ ⟨_, _, _, _, hrow.1, rfl⟩ (kP fun r44 hr44 hp44 => ?_)
        have hst := turn_step (V := V) hs hrow.2.2.2.tk (i := i) (a := a) (b := b) (by omega) (by omega) h2 (by omega)
        have hmo := tick_mono hs hrow.2.2.2.tk (i := i) (by omega) (by omega)
        refine v_icmp_eq 54 dX4_turns_47 (by decide) (by omega) (by omega) (fun h47 => ?_) (fun h47 => ?_)
        · refine v_iconst dX4_turns_54 ?_
          refine v_iadd dX4_turns_55 ?_
          refine v_istoren dX4_turns_56 (Nat.le_of_ble_eq_true rfl) ?_
          refine v_iinc dX4_turns_57 rfl (Nat.le_of_ble_eq_true rfl) ?_
          refine v_goto 13 dX4_turns_60 (by decide) ?_
          refine wV.locs (lv' := [(0, .ref r), (1, .int (gI a)), (2, .int (gI b)), (3, .int (gI _)), (4, .int (gI _))]) ⟨rfl, rfl, rfl, rfl, rfl, trivial⟩ (ih _ _ (by omega) (by omega) (by omega) (by omega) (by rw [hst, ← h3]; split <;> omega))
        · refine v_iconst dX4_turns_50 ?_
          refine v_goto 55 dX4_turns_51 (by decide) ?_
          refine v_iadd dX4_turns_55 ?_
          refine v_istoren dX4_turns_56 (Nat.le_of_ble_eq_true rfl) ?_
          refine v_iinc dX4_turns_57 rfl (Nat.le_of_ble_eq_true rfl) ?_
          refine v_goto 13 dX4_turns_60 (by decide) ?_
          refine wV.locs (lv' := [(0, .ref r), (1, .int (gI a)), (2, .int (gI b)), (3, .int (gI _)), (4, .int (gI _))]) ⟨rfl, rfl, rfl, rfl, rfl, trivial⟩ (ih _ _ (by omega) (by omega) (by omega) (by omega) (by rw [hst, ← h3]; split <;> omega))
set_option maxHeartbeats 4000000 in
set_option maxRecDepth 100000 in
theorem fX4_turns {G : gG} {M : wM} {r tk vl : Nat} {n : Int} {T V : Nat → Int} (hrow : rowAt G M r tk vl n T V) (hs : srt n T) {a b : Int} (ha : bt 0 a 4000) (hb : bt 0 b 4000) (hab : a < b) : wT G qX4_turns 0 0 [.ref r, .int (gI a), .int (gI b)] M (iP fun x M' => M' = M ∧ x = (gI (Sm (w0 (atF n T V)) a b)).toInt) := by
  refine wT.intro (by decide) (Nat.le_of_ble_eq_true rfl) (fun sz => ?_)
  obtain ⟨hn0, hn1⟩ := hrow.rg
  refine v_iconst dX4_turns_0 ?_
  refine v_istoren dX4_turns_1 (Nat.le_of_ble_eq_true rfl) ?_
  refine v_aloadn dX4_turns_2 rfl ?_
  refine v_iloadn dX4_turns_3 rfl ?_
  refine v_iconst dX4_turns_4 ?_
  refine v_isub dX4_turns_5 ?_
  refine v_callV (tX4_latest hrow (by omega)) lc_X4_22 ⟨(Nat.le_of_ble_eq_true rfl), (Nat.le_of_ble_eq_true rfl)⟩ dX4_turns_6 rfl rfl (Nat.le_of_ble_eq_true rfl) ⟨(Nat.le_of_ble_eq_true rfl), (Nat.le_of_ble_eq_true rfl)⟩ ⟨_, _, _, _, hrow.1, rfl⟩ (kP fun r6 hr6 hp6 => ?_)
  have hq6 := hp6; unfold lateP at hq6
  have ht0 := turn_0 (V := V) hs ha.1 ha.2 hab hp6
  have hq6 := And.intro hq6.1 hq6.2.1
  refine v_iconst dX4_turns_9 ?_
  refine v_iadd dX4_turns_10 ?_
  refine v_istore dX4_turns_11 (Nat.le_of_ble_eq_true rfl) ?_
  refine wV.locs (lv' := [(0, .ref r), (1, .int (gI a)), (2, .int (gI b)), (3, .int (gI (0))), (4, .int (gI (r6 + 1)))]) ⟨rfl, rfl, rfl, rfl, rfl, trivial⟩ (fX4_turns_loop hrow hs ha hb hab 60 _ _ (by omega) (by omega) (by omega) ht0.2 ht0.1.symm)
set_option maxHeartbeats 4000000 in
set_option maxRecDepth 100000 in
theorem fX4_ticksWithin {G : gG} {M : wM} {r tk vl : Nat} {n : Int} {T V : Nat → Int} (hrow : rowAt G M r tk vl n T V) {i a b : Int} (hi : bt (-10) i 100) (ha : bt 0 a 4000) (hb : bt 0 b 4000) : wT G qX4_ticksWithin 0 0 [.ref r, .int (gI i), .int (gI a), .int (gI b)] M (iP fun x M' => M' = M ∧ x = (if tickF n T (i + 1) < b then tickF n T (i + 1) else b) - (if a < tickF n T i then tickF n T i else a)) := by
  refine wT.intro (by decide) (Nat.le_of_ble_eq_true rfl) (fun sz => ?_)
  obtain ⟨hn0, hn1⟩ := hrow.rg
  have g1 := tickF_rg hrow.2.2.2 i
  have g2 := tickF_rg hrow.2.2.2 (i + 1)
  refine v_iloadn dX4_ticksWithin_0 rfl ?_
  refine v_aloadn dX4_ticksWithin_1 rfl ?_
  refine v_iloadn dX4_ticksWithin_2 rfl ?_
  refine v_iconst dX4_ticksWithin_3 ?_
  refine v_iadd dX4_ticksWithin_4 ?_
  refine v_callV (tX4_tickOf hrow (by omega)) lc_X4_26 ⟨(Nat.le_of_ble_eq_true rfl), (Nat.le_of_ble_eq_true rfl)⟩ dX4_ticksWithin_5 rfl rfl (Nat.le_of_ble_eq_true rfl) ⟨(Nat.le_of_ble_eq_true rfl), (Nat.le_of_ble_eq_true rfl)⟩ ⟨_, _, _, _, hrow.1, rfl⟩ (kP fun r5 hr5 hp5 => ?_)
  subst hp5
  refine v_min dX4_ticksWithin_8 lc_X4_41 (Nat.le_of_ble_eq_true rfl) (Nat.le_of_ble_eq_true rfl) ⟨(Nat.le_of_ble_eq_true rfl), (Nat.le_of_ble_eq_true rfl)⟩ (by omega) (by omega) ?_
  refine v_iloadn dX4_ticksWithin_11 rfl ?_
  refine v_aloadn dX4_ticksWithin_12 rfl ?_
  refine v_iloadn dX4_ticksWithin_13 rfl ?_
  refine v_callV (tX4_tickOf hrow (by omega)) lc_X4_26 ⟨(Nat.le_of_ble_eq_true rfl), (Nat.le_of_ble_eq_true rfl)⟩ dX4_ticksWithin_14 rfl rfl (Nat.le_of_ble_eq_true rfl) ⟨(Nat.le_of_ble_eq_true rfl), (Nat.le_of_ble_eq_true rfl)⟩ ⟨_, _, _, _, hrow.1, rfl⟩ (kP fun r14 hr14 hp14 => ?_)
  subst hp14
  refine v_max dX4_ticksWithin_17 lc_X4_47 (Nat.le_of_ble_eq_true rfl) (Nat.le_of_ble_eq_true rfl) ⟨(Nat.le_of_ble_eq_true rfl), (Nat.le_of_ble_eq_true rfl)⟩ (by omega) (by omega) ?_
  refine v_isub dX4_ticksWithin_20 ?_
  exact v_iret dX4_ticksWithin_21 rfl ⟨(Nat.le_of_ble_eq_true rfl), (Nat.le_of_ble_eq_true rfl)⟩ (by split <;> split <;> omega) ⟨rfl, rfl⟩
theorem seg_step {n : Int} {T V : Nat → Int} (hs : srt n T) (h0 : ∀ j : Nat, (j : Int) < n → 0 ≤ T j ∧ T j ≤ 4000) {f : Int → Int} {a b i w : Int} (hab : a < b) (h1 : -1 ≤ i) (h2 : i < n) (h3 : a < tickF n T (i + 1)) (h4 : tickF n T i < b) (hw : ∀ u, atF n T V u = valF n V i → f u = w) : Sm f a (min b (max a (tickF n T (i + 1)))) = Sm f a (min b (max a (tickF n T i))) + w * ((if tickF n T (i + 1) < b then tickF n T (i + 1) else b) - (if a < tickF n T i then tickF n T i else a)) := by
  have m1 := tick_mono hs h0 h1 h2
  have e1 : (if tickF n T (i + 1) < b then tickF n T (i + 1) else b) = min b (tickF n T (i + 1)) := by split <;> omega
  have e2 : (if a < tickF n T i then tickF n T i else a) = max a (tickF n T i) := by split <;> omega
  rw [e1, e2, show min b (max a (tickF n T i)) = max a (tickF n T i) by omega, show max a (tickF n T (i + 1)) = tickF n T (i + 1) by omega, Sm_split (b := max a (tickF n T i)) (by omega) (by omega), Sm_const (w := w) (a := max a (tickF n T i)) (by omega) (fun u hu1 hu2 => hw u (seg hs h1 h2 (by omega) (by omega)))]
set_option maxHeartbeats 4000000 in
set_option maxRecDepth 100000 in
theorem fX4_ticksNotKnown_loop {sz : Nat} {M0 : wM} {G : gG} {M : wM} {r tk vl : Nat} {n : Int} {T V : Nat → Int} (hrow : rowAt G M r tk vl n T V) (hs : srt n T) {a b : Int} (ha : bt 0 a 4000) (hb : bt 0 b 4000) (hab : a < b) : ∀ (k : Nat) (u i : Int), 0 ≤ 52 - i → 52 - i < (k : Int) → (bt (-1) i 51) → (a < tickF n T (i + 1)) → (u = Sm (w1 (atF n T V)) a (min b (max a (tickF n T i)))) → wV G qX4_ticksNotKnown 0 0 sz M0 0 0 9 [(0, .ref r), (1, .int (gI a)), (2, .int (gI b)), (3, .int (gI u)), (4, .int (gI i))] [] M (iP fun x M' => M' = M ∧ x = (gI (Sm (w1 (atF n T V)) a b)).toInt) := by
  intro k
  induction k with
  | zero =>
    intros
    omega
  | succ k ih =>
    intro u i hmz hml hi h2 h3
    obtain ⟨hn0, hn1⟩ := hrow.rg
    have hto : n ≤ i → tickF n T i = 1000000 := fun h => by unfold tickF; rw [if_neg (by omega), if_neg (by omega)]
    refine v_iload dX4_ticksNotKnown_9 rfl ?_
    refine v_aloadn dX4_ticksNotKnown_11 rfl ?_
    refine v_get dX4_ticksNotKnown_12 gf_X4_18 hrow.1 rfl ?_
    refine v_icmp_ge 61 dX4_ticksNotKnown_15 (by decide) (by omega) (by omega) (fun h15 => ?_) (fun h15 => ?_)
    · refine v_iloadn dX4_ticksNotKnown_61 rfl ?_
      exact v_iretA dX4_ticksNotKnown_62 rfl ⟨(Nat.le_of_ble_eq_true rfl), (Nat.le_of_ble_eq_true rfl)⟩ ⟨rfl, by rw [h3, show min b (max a (tickF n T i)) = b by omega]⟩
    · refine v_aloadn dX4_ticksNotKnown_18 rfl ?_
      refine v_iload dX4_ticksNotKnown_19 rfl ?_
      refine v_callV (tX4_tickOf hrow (by omega)) lc_X4_26 ⟨(Nat.le_of_ble_eq_true rfl), (Nat.le_of_ble_eq_true rfl)⟩ dX4_ticksNotKnown_21 rfl rfl (Nat.le_of_ble_eq_true rfl) ⟨(Nat.le_of_ble_eq_true rfl), (Nat.le_of_ble_eq_true rfl)⟩ ⟨_, _, _, _, hrow.1, rfl⟩ (kP fun r21 hr21 hp21 => ?_)
      refine v_iloadn dX4_ticksNotKnown_24 rfl ?_
      refine v_icmp_ge 61 dX4_ticksNotKnown_25 (by decide) (by omega) (by omega) (fun h25 => ?_) (fun h25 => ?_)
      · refine v_iloadn dX4_ticksNotKnown_61 rfl ?_
        exact v_iretA dX4_ticksNotKnown_62 rfl ⟨(Nat.le_of_ble_eq_true rfl), (Nat.le_of_ble_eq_true rfl)⟩ ⟨rfl, by rw [h3, show min b (max a (tickF n T i)) = b by omega]⟩
      · refine v_iloadn dX4_ticksNotKnown_28 rfl ?_
        refine v_aloadn dX4_ticksNotKnown_29 rfl ?_
        refine v_iload dX4_ticksNotKnown_30 rfl ?_
        refine v_callV (tX4_valueOf hrow (by omega)) lc_X4_30 ⟨(Nat.le_of_ble_eq_true rfl), (Nat.le_of_ble_eq_true rfl)⟩ dX4_ticksNotKnown_32 rfl rfl (Nat.le_of_ble_eq_true rfl) ⟨(Nat.le_of_ble_eq_true rfl), (Nat.le_of_ble_eq_true rfl)⟩ ⟨_, _, _, _, hrow.1, rfl⟩ (kP fun r32 hr32 hp32 => ?_)
        have hst := seg_step (V := V) (f := w1 (atF n T V)) (w := if valF n V i = 256 then 1 else 0) hs hrow.2.2.2.tk hab (i := i) (by omega) (by omega) h2 (by omega) (fun u hu => by unfold w1; rw [hu])
        refine v_sipush dX4_ticksNotKnown_35 (by decide) ?_
        refine v_icmp_ne 52 dX4_ticksNotKnown_38 (by decide) (by omega) (by omega) (fun h38 => ?_) (fun h38 => ?_)
        · refine v_iconst dX4_ticksNotKnown_52 ?_
          refine v_iadd dX4_ticksNotKnown_53 ?_
          refine v_istoren dX4_ticksNotKnown_54 (Nat.le_of_ble_eq_true rfl) ?_
          refine v_iinc dX4_ticksNotKnown_55 rfl (Nat.le_of_ble_eq_true rfl) ?_
          refine v_goto 9 dX4_ticksNotKnown_58 (by decide) ?_
          refine wV.locs (lv' := [(0, .ref r), (1, .int (gI a)), (2, .int (gI b)), (3, .int (gI _)), (4, .int (gI _))]) ⟨rfl, rfl, rfl, rfl, rfl, trivial⟩ (ih _ _ (by omega) (by omega) (by omega) (tick_nx hs hrow.2.2.2.tk (by omega) (by omega) h2) (by rw [hst, ← h3]; first | (rw [if_pos (by omega), hp46]; omega) | (rw [if_neg (by omega)]; omega)))
        · refine v_aloadn dX4_ticksNotKnown_41 rfl ?_
          refine v_iload dX4_ticksNotKnown_42 rfl ?_
          refine v_iloadn dX4_ticksNotKnown_44 rfl ?_
          refine v_iloadn dX4_ticksNotKnown_45 rfl ?_
          refine v_callV (fX4_ticksWithin hrow (by omega) (by omega) (by omega)) lc_X4_37 ⟨(Nat.le_of_ble_eq_true rfl), (Nat.le_of_ble_eq_true rfl)⟩ dX4_ticksNotKnown_46 rfl rfl (Nat.le_of_ble_eq_true rfl) ⟨(Nat.le_of_ble_eq_true rfl), (Nat.le_of_ble_eq_true rfl)⟩ ⟨_, _, _, _, hrow.1, rfl⟩ (kP fun r46 hr46 hp46 => ?_)
          refine v_goto 53 dX4_ticksNotKnown_49 (by decide) ?_
          refine v_iadd dX4_ticksNotKnown_53 ?_
          refine v_istoren dX4_ticksNotKnown_54 (Nat.le_of_ble_eq_true rfl) ?_
          refine v_iinc dX4_ticksNotKnown_55 rfl (Nat.le_of_ble_eq_true rfl) ?_
          refine v_goto 9 dX4_ticksNotKnown_58 (by decide) ?_
          refine wV.locs (lv' := [(0, .ref r), (1, .int (gI a)), (2, .int (gI b)), (3, .int (gI _)), (4, .int (gI _))]) ⟨rfl, rfl, rfl, rfl, rfl, trivial⟩ (ih _ _ (by omega) (by omega) (by omega) (tick_nx hs hrow.2.2.2.tk (by omega) (by omega) h2) (by rw [hst, ← h3]; first | (rw [if_pos (by omega), hp46]; omega) | (rw [if_neg (by omega)]; omega)))
set_option maxHeartbeats 4000000 in
set_option maxRecDepth 100000 in
theorem fX4_ticksNotKnown {G : gG} {M : wM} {r tk vl : Nat} {n : Int} {T V : Nat → Int} (hrow : rowAt G M r tk vl n T V) (hs : srt n T) {a b : Int} (ha : bt 0 a 4000) (hb : bt 0 b 4000) (hab : a < b) : wT G qX4_ticksNotKnown 0 0 [.ref r, .int (gI a), .int (gI b)] M (iP fun x M' => M' = M ∧ x = (gI (Sm (w1 (atF n T V)) a b)).toInt) := by
  refine wT.intro (by decide) (Nat.le_of_ble_eq_true rfl) (fun sz => ?_)
  obtain ⟨hn0, hn1⟩ := hrow.rg
  refine v_iconst dX4_ticksNotKnown_0 ?_
  refine v_istoren dX4_ticksNotKnown_1 (Nat.le_of_ble_eq_true rfl) ?_
  refine v_aloadn dX4_ticksNotKnown_2 rfl ?_
  refine v_iloadn dX4_ticksNotKnown_3 rfl ?_
  refine v_callV (tX4_latest hrow (by omega)) lc_X4_22 ⟨(Nat.le_of_ble_eq_true rfl), (Nat.le_of_ble_eq_true rfl)⟩ dX4_ticksNotKnown_4 rfl rfl (Nat.le_of_ble_eq_true rfl) ⟨(Nat.le_of_ble_eq_true rfl), (Nat.le_of_ble_eq_true rfl)⟩ ⟨_, _, _, _, hrow.1, rfl⟩ (kP fun r4 hr4 hp4 => ?_)
  have hlt := late_tick hs (by omega) (by omega) hp4
  have hq := And.intro hp4.1 hp4.2.1
  refine v_istore dX4_ticksNotKnown_7 (Nat.le_of_ble_eq_true rfl) ?_
  refine wV.locs (lv' := [(0, .ref r), (1, .int (gI a)), (2, .int (gI b)), (3, .int (gI (0))), (4, .int (gI (r4)))]) ⟨rfl, rfl, rfl, rfl, rfl, trivial⟩ (fX4_ticksNotKnown_loop hrow hs ha hb hab 60 _ _ (by omega) (by omega) (by omega) hlt.2 (by rw [show min b (max a (tickF n T r4)) = a by omega, Sm_self]))
set_option maxHeartbeats 4000000 in
set_option maxRecDepth 100000 in
theorem fX4_sumKnown_loop {sz : Nat} {M0 : wM} {G : gG} {M : wM} {r tk vl : Nat} {n : Int} {T V : Nat → Int} (hrow : rowAt G M r tk vl n T V) (hs : srt n T) {a b : Int} (ha : bt 0 a 4000) (hb : bt 0 b 4000) (hab : a < b) : ∀ (k : Nat) (u i : Int), 0 ≤ 52 - i → 52 - i < (k : Int) → (bt (-1) i 51) → (a < tickF n T (i + 1)) → (u = Sm (w2 (atF n T V)) a (min b (max a (tickF n T i)))) → wV G qX4_sumKnown 0 0 sz M0 0 0 9 [(0, .ref r), (1, .int (gI a)), (2, .int (gI b)), (3, .int (gI u)), (4, .int (gI i))] [] M (iP fun x M' => M' = M ∧ x = (gI (Sm (w2 (atF n T V)) a b)).toInt) := by
  intro k
  induction k with
  | zero =>
    intros
    omega
  | succ k ih =>
    intro u i hmz hml hi h2 h3
    obtain ⟨hn0, hn1⟩ := hrow.rg
    have hto : n ≤ i → tickF n T i = 1000000 := fun h => by unfold tickF; rw [if_neg (by omega), if_neg (by omega)]
    refine v_iload dX4_sumKnown_9 rfl ?_
    refine v_aloadn dX4_sumKnown_11 rfl ?_
    refine v_get dX4_sumKnown_12 gf_X4_18 hrow.1 rfl ?_
    refine v_icmp_ge 68 dX4_sumKnown_15 (by decide) (by omega) (by omega) (fun h15 => ?_) (fun h15 => ?_)
    · refine v_iloadn dX4_sumKnown_68 rfl ?_
      exact v_iretA dX4_sumKnown_69 rfl ⟨(Nat.le_of_ble_eq_true rfl), (Nat.le_of_ble_eq_true rfl)⟩ ⟨rfl, by rw [h3, show min b (max a (tickF n T i)) = b by omega]⟩
    · refine v_aloadn dX4_sumKnown_18 rfl ?_
      refine v_iload dX4_sumKnown_19 rfl ?_
      refine v_callV (tX4_tickOf hrow (by omega)) lc_X4_26 ⟨(Nat.le_of_ble_eq_true rfl), (Nat.le_of_ble_eq_true rfl)⟩ dX4_sumKnown_21 rfl rfl (Nat.le_of_ble_eq_true rfl) ⟨(Nat.le_of_ble_eq_true rfl), (Nat.le_of_ble_eq_true rfl)⟩ ⟨_, _, _, _, hrow.1, rfl⟩ (kP fun r21 hr21 hp21 => ?_)
      refine v_iloadn dX4_sumKnown_24 rfl ?_
      refine v_icmp_ge 68 dX4_sumKnown_25 (by decide) (by omega) (by omega) (fun h25 => ?_) (fun h25 => ?_)
      · refine v_iloadn dX4_sumKnown_68 rfl ?_
        exact v_iretA dX4_sumKnown_69 rfl ⟨(Nat.le_of_ble_eq_true rfl), (Nat.le_of_ble_eq_true rfl)⟩ ⟨rfl, by rw [h3, show min b (max a (tickF n T i)) = b by omega]⟩
      · refine v_iloadn dX4_sumKnown_28 rfl ?_
        refine v_aloadn dX4_sumKnown_29 rfl ?_
        refine v_iload dX4_sumKnown_30 rfl ?_
        refine v_callV (tX4_valueOf hrow (by omega)) lc_X4_30 ⟨(Nat.le_of_ble_eq_true rfl), (Nat.le_of_ble_eq_true rfl)⟩ dX4_sumKnown_32 rfl rfl (Nat.le_of_ble_eq_true rfl) ⟨(Nat.le_of_ble_eq_true rfl), (Nat.le_of_ble_eq_true rfl)⟩ ⟨_, _, _, _, hrow.1, rfl⟩ (kP fun r32 hr32 hp32 => ?_)
        have hst := seg_step (V := V) (f := w2 (atF n T V)) (w := if valF n V i = 256 then 0 else valF n V i) hs hrow.2.2.2.tk hab (i := i) (by omega) (by omega) h2 (by omega) (fun u hu => by unfold w2; rw [hu])
        refine v_sipush dX4_sumKnown_35 (by decide) ?_
        refine v_icmp_eq 59 dX4_sumKnown_38 (by decide) (by omega) (by omega) (fun h38 => ?_) (fun h38 => ?_)
        · refine v_iconst dX4_sumKnown_59 ?_
          refine v_iadd dX4_sumKnown_60 ?_
          refine v_istoren dX4_sumKnown_61 (Nat.le_of_ble_eq_true rfl) ?_
          refine v_iinc dX4_sumKnown_62 rfl (Nat.le_of_ble_eq_true rfl) ?_
          refine v_goto 9 dX4_sumKnown_65 (by decide) ?_
          refine wV.locs (lv' := [(0, .ref r), (1, .int (gI a)), (2, .int (gI b)), (3, .int (gI _)), (4, .int (gI _))]) ⟨rfl, rfl, rfl, rfl, rfl, trivial⟩ (ih _ _ (by omega) (by omega) (by omega) (tick_nx hs hrow.2.2.2.tk (by omega) (by omega) h2) (by rw [hst, ← h3]; first | (rw [if_neg (by omega), hp52, hp44]) | (rw [if_pos (by omega)]; omega)))
        · refine v_aloadn dX4_sumKnown_41 rfl ?_
          refine v_iload dX4_sumKnown_42 rfl ?_
          refine v_callV (tX4_valueOf hrow (by omega)) lc_X4_30 ⟨(Nat.le_of_ble_eq_true rfl), (Nat.le_of_ble_eq_true rfl)⟩ dX4_sumKnown_44 rfl rfl (Nat.le_of_ble_eq_true rfl) ⟨(Nat.le_of_ble_eq_true rfl), (Nat.le_of_ble_eq_true rfl)⟩ ⟨_, _, _, _, hrow.1, rfl⟩ (kP fun r44 hr44 hp44 => ?_)
          refine v_aloadn dX4_sumKnown_47 rfl ?_
          refine v_iload dX4_sumKnown_48 rfl ?_
          refine v_iloadn dX4_sumKnown_50 rfl ?_
          refine v_iloadn dX4_sumKnown_51 rfl ?_
          refine v_callV (fX4_ticksWithin hrow (by omega) (by omega) (by omega)) lc_X4_37 ⟨(Nat.le_of_ble_eq_true rfl), (Nat.le_of_ble_eq_true rfl)⟩ dX4_sumKnown_52 rfl rfl (Nat.le_of_ble_eq_true rfl) ⟨(Nat.le_of_ble_eq_true rfl), (Nat.le_of_ble_eq_true rfl)⟩ ⟨_, _, _, _, hrow.1, rfl⟩ (kP fun r52 hr52 hp52 => ?_)
          refine v_imul dX4_sumKnown_55 ?_
          refine v_goto 60 dX4_sumKnown_56 (by decide) ?_
          refine v_iadd dX4_sumKnown_60 ?_
          refine v_istoren dX4_sumKnown_61 (Nat.le_of_ble_eq_true rfl) ?_
          refine v_iinc dX4_sumKnown_62 rfl (Nat.le_of_ble_eq_true rfl) ?_
          refine v_goto 9 dX4_sumKnown_65 (by decide) ?_
          refine wV.locs (lv' := [(0, .ref r), (1, .int (gI a)), (2, .int (gI b)), (3, .int (gI _)), (4, .int (gI _))]) ⟨rfl, rfl, rfl, rfl, rfl, trivial⟩ (ih _ _ (by omega) (by omega) (by omega) (tick_nx hs hrow.2.2.2.tk (by omega) (by omega) h2) (by rw [hst, ← h3]; first | (rw [if_neg (by omega), hp52, hp44]) | (rw [if_pos (by omega)]; omega)))
set_option maxHeartbeats 4000000 in
set_option maxRecDepth 100000 in
theorem fX4_sumKnown {G : gG} {M : wM} {r tk vl : Nat} {n : Int} {T V : Nat → Int} (hrow : rowAt G M r tk vl n T V) (hs : srt n T) {a b : Int} (ha : bt 0 a 4000) (hb : bt 0 b 4000) (hab : a < b) : wT G qX4_sumKnown 0 0 [.ref r, .int (gI a), .int (gI b)] M (iP fun x M' => M' = M ∧ x = (gI (Sm (w2 (atF n T V)) a b)).toInt) := by
  refine wT.intro (by decide) (Nat.le_of_ble_eq_true rfl) (fun sz => ?_)
  obtain ⟨hn0, hn1⟩ := hrow.rg
  refine v_iconst dX4_sumKnown_0 ?_
  refine v_istoren dX4_sumKnown_1 (Nat.le_of_ble_eq_true rfl) ?_
  refine v_aloadn dX4_sumKnown_2 rfl ?_
  refine v_iloadn dX4_sumKnown_3 rfl ?_
  refine v_callV (tX4_latest hrow (by omega)) lc_X4_22 ⟨(Nat.le_of_ble_eq_true rfl), (Nat.le_of_ble_eq_true rfl)⟩ dX4_sumKnown_4 rfl rfl (Nat.le_of_ble_eq_true rfl) ⟨(Nat.le_of_ble_eq_true rfl), (Nat.le_of_ble_eq_true rfl)⟩ ⟨_, _, _, _, hrow.1, rfl⟩ (kP fun r4 hr4 hp4 => ?_)
  have hlt := late_tick hs (by omega) (by omega) hp4
  have hq := And.intro hp4.1 hp4.2.1
  refine v_istore dX4_sumKnown_7 (Nat.le_of_ble_eq_true rfl) ?_
  refine wV.locs (lv' := [(0, .ref r), (1, .int (gI a)), (2, .int (gI b)), (3, .int (gI (0))), (4, .int (gI (r4)))]) ⟨rfl, rfl, rfl, rfl, rfl, trivial⟩ (fX4_sumKnown_loop hrow hs ha hb hab 60 _ _ (by omega) (by omega) (by omega) hlt.2 (by rw [show min b (max a (tickF n T r4)) = a by omega, Sm_self]))
def srX (s : sG) : Prop := ∀ r, r < 24 → srt (s 10 r 2) (s 11 r)
def srY (s : sG) : Prop := ∀ r, r < 24 → srt (s 1 0 r) (yT s r)
def srM (s : sG) : Prop := ∀ k : Nat, (k : Int) < s 0 0 8 → (s 13 k 2).toNat < 34 ∧ srt (s 10 (s 13 k 2).toNat 2) (s 11 (s 13 k 2).toNat)
def sOK (s : sG) : Prop := srX s ∧ srM s
set_option maxHeartbeats 4000000 in
set_option maxRecDepth 100000 in
theorem fX6_window {G : gG} {fw : Nat → Nat → Nat} {s : sG} {M : wM} (hsO : sOK s) (hX : wX G fw s M) {a b c d e : Int} (ha : rng a) (hb : rng b) (hc : rng c) (hd : rng d) (he : rng e) : wT G qX6_window 0 0 [.ref (fw 0 0), .int (gI a), .int (gI b), .int (gI c), .int (gI d), .int (gI e)] M (iP fun x M' => M' = M ∧ ((¬ (bt 0 a 1 ∧ bt 0 b 11 ∧ 0 ≤ c ∧ c < d ∧ d ≤ s 0 0 9 ∧ bt 0 e 2) ∧ x = -1) ∨ ((bt 0 a 1 ∧ bt 0 b 11 ∧ 0 ≤ c ∧ c < d ∧ d ≤ s 0 0 9 ∧ bt 0 e 2) ∧ x = (gI (Sm (wF e (vX s (rix a b))) c d)).toInt))) := by
  refine wT.intro (by decide) (Nat.le_of_ble_eq_true rfl) (fun sz => ?_)
  have h0 := hX.2.2.1
  have hnm := hX.2.2.2.1
  have hsh := hX.2.2.2.2.1
  have h8 := hX.2.2.2.2.2.1
  refine v_iloadn dX6_window_0 rfl ?_
  refine v_iloadn dX6_window_1 rfl ?_
  refine v_callS (tX6_isNoRow (by omega) (by omega)) lc_X6_65 ⟨(Nat.le_of_ble_eq_true rfl), (Nat.le_of_ble_eq_true rfl)⟩ dX6_window_2 rfl rfl (Nat.le_of_ble_eq_true rfl) ⟨(Nat.le_of_ble_eq_true rfl), (Nat.le_of_ble_eq_true rfl)⟩ (kP fun r2 hr2 hp2 => ?_)
  refine v_if_ne 37 dX6_window_5 (by decide) (by omega) (fun h5 => ?_) (fun h5 => ?_)
  · refine v_iconst dX6_window_37 ?_
    exact v_iret dX6_window_38 rfl ⟨(Nat.le_of_ble_eq_true rfl), (Nat.le_of_ble_eq_true rfl)⟩ (by omega) ⟨rfl, Or.inl ⟨by omega, by omega⟩⟩
  · refine v_iloadn dX6_window_8 rfl ?_
    refine v_if_lt 37 dX6_window_9 (by decide) (by omega) (fun h9 => ?_) (fun h9 => ?_)
    · refine v_iconst dX6_window_37 ?_
      exact v_iret dX6_window_38 rfl ⟨(Nat.le_of_ble_eq_true rfl), (Nat.le_of_ble_eq_true rfl)⟩ (by omega) ⟨rfl, Or.inl ⟨by omega, by omega⟩⟩
    · refine v_iloadn dX6_window_12 rfl ?_
      refine v_iload dX6_window_13 rfl ?_
      refine v_icmp_ge 37 dX6_window_15 (by decide) (by omega) (by omega) (fun h15 => ?_) (fun h15 => ?_)
      · refine v_iconst dX6_window_37 ?_
        exact v_iret dX6_window_38 rfl ⟨(Nat.le_of_ble_eq_true rfl), (Nat.le_of_ble_eq_true rfl)⟩ (by omega) ⟨rfl, Or.inl ⟨by omega, by omega⟩⟩
      · refine v_iload dX6_window_18 rfl ?_
        refine v_aloadn dX6_window_20 rfl ?_
        refine v_get dX6_window_21 gf_X6_54 (hX.2.1 0 0 (by decide)) rfl ?_
        refine v_icmp_gt 37 dX6_window_24 (by decide) (by omega) (by omega) (fun h24 => ?_) (fun h24 => ?_)
        · refine v_iconst dX6_window_37 ?_
          exact v_iret dX6_window_38 rfl ⟨(Nat.le_of_ble_eq_true rfl), (Nat.le_of_ble_eq_true rfl)⟩ (by omega) ⟨rfl, Or.inl ⟨by omega, by omega⟩⟩
        · refine v_iload dX6_window_27 rfl ?_
          refine v_iconst dX6_window_29 ?_
          refine v_iconst dX6_window_30 ?_
          refine v_callS (tX6_outside (by omega) (by omega) (by omega)) lc_X6_69 ⟨(Nat.le_of_ble_eq_true rfl), (Nat.le_of_ble_eq_true rfl)⟩ dX6_window_31 rfl rfl (Nat.le_of_ble_eq_true rfl) ⟨(Nat.le_of_ble_eq_true rfl), (Nat.le_of_ble_eq_true rfl)⟩ (kP fun r31 hr31 hp31 => ?_)
          refine v_if_eq 39 dX6_window_34 (by decide) (by omega) (fun h34 => ?_) (fun h34 => ?_)
          · refine v_aloadn dX6_window_39 rfl ?_
            refine v_iloadn dX6_window_40 rfl ?_
            refine v_iloadn dX6_window_41 rfl ?_
            refine v_callV (tX6_rowOf hX (by omega) (by omega)) lc_X6_77 ⟨(Nat.le_of_ble_eq_true rfl), (Nat.le_of_ble_eq_true rfl)⟩ dX6_window_42 rfl rfl (Nat.le_of_ble_eq_true rfl) ⟨(Nat.le_of_ble_eq_true rfl), (Nat.le_of_ble_eq_true rfl)⟩ ⟨_, _, _, _, (hX.2.1 0 0 (by decide)), rfl⟩ (kRp fun r42 hp42 => ?_)
            subst hp42
            refine v_astore dX6_window_45 (Nat.le_of_ble_eq_true rfl) ?_
            refine v_iload dX6_window_47 rfl ?_
            refine v_if_ne 61 dX6_window_49 (by decide) (by omega) (fun h49 => ?_) (fun h49 => ?_)
            · refine v_iload dX6_window_61 rfl ?_
              refine v_iconst dX6_window_63 ?_
              refine v_icmp_ne 78 dX6_window_64 (by decide) (by omega) (by omega) (fun h64 => ?_) (fun h64 => ?_)
              · refine v_aload dX6_window_78 rfl ?_
                refine v_iloadn dX6_window_80 rfl ?_
                refine v_iload dX6_window_81 rfl ?_
                refine v_callV (fX4_sumKnown (hX.row (i := (a * 12 + b).toNat) (by omega)) (hsO.1 (a * 12 + b).toNat (by omega)) (by omega) (by omega) (by omega)) lc_X6_260 ⟨(Nat.le_of_ble_eq_true rfl), (Nat.le_of_ble_eq_true rfl)⟩ dX6_window_83 rfl rfl (Nat.le_of_ble_eq_true rfl) ⟨(Nat.le_of_ble_eq_true rfl), (Nat.le_of_ble_eq_true rfl)⟩ ⟨_, _, _, _, (hX.row (by omega)).1, rfl⟩ (kP fun r83 hr83 hp83 => ?_)
                exact v_iret dX6_window_86 rfl ⟨(Nat.le_of_ble_eq_true rfl), (Nat.le_of_ble_eq_true rfl)⟩ hr83 ⟨rfl, Or.inr ⟨by omega, by rw [hp83]; unfold wF vX rix; (first | rw [if_pos (by omega)] | rw [if_neg (by omega), if_pos (by omega)] | rw [if_neg (by omega), if_neg (by omega)])⟩⟩
              · refine v_aload dX6_window_67 rfl ?_
                refine v_iloadn dX6_window_69 rfl ?_
                refine v_iload dX6_window_70 rfl ?_
                refine v_callV (fX4_ticksNotKnown (hX.row (i := (a * 12 + b).toNat) (by omega)) (hsO.1 (a * 12 + b).toNat (by omega)) (by omega) (by omega) (by omega)) lc_X6_257 ⟨(Nat.le_of_ble_eq_true rfl), (Nat.le_of_ble_eq_true rfl)⟩ dX6_window_72 rfl rfl (Nat.le_of_ble_eq_true rfl) ⟨(Nat.le_of_ble_eq_true rfl), (Nat.le_of_ble_eq_true rfl)⟩ ⟨_, _, _, _, (hX.row (by omega)).1, rfl⟩ (kP fun r72 hr72 hp72 => ?_)
                refine v_goto 86 dX6_window_75 (by decide) ?_
                exact v_iret dX6_window_86 rfl ⟨(Nat.le_of_ble_eq_true rfl), (Nat.le_of_ble_eq_true rfl)⟩ hr72 ⟨rfl, Or.inr ⟨by omega, by rw [hp72]; unfold wF vX rix; (first | rw [if_pos (by omega)] | rw [if_neg (by omega), if_pos (by omega)] | rw [if_neg (by omega), if_neg (by omega)])⟩⟩
            · refine v_aload dX6_window_52 rfl ?_
              refine v_iloadn dX6_window_54 rfl ?_
              refine v_iload dX6_window_55 rfl ?_
              refine v_callV (fX4_turns (hX.row (i := (a * 12 + b).toNat) (by omega)) (hsO.1 (a * 12 + b).toNat (by omega)) (by omega) (by omega) (by omega)) lc_X6_254 ⟨(Nat.le_of_ble_eq_true rfl), (Nat.le_of_ble_eq_true rfl)⟩ dX6_window_57 rfl rfl (Nat.le_of_ble_eq_true rfl) ⟨(Nat.le_of_ble_eq_true rfl), (Nat.le_of_ble_eq_true rfl)⟩ ⟨_, _, _, _, (hX.row (by omega)).1, rfl⟩ (kP fun r57 hr57 hp57 => ?_)
              exact v_iret dX6_window_60 rfl ⟨(Nat.le_of_ble_eq_true rfl), (Nat.le_of_ble_eq_true rfl)⟩ hr57 ⟨rfl, Or.inr ⟨by omega, by rw [hp57]; unfold wF vX rix; (first | rw [if_pos (by omega)] | rw [if_neg (by omega), if_pos (by omega)] | rw [if_neg (by omega), if_neg (by omega)])⟩⟩
          · refine v_iconst dX6_window_37 ?_
            exact v_iret dX6_window_38 rfl ⟨(Nat.le_of_ble_eq_true rfl), (Nat.le_of_ble_eq_true rfl)⟩ (by omega) ⟨rfl, Or.inl ⟨by omega, by omega⟩⟩
