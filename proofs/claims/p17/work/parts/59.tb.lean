set_option maxHeartbeats 4000000 in
set_option maxRecDepth 100000 in
theorem fX4_isEdge {G : gG} {M : wM} {r tk vl : Nat} {n : Int} {T V : Nat → Int} (hrow : rowAt G M r tk vl n T V) (hs : srt n T) {i : Int} (hi : 0 ≤ i ∧ i < n) : wT G qX4_isEdge 0 0 [.ref r, .int (gI i)] M (iP fun x M' => M' = M ∧ ((x = 1 ∧ edP (atF n T V) (tickF n T i)) ∨ (x = 0 ∧ ¬ edP (atF n T V) (tickF n T i)))) := by
  refine wT.intro (by decide) (Nat.le_of_ble_eq_true rfl) (fun sz => ?_)
  obtain ⟨hn0, hn1⟩ := hrow.rg
  have m1 := tick_mono hs hrow.2.2.2.tk (i := i) (by omega) (by omega)
  have m2 := tick_mono hs hrow.2.2.2.tk (i := i - 1) (by omega) (by omega)
  rw [show i - 1 + 1 = i by omega] at m2
  have v1 : atF n T V (tickF n T i) = valF n V i := seg hs (by omega) (by omega) (by omega) m1
  have v2 : atF n T V (tickF n T i - 1) = valF n V (i - 1) := seg hs (by omega) (by omega) (by omega) (by rw [show i - 1 + 1 = i by omega]; omega)
  refine v_aloadn dX4_isEdge_0 rfl ?_
  refine v_iloadn dX4_isEdge_1 rfl ?_
  refine v_callV (tX4_tickOf hrow (by omega)) lc_X4_26 ⟨(Nat.le_of_ble_eq_true rfl), (Nat.le_of_ble_eq_true rfl)⟩ dX4_isEdge_2 rfl rfl (Nat.le_of_ble_eq_true rfl) ⟨(Nat.le_of_ble_eq_true rfl), (Nat.le_of_ble_eq_true rfl)⟩ ⟨_, _, _, _, hrow.1, rfl⟩ (kP fun r2 hr2 hp2 => ?_)
  refine v_if_le 32 dX4_isEdge_5 (by decide) (by omega) (fun h5 => ?_) (fun h5 => ?_)
  · refine v_iconst dX4_isEdge_32 ?_
    exact v_zret dX4_isEdge_33 rfl ⟨(Nat.le_of_ble_eq_true rfl), (Nat.le_of_ble_eq_true rfl)⟩ (by omega) ⟨rfl, by first | exact Or.inl ⟨rfl, by omega, by omega, by omega⟩ | exact Or.inr ⟨rfl, fun z => by first | exact absurd z.1 (by omega) | exact absurd z.2.1 (by omega) | exact absurd z.2.2 (by omega)⟩⟩
  · refine v_aloadn dX4_isEdge_8 rfl ?_
    refine v_iloadn dX4_isEdge_9 rfl ?_
    refine v_callV (tX4_valueOf hrow (by omega)) lc_X4_30 ⟨(Nat.le_of_ble_eq_true rfl), (Nat.le_of_ble_eq_true rfl)⟩ dX4_isEdge_10 rfl rfl (Nat.le_of_ble_eq_true rfl) ⟨(Nat.le_of_ble_eq_true rfl), (Nat.le_of_ble_eq_true rfl)⟩ ⟨_, _, _, _, hrow.1, rfl⟩ (kP fun r10 hr10 hp10 => ?_)
    refine v_iconst dX4_isEdge_13 ?_
    refine v_icmp_ne 32 dX4_isEdge_14 (by decide) (by omega) (by omega) (fun h14 => ?_) (fun h14 => ?_)
    · refine v_iconst dX4_isEdge_32 ?_
      exact v_zret dX4_isEdge_33 rfl ⟨(Nat.le_of_ble_eq_true rfl), (Nat.le_of_ble_eq_true rfl)⟩ (by omega) ⟨rfl, by first | exact Or.inl ⟨rfl, by omega, by omega, by omega⟩ | exact Or.inr ⟨rfl, fun z => by first | exact absurd z.1 (by omega) | exact absurd z.2.1 (by omega) | exact absurd z.2.2 (by omega)⟩⟩
    · refine v_aloadn dX4_isEdge_17 rfl ?_
      refine v_iloadn dX4_isEdge_18 rfl ?_
      refine v_iconst dX4_isEdge_19 ?_
      refine v_isub dX4_isEdge_20 ?_
      refine v_callV (tX4_valueOf hrow (by omega)) lc_X4_30 ⟨(Nat.le_of_ble_eq_true rfl), (Nat.le_of_ble_eq_true rfl)⟩ dX4_isEdge_21 rfl rfl (Nat.le_of_ble_eq_true rfl) ⟨(Nat.le_of_ble_eq_true rfl), (Nat.le_of_ble_eq_true rfl)⟩ ⟨_, _, _, _, hrow.1, rfl⟩ (kP fun r21 hr21 hp21 => ?_)
      refine v_iconst dX4_isEdge_24 ?_
      refine v_icmp_eq 32 dX4_isEdge_25 (by decide) (by omega) (by omega) (fun h25 => ?_) (fun h25 => ?_)
      · refine v_iconst dX4_isEdge_32 ?_
        exact v_zret dX4_isEdge_33 rfl ⟨(Nat.le_of_ble_eq_true rfl), (Nat.le_of_ble_eq_true rfl)⟩ (by omega) ⟨rfl, by first | exact Or.inl ⟨rfl, by omega, by omega, by omega⟩ | exact Or.inr ⟨rfl, fun z => by first | exact absurd z.1 (by omega) | exact absurd z.2.1 (by omega) | exact absurd z.2.2 (by omega)⟩⟩
      · refine v_iconst dX4_isEdge_28 ?_
        refine v_goto 33 dX4_isEdge_29 (by decide) ?_
        exact v_zret dX4_isEdge_33 rfl ⟨(Nat.le_of_ble_eq_true rfl), (Nat.le_of_ble_eq_true rfl)⟩ (by omega) ⟨rfl, by first | exact Or.inl ⟨rfl, by omega, by omega, by omega⟩ | exact Or.inr ⟨rfl, fun z => by first | exact absurd z.1 (by omega) | exact absurd z.2.1 (by omega) | exact absurd z.2.2 (by omega)⟩⟩
set_option maxHeartbeats 4000000 in
set_option maxRecDepth 100000 in
theorem fX4_nextEdge_loop {sz : Nat} {M0 : wM} {G : gG} {M : wM} {r tk vl : Nat} {n : Int} {T V : Nat → Int} (hrow : rowAt G M r tk vl n T V) (hs : srt n T) {t b : Int} (ht : bt 0 t 4000) (hb : bt 0 b 4000) : ∀ (k : Nat) (i : Int), 0 ≤ 52 - i → 52 - i < (k : Int) → (bt 0 i 51) → (t < tickF n T i) → (∀ v, t < v → v < tickF n T i → ¬ edP (atF n T V) v) → wV G qX4_nextEdge 0 0 sz M0 0 0 8 [(0, .ref r), (1, .int (gI t)), (2, .int (gI b)), (3, .int (gI i))] [] M (iP fun x M' => M' = M ∧ nxP (edP (atF n T V)) t b x) := by
  intro k
  induction k with
  | zero =>
    intros
    omega
  | succ k ih =>
    intro i hmz hml hi h2 h3
    obtain ⟨hn0, hn1⟩ := hrow.rg
    have hto : n ≤ i → tickF n T i = 1000000 := fun h => by unfold tickF; rw [if_neg (by omega), if_neg (by omega)]
    have htr := tickF_rg hrow.2.2.2 i
    refine v_iloadn dX4_nextEdge_8 rfl ?_
    refine v_aloadn dX4_nextEdge_9 rfl ?_
    refine v_get dX4_nextEdge_10 gf_X4_18 hrow.1 rfl ?_
    refine v_icmp_ge 45 dX4_nextEdge_13 (by decide) (by omega) (by omega) (fun h13 => ?_) (fun h13 => ?_)
    · refine v_bipush dX4_nextEdge_45 (by decide) ?_
      exact v_iret dX4_nextEdge_47 rfl ⟨(Nat.le_of_ble_eq_true rfl), (Nat.le_of_ble_eq_true rfl)⟩ (by omega) ⟨rfl, Or.inl ⟨rfl, fun v v1 v2 => h3 v v1 (by omega)⟩⟩
    · refine v_aloadn dX4_nextEdge_16 rfl ?_
      refine v_iloadn dX4_nextEdge_17 rfl ?_
      refine v_callV (tX4_tickOf hrow (by omega)) lc_X4_26 ⟨(Nat.le_of_ble_eq_true rfl), (Nat.le_of_ble_eq_true rfl)⟩ dX4_nextEdge_18 rfl rfl (Nat.le_of_ble_eq_true rfl) ⟨(Nat.le_of_ble_eq_true rfl), (Nat.le_of_ble_eq_true rfl)⟩ ⟨_, _, _, _, hrow.1, rfl⟩ (kP fun r18 hr18 hp18 => ?_)
      refine v_iloadn dX4_nextEdge_21 rfl ?_
      refine v_icmp_ge 45 dX4_nextEdge_22 (by decide) (by omega) (by omega) (fun h22 => ?_) (fun h22 => ?_)
      · refine v_bipush dX4_nextEdge_45 (by decide) ?_
        exact v_iret dX4_nextEdge_47 rfl ⟨(Nat.le_of_ble_eq_true rfl), (Nat.le_of_ble_eq_true rfl)⟩ (by omega) ⟨rfl, Or.inl ⟨rfl, fun v v1 v2 => h3 v v1 (by omega)⟩⟩
      · refine v_aloadn dX4_nextEdge_25 rfl ?_
        refine v_iloadn dX4_nextEdge_26 rfl ?_
        refine v_callV (fX4_isEdge hrow hs (by omega)) lc_X4_33 ⟨(Nat.le_of_ble_eq_true rfl), (Nat.le_of_ble_eq_true rfl)⟩ dX4_nextEdge_27 rfl rfl (Nat.le_of_ble_eq_true rfl) ⟨(Nat.le_of_ble_eq_true rfl), (Nat.le_of_ble_eq_true rfl)⟩ ⟨_, _, _, _, hrow.1, rfl⟩ (kP fun r27 hr27 hp27 => ?_)
        have hb27 : r27 = 0 ∨ r27 = 1 := hp27.elim (fun z => Or.inr z.1) (fun z => Or.inl z.1)
        have m1 := tick_mono hs hrow.2.2.2.tk (i := i) (by omega) (by omega)
        refine v_if_eq 39 dX4_nextEdge_30 (by decide) (by omega) (fun h30 => ?_) (fun h30 => ?_)
        · refine v_iinc dX4_nextEdge_39 rfl (Nat.le_of_ble_eq_true rfl) ?_
          refine v_goto 8 dX4_nextEdge_42 (by decide) ?_
          refine wV.locs (lv' := [(0, .ref r), (1, .int (gI t)), (2, .int (gI b)), (3, .int (gI _))]) ⟨rfl, rfl, rfl, rfl, trivial⟩ (ih _ (by omega) (by omega) (by omega) (by omega) (fun v v1 v2 => by
                      rcases (show v < tickF n T i ∨ v = tickF n T i ∨ tickF n T i < v by omega) with c | c | c
                      · exact h3 v v1 c
                      · rw [c]; exact hp27.elim (fun z => absurd z.1 (by omega)) (fun z => z.2)
                      · exact ed_const (by rw [seg hs (i := i) (by omega) (by omega) (by omega) v2, seg hs (i := i) (u := v - 1) (by omega) (by omega) (by omega) (by omega)])))
        · refine v_aloadn dX4_nextEdge_33 rfl ?_
          refine v_iloadn dX4_nextEdge_34 rfl ?_
          refine v_callV (tX4_tickOf hrow (by omega)) lc_X4_26 ⟨(Nat.le_of_ble_eq_true rfl), (Nat.le_of_ble_eq_true rfl)⟩ dX4_nextEdge_35 rfl rfl (Nat.le_of_ble_eq_true rfl) ⟨(Nat.le_of_ble_eq_true rfl), (Nat.le_of_ble_eq_true rfl)⟩ ⟨_, _, _, _, hrow.1, rfl⟩ (kP fun r35 hr35 hp35 => ?_)
          exact v_iret dX4_nextEdge_38 rfl ⟨(Nat.le_of_ble_eq_true rfl), (Nat.le_of_ble_eq_true rfl)⟩ (by omega) ⟨rfl, Or.inr ⟨by omega, by rw [hp35]; exact hp27.elim (fun z => z.2) (fun z => absurd z.1 (by omega)), fun v v1 v2 => h3 v v1 (by omega)⟩⟩
set_option maxHeartbeats 4000000 in
set_option maxRecDepth 100000 in
theorem fX4_nextEdge {G : gG} {M : wM} {r tk vl : Nat} {n : Int} {T V : Nat → Int} (hrow : rowAt G M r tk vl n T V) (hs : srt n T) {t b : Int} (ht : bt 0 t 4000) (hb : bt 0 b 4000) : wT G qX4_nextEdge 0 0 [.ref r, .int (gI t), .int (gI b)] M (iP fun x M' => M' = M ∧ nxP (edP (atF n T V)) t b x) := by
  refine wT.intro (by decide) (Nat.le_of_ble_eq_true rfl) (fun sz => ?_)
  obtain ⟨hn0, hn1⟩ := hrow.rg
  refine v_aloadn dX4_nextEdge_0 rfl ?_
  refine v_iloadn dX4_nextEdge_1 rfl ?_
  refine v_callV (tX4_latest hrow (by omega)) lc_X4_22 ⟨(Nat.le_of_ble_eq_true rfl), (Nat.le_of_ble_eq_true rfl)⟩ dX4_nextEdge_2 rfl rfl (Nat.le_of_ble_eq_true rfl) ⟨(Nat.le_of_ble_eq_true rfl), (Nat.le_of_ble_eq_true rfl)⟩ ⟨_, _, _, _, hrow.1, rfl⟩ (kP fun r2 hr2 hp2 => ?_)
  have hlt := late_tick hs (by omega) (by omega) hp2
  have hq2 := And.intro hp2.1 hp2.2.1
  refine v_iconst dX4_nextEdge_5 ?_
  refine v_iadd dX4_nextEdge_6 ?_
  refine v_istoren dX4_nextEdge_7 (Nat.le_of_ble_eq_true rfl) ?_
  refine wV.locs (lv' := [(0, .ref r), (1, .int (gI t)), (2, .int (gI b)), (3, .int (gI (r2 + 1)))]) ⟨rfl, rfl, rfl, rfl, trivial⟩ (fX4_nextEdge_loop hrow hs ht hb 60 _ (by omega) (by omega) (by omega) (by omega) (fun v v1 v2 => ed_const (by rw [seg hs (i := r2) (by omega) (by omega) (by omega) v2, seg hs (i := r2) (u := v - 1) (by omega) (by omega) (by omega) (by omega)])))
def nmR (s : sG) (a b : Int) : Nat := (if a = 0 then b else 12 + s 2 0 b.toNat).toNat
theorem nmR_lt {s : sG} (hI : invX s) {a b : Int} (ha : bt 0 a 1) (hb : bt 0 b 11) : nmR s a b < 24 := by
  have := hI.2.1 b.toNat (by omega)
  unfold nmR
  split <;> omega
def acX (s : sG) (i : Nat) (a : Int) : Int → Prop := acP (vX s (nmR s a (s 14 i 1))) (vX s (nmR s a (s 14 i 2))) (vX s (nmR s a (s 14 i 3)))
def daX (s : sG) (i : Nat) (a : Int) (t : Int) : Int := vX s (nmR s a (s 14 i 4)) (t - 1)
set_option maxHeartbeats 4000000 in
set_option maxRecDepth 100000 in
theorem fX6_hadOneAhead {G : gG} {fw : Nat → Nat → Nat} {s : sG} {M : wM} (hsO : sOK s) (hX : wX G fw s M) {a b t : Int} (ha : bt 0 a 1) (hb : bt 0 b 11) (ht : bt (-10) t 4000) : wT G qX6_hadOneAhead 0 0 [.ref (fw 0 0), .int (gI a), .int (gI b), .int (gI t)] M (iP fun x M' => M' = M ∧ ((x = 1 ∧ vX s (nmR s a b) (t - 1) = 1) ∨ (x = 0 ∧ vX s (nmR s a b) (t - 1) ≠ 1))) := by
  refine wT.intro (by decide) (Nat.le_of_ble_eq_true rfl) (fun sz => ?_)
  refine v_aloadn dX6_hadOneAhead_0 rfl ?_
  refine v_iloadn dX6_hadOneAhead_1 rfl ?_
  refine v_iloadn dX6_hadOneAhead_2 rfl ?_
  refine v_callV (tX6_namedRow hX ha hb) lc_X6_154 ⟨(Nat.le_of_ble_eq_true rfl), (Nat.le_of_ble_eq_true rfl)⟩ dX6_hadOneAhead_3 rfl rfl (Nat.le_of_ble_eq_true rfl) ⟨(Nat.le_of_ble_eq_true rfl), (Nat.le_of_ble_eq_true rfl)⟩ ⟨_, _, _, _, (hX.2.1 0 0 (by decide)), rfl⟩ (kRp fun r3 hp3 => ?_)
  have hp3 : r3 = fw 10 (nmR s a (b)) := hp3
  subst hp3
  refine v_iloadn dX6_hadOneAhead_6 rfl ?_
  refine v_iconst dX6_hadOneAhead_7 ?_
  refine v_isub dX6_hadOneAhead_8 ?_
  refine v_callV (tX4_valueAt (hX.row (Nat.lt_of_lt_of_le (nmR_lt hX.2.2 (by omega) (by omega)) (by decide))) (by omega)) lc_X6_110 ⟨(Nat.le_of_ble_eq_true rfl), (Nat.le_of_ble_eq_true rfl)⟩ dX6_hadOneAhead_9 rfl rfl (Nat.le_of_ble_eq_true rfl) ⟨(Nat.le_of_ble_eq_true rfl), (Nat.le_of_ble_eq_true rfl)⟩ ⟨_, _, _, _, (hX.row (Nat.lt_of_lt_of_le (nmR_lt hX.2.2 (by omega) (by omega)) (by decide))).1, rfl⟩ (kP fun r9 hr9 hp9 => ?_)
  obtain ⟨ix9, hl9, hv9⟩ := hp9
  have hvb9 : bt 0 r9 256 := by rw [hv9]; exact valF_rg (hX.row (Nat.lt_of_lt_of_le (nmR_lt hX.2.2 (by omega) (by omega)) (by decide))).2.2.2 ix9
  rw [atF_late (hsO.1 _ (nmR_lt hX.2.2 (by omega) (by omega))) hl9] at hv9
  refine v_iconst dX6_hadOneAhead_12 ?_
  refine v_icmp_ne 20 dX6_hadOneAhead_13 (by decide) (by omega) (by omega) (fun h13 => ?_) (fun h13 => ?_)
  · refine v_iconst dX6_hadOneAhead_20 ?_
    exact v_zret dX6_hadOneAhead_21 rfl ⟨(Nat.le_of_ble_eq_true rfl), (Nat.le_of_ble_eq_true rfl)⟩ (by omega) ⟨rfl, by unfold vX; first | exact Or.inl ⟨rfl, by omega⟩ | exact Or.inr ⟨rfl, by omega⟩⟩
  · refine v_iconst dX6_hadOneAhead_16 ?_
    refine v_goto 21 dX6_hadOneAhead_17 (by decide) ?_
    exact v_zret dX6_hadOneAhead_21 rfl ⟨(Nat.le_of_ble_eq_true rfl), (Nat.le_of_ble_eq_true rfl)⟩ (by omega) ⟨rfl, by unfold vX; first | exact Or.inl ⟨rfl, by omega⟩ | exact Or.inr ⟨rfl, by omega⟩⟩
set_option maxHeartbeats 4000000 in
set_option maxRecDepth 100000 in
theorem fX6_dataAhead {G : gG} {fw : Nat → Nat → Nat} {s : sG} {M : wM} (hsO : sOK s) (hX : wX G fw s M) {i : Nat} (hi : i < 4) {a t : Int} (ha : bt 0 a 1) (ht : bt (-10) t 4000) : wT G qX6_dataAhead 0 0 [.ref (fw 0 0), .ref (fw 14 i), .int (gI a), .int (gI t)] M (iP fun x M' => M' = M ∧ (x = daX s i a t ∧ bt 0 x 256)) := by
  refine wT.intro (by decide) (Nat.le_of_ble_eq_true rfl) (fun sz => ?_)
  have hch := hX.2.2.2.2.2.2.2.2.1 i hi
  refine v_aloadn dX6_dataAhead_0 rfl ?_
  refine v_iloadn dX6_dataAhead_1 rfl ?_
  refine v_aloadn dX6_dataAhead_2 rfl ?_
  refine v_getN dX6_dataAhead_3 gf_X6_210 (hX.2.1 14 i hi) rfl ?_
  refine v_callV (tX6_namedRow hX ha (by omega)) lc_X6_154 ⟨(Nat.le_of_ble_eq_true rfl), (Nat.le_of_ble_eq_true rfl)⟩ dX6_dataAhead_6 rfl rfl (Nat.le_of_ble_eq_true rfl) ⟨(Nat.le_of_ble_eq_true rfl), (Nat.le_of_ble_eq_true rfl)⟩ ⟨_, _, _, _, (hX.2.1 0 0 (by decide)), rfl⟩ (kRp fun r6 hp6 => ?_)
  have hp6 : r6 = fw 10 (nmR s a (s 14 i 4)) := hp6
  subst hp6
  refine v_iloadn dX6_dataAhead_9 rfl ?_
  refine v_iconst dX6_dataAhead_10 ?_
  refine v_isub dX6_dataAhead_11 ?_
  refine v_callV (tX4_valueAt (hX.row (Nat.lt_of_lt_of_le (nmR_lt hX.2.2 (by omega) (by omega)) (by decide))) (by omega)) lc_X6_110 ⟨(Nat.le_of_ble_eq_true rfl), (Nat.le_of_ble_eq_true rfl)⟩ dX6_dataAhead_12 rfl rfl (Nat.le_of_ble_eq_true rfl) ⟨(Nat.le_of_ble_eq_true rfl), (Nat.le_of_ble_eq_true rfl)⟩ ⟨_, _, _, _, (hX.row (Nat.lt_of_lt_of_le (nmR_lt hX.2.2 (by omega) (by omega)) (by decide))).1, rfl⟩ (kP fun r12 hr12 hp12 => ?_)
  obtain ⟨ix12, hl12, hv12⟩ := hp12
  have hvb12 : bt 0 r12 256 := by rw [hv12]; exact valF_rg (hX.row (Nat.lt_of_lt_of_le (nmR_lt hX.2.2 (by omega) (by omega)) (by decide))).2.2.2 ix12
  rw [atF_late (hsO.1 _ (nmR_lt hX.2.2 (by omega) (by omega))) hl12] at hv12
  exact v_iret dX6_dataAhead_15 rfl ⟨(Nat.le_of_ble_eq_true rfl), (Nat.le_of_ble_eq_true rfl)⟩ (by omega) ⟨rfl, hv12, hvb12⟩
set_option maxHeartbeats 4000000 in
set_option maxRecDepth 100000 in
theorem fX6_nextAct_loop {sz : Nat} {M0 : wM} {G : gG} {fw : Nat → Nat → Nat} {s : sG} {M : wM} (hsO : sOK s) (hX : wX G fw s M) {i : Nat} (hi : i < 4) {a t : Int} (ha : bt 0 a 1) (ht : bt 0 t 4000) : ∀ (k : Nat) (e u : Int), 0 ≤ 4001 - u → 4001 - u < (k : Int) → (bt 0 u 4000) → (e = -4 ∨ (bt 1 e 4000 ∧ t + u < e)) → ((e = -4 ∧ ∀ v, t < v → v < s 0 0 9 → ¬ acX s i a v) ∨ ((t < e ∧ e < s 0 0 9) ∧ edP (vX s (nmR s a (s 14 i 1))) e ∧ ∀ v, t < v → v < e → ¬ acX s i a v)) → wV G qX6_nextAct 0 0 sz M0 0 0 26 [(0, .ref (fw 0 0)), (1, .ref (fw 14 i)), (2, .int (gI a)), (3, .int (gI t)), (4, .ref (fw 10 (nmR s a (s 14 i 1)))), (5, .int (gI e)), (6, .int (gI u))] [] M (iP fun x M' => M' = M ∧ nxP (acX s i a) t (s 0 0 9) x) := by
  intro k
  induction k with
  | zero =>
    intros
    omega
  | succ k ih =>
    intro e u hmz hml h1 h3 h2
    have h0 := hX.2.2.1
    have hnm := hX.2.2.2.1
    have hsh := hX.2.2.2.2.1
    have h8 := hX.2.2.2.2.2.1
    have hch := hX.2.2.2.2.2.2.2.2.1 i hi
    refine v_iload dX6_nextAct_26 rfl ?_
    refine v_sipush dX6_nextAct_28 (by decide) ?_
    refine v_icmp_ge 91 dX6_nextAct_31 (by decide) (by omega) (by omega) (fun h31 => ?_) (fun h31 => ?_)
    · refine v_bipush dX6_nextAct_91 (by decide) ?_
      exact v_iret dX6_nextAct_93 rfl ⟨(Nat.le_of_ble_eq_true rfl), (Nat.le_of_ble_eq_true rfl)⟩ (by omega) ⟨rfl, Or.inl (h2.elim (fun z => ⟨rfl, z.2⟩) (fun z => by have z1 := z.1; exfalso; clear z h2; omega))⟩
    · refine v_iload dX6_nextAct_34 rfl ?_
      refine v_bipush dX6_nextAct_36 (by decide) ?_
      refine v_icmp_eq 91 dX6_nextAct_38 (by decide) (by omega) (by omega) (fun h38 => ?_) (fun h38 => ?_)
      · refine v_bipush dX6_nextAct_91 (by decide) ?_
        exact v_iret dX6_nextAct_93 rfl ⟨(Nat.le_of_ble_eq_true rfl), (Nat.le_of_ble_eq_true rfl)⟩ (by omega) ⟨rfl, Or.inl (h2.elim (fun z => ⟨rfl, z.2⟩) (fun z => by have z1 := z.1; exfalso; clear z h2; omega))⟩
      · refine v_aloadn dX6_nextAct_41 rfl ?_
        refine v_iloadn dX6_nextAct_42 rfl ?_
        refine v_aloadn dX6_nextAct_43 rfl ?_
        refine v_getN dX6_nextAct_44 gf_X6_201 (hX.2.1 14 i hi) rfl ?_
        refine v_iload dX6_nextAct_47 rfl ?_
        refine v_callV (fX6_hadOneAhead hsO hX ha (by omega) (by omega)) lc_X6_204 ⟨(Nat.le_of_ble_eq_true rfl), (Nat.le_of_ble_eq_true rfl)⟩ dX6_nextAct_49 rfl rfl (Nat.le_of_ble_eq_true rfl) ⟨(Nat.le_of_ble_eq_true rfl), (Nat.le_of_ble_eq_true rfl)⟩ ⟨_, _, _, _, (hX.2.1 0 0 (by decide)), rfl⟩ (kP fun r49 hr49 hp49 => ?_)
        have hb49 : r49 = 0 ∨ r49 = 1 := hp49.elim (fun z => Or.inr z.1) (fun z => Or.inl z.1)
        refine v_if_eq 72 dX6_nextAct_52 (by decide) (by omega) (fun h52 => ?_) (fun h52 => ?_)
        · refine v_aload dX6_nextAct_72 rfl ?_
          refine v_iload dX6_nextAct_74 rfl ?_
          refine v_aloadn dX6_nextAct_76 rfl ?_
          refine v_get dX6_nextAct_77 gf_X6_54 (hX.2.1 0 0 (by decide)) rfl ?_
          refine v_callV (fX4_nextEdge (hX.row (Nat.lt_of_lt_of_le (nmR_lt hX.2.2 (by omega) (by omega)) (by decide))) (hsO.1 _ (nmR_lt hX.2.2 (by omega) (by omega))) (by omega) (by omega)) lc_X6_198 ⟨(Nat.le_of_ble_eq_true rfl), (Nat.le_of_ble_eq_true rfl)⟩ dX6_nextAct_80 rfl rfl (Nat.le_of_ble_eq_true rfl) ⟨(Nat.le_of_ble_eq_true rfl), (Nat.le_of_ble_eq_true rfl)⟩ ⟨_, _, _, _, (hX.row (Nat.lt_of_lt_of_le (nmR_lt hX.2.2 (by omega) (by omega)) (by decide))).1, rfl⟩ (kP fun r80 hr80 hp80 => ?_)
          have hpe : (t < e ∧ e < s 0 0 9) ∧ edP (vX s (nmR s a (s 14 i 1))) e ∧ ∀ v, t < v → v < e → ¬ acX s i a v := h2.elim (fun z => absurd z.1 (by omega)) id
          have hne : ¬ acX s i a e := fun z => by first | exact hp49.elim (fun y => absurd y.1 (by omega)) (fun y => y.2 z.2.1) | exact hp63.elim (fun y => absurd y.1 (by omega)) (fun y => y.2 z.2.2)
          have hnx : (r80 = -4 ∧ ∀ v, t < v → v < s 0 0 9 → ¬ acX s i a v) ∨ ((t < r80 ∧ r80 < s 0 0 9) ∧ edP (vX s (nmR s a (s 14 i 1))) r80 ∧ ∀ v, t < v → v < r80 → ¬ acX s i a v) := by
            have hg : ∀ w, (∀ v, e < v → v < w → ¬ edP (vX s (nmR s a (s 14 i 1))) v) → ∀ v, t < v → v < w → ¬ acX s i a v := fun w hw v v1 v2 => by
              rcases (show v < e ∨ v = e ∨ e < v by omega) with c | c | c
              · exact hpe.2.2 v v1 c
              · rw [c]; exact hne
              · exact fun z => hw v c v2 z.1
            rcases hp80 with ⟨z1, z2⟩ | ⟨z1, z2, z3⟩
            · exact Or.inl ⟨z1, hg _ z2⟩
            · exact Or.inr ⟨by omega, z2, hg _ z3⟩
          have hn4 : r80 = -4 ∨ e < r80 := hp80.elim (fun z => Or.inl z.1) (fun z => Or.inr z.1.1)
          have hn5 : r80 = -4 ∨ bt 1 r80 4000 := hp80.elim (fun z => Or.inl z.1) (fun z => Or.inr (by omega))
          clear hp80 hne
          refine v_istore dX6_nextAct_83 (Nat.le_of_ble_eq_true rfl) ?_
          refine v_iinc dX6_nextAct_85 rfl (Nat.le_of_ble_eq_true rfl) ?_
          refine v_goto 26 dX6_nextAct_88 (by decide) ?_
          refine wV.locs (lv' := [(0, .ref (fw 0 0)), (1, .ref (fw 14 i)), (2, .int (gI a)), (3, .int (gI t)), (4, .ref (fw 10 (nmR s a (s 14 i 1)))), (5, .int (gI _)), (6, .int (gI _))]) ⟨rfl, rfl, rfl, rfl, rfl, rfl, rfl, trivial⟩ (ih _ _ (by omega) (by omega) (by omega) (by omega) hnx)
        · refine v_aloadn dX6_nextAct_55 rfl ?_
          refine v_iloadn dX6_nextAct_56 rfl ?_
          refine v_aloadn dX6_nextAct_57 rfl ?_
          refine v_getN dX6_nextAct_58 gf_X6_207 (hX.2.1 14 i hi) rfl ?_
          refine v_iload dX6_nextAct_61 rfl ?_
          refine v_callV (fX6_hadOneAhead hsO hX ha (by omega) (by omega)) lc_X6_204 ⟨(Nat.le_of_ble_eq_true rfl), (Nat.le_of_ble_eq_true rfl)⟩ dX6_nextAct_63 rfl rfl (Nat.le_of_ble_eq_true rfl) ⟨(Nat.le_of_ble_eq_true rfl), (Nat.le_of_ble_eq_true rfl)⟩ ⟨_, _, _, _, (hX.2.1 0 0 (by decide)), rfl⟩ (kP fun r63 hr63 hp63 => ?_)
          have hb63 : r63 = 0 ∨ r63 = 1 := hp63.elim (fun z => Or.inr z.1) (fun z => Or.inl z.1)
          refine v_if_eq 72 dX6_nextAct_66 (by decide) (by omega) (fun h66 => ?_) (fun h66 => ?_)
          · refine v_aload dX6_nextAct_72 rfl ?_
            refine v_iload dX6_nextAct_74 rfl ?_
            refine v_aloadn dX6_nextAct_76 rfl ?_
            refine v_get dX6_nextAct_77 gf_X6_54 (hX.2.1 0 0 (by decide)) rfl ?_
            refine v_callV (fX4_nextEdge (hX.row (Nat.lt_of_lt_of_le (nmR_lt hX.2.2 (by omega) (by omega)) (by decide))) (hsO.1 _ (nmR_lt hX.2.2 (by omega) (by omega))) (by omega) (by omega)) lc_X6_198 ⟨(Nat.le_of_ble_eq_true rfl), (Nat.le_of_ble_eq_true rfl)⟩ dX6_nextAct_80 rfl rfl (Nat.le_of_ble_eq_true rfl) ⟨(Nat.le_of_ble_eq_true rfl), (Nat.le_of_ble_eq_true rfl)⟩ ⟨_, _, _, _, (hX.row (Nat.lt_of_lt_of_le (nmR_lt hX.2.2 (by omega) (by omega)) (by decide))).1, rfl⟩ (kP fun r80 hr80 hp80 => ?_)
            have hpe : (t < e ∧ e < s 0 0 9) ∧ edP (vX s (nmR s a (s 14 i 1))) e ∧ ∀ v, t < v → v < e → ¬ acX s i a v := h2.elim (fun z => absurd z.1 (by omega)) id
            have hne : ¬ acX s i a e := fun z => by first | exact hp49.elim (fun y => absurd y.1 (by omega)) (fun y => y.2 z.2.1) | exact hp63.elim (fun y => absurd y.1 (by omega)) (fun y => y.2 z.2.2)
            have hnx : (r80 = -4 ∧ ∀ v, t < v → v < s 0 0 9 → ¬ acX s i a v) ∨ ((t < r80 ∧ r80 < s 0 0 9) ∧ edP (vX s (nmR s a (s 14 i 1))) r80 ∧ ∀ v, t < v → v < r80 → ¬ acX s i a v) := by
              have hg : ∀ w, (∀ v, e < v → v < w → ¬ edP (vX s (nmR s a (s 14 i 1))) v) → ∀ v, t < v → v < w → ¬ acX s i a v := fun w hw v v1 v2 => by
                rcases (show v < e ∨ v = e ∨ e < v by omega) with c | c | c
                · exact hpe.2.2 v v1 c
                · rw [c]; exact hne
                · exact fun z => hw v c v2 z.1
              rcases hp80 with ⟨z1, z2⟩ | ⟨z1, z2, z3⟩
              · exact Or.inl ⟨z1, hg _ z2⟩
              · exact Or.inr ⟨by omega, z2, hg _ z3⟩
            have hn4 : r80 = -4 ∨ e < r80 := hp80.elim (fun z => Or.inl z.1) (fun z => Or.inr z.1.1)
            have hn5 : r80 = -4 ∨ bt 1 r80 4000 := hp80.elim (fun z => Or.inl z.1) (fun z => Or.inr (by omega))
            clear hp80 hne
            refine v_istore dX6_nextAct_83 (Nat.le_of_ble_eq_true rfl) ?_
            refine v_iinc dX6_nextAct_85 rfl (Nat.le_of_ble_eq_true rfl) ?_
            refine v_goto 26 dX6_nextAct_88 (by decide) ?_
            refine wV.locs (lv' := [(0, .ref (fw 0 0)), (1, .ref (fw 14 i)), (2, .int (gI a)), (3, .int (gI t)), (4, .ref (fw 10 (nmR s a (s 14 i 1)))), (5, .int (gI _)), (6, .int (gI _))]) ⟨rfl, rfl, rfl, rfl, rfl, rfl, rfl, trivial⟩ (ih _ _ (by omega) (by omega) (by omega) (by omega) hnx)
          · refine v_iload dX6_nextAct_69 rfl ?_
            exact v_iret dX6_nextAct_71 rfl ⟨(Nat.le_of_ble_eq_true rfl), (Nat.le_of_ble_eq_true rfl)⟩ (by omega) ⟨rfl, Or.inr (h2.elim (fun z => absurd z.1 (by omega)) (fun z => ⟨z.1, ⟨z.2.1, hp49.elim (fun y => y.2) (fun y => absurd y.1 (by omega)), hp63.elim (fun y => y.2) (fun y => absurd y.1 (by omega))⟩, z.2.2⟩))⟩
set_option maxHeartbeats 4000000 in
set_option maxRecDepth 100000 in
theorem fX6_nextAct {G : gG} {fw : Nat → Nat → Nat} {s : sG} {M : wM} (hsO : sOK s) (hX : wX G fw s M) {i : Nat} (hi : i < 4) {a t : Int} (ha : bt 0 a 1) (ht : bt 0 t 4000) : wT G qX6_nextAct 0 0 [.ref (fw 0 0), .ref (fw 14 i), .int (gI a), .int (gI t)] M (iP fun x M' => M' = M ∧ nxP (acX s i a) t (s 0 0 9) x) := by
  refine wT.intro (by decide) (Nat.le_of_ble_eq_true rfl) (fun sz => ?_)
  have h0 := hX.2.2.1
  have hnm := hX.2.2.2.1
  have hsh := hX.2.2.2.2.1
  have h8 := hX.2.2.2.2.2.1
  have hch := hX.2.2.2.2.2.2.2.2.1 i hi
  refine v_aloadn dX6_nextAct_0 rfl ?_
  refine v_iloadn dX6_nextAct_1 rfl ?_
  refine v_aloadn dX6_nextAct_2 rfl ?_
  refine v_getN dX6_nextAct_3 gf_X6_195 (hX.2.1 14 i hi) rfl ?_
  refine v_callV (tX6_namedRow hX ha (by omega)) lc_X6_154 ⟨(Nat.le_of_ble_eq_true rfl), (Nat.le_of_ble_eq_true rfl)⟩ dX6_nextAct_6 rfl rfl (Nat.le_of_ble_eq_true rfl) ⟨(Nat.le_of_ble_eq_true rfl), (Nat.le_of_ble_eq_true rfl)⟩ ⟨_, _, _, _, (hX.2.1 0 0 (by decide)), rfl⟩ (kRp fun r6 hp6 => ?_)
  have hp6 : r6 = fw 10 (nmR s a (s 14 i 1)) := hp6
  subst hp6
  refine v_astore dX6_nextAct_9 (Nat.le_of_ble_eq_true rfl) ?_
  refine v_aload dX6_nextAct_11 rfl ?_
  refine v_iloadn dX6_nextAct_13 rfl ?_
  refine v_aloadn dX6_nextAct_14 rfl ?_
  refine v_get dX6_nextAct_15 gf_X6_54 (hX.2.1 0 0 (by decide)) rfl ?_
  refine v_callV (fX4_nextEdge (hX.row (Nat.lt_of_lt_of_le (nmR_lt hX.2.2 (by omega) (by omega)) (by decide))) (hsO.1 _ (nmR_lt hX.2.2 (by omega) (by omega))) (by omega) (by omega)) lc_X6_198 ⟨(Nat.le_of_ble_eq_true rfl), (Nat.le_of_ble_eq_true rfl)⟩ dX6_nextAct_18 rfl rfl (Nat.le_of_ble_eq_true rfl) ⟨(Nat.le_of_ble_eq_true rfl), (Nat.le_of_ble_eq_true rfl)⟩ ⟨_, _, _, _, (hX.row (Nat.lt_of_lt_of_le (nmR_lt hX.2.2 (by omega) (by omega)) (by decide))).1, rfl⟩ (kP fun r18 hr18 hp18 => ?_)
  have hn5 : r18 = -4 ∨ (bt 1 r18 4000 ∧ t + 0 < r18) := hp18.elim (fun z => Or.inl z.1) (fun z => Or.inr (by omega))
  refine v_istore dX6_nextAct_21 (Nat.le_of_ble_eq_true rfl) ?_
  refine v_iconst dX6_nextAct_23 ?_
  refine v_istore dX6_nextAct_24 (Nat.le_of_ble_eq_true rfl) ?_
  refine wV.locs (lv' := [(0, .ref (fw 0 0)), (1, .ref (fw 14 i)), (2, .int (gI a)), (3, .int (gI t)), (4, .ref (fw 10 (nmR s a (s 14 i 1)))), (5, .int (gI (r18))), (6, .int (gI (0)))]) ⟨rfl, rfl, rfl, rfl, rfl, rfl, rfl, trivial⟩ (fX6_nextAct_loop hsO hX hi ha ht 4010 _ _ (by omega) (by omega) (by omega) hn5 (hp18.imp (fun z => ⟨z.1, fun v v1 v2 y => z.2 v v1 v2 y.1⟩) (fun z => ⟨z.1, z.2.1, fun v v1 v2 y => z.2.2 v v1 v2 y.1⟩)))
