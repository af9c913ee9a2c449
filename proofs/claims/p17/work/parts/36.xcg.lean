set_option maxHeartbeats 4000000 in
set_option maxRecDepth 100000 in
theorem tX6_hadOneAhead {G : gG} {fw : Nat → Nat → Nat} {s : sG} {M : wM} (hX : wX G fw s M) {a b t : Int} (ha : bt 0 a 1) (hb : bt 0 b 11) (ht : bt (-10) t 4000) : wT G qX6_hadOneAhead 0 0 [.ref (fw 0 0), .int (gI a), .int (gI b), .int (gI t)] M (iP fun x M' => M' = M ∧ (x = 0 ∨ x = 1)) := by
  refine wT.intro (by decide) (Nat.le_of_ble_eq_true rfl) (fun sz => ?_)
  refine v_aloadn dX6_hadOneAhead_0 rfl ?_
  refine v_iloadn dX6_hadOneAhead_1 rfl ?_
  refine v_iloadn dX6_hadOneAhead_2 rfl ?_
  refine v_callV (tX6_namedRow hX ha hb) lc_X6_154 ⟨(Nat.le_of_ble_eq_true rfl), (Nat.le_of_ble_eq_true rfl)⟩ dX6_hadOneAhead_3 rfl rfl (Nat.le_of_ble_eq_true rfl) ⟨(Nat.le_of_ble_eq_true rfl), (Nat.le_of_ble_eq_true rfl)⟩ ⟨_, _, _, _, (hX.2.1 0 0 (by decide)), rfl⟩ (kRp fun r3 hp3 => ?_)
  subst hp3
  refine v_iloadn dX6_hadOneAhead_6 rfl ?_
  refine v_iconst dX6_hadOneAhead_7 ?_
  refine v_isub dX6_hadOneAhead_8 ?_
  refine v_callV (tX4_valueAt (hX.row (nmd_lt hX.2.2 (by omega) (by omega))) (by omega)) lc_X6_110 ⟨(Nat.le_of_ble_eq_true rfl), (Nat.le_of_ble_eq_true rfl)⟩ dX6_hadOneAhead_9 rfl rfl (Nat.le_of_ble_eq_true rfl) ⟨(Nat.le_of_ble_eq_true rfl), (Nat.le_of_ble_eq_true rfl)⟩ ⟨_, _, _, _, (hX.row (nmd_lt hX.2.2 (by omega) (by omega))).1, rfl⟩ (kP fun r9 hr9 hp9 => ?_)
  refine v_iconst dX6_hadOneAhead_12 ?_
  refine v_icmp_ne 20 dX6_hadOneAhead_13 (by decide) (by omega) (by omega) (fun h13 => ?_) (fun h13 => ?_)
  · refine v_iconst dX6_hadOneAhead_20 ?_
    exact v_zret dX6_hadOneAhead_21 rfl ⟨(Nat.le_of_ble_eq_true rfl), (Nat.le_of_ble_eq_true rfl)⟩ (by omega) ⟨rfl, by omega⟩
  · refine v_iconst dX6_hadOneAhead_16 ?_
    refine v_goto 21 dX6_hadOneAhead_17 (by decide) ?_
    exact v_zret dX6_hadOneAhead_21 rfl ⟨(Nat.le_of_ble_eq_true rfl), (Nat.le_of_ble_eq_true rfl)⟩ (by omega) ⟨rfl, by omega⟩
set_option maxHeartbeats 4000000 in
set_option maxRecDepth 100000 in
theorem tX6_dataAhead {G : gG} {fw : Nat → Nat → Nat} {s : sG} {M : wM} (hX : wX G fw s M) {i : Nat} (hi : i < 4) {a t : Int} (ha : bt 0 a 1) (ht : bt (-10) t 4000) : wT G qX6_dataAhead 0 0 [.ref (fw 0 0), .ref (fw 14 i), .int (gI a), .int (gI t)] M (iP fun x M' => M' = M ∧ bt 0 x 256) := by
  refine wT.intro (by decide) (Nat.le_of_ble_eq_true rfl) (fun sz => ?_)
  have hch := hX.2.2.2.2.2.2.2.2.1 i hi
  refine v_aloadn dX6_dataAhead_0 rfl ?_
  refine v_iloadn dX6_dataAhead_1 rfl ?_
  refine v_aloadn dX6_dataAhead_2 rfl ?_
  refine v_getN dX6_dataAhead_3 gf_X6_210 (hX.2.1 14 i hi) rfl ?_
  refine v_callV (tX6_namedRow hX ha (by omega)) lc_X6_154 ⟨(Nat.le_of_ble_eq_true rfl), (Nat.le_of_ble_eq_true rfl)⟩ dX6_dataAhead_6 rfl rfl (Nat.le_of_ble_eq_true rfl) ⟨(Nat.le_of_ble_eq_true rfl), (Nat.le_of_ble_eq_true rfl)⟩ ⟨_, _, _, _, (hX.2.1 0 0 (by decide)), rfl⟩ (kRp fun r6 hp6 => ?_)
  subst hp6
  refine v_iloadn dX6_dataAhead_9 rfl ?_
  refine v_iconst dX6_dataAhead_10 ?_
  refine v_isub dX6_dataAhead_11 ?_
  refine v_callV (tX4_valueAt (hX.row (nmd_lt hX.2.2 (by omega) (by omega))) (by omega)) lc_X6_110 ⟨(Nat.le_of_ble_eq_true rfl), (Nat.le_of_ble_eq_true rfl)⟩ dX6_dataAhead_12 rfl rfl (Nat.le_of_ble_eq_true rfl) ⟨(Nat.le_of_ble_eq_true rfl), (Nat.le_of_ble_eq_true rfl)⟩ ⟨_, _, _, _, (hX.row (nmd_lt hX.2.2 (by omega) (by omega))).1, rfl⟩ (kP fun r12 hr12 hp12 => ?_)
  obtain ⟨ix12, hl12, hv12⟩ := hp12
  have hvb12 : bt 0 r12 256 := by rw [hv12]; exact valF_rg (hX.row (nmd_lt hX.2.2 (by omega) (by omega))).2.2.2 ix12
  exact v_iret dX6_dataAhead_15 rfl ⟨(Nat.le_of_ble_eq_true rfl), (Nat.le_of_ble_eq_true rfl)⟩ (by omega) ⟨rfl, by omega⟩
set_option maxHeartbeats 4000000 in
set_option maxRecDepth 100000 in
theorem tX6_nextAct_loop {sz : Nat} {M0 : wM} {G : gG} {fw : Nat → Nat → Nat} {s : sG} {M : wM} (hX : wX G fw s M) {i : Nat} (hi : i < 4) {a t : Int} (ha : bt 0 a 1) {j : Nat} (hj : j < 45) : ∀ (k : Nat) (e u : Int), 0 ≤ 4001 - u → 4001 - u < (k : Int) → (bt 0 u 4000) → (e = -4 ∨ bt 1 e 4000) → wV G qX6_nextAct 0 0 sz M0 0 0 26 [(0, .ref (fw 0 0)), (1, .ref (fw 14 i)), (2, .int (gI a)), (3, .int (gI t)), (4, .ref (fw 10 j)), (5, .int (gI e)), (6, .int (gI u))] [] M (iP fun x M' => M' = M ∧ (x = -4 ∨ bt 1 x 4000)) := by
  intro k
  induction k with
  | zero =>
    intros
    omega
  | succ k ih =>
    intro e u hmz hml h1 h2
    have h0 := hX.2.2.1
    have hnm := hX.2.2.2.1
    have hsh := hX.2.2.2.2.1
    have h8 := hX.2.2.2.2.2.1
    have hch := hX.2.2.2.2.2.2.2.2.1 i hi
    refine v_iload dX6_nextAct_26 rfl ?_
    refine v_sipush dX6_nextAct_28 (by decide) ?_
    refine v_icmp_ge 91 dX6_nextAct_31 (by decide) (by omega) (by omega) (fun h31 => ?_) (fun h31 => ?_)
    · refine v_bipush dX6_nextAct_91 (by decide) ?_
      exact v_iret dX6_nextAct_93 rfl ⟨(Nat.le_of_ble_eq_true rfl), (Nat.le_of_ble_eq_true rfl)⟩ (by omega) ⟨rfl, by omega⟩
    · refine v_iload dX6_nextAct_34 rfl ?_
      refine v_bipush dX6_nextAct_36 (by decide) ?_
      refine v_icmp_eq 91 dX6_nextAct_38 (by decide) (by omega) (by omega) (fun h38 => ?_) (fun h38 => ?_)
      · refine v_bipush dX6_nextAct_91 (by decide) ?_
        exact v_iret dX6_nextAct_93 rfl ⟨(Nat.le_of_ble_eq_true rfl), (Nat.le_of_ble_eq_true rfl)⟩ (by omega) ⟨rfl, by omega⟩
      · refine v_aloadn dX6_nextAct_41 rfl ?_
        refine v_iloadn dX6_nextAct_42 rfl ?_
        refine v_aloadn dX6_nextAct_43 rfl ?_
        refine v_getN dX6_nextAct_44 gf_X6_201 (hX.2.1 14 i hi) rfl ?_
        refine v_iload dX6_nextAct_47 rfl ?_
        refine v_callV (tX6_hadOneAhead hX ha (by omega) (by omega)) lc_X6_204 ⟨(Nat.le_of_ble_eq_true rfl), (Nat.le_of_ble_eq_true rfl)⟩ dX6_nextAct_49 rfl rfl (Nat.le_of_ble_eq_true rfl) ⟨(Nat.le_of_ble_eq_true rfl), (Nat.le_of_ble_eq_true rfl)⟩ ⟨_, _, _, _, (hX.2.1 0 0 (by decide)), rfl⟩ (kP fun r49 hr49 hp49 => ?_)
        refine v_if_eq 72 dX6_nextAct_52 (by decide) (by omega) (fun h52 => ?_) (fun h52 => ?_)
        · refine v_aload dX6_nextAct_72 rfl ?_
          refine v_iload dX6_nextAct_74 rfl ?_
          refine v_aloadn dX6_nextAct_76 rfl ?_
          refine v_get dX6_nextAct_77 gf_X6_54 (hX.2.1 0 0 (by decide)) rfl ?_
          refine v_callV (tX4_nextEdge (hX.row hj) (by omega) (by omega)) lc_X6_198 ⟨(Nat.le_of_ble_eq_true rfl), (Nat.le_of_ble_eq_true rfl)⟩ dX6_nextAct_80 rfl rfl (Nat.le_of_ble_eq_true rfl) ⟨(Nat.le_of_ble_eq_true rfl), (Nat.le_of_ble_eq_true rfl)⟩ ⟨_, _, _, _, (hX.row hj).1, rfl⟩ (kP fun r80 hr80 hp80 => ?_)
          refine v_istore dX6_nextAct_83 (Nat.le_of_ble_eq_true rfl) ?_
          refine v_iinc dX6_nextAct_85 rfl (Nat.le_of_ble_eq_true rfl) ?_
          refine v_goto 26 dX6_nextAct_88 (by decide) ?_
          refine wV.locs (lv' := [(0, .ref (fw 0 0)), (1, .ref (fw 14 i)), (2, .int (gI a)), (3, .int (gI t)), (4, .ref (fw 10 j)), (5, .int (gI _)), (6, .int (gI _))]) ⟨rfl, rfl, rfl, rfl, rfl, rfl, rfl, trivial⟩ (ih _ _ (by omega) (by omega) (by omega) (by omega))
        · refine v_aloadn dX6_nextAct_55 rfl ?_
          refine v_iloadn dX6_nextAct_56 rfl ?_
          refine v_aloadn dX6_nextAct_57 rfl ?_
          refine v_getN dX6_nextAct_58 gf_X6_207 (hX.2.1 14 i hi) rfl ?_
          refine v_iload dX6_nextAct_61 rfl ?_
          refine v_callV (tX6_hadOneAhead hX ha (by omega) (by omega)) lc_X6_204 ⟨(Nat.le_of_ble_eq_true rfl), (Nat.le_of_ble_eq_true rfl)⟩ dX6_nextAct_63 rfl rfl (Nat.le_of_ble_eq_true rfl) ⟨(Nat.le_of_ble_eq_true rfl), (Nat.le_of_ble_eq_true rfl)⟩ ⟨_, _, _, _, (hX.2.1 0 0 (by decide)), rfl⟩ (kP fun r63 hr63 hp63 => ?_)
          refine v_if_eq 72 dX6_nextAct_66 (by decide) (by omega) (fun h66 => ?_) (fun h66 => ?_)
          · refine v_aload dX6_nextAct_72 rfl ?_
            refine v_iload dX6_nextAct_74 rfl ?_
            refine v_aloadn dX6_nextAct_76 rfl ?_
            refine v_get dX6_nextAct_77 gf_X6_54 (hX.2.1 0 0 (by decide)) rfl ?_
            refine v_callV (tX4_nextEdge (hX.row hj) (by omega) (by omega)) lc_X6_198 ⟨(Nat.le_of_ble_eq_true rfl), (Nat.le_of_ble_eq_true rfl)⟩ dX6_nextAct_80 rfl rfl (Nat.le_of_ble_eq_true rfl) ⟨(Nat.le_of_ble_eq_true rfl), (Nat.le_of_ble_eq_true rfl)⟩ ⟨_, _, _, _, (hX.row hj).1, rfl⟩ (kP fun r80 hr80 hp80 => ?_)
            refine v_istore dX6_nextAct_83 (Nat.le_of_ble_eq_true rfl) ?_
            refine v_iinc dX6_nextAct_85 rfl (Nat.le_of_ble_eq_true rfl) ?_
            refine v_goto 26 dX6_nextAct_88 (by decide) ?_
            refine wV.locs (lv' := [(0, .ref (fw 0 0)), (1, .ref (fw 14 i)), (2, .int (gI a)), (3, .int (gI t)), (4, .ref (fw 10 j)), (5, .int (gI _)), (6, .int (gI _))]) ⟨rfl, rfl, rfl, rfl, rfl, rfl, rfl, trivial⟩ (ih _ _ (by omega) (by omega) (by omega) (by omega))
          · refine v_iload dX6_nextAct_69 rfl ?_
            exact v_iret dX6_nextAct_71 rfl ⟨(Nat.le_of_ble_eq_true rfl), (Nat.le_of_ble_eq_true rfl)⟩ (by omega) ⟨rfl, by omega⟩
set_option maxHeartbeats 4000000 in
set_option maxRecDepth 100000 in
theorem tX6_nextAct {G : gG} {fw : Nat → Nat → Nat} {s : sG} {M : wM} (hX : wX G fw s M) {i : Nat} (hi : i < 4) {a t : Int} (ha : bt 0 a 1) (ht : bt (-10) t 4000) : wT G qX6_nextAct 0 0 [.ref (fw 0 0), .ref (fw 14 i), .int (gI a), .int (gI t)] M (iP fun x M' => M' = M ∧ (x = -4 ∨ bt 1 x 4000)) := by
  refine wT.intro (by decide) (Nat.le_of_ble_eq_true rfl) (fun sz => ?_)
  have h0 := hX.2.2.1
  have hnm := hX.2.2.2.1
  have hsh := hX.2.2.2.2.1
  have h8 := hX.2.2.2.2.2.1
  have hch := hX.2.2.2.2.2.2.2.2.1 i hi
  refine v_aloadn dX6_nextAct_0 rfl ?_
  refine v_iloadn dX6_nextAct_1 rfl ?_
  refine v_aloadn dX6_nextAct_2 rfl ?_
  refine v_getN dX6_nextAct_3 gf_X6_195 (hX.2.1 14 i hi) rfl ?_
  refine v_callV (tX6_namedRow hX ha (by omega)) lc_X6_154 ⟨(Nat.le_of_ble_eq_true rfl), (Nat.le_of_ble_eq_true rfl)⟩ dX6_nextAct_6 rfl rfl (Nat.le_of_ble_eq_true rfl) ⟨(Nat.le_of_ble_eq_true rfl), (Nat.le_of_ble_eq_true rfl)⟩ ⟨_, _, _, _, (hX.2.1 0 0 (by decide)), rfl⟩ (kRp fun r6 hp6 => ?_)
  subst hp6
  refine v_astore dX6_nextAct_9 (Nat.le_of_ble_eq_true rfl) ?_
  refine v_aload dX6_nextAct_11 rfl ?_
  refine v_iloadn dX6_nextAct_13 rfl ?_
  refine v_aloadn dX6_nextAct_14 rfl ?_
  refine v_get dX6_nextAct_15 gf_X6_54 (hX.2.1 0 0 (by decide)) rfl ?_
  refine v_callV (tX4_nextEdge (hX.row (nmd_lt hX.2.2 (by omega) (by omega))) (by omega) (by omega)) lc_X6_198 ⟨(Nat.le_of_ble_eq_true rfl), (Nat.le_of_ble_eq_true rfl)⟩ dX6_nextAct_18 rfl rfl (Nat.le_of_ble_eq_true rfl) ⟨(Nat.le_of_ble_eq_true rfl), (Nat.le_of_ble_eq_true rfl)⟩ ⟨_, _, _, _, (hX.row (nmd_lt hX.2.2 (by omega) (by omega))).1, rfl⟩ (kP fun r18 hr18 hp18 => ?_)
  refine v_istore dX6_nextAct_21 (Nat.le_of_ble_eq_true rfl) ?_
  refine v_iconst dX6_nextAct_23 ?_
  refine v_istore dX6_nextAct_24 (Nat.le_of_ble_eq_true rfl) ?_
  refine wV.locs (lv' := [(0, .ref (fw 0 0)), (1, .ref (fw 14 i)), (2, .int (gI a)), (3, .int (gI t)), (4, .ref (fw 10 _)), (5, .int (gI (_))), (6, .int (gI (0)))]) ⟨rfl, rfl, rfl, rfl, rfl, rfl, rfl, trivial⟩ (tX6_nextAct_loop hX hi ha (nmd_lt hX.2.2 (by omega) (by omega)) 4010 _ _ (by omega) (by omega) (by omega) (by omega))
set_option maxHeartbeats 4000000 in
set_option maxRecDepth 100000 in
theorem tX6_act_loop {sz : Nat} {M0 : wM} {G : gG} {fw : Nat → Nat → Nat} {s : sG} {M : wM} (hX : wX G fw s M) {i : Nat} (hi : i < 4) {a c n w : Int} (ha : bt 0 a 1) (hn : rng n) (hw : bt 0 w 1) : ∀ (k : Nat) (v e u : Int), 0 ≤ 4001 - u → 4001 - u < (k : Int) → (bt 0 u 4000) → (e = -4 ∨ bt 1 e 4000) → (bt 0 v u) → wV G qX6_act 0 0 sz M0 0 0 70 [(0, .ref (fw 0 0)), (1, .int (gI c)), (2, .int (gI a)), (3, .int (gI n)), (4, .int (gI w)), (5, .ref (fw 14 i)), (6, .int (gI v)), (7, .int (gI e)), (8, .int (gI u))] [] M (iP fun x M' => M' = M ∧ True) := by
  intro k
  induction k with
  | zero =>
    intros
    omega
  | succ k ih =>
    intro v e u hmz hml h1 h2 h3
    have h0 := hX.2.2.1
    have hnm := hX.2.2.2.1
    have hsh := hX.2.2.2.2.1
    have h8 := hX.2.2.2.2.2.1
    have hch := hX.2.2.2.2.2.2.2.2.1 i hi
    refine v_iload dX6_act_70 rfl ?_
    refine v_sipush dX6_act_72 (by decide) ?_
    refine v_icmp_ge 131 dX6_act_75 (by decide) (by omega) (by omega) (fun h75 => ?_) (fun h75 => ?_)
    · refine v_iloadn dX6_act_131 rfl ?_
      refine v_iconst dX6_act_132 ?_
      refine v_icmp_ne 141 dX6_act_133 (by decide) (by omega) (by omega) (fun h133 => ?_) (fun h133 => ?_)
      · refine v_bipush dX6_act_141 (by decide) ?_
        exact v_iret dX6_act_143 rfl ⟨(Nat.le_of_ble_eq_true rfl), (Nat.le_of_ble_eq_true rfl)⟩ (by omega) ⟨rfl, trivial⟩
      · refine v_iload dX6_act_136 rfl ?_
        refine v_goto 143 dX6_act_138 (by decide) ?_
        exact v_iret dX6_act_143 rfl ⟨(Nat.le_of_ble_eq_true rfl), (Nat.le_of_ble_eq_true rfl)⟩ (by omega) ⟨rfl, trivial⟩
    · refine v_iload dX6_act_78 rfl ?_
      refine v_bipush dX6_act_80 (by decide) ?_
      refine v_icmp_eq 131 dX6_act_82 (by decide) (by omega) (by omega) (fun h82 => ?_) (fun h82 => ?_)
      · refine v_iloadn dX6_act_131 rfl ?_
        refine v_iconst dX6_act_132 ?_
        refine v_icmp_ne 141 dX6_act_133 (by decide) (by omega) (by omega) (fun h133 => ?_) (fun h133 => ?_)
        · refine v_bipush dX6_act_141 (by decide) ?_
          exact v_iret dX6_act_143 rfl ⟨(Nat.le_of_ble_eq_true rfl), (Nat.le_of_ble_eq_true rfl)⟩ (by omega) ⟨rfl, trivial⟩
        · refine v_iload dX6_act_136 rfl ?_
          refine v_goto 143 dX6_act_138 (by decide) ?_
          exact v_iret dX6_act_143 rfl ⟨(Nat.le_of_ble_eq_true rfl), (Nat.le_of_ble_eq_true rfl)⟩ (by omega) ⟨rfl, trivial⟩
      · refine v_iload dX6_act_85 rfl ?_
        refine v_iloadn dX6_act_87 rfl ?_
        refine v_icmp_ne 111 dX6_act_88 (by decide) (by omega) (by omega) (fun h88 => ?_) (fun h88 => ?_)
        · refine v_iinc dX6_act_111 rfl (Nat.le_of_ble_eq_true rfl) ?_
          refine v_aloadn dX6_act_114 rfl ?_
          refine v_aload dX6_act_115 rfl ?_
          refine v_iloadn dX6_act_117 rfl ?_
          refine v_iload dX6_act_118 rfl ?_
          refine v_callV (tX6_nextAct hX hi (by omega) (by omega)) lc_X6_184 ⟨(Nat.le_of_ble_eq_true rfl), (Nat.le_of_ble_eq_true rfl)⟩ dX6_act_120 rfl rfl (Nat.le_of_ble_eq_true rfl) ⟨(Nat.le_of_ble_eq_true rfl), (Nat.le_of_ble_eq_true rfl)⟩ ⟨_, _, _, _, (hX.2.1 0 0 (by decide)), rfl⟩ (kP fun r120 hr120 hp120 => ?_)
          refine v_istore dX6_act_123 (Nat.le_of_ble_eq_true rfl) ?_
          refine v_iinc dX6_act_125 rfl (Nat.le_of_ble_eq_true rfl) ?_
          refine v_goto 70 dX6_act_128 (by decide) ?_
          refine wV.locs (lv' := [(0, .ref (fw 0 0)), (1, .int (gI c)), (2, .int (gI a)), (3, .int (gI n)), (4, .int (gI w)), (5, .ref (fw 14 i)), (6, .int (gI _)), (7, .int (gI _)), (8, .int (gI _))]) ⟨rfl, rfl, rfl, rfl, rfl, rfl, rfl, rfl, rfl, trivial⟩ (ih _ _ _ (by omega) (by omega) (by omega) (by omega) (by omega))
        · refine v_iload dX6_act_91 rfl ?_
          refine v_if_ne 101 dX6_act_93 (by decide) (by omega) (fun h93 => ?_) (fun h93 => ?_)
          · refine v_aloadn dX6_act_101 rfl ?_
            refine v_aload dX6_act_102 rfl ?_
            refine v_iloadn dX6_act_104 rfl ?_
            refine v_iload dX6_act_105 rfl ?_
            refine v_callV (tX6_dataAhead hX hi (by omega) (by omega)) lc_X6_188 ⟨(Nat.le_of_ble_eq_true rfl), (Nat.le_of_ble_eq_true rfl)⟩ dX6_act_107 rfl rfl (Nat.le_of_ble_eq_true rfl) ⟨(Nat.le_of_ble_eq_true rfl), (Nat.le_of_ble_eq_true rfl)⟩ ⟨_, _, _, _, (hX.2.1 0 0 (by decide)), rfl⟩ (kP fun r107 hr107 hp107 => ?_)
            exact v_iret dX6_act_110 rfl ⟨(Nat.le_of_ble_eq_true rfl), (Nat.le_of_ble_eq_true rfl)⟩ (by omega) ⟨rfl, trivial⟩
          · refine v_iload dX6_act_96 rfl ?_
            refine v_goto 110 dX6_act_98 (by decide) ?_
            exact v_iret dX6_act_110 rfl ⟨(Nat.le_of_ble_eq_true rfl), (Nat.le_of_ble_eq_true rfl)⟩ (by omega) ⟨rfl, trivial⟩
set_option maxHeartbeats 4000000 in
set_option maxRecDepth 100000 in
theorem tX6_act {G : gG} {fw : Nat → Nat → Nat} {s : sG} {M : wM} (hX : wX G fw s M) {c a n w : Int} (hc : rng c) (ha : rng a) (hn : rng n) (hw : rng w) : wT G qX6_act 0 0 [.ref (fw 0 0), .int (gI c), .int (gI a), .int (gI n), .int (gI w)] M (iP fun x M' => M' = M ∧ True) := by
  refine wT.intro (by decide) (Nat.le_of_ble_eq_true rfl) (fun sz => ?_)
  have h0 := hX.2.2.1
  have hnm := hX.2.2.2.1
  have hsh := hX.2.2.2.2.1
  have h8 := hX.2.2.2.2.2.1
  refine v_iloadn dX6_act_0 rfl ?_
  refine v_iconst dX6_act_1 ?_
  refine v_iconst dX6_act_2 ?_
  refine v_callS (tX6_outside (by omega) (by omega) (by omega)) lc_X6_69 ⟨(Nat.le_of_ble_eq_true rfl), (Nat.le_of_ble_eq_true rfl)⟩ dX6_act_3 rfl rfl (Nat.le_of_ble_eq_true rfl) ⟨(Nat.le_of_ble_eq_true rfl), (Nat.le_of_ble_eq_true rfl)⟩ (kP fun r3 hr3 hp3 => ?_)
  refine v_if_ne 33 dX6_act_6 (by decide) (by omega) (fun h6 => ?_) (fun h6 => ?_)
  · refine v_iconst dX6_act_33 ?_
    exact v_iret dX6_act_34 rfl ⟨(Nat.le_of_ble_eq_true rfl), (Nat.le_of_ble_eq_true rfl)⟩ (by omega) ⟨rfl, trivial⟩
  · refine v_iloadn dX6_act_9 rfl ?_
    refine v_iconst dX6_act_10 ?_
    refine v_iconst dX6_act_11 ?_
    refine v_callS (tX6_outside (by omega) (by omega) (by omega)) lc_X6_69 ⟨(Nat.le_of_ble_eq_true rfl), (Nat.le_of_ble_eq_true rfl)⟩ dX6_act_12 rfl rfl (Nat.le_of_ble_eq_true rfl) ⟨(Nat.le_of_ble_eq_true rfl), (Nat.le_of_ble_eq_true rfl)⟩ (kP fun r12 hr12 hp12 => ?_)
    refine v_if_ne 33 dX6_act_15 (by decide) (by omega) (fun h15 => ?_) (fun h15 => ?_)
    · refine v_iconst dX6_act_33 ?_
      exact v_iret dX6_act_34 rfl ⟨(Nat.le_of_ble_eq_true rfl), (Nat.le_of_ble_eq_true rfl)⟩ (by omega) ⟨rfl, trivial⟩
    · refine v_iloadn dX6_act_18 rfl ?_
      refine v_iconst dX6_act_19 ?_
      refine v_icmp_lt 33 dX6_act_20 (by decide) (by omega) (by omega) (fun h20 => ?_) (fun h20 => ?_)
      · refine v_iconst dX6_act_33 ?_
        exact v_iret dX6_act_34 rfl ⟨(Nat.le_of_ble_eq_true rfl), (Nat.le_of_ble_eq_true rfl)⟩ (by omega) ⟨rfl, trivial⟩
      · refine v_iload dX6_act_23 rfl ?_
        refine v_iconst dX6_act_25 ?_
        refine v_iconst dX6_act_26 ?_
        refine v_callS (tX6_outside (by omega) (by omega) (by omega)) lc_X6_69 ⟨(Nat.le_of_ble_eq_true rfl), (Nat.le_of_ble_eq_true rfl)⟩ dX6_act_27 rfl rfl (Nat.le_of_ble_eq_true rfl) ⟨(Nat.le_of_ble_eq_true rfl), (Nat.le_of_ble_eq_true rfl)⟩ (kP fun r27 hr27 hp27 => ?_)
        refine v_if_eq 35 dX6_act_30 (by decide) (by omega) (fun h30 => ?_) (fun h30 => ?_)
        · refine v_aloadn dX6_act_35 rfl ?_
          refine v_get dX6_act_36 gf_X6_33 (hX.2.1 0 0 (by decide)) rfl ?_
          refine v_iloadn dX6_act_39 rfl ?_
          refine v_aald2 (Cn := "WavePairs$Channel") dX6_act_40 (hX.2.1 6 0 (by decide)) (by simp) (by omega) (by omega) (by decide) ?_
          have hch := hX.2.2.2.2.2.2.2.2.1 c.toNat (by omega)
          refine v_astore dX6_act_41 (Nat.le_of_ble_eq_true rfl) ?_
          refine v_aload dX6_act_43 rfl ?_
          refine v_getN dX6_act_45 gf_X6_181 (hX.2.1 14 _ (by simp [cntX]; omega)) rfl ?_
          refine v_if_ne 54 dX6_act_48 (by decide) (by omega) (fun h48 => ?_) (fun h48 => ?_)
          · refine v_iconst dX6_act_54 ?_
            refine v_istore dX6_act_55 (Nat.le_of_ble_eq_true rfl) ?_
            refine v_aloadn dX6_act_57 rfl ?_
            refine v_aload dX6_act_58 rfl ?_
            refine v_iloadn dX6_act_60 rfl ?_
            refine v_iconst dX6_act_61 ?_
            refine v_callV (tX6_nextAct hX (by omega) (by omega) (by omega)) lc_X6_184 ⟨(Nat.le_of_ble_eq_true rfl), (Nat.le_of_ble_eq_true rfl)⟩ dX6_act_62 rfl rfl (Nat.le_of_ble_eq_true rfl) ⟨(Nat.le_of_ble_eq_true rfl), (Nat.le_of_ble_eq_true rfl)⟩ ⟨_, _, _, _, (hX.2.1 0 0 (by decide)), rfl⟩ (kP fun r62 hr62 hp62 => ?_)
            refine v_istore dX6_act_65 (Nat.le_of_ble_eq_true rfl) ?_
            refine v_iconst dX6_act_67 ?_
            refine v_istore dX6_act_68 (Nat.le_of_ble_eq_true rfl) ?_
            refine wV.locs (lv' := [(0, .ref (fw 0 0)), (1, .int (gI c)), (2, .int (gI a)), (3, .int (gI n)), (4, .int (gI w)), (5, .ref (fw 14 _)), (6, .int (gI (0))), (7, .int (gI (_))), (8, .int (gI (0)))]) ⟨rfl, rfl, rfl, rfl, rfl, rfl, rfl, rfl, rfl, trivial⟩ (tX6_act_loop hX (by omega) (by omega) hn (by omega) 4010 _ _ _ (by omega) (by omega) (by omega) (by omega) (by omega))
          · refine v_bipush dX6_act_51 (by decide) ?_
            exact v_iret dX6_act_53 rfl ⟨(Nat.le_of_ble_eq_true rfl), (Nat.le_of_ble_eq_true rfl)⟩ (by omega) ⟨rfl, trivial⟩
        · refine v_iconst dX6_act_33 ?_
          exact v_iret dX6_act_34 rfl ⟨(Nat.le_of_ble_eq_true rfl), (Nat.le_of_ble_eq_true rfl)⟩ (by omega) ⟨rfl, trivial⟩
set_option maxHeartbeats 4000000 in
set_option maxRecDepth 100000 in
theorem tX6_unlike_loop {sz : Nat} {M0 : wM} {G : gG} {fw : Nat → Nat → Nat} {s : sG} {M : wM} (hX : wX G fw s M) {i : Nat} (hi : i < 4) {c : Int} : ∀ (k : Nat) (d e u : Int), 0 ≤ 4001 - u → 4001 - u < (k : Int) → (bt 0 u 4000) → (e = -4 ∨ bt 1 e 4000) → (d = -4 ∨ bt 1 d 4000) → wV G qX6_unlike 0 0 sz M0 0 0 48 [(0, .ref (fw 0 0)), (1, .int (gI c)), (2, .ref (fw 14 i)), (3, .int (gI d)), (4, .int (gI e)), (5, .int (gI u))] [] M (iP fun x M' => M' = M ∧ True) := by
  intro k
  induction k with
  | zero =>
    intros
    omega
  | succ k ih =>
    intro d e u hmz hml h1 h2 h3
    have h0 := hX.2.2.1
    have hnm := hX.2.2.2.1
    have hsh := hX.2.2.2.2.1
    have h8 := hX.2.2.2.2.2.1
    have hch := hX.2.2.2.2.2.2.2.2.1 i hi
    refine v_iload dX6_unlike_48 rfl ?_
    refine v_sipush dX6_unlike_50 (by decide) ?_
    refine v_icmp_ge 134 dX6_unlike_53 (by decide) (by omega) (by omega) (fun h53 => ?_) (fun h53 => ?_)
    · refine v_bipush dX6_unlike_134 (by decide) ?_
      exact v_iret dX6_unlike_136 rfl ⟨(Nat.le_of_ble_eq_true rfl), (Nat.le_of_ble_eq_true rfl)⟩ (by omega) ⟨rfl, trivial⟩
    · refine v_iloadn dX6_unlike_56 rfl ?_
      refine v_bipush dX6_unlike_57 (by decide) ?_
      refine v_icmp_ne 69 dX6_unlike_59 (by decide) (by omega) (by omega) (fun h59 => ?_) (fun h59 => ?_)
      · refine v_iloadn dX6_unlike_69 rfl ?_
        refine v_bipush dX6_unlike_70 (by decide) ?_
        refine v_icmp_eq 107 dX6_unlike_72 (by decide) (by omega) (by omega) (fun h72 => ?_) (fun h72 => ?_)
        · refine v_iload dX6_unlike_107 rfl ?_
          exact v_iret dX6_unlike_109 rfl ⟨(Nat.le_of_ble_eq_true rfl), (Nat.le_of_ble_eq_true rfl)⟩ (by omega) ⟨rfl, trivial⟩
        · refine v_iload dX6_unlike_75 rfl ?_
          refine v_bipush dX6_unlike_77 (by decide) ?_
          refine v_icmp_eq 107 dX6_unlike_79 (by decide) (by omega) (by omega) (fun h79 => ?_) (fun h79 => ?_)
          · refine v_iload dX6_unlike_107 rfl ?_
            exact v_iret dX6_unlike_109 rfl ⟨(Nat.le_of_ble_eq_true rfl), (Nat.le_of_ble_eq_true rfl)⟩ (by omega) ⟨rfl, trivial⟩
          · refine v_aloadn dX6_unlike_82 rfl ?_
            refine v_aloadn dX6_unlike_83 rfl ?_
            refine v_iconst dX6_unlike_84 ?_
            refine v_iloadn dX6_unlike_85 rfl ?_
            refine v_callV (tX6_dataAhead hX hi (by omega) (by omega)) lc_X6_188 ⟨(Nat.le_of_ble_eq_true rfl), (Nat.le_of_ble_eq_true rfl)⟩ dX6_unlike_86 rfl rfl (Nat.le_of_ble_eq_true rfl) ⟨(Nat.le_of_ble_eq_true rfl), (Nat.le_of_ble_eq_true rfl)⟩ ⟨_, _, _, _, (hX.2.1 0 0 (by decide)), rfl⟩ (kP fun r86 hr86 hp86 => ?_)
            refine v_aloadn dX6_unlike_89 rfl ?_
            refine v_aloadn dX6_unlike_90 rfl ?_
            refine v_iconst dX6_unlike_91 ?_
            refine v_iload dX6_unlike_92 rfl ?_
            refine v_callV (tX6_dataAhead hX hi (by omega) (by omega)) lc_X6_188 ⟨(Nat.le_of_ble_eq_true rfl), (Nat.le_of_ble_eq_true rfl)⟩ dX6_unlike_94 rfl rfl (Nat.le_of_ble_eq_true rfl) ⟨(Nat.le_of_ble_eq_true rfl), (Nat.le_of_ble_eq_true rfl)⟩ ⟨_, _, _, _, (hX.2.1 0 0 (by decide)), rfl⟩ (kP fun r94 hr94 hp94 => ?_)
            refine v_aloadn dX6_unlike_97 rfl ?_
            refine v_get dX6_unlike_98 gf_X6_57 (hX.2.1 0 0 (by decide)) rfl ?_
            refine v_callS (tX6_agree (by omega) (by omega) (by omega)) lc_X6_191 ⟨(Nat.le_of_ble_eq_true rfl), (Nat.le_of_ble_eq_true rfl)⟩ dX6_unlike_101 rfl rfl (Nat.le_of_ble_eq_true rfl) ⟨(Nat.le_of_ble_eq_true rfl), (Nat.le_of_ble_eq_true rfl)⟩ (kP fun r101 hr101 hp101 => ?_)
            refine v_if_ne 110 dX6_unlike_104 (by decide) (by omega) (fun h104 => ?_) (fun h104 => ?_)
            · refine v_aloadn dX6_unlike_110 rfl ?_
              refine v_aloadn dX6_unlike_111 rfl ?_
              refine v_iconst dX6_unlike_112 ?_
              refine v_iloadn dX6_unlike_113 rfl ?_
              refine v_callV (tX6_nextAct hX hi (by omega) (by omega)) lc_X6_184 ⟨(Nat.le_of_ble_eq_true rfl), (Nat.le_of_ble_eq_true rfl)⟩ dX6_unlike_114 rfl rfl (Nat.le_of_ble_eq_true rfl) ⟨(Nat.le_of_ble_eq_true rfl), (Nat.le_of_ble_eq_true rfl)⟩ ⟨_, _, _, _, (hX.2.1 0 0 (by decide)), rfl⟩ (kP fun r114 hr114 hp114 => ?_)
              refine v_istoren dX6_unlike_117 (Nat.le_of_ble_eq_true rfl) ?_
              refine v_aloadn dX6_unlike_118 rfl ?_
              refine v_aloadn dX6_unlike_119 rfl ?_
              refine v_iconst dX6_unlike_120 ?_
              refine v_iload dX6_unlike_121 rfl ?_
              refine v_callV (tX6_nextAct hX hi (by omega) (by omega)) lc_X6_184 ⟨(Nat.le_of_ble_eq_true rfl), (Nat.le_of_ble_eq_true rfl)⟩ dX6_unlike_123 rfl rfl (Nat.le_of_ble_eq_true rfl) ⟨(Nat.le_of_ble_eq_true rfl), (Nat.le_of_ble_eq_true rfl)⟩ ⟨_, _, _, _, (hX.2.1 0 0 (by decide)), rfl⟩ (kP fun r123 hr123 hp123 => ?_)
              refine v_istore dX6_unlike_126 (Nat.le_of_ble_eq_true rfl) ?_
              refine v_iinc dX6_unlike_128 rfl (Nat.le_of_ble_eq_true rfl) ?_
              refine v_goto 48 dX6_unlike_131 (by decide) ?_
              refine wV.locs (lv' := [(0, .ref (fw 0 0)), (1, .int (gI c)), (2, .ref (fw 14 i)), (3, .int (gI _)), (4, .int (gI _)), (5, .int (gI _))]) ⟨rfl, rfl, rfl, rfl, rfl, rfl, trivial⟩ (ih _ _ _ (by omega) (by omega) (by omega) (by omega) (by omega))
            · refine v_iload dX6_unlike_107 rfl ?_
              exact v_iret dX6_unlike_109 rfl ⟨(Nat.le_of_ble_eq_true rfl), (Nat.le_of_ble_eq_true rfl)⟩ (by omega) ⟨rfl, trivial⟩
      · refine v_iload dX6_unlike_62 rfl ?_
        refine v_bipush dX6_unlike_64 (by decide) ?_
        refine v_icmp_eq 134 dX6_unlike_66 (by decide) (by omega) (by omega) (fun h66 => ?_) (fun h66 => ?_)
        · refine v_bipush dX6_unlike_134 (by decide) ?_
          exact v_iret dX6_unlike_136 rfl ⟨(Nat.le_of_ble_eq_true rfl), (Nat.le_of_ble_eq_true rfl)⟩ (by omega) ⟨rfl, trivial⟩
        · refine v_iloadn dX6_unlike_69 rfl ?_
          refine v_bipush dX6_unlike_70 (by decide) ?_
          refine v_icmp_eq 107 dX6_unlike_72 (by decide) (by omega) (by omega) (fun h72 => ?_) (fun h72 => ?_)
          · refine v_iload dX6_unlike_107 rfl ?_
            exact v_iret dX6_unlike_109 rfl ⟨(Nat.le_of_ble_eq_true rfl), (Nat.le_of_ble_eq_true rfl)⟩ (by omega) ⟨rfl, trivial⟩
          · refine v_iload dX6_unlike_75 rfl ?_
            refine v_bipush dX6_unlike_77 (by decide) ?_
            refine v_icmp_eq 107 dX6_unlike_79 (by decide) (by omega) (by omega) (fun h79 => ?_) (fun h79 => ?_)
            · refine v_iload dX6_unlike_107 rfl ?_
              exact v_iret dX6_unlike_109 rfl ⟨(Nat.le_of_ble_eq_true rfl), (Nat.le_of_ble_eq_true rfl)⟩ (by omega) ⟨rfl, trivial⟩
            · refine v_aloadn dX6_unlike_82 rfl ?_
              refine v_aloadn dX6_unlike_83 rfl ?_
              refine v_iconst dX6_unlike_84 ?_
              refine v_iloadn dX6_unlike_85 rfl ?_
              refine v_callV (tX6_dataAhead hX hi (by omega) (by omega)) lc_X6_188 ⟨(Nat.le_of_ble_eq_true rfl), (Nat.le_of_ble_eq_true rfl)⟩ dX6_unlike_86 rfl rfl (Nat.le_of_ble_eq_true rfl) ⟨(Nat.le_of_ble_eq_true rfl), (Nat.le_of_ble_eq_true rfl)⟩ ⟨_, _, _, _, (hX.2.1 0 0 (by decide)), rfl⟩ (kP fun r86 hr86 hp86 => ?_)
              refine v_aloadn dX6_unlike_89 rfl ?_
              refine v_aloadn dX6_unlike_90 rfl ?_
              refine v_iconst dX6_unlike_91 ?_
              refine v_iload dX6_unlike_92 rfl ?_
              refine v_callV (tX6_dataAhead hX hi (by omega) (by omega)) lc_X6_188 ⟨(Nat.le_of_ble_eq_true rfl), (Nat.le_of_ble_eq_true rfl)⟩ dX6_unlike_94 rfl rfl (Nat.le_of_ble_eq_true rfl) ⟨(Nat.le_of_ble_eq_true rfl), (Nat.le_of_ble_eq_true rfl)⟩ ⟨_, _, _, _, (hX.2.1 0 0 (by decide)), rfl⟩ (kP fun r94 hr94 hp94 => ?_)
              refine v_aloadn dX6_unlike_97 rfl ?_
              refine v_get dX6_unlike_98 gf_X6_57 (hX.2.1 0 0 (by decide)) rfl ?_
              refine v_callS (tX6_agree (by omega) (by omega) (by omega)) lc_X6_191 ⟨(Nat.le_of_ble_eq_true rfl), (Nat.le_of_ble_eq_true rfl)⟩ dX6_unlike_101 rfl rfl (Nat.le_of_ble_eq_true rfl) ⟨(Nat.le_of_ble_eq_true rfl), (Nat.le_of_ble_eq_true rfl)⟩ (kP fun r101 hr101 hp101 => ?_)
              refine v_if_ne 110 dX6_unlike_104 (by decide) (by omega) (fun h104 => ?_) (fun h104 => ?_)
              · refine v_aloadn dX6_unlike_110 rfl ?_
                refine v_aloadn dX6_unlike_111 rfl ?_
                refine v_iconst dX6_unlike_112 ?_
                refine v_iloadn dX6_unlike_113 rfl ?_
                refine v_callV (tX6_nextAct hX hi (by omega) (by omega)) lc_X6_184 ⟨(Nat.le_of_ble_eq_true rfl), (Nat.le_of_ble_eq_true rfl)⟩ dX6_unlike_114 rfl rfl (Nat.le_of_ble_eq_true rfl) ⟨(Nat.le_of_ble_eq_true rfl), (Nat.le_of_ble_eq_true rfl)⟩ ⟨_, _, _, _, (hX.2.1 0 0 (by decide)), rfl⟩ (kP fun r114 hr114 hp114 => ?_)
                refine v_istoren dX6_unlike_117 (Nat.le_of_ble_eq_true rfl) ?_
                refine v_aloadn dX6_unlike_118 rfl ?_
                refine v_aloadn dX6_unlike_119 rfl ?_
                refine v_iconst dX6_unlike_120 ?_
                refine v_iload dX6_unlike_121 rfl ?_
                refine v_callV (tX6_nextAct hX hi (by omega) (by omega)) lc_X6_184 ⟨(Nat.le_of_ble_eq_true rfl), (Nat.le_of_ble_eq_true rfl)⟩ dX6_unlike_123 rfl rfl (Nat.le_of_ble_eq_true rfl) ⟨(Nat.le_of_ble_eq_true rfl), (Nat.le_of_ble_eq_true rfl)⟩ ⟨_, _, _, _, (hX.2.1 0 0 (by decide)), rfl⟩ (kP fun r123 hr123 hp123 => ?_)
                refine v_istore dX6_unlike_126 (Nat.le_of_ble_eq_true rfl) ?_
                refine v_iinc dX6_unlike_128 rfl (Nat.le_of_ble_eq_true rfl) ?_
                refine v_goto 48 dX6_unlike_131 (by decide) ?_
                refine wV.locs (lv' := [(0, .ref (fw 0 0)), (1, .int (gI c)), (2, .ref (fw 14 i)), (3, .int (gI _)), (4, .int (gI _)), (5, .int (gI _))]) ⟨rfl, rfl, rfl, rfl, rfl, rfl, trivial⟩ (ih _ _ _ (by omega) (by omega) (by omega) (by omega) (by omega))
              · refine v_iload dX6_unlike_107 rfl ?_
                exact v_iret dX6_unlike_109 rfl ⟨(Nat.le_of_ble_eq_true rfl), (Nat.le_of_ble_eq_true rfl)⟩ (by omega) ⟨rfl, trivial⟩
set_option maxHeartbeats 4000000 in
set_option maxRecDepth 100000 in
theorem tX6_unlike {G : gG} {fw : Nat → Nat → Nat} {s : sG} {M : wM} (hX : wX G fw s M) {c : Int} (hc : rng c) : wT G qX6_unlike 0 0 [.ref (fw 0 0), .int (gI c)] M (iP fun x M' => M' = M ∧ True) := by
  refine wT.intro (by decide) (Nat.le_of_ble_eq_true rfl) (fun sz => ?_)
  have h0 := hX.2.2.1
  have hnm := hX.2.2.2.1
  have hsh := hX.2.2.2.2.1
  have h8 := hX.2.2.2.2.2.1
  refine v_iloadn dX6_unlike_0 rfl ?_
  refine v_iconst dX6_unlike_1 ?_
  refine v_iconst dX6_unlike_2 ?_
  refine v_callS (tX6_outside (by omega) (by omega) (by omega)) lc_X6_69 ⟨(Nat.le_of_ble_eq_true rfl), (Nat.le_of_ble_eq_true rfl)⟩ dX6_unlike_3 rfl rfl (Nat.le_of_ble_eq_true rfl) ⟨(Nat.le_of_ble_eq_true rfl), (Nat.le_of_ble_eq_true rfl)⟩ (kP fun r3 hr3 hp3 => ?_)
  refine v_if_eq 11 dX6_unlike_6 (by decide) (by omega) (fun h6 => ?_) (fun h6 => ?_)
  · refine v_aloadn dX6_unlike_11 rfl ?_
    refine v_get dX6_unlike_12 gf_X6_33 (hX.2.1 0 0 (by decide)) rfl ?_
    refine v_iloadn dX6_unlike_15 rfl ?_
    refine v_aald2 (Cn := "WavePairs$Channel") dX6_unlike_16 (hX.2.1 6 0 (by decide)) (by simp) (by omega) (by omega) (by decide) ?_
    have hch := hX.2.2.2.2.2.2.2.2.1 c.toNat (by omega)
    refine v_astoren dX6_unlike_17 (Nat.le_of_ble_eq_true rfl) ?_
    refine v_aloadn dX6_unlike_18 rfl ?_
    refine v_getN dX6_unlike_19 gf_X6_181 (hX.2.1 14 _ (by simp [cntX]; omega)) rfl ?_
    refine v_if_ne 28 dX6_unlike_22 (by decide) (by omega) (fun h22 => ?_) (fun h22 => ?_)
    · refine v_aloadn dX6_unlike_28 rfl ?_
      refine v_aloadn dX6_unlike_29 rfl ?_
      refine v_iconst dX6_unlike_30 ?_
      refine v_iconst dX6_unlike_31 ?_
      refine v_callV (tX6_nextAct hX (by omega) (by omega) (by omega)) lc_X6_184 ⟨(Nat.le_of_ble_eq_true rfl), (Nat.le_of_ble_eq_true rfl)⟩ dX6_unlike_32 rfl rfl (Nat.le_of_ble_eq_true rfl) ⟨(Nat.le_of_ble_eq_true rfl), (Nat.le_of_ble_eq_true rfl)⟩ ⟨_, _, _, _, (hX.2.1 0 0 (by decide)), rfl⟩ (kP fun r32 hr32 hp32 => ?_)
      refine v_istoren dX6_unlike_35 (Nat.le_of_ble_eq_true rfl) ?_
      refine v_aloadn dX6_unlike_36 rfl ?_
      refine v_aloadn dX6_unlike_37 rfl ?_
      refine v_iconst dX6_unlike_38 ?_
      refine v_iconst dX6_unlike_39 ?_
      refine v_callV (tX6_nextAct hX (by omega) (by omega) (by omega)) lc_X6_184 ⟨(Nat.le_of_ble_eq_true rfl), (Nat.le_of_ble_eq_true rfl)⟩ dX6_unlike_40 rfl rfl (Nat.le_of_ble_eq_true rfl) ⟨(Nat.le_of_ble_eq_true rfl), (Nat.le_of_ble_eq_true rfl)⟩ ⟨_, _, _, _, (hX.2.1 0 0 (by decide)), rfl⟩ (kP fun r40 hr40 hp40 => ?_)
      refine v_istore dX6_unlike_43 (Nat.le_of_ble_eq_true rfl) ?_
      refine v_iconst dX6_unlike_45 ?_
      refine v_istore dX6_unlike_46 (Nat.le_of_ble_eq_true rfl) ?_
      refine wV.locs (lv' := [(0, .ref (fw 0 0)), (1, .int (gI c)), (2, .ref (fw 14 _)), (3, .int (gI (_))), (4, .int (gI (_))), (5, .int (gI (0)))]) ⟨rfl, rfl, rfl, rfl, rfl, rfl, trivial⟩ (tX6_unlike_loop hX (by omega) 4010 _ _ _ (by omega) (by omega) (by omega) (by omega) (by omega))
    · refine v_bipush dX6_unlike_25 (by decide) ?_
      exact v_iret dX6_unlike_27 rfl ⟨(Nat.le_of_ble_eq_true rfl), (Nat.le_of_ble_eq_true rfl)⟩ (by omega) ⟨rfl, trivial⟩
  · refine v_iconst dX6_unlike_9 ?_
    exact v_iret dX6_unlike_10 rfl ⟨(Nat.le_of_ble_eq_true rfl), (Nat.le_of_ble_eq_true rfl)⟩ (by omega) ⟨rfl, trivial⟩
