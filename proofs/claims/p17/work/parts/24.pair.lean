def agF (a b c : Int) : Int := if a = b ∨ (c ≠ 0 ∧ (a = 256 ∨ b = 256)) then 1 else 0
set_option maxHeartbeats 4000000 in
set_option maxRecDepth 100000 in
theorem tX6_agree {G : gG} {M : wM} {a b c : Int} (ha : rng a) (hb : rng b) (hc : rng c) : wT G qX6_agree 0 0 [.int (gI a), .int (gI b), .int (gI c)] M (iP fun x M' => M' = M ∧ (x = agF a b c ∧ (x = 0 ∨ x = 1))) := by
  refine wT.intro (by decide) (Nat.le_of_ble_eq_true rfl) (fun sz => ?_)
  refine v_iloadn dX6_agree_0 rfl ?_
  refine v_iloadn dX6_agree_1 rfl ?_
  refine v_icmp_eq 23 dX6_agree_2 (by decide) (by omega) (by omega) (fun h2 => ?_) (fun h2 => ?_)
  · refine v_iconst dX6_agree_23 ?_
    refine v_goto 28 dX6_agree_24 (by decide) ?_
    exact v_zret dX6_agree_28 rfl ⟨(Nat.le_of_ble_eq_true rfl), (Nat.le_of_ble_eq_true rfl)⟩ (by omega) ⟨rfl, by unfold agF; split <;> omega, by omega⟩
  · refine v_iloadn dX6_agree_5 rfl ?_
    refine v_if_eq 27 dX6_agree_6 (by decide) (by omega) (fun h6 => ?_) (fun h6 => ?_)
    · refine v_iconst dX6_agree_27 ?_
      exact v_zret dX6_agree_28 rfl ⟨(Nat.le_of_ble_eq_true rfl), (Nat.le_of_ble_eq_true rfl)⟩ (by omega) ⟨rfl, by unfold agF; split <;> omega, by omega⟩
    · refine v_iloadn dX6_agree_9 rfl ?_
      refine v_sipush dX6_agree_10 (by decide) ?_
      refine v_icmp_eq 23 dX6_agree_13 (by decide) (by omega) (by omega) (fun h13 => ?_) (fun h13 => ?_)
      · refine v_iconst dX6_agree_23 ?_
        refine v_goto 28 dX6_agree_24 (by decide) ?_
        exact v_zret dX6_agree_28 rfl ⟨(Nat.le_of_ble_eq_true rfl), (Nat.le_of_ble_eq_true rfl)⟩ (by omega) ⟨rfl, by unfold agF; split <;> omega, by omega⟩
      · refine v_iloadn dX6_agree_16 rfl ?_
        refine v_sipush dX6_agree_17 (by decide) ?_
        refine v_icmp_ne 27 dX6_agree_20 (by decide) (by omega) (by omega) (fun h20 => ?_) (fun h20 => ?_)
        · refine v_iconst dX6_agree_27 ?_
          exact v_zret dX6_agree_28 rfl ⟨(Nat.le_of_ble_eq_true rfl), (Nat.le_of_ble_eq_true rfl)⟩ (by omega) ⟨rfl, by unfold agF; split <;> omega, by omega⟩
        · refine v_iconst dX6_agree_23 ?_
          refine v_goto 28 dX6_agree_24 (by decide) ?_
          exact v_zret dX6_agree_28 rfl ⟨(Nat.le_of_ble_eq_true rfl), (Nat.le_of_ble_eq_true rfl)⟩ (by omega) ⟨rfl, by unfold agF; split <;> omega, by omega⟩
set_option maxHeartbeats 4000000 in
set_option maxRecDepth 100000 in
theorem tX6_outside {G : gG} {M : wM} {a b c : Int} (ha : rng a) (hb : rng b) (hc : rng c) : wT G qX6_outside 0 0 [.int (gI a), .int (gI b), .int (gI c)] M (iP fun x M' => M' = M ∧ ((x = 1 ∧ ¬ (b ≤ a ∧ a ≤ c)) ∨ (x = 0 ∧ b ≤ a ∧ a ≤ c))) := by
  refine wT.intro (by decide) (Nat.le_of_ble_eq_true rfl) (fun sz => ?_)
  refine v_iloadn dX6_outside_0 rfl ?_
  refine v_iloadn dX6_outside_1 rfl ?_
  refine v_icmp_lt 10 dX6_outside_2 (by decide) (by omega) (by omega) (fun h2 => ?_) (fun h2 => ?_)
  · refine v_iconst dX6_outside_10 ?_
    refine v_goto 15 dX6_outside_11 (by decide) ?_
    exact v_zret dX6_outside_15 rfl ⟨(Nat.le_of_ble_eq_true rfl), (Nat.le_of_ble_eq_true rfl)⟩ (by omega) ⟨rfl, by omega⟩
  · refine v_iloadn dX6_outside_5 rfl ?_
    refine v_iloadn dX6_outside_6 rfl ?_
    refine v_icmp_le 14 dX6_outside_7 (by decide) (by omega) (by omega) (fun h7 => ?_) (fun h7 => ?_)
    · refine v_iconst dX6_outside_14 ?_
      exact v_zret dX6_outside_15 rfl ⟨(Nat.le_of_ble_eq_true rfl), (Nat.le_of_ble_eq_true rfl)⟩ (by omega) ⟨rfl, by omega⟩
    · refine v_iconst dX6_outside_10 ?_
      refine v_goto 15 dX6_outside_11 (by decide) ?_
      exact v_zret dX6_outside_15 rfl ⟨(Nat.le_of_ble_eq_true rfl), (Nat.le_of_ble_eq_true rfl)⟩ (by omega) ⟨rfl, by omega⟩
set_option maxHeartbeats 4000000 in
set_option maxRecDepth 100000 in
theorem tX3_nextTick_loop {sz : Nat} {M0 : wM} {G : gG} {fw : Nat → Nat → Nat} {s : sG} {M : wM} (hX : wX G fw s M) {i : Nat} (hi : i < 11) {f d w : Int} (hf : bt (-60) f 4000) (hd : bt (-60) d 4000) (hw : bt 0 w 1) {z : Int} (hz : bt 0 z 1) : ∀ (k : Nat) (a b t u : Int), 0 ≤ 102 - u → 102 - u < (k : Int) → (bt 0 u 101) → (bt (-1) a (51 + u)) → (bt (-1) b (51 + u)) → (bt (-60) t 1000050) → wV G qX3_nextTick 0 0 sz M0 0 0 46 [(0, .ref (fw 16 i)), (1, .int (gI f)), (2, .int (gI d)), (3, .int (gI w)), (4, .int (gI z)), (5, .int (gI a)), (6, .int (gI b)), (7, .int (gI t)), (8, .int (gI u))] [] M (iP fun x M' => M' = M ∧ bt (-60) x 4000) := by
  intro k
  induction k with
  | zero =>
    intros
    omega
  | succ k ih =>
    intro a b t u hmz hml h1 h2 h3 h4
    have hq := hX.2.2.2.2.2.2.2.2.2.2 i hi
    have hL := hX.row (i := (s 16 i 1).toNat) (by omega)
    have hR := hX.row (i := (s 16 i 2).toNat) (by omega)
    refine v_iload dX3_nextTick_46 rfl ?_
    refine v_bipush dX3_nextTick_48 (by decide) ?_
    refine v_icmp_gt 172 dX3_nextTick_50 (by decide) (by omega) (by omega) (fun h50 => ?_) (fun h50 => ?_)
    · refine v_iloadn dX3_nextTick_172 rfl ?_
      exact v_iret dX3_nextTick_173 rfl ⟨(Nat.le_of_ble_eq_true rfl), (Nat.le_of_ble_eq_true rfl)⟩ (by omega) ⟨rfl, by omega⟩
    · refine v_iload dX3_nextTick_53 rfl ?_
      refine v_iloadn dX3_nextTick_55 rfl ?_
      refine v_icmp_ge 172 dX3_nextTick_56 (by decide) (by omega) (by omega) (fun h56 => ?_) (fun h56 => ?_)
      · refine v_iloadn dX3_nextTick_172 rfl ?_
        exact v_iret dX3_nextTick_173 rfl ⟨(Nat.le_of_ble_eq_true rfl), (Nat.le_of_ble_eq_true rfl)⟩ (by omega) ⟨rfl, by omega⟩
      · refine v_aloadn dX3_nextTick_59 rfl ?_
        refine v_get dX3_nextTick_60 gf_X3_18 (hX.2.1 16 i hi) rfl ?_
        refine v_iload dX3_nextTick_63 rfl ?_
        refine v_callV (tX4_valueOf hL (by omega)) lc_X3_50 ⟨(Nat.le_of_ble_eq_true rfl), (Nat.le_of_ble_eq_true rfl)⟩ dX3_nextTick_65 rfl rfl (Nat.le_of_ble_eq_true rfl) ⟨(Nat.le_of_ble_eq_true rfl), (Nat.le_of_ble_eq_true rfl)⟩ ⟨_, _, _, _, hL.1, rfl⟩ (kP fun r65 hr65 hp65 => ?_)
        refine v_aloadn dX3_nextTick_68 rfl ?_
        refine v_get dX3_nextTick_69 gf_X3_21 (hX.2.1 16 i hi) rfl ?_
        refine v_iload dX3_nextTick_72 rfl ?_
        refine v_callV (tX4_valueOf hR (by omega)) lc_X3_50 ⟨(Nat.le_of_ble_eq_true rfl), (Nat.le_of_ble_eq_true rfl)⟩ dX3_nextTick_74 rfl rfl (Nat.le_of_ble_eq_true rfl) ⟨(Nat.le_of_ble_eq_true rfl), (Nat.le_of_ble_eq_true rfl)⟩ ⟨_, _, _, _, hR.1, rfl⟩ (kP fun r74 hr74 hp74 => ?_)
        refine v_aloadn dX3_nextTick_77 rfl ?_
        refine v_get dX3_nextTick_78 gf_X3_28 (hX.2.1 16 i hi) rfl ?_
        refine v_callSN (tX6_agree hr65 hr74 (by omega)) lc_X3_53 ⟨(Nat.le_of_ble_eq_true rfl), (Nat.le_of_ble_eq_true rfl)⟩ dX3_nextTick_81 rfl rfl (Nat.le_of_ble_eq_true rfl) ⟨(Nat.le_of_ble_eq_true rfl), (Nat.le_of_ble_eq_true rfl)⟩ (kP fun r81 hr81 hp81 => ?_)
        refine v_iload dX3_nextTick_84 rfl ?_
        refine v_icmp_ne 92 dX3_nextTick_86 (by decide) (by omega) (by omega) (fun h86 => ?_) (fun h86 => ?_)
        · refine v_aloadn dX3_nextTick_92 rfl ?_
          refine v_get dX3_nextTick_93 gf_X3_18 (hX.2.1 16 i hi) rfl ?_
          refine v_iload dX3_nextTick_96 rfl ?_
          refine v_iconst dX3_nextTick_98 ?_
          refine v_iadd dX3_nextTick_99 ?_
          refine v_callV (tX4_tickOf hL (by omega)) lc_X3_57 ⟨(Nat.le_of_ble_eq_true rfl), (Nat.le_of_ble_eq_true rfl)⟩ dX3_nextTick_100 rfl rfl (Nat.le_of_ble_eq_true rfl) ⟨(Nat.le_of_ble_eq_true rfl), (Nat.le_of_ble_eq_true rfl)⟩ ⟨_, _, _, _, hL.1, rfl⟩ (kP fun r100 hr100 hp100 => ?_)
          have hb100 := tickF_rg hL.2.2.2 (a + 1)
          refine v_istore dX3_nextTick_103 (Nat.le_of_ble_eq_true rfl) ?_
          refine v_aloadn dX3_nextTick_105 rfl ?_
          refine v_get dX3_nextTick_106 gf_X3_21 (hX.2.1 16 i hi) rfl ?_
          refine v_iload dX3_nextTick_109 rfl ?_
          refine v_iconst dX3_nextTick_111 ?_
          refine v_iadd dX3_nextTick_112 ?_
          refine v_callV (tX4_tickOf hR (by omega)) lc_X3_57 ⟨(Nat.le_of_ble_eq_true rfl), (Nat.le_of_ble_eq_true rfl)⟩ dX3_nextTick_113 rfl rfl (Nat.le_of_ble_eq_true rfl) ⟨(Nat.le_of_ble_eq_true rfl), (Nat.le_of_ble_eq_true rfl)⟩ ⟨_, _, _, _, hR.1, rfl⟩ (kP fun r113 hr113 hp113 => ?_)
          have hb113 := tickF_rg hR.2.2.2 (b + 1)
          refine v_aloadn dX3_nextTick_116 rfl ?_
          refine v_get dX3_nextTick_117 gf_X3_24 (hX.2.1 16 i hi) rfl ?_
          refine v_isub dX3_nextTick_120 ?_
          refine v_istore dX3_nextTick_121 (Nat.le_of_ble_eq_true rfl) ?_
          refine v_iload dX3_nextTick_123 rfl ?_
          refine v_iload dX3_nextTick_125 rfl ?_
          refine v_min dX3_nextTick_127 lc_X3_60 (Nat.le_of_ble_eq_true rfl) (Nat.le_of_ble_eq_true rfl) ⟨(Nat.le_of_ble_eq_true rfl), (Nat.le_of_ble_eq_true rfl)⟩ (by omega) (by omega) ?_
          obtain ⟨mn, hmn⟩ : ∃ z, z = (if r113 - s 16 i 3 < r100 then r113 - s 16 i 3 else r100) := ⟨_, rfl⟩
          rw [← hmn]
          have hmn2 : bt (-60) mn 1000050 := by rw [hmn]; split <;> omega
          refine v_istore dX3_nextTick_130 (Nat.le_of_ble_eq_true rfl) ?_
          refine v_iload dX3_nextTick_132 rfl ?_
          refine v_iload dX3_nextTick_134 rfl ?_
          refine v_iload dX3_nextTick_136 rfl ?_
          refine v_icmp_ne 145 dX3_nextTick_138 (by decide) (by omega) (by omega) (fun h138 => ?_) (fun h138 => ?_)
          · refine v_iconst dX3_nextTick_145 ?_
            refine v_iadd dX3_nextTick_146 ?_
            refine v_istore dX3_nextTick_147 (Nat.le_of_ble_eq_true rfl) ?_
            refine v_iload dX3_nextTick_149 rfl ?_
            refine v_iload dX3_nextTick_151 rfl ?_
            refine v_iload dX3_nextTick_153 rfl ?_
            refine v_icmp_ne 162 dX3_nextTick_155 (by decide) (by omega) (by omega) (fun h155 => ?_) (fun h155 => ?_)
            · refine v_iconst dX3_nextTick_162 ?_
              refine v_iadd dX3_nextTick_163 ?_
              refine v_istore dX3_nextTick_164 (Nat.le_of_ble_eq_true rfl) ?_
              refine v_iinc dX3_nextTick_166 rfl (Nat.le_of_ble_eq_true rfl) ?_
              refine v_goto 46 dX3_nextTick_169 (by decide) ?_
              refine wV.locs (lv' := [(0, .ref (fw 16 i)), (1, .int (gI f)), (2, .int (gI d)), (3, .int (gI w)), (4, .int (gI z)), (5, .int (gI _)), (6, .int (gI _)), (7, .int (gI _)), (8, .int (gI _))]) ⟨rfl, rfl, rfl, rfl, rfl, rfl, rfl, rfl, rfl, trivial⟩ (ih _ _ _ _ (by omega) (by omega) (by omega) (by omega) (by omega) (by omega))
            · refine v_iconst dX3_nextTick_158 ?_
              refine v_goto 163 dX3_nextTick_159 (by decide) ?_
              refine v_iadd dX3_nextTick_163 ?_
              refine v_istore dX3_nextTick_164 (Nat.le_of_ble_eq_true rfl) ?_
              refine v_iinc dX3_nextTick_166 rfl (Nat.le_of_ble_eq_true rfl) ?_
              refine v_goto 46 dX3_nextTick_169 (by decide) ?_
              refine wV.locs (lv' := [(0, .ref (fw 16 i)), (1, .int (gI f)), (2, .int (gI d)), (3, .int (gI w)), (4, .int (gI z)), (5, .int (gI _)), (6, .int (gI _)), (7, .int (gI _)), (8, .int (gI _))]) ⟨rfl, rfl, rfl, rfl, rfl, rfl, rfl, rfl, rfl, trivial⟩ (ih _ _ _ _ (by omega) (by omega) (by omega) (by omega) (by omega) (by omega))
          · refine v_iconst dX3_nextTick_141 ?_
            refine v_goto 146 dX3_nextTick_142 (by decide) ?_
            refine v_iadd dX3_nextTick_146 ?_
            refine v_istore dX3_nextTick_147 (Nat.le_of_ble_eq_true rfl) ?_
            refine v_iload dX3_nextTick_149 rfl ?_
            refine v_iload dX3_nextTick_151 rfl ?_
            refine v_iload dX3_nextTick_153 rfl ?_
            refine v_icmp_ne 162 dX3_nextTick_155 (by decide) (by omega) (by omega) (fun h155 => ?_) (fun h155 => ?_)
            · refine v_iconst dX3_nextTick_162 ?_
              refine v_iadd dX3_nextTick_163 ?_
              refine v_istore dX3_nextTick_164 (Nat.le_of_ble_eq_true rfl) ?_
              refine v_iinc dX3_nextTick_166 rfl (Nat.le_of_ble_eq_true rfl) ?_
              refine v_goto 46 dX3_nextTick_169 (by decide) ?_
              refine wV.locs (lv' := [(0, .ref (fw 16 i)), (1, .int (gI f)), (2, .int (gI d)), (3, .int (gI w)), (4, .int (gI z)), (5, .int (gI _)), (6, .int (gI _)), (7, .int (gI _)), (8, .int (gI _))]) ⟨rfl, rfl, rfl, rfl, rfl, rfl, rfl, rfl, rfl, trivial⟩ (ih _ _ _ _ (by omega) (by omega) (by omega) (by omega) (by omega) (by omega))
            · refine v_iconst dX3_nextTick_158 ?_
              refine v_goto 163 dX3_nextTick_159 (by decide) ?_
              refine v_iadd dX3_nextTick_163 ?_
              refine v_istore dX3_nextTick_164 (Nat.le_of_ble_eq_true rfl) ?_
              refine v_iinc dX3_nextTick_166 rfl (Nat.le_of_ble_eq_true rfl) ?_
              refine v_goto 46 dX3_nextTick_169 (by decide) ?_
              refine wV.locs (lv' := [(0, .ref (fw 16 i)), (1, .int (gI f)), (2, .int (gI d)), (3, .int (gI w)), (4, .int (gI z)), (5, .int (gI _)), (6, .int (gI _)), (7, .int (gI _)), (8, .int (gI _))]) ⟨rfl, rfl, rfl, rfl, rfl, rfl, rfl, rfl, rfl, trivial⟩ (ih _ _ _ _ (by omega) (by omega) (by omega) (by omega) (by omega) (by omega))
        · refine v_iload dX3_nextTick_89 rfl ?_
          exact v_iret dX3_nextTick_91 rfl ⟨(Nat.le_of_ble_eq_true rfl), (Nat.le_of_ble_eq_true rfl)⟩ (by omega) ⟨rfl, by omega⟩
set_option maxHeartbeats 4000000 in
set_option maxRecDepth 100000 in
theorem tX3_nextTick {G : gG} {fw : Nat → Nat → Nat} {s : sG} {M : wM} (hX : wX G fw s M) {i : Nat} (hi : i < 11) {f d w : Int} (hf : bt (-60) f 4000) (hd : bt (-60) d 4000) (hw : bt 0 w 1) : wT G qX3_nextTick 0 0 [.ref (fw 16 i), .int (gI f), .int (gI d), .int (gI w)] M (iP fun x M' => M' = M ∧ bt (-60) x 4000) := by
  refine wT.intro (by decide) (Nat.le_of_ble_eq_true rfl) (fun sz => ?_)
  have hq := hX.2.2.2.2.2.2.2.2.2.2 i hi
  have hL := hX.row (i := (s 16 i 1).toNat) (by omega)
  have hR := hX.row (i := (s 16 i 2).toNat) (by omega)
  have hg0 := hL.rg
  have hg1 := hR.rg
  refine v_aloadn dX3_nextTick_0 rfl ?_
  refine v_get dX3_nextTick_1 gf_X3_32 (hX.2.1 16 i hi) rfl ?_
  refine v_iloadn dX3_nextTick_4 rfl ?_
  refine v_icmp_ne 12 dX3_nextTick_5 (by decide) (by omega) (by omega) (fun h5 => ?_) (fun h5 => ?_)
  · refine v_iconst dX3_nextTick_12 ?_
    refine v_istore dX3_nextTick_13 (Nat.le_of_ble_eq_true rfl) ?_
    refine v_aloadn dX3_nextTick_15 rfl ?_
    refine v_get dX3_nextTick_16 gf_X3_18 (hX.2.1 16 i hi) rfl ?_
    refine v_iloadn dX3_nextTick_19 rfl ?_
    refine v_callV (tX4_latest hL (by omega)) lc_X3_46 ⟨(Nat.le_of_ble_eq_true rfl), (Nat.le_of_ble_eq_true rfl)⟩ dX3_nextTick_20 rfl rfl (Nat.le_of_ble_eq_true rfl) ⟨(Nat.le_of_ble_eq_true rfl), (Nat.le_of_ble_eq_true rfl)⟩ ⟨_, _, _, _, hL.1, rfl⟩ (kP fun r20 hr20 hp20 => ?_)
    have hq20 := hp20; unfold lateP at hq20
    refine v_istore dX3_nextTick_23 (Nat.le_of_ble_eq_true rfl) ?_
    refine v_aloadn dX3_nextTick_25 rfl ?_
    refine v_get dX3_nextTick_26 gf_X3_21 (hX.2.1 16 i hi) rfl ?_
    refine v_iloadn dX3_nextTick_29 rfl ?_
    refine v_aloadn dX3_nextTick_30 rfl ?_
    refine v_get dX3_nextTick_31 gf_X3_24 (hX.2.1 16 i hi) rfl ?_
    refine v_iadd dX3_nextTick_34 ?_
    refine v_callV (tX4_latest hR (by omega)) lc_X3_46 ⟨(Nat.le_of_ble_eq_true rfl), (Nat.le_of_ble_eq_true rfl)⟩ dX3_nextTick_35 rfl rfl (Nat.le_of_ble_eq_true rfl) ⟨(Nat.le_of_ble_eq_true rfl), (Nat.le_of_ble_eq_true rfl)⟩ ⟨_, _, _, _, hR.1, rfl⟩ (kP fun r35 hr35 hp35 => ?_)
    have hq35 := hp35; unfold lateP at hq35
    refine v_istore dX3_nextTick_38 (Nat.le_of_ble_eq_true rfl) ?_
    refine v_iloadn dX3_nextTick_40 rfl ?_
    refine v_istore dX3_nextTick_41 (Nat.le_of_ble_eq_true rfl) ?_
    refine v_iconst dX3_nextTick_43 ?_
    refine v_istore dX3_nextTick_44 (Nat.le_of_ble_eq_true rfl) ?_
    refine wV.locs (lv' := [(0, .ref (fw 16 i)), (1, .int (gI f)), (2, .int (gI d)), (3, .int (gI w)), (4, .int (gI _)), (5, .int (gI (r20))), (6, .int (gI (r35))), (7, .int (gI (f))), (8, .int (gI (0)))]) ⟨rfl, rfl, rfl, rfl, rfl, rfl, rfl, rfl, rfl, trivial⟩ (tX3_nextTick_loop hX hi hf hd hw (by omega) 110 _ _ _ _ (by omega) (by omega) (by omega) (by omega) (by omega) (by omega))
  · refine v_iconst dX3_nextTick_8 ?_
    refine v_goto 13 dX3_nextTick_9 (by decide) ?_
    refine v_istore dX3_nextTick_13 (Nat.le_of_ble_eq_true rfl) ?_
    refine v_aloadn dX3_nextTick_15 rfl ?_
    refine v_get dX3_nextTick_16 gf_X3_18 (hX.2.1 16 i hi) rfl ?_
    refine v_iloadn dX3_nextTick_19 rfl ?_
    refine v_callV (tX4_latest hL (by omega)) lc_X3_46 ⟨(Nat.le_of_ble_eq_true rfl), (Nat.le_of_ble_eq_true rfl)⟩ dX3_nextTick_20 rfl rfl (Nat.le_of_ble_eq_true rfl) ⟨(Nat.le_of_ble_eq_true rfl), (Nat.le_of_ble_eq_true rfl)⟩ ⟨_, _, _, _, hL.1, rfl⟩ (kP fun r20 hr20 hp20 => ?_)
    have hq20 := hp20; unfold lateP at hq20
    refine v_istore dX3_nextTick_23 (Nat.le_of_ble_eq_true rfl) ?_
    refine v_aloadn dX3_nextTick_25 rfl ?_
    refine v_get dX3_nextTick_26 gf_X3_21 (hX.2.1 16 i hi) rfl ?_
    refine v_iloadn dX3_nextTick_29 rfl ?_
    refine v_aloadn dX3_nextTick_30 rfl ?_
    refine v_get dX3_nextTick_31 gf_X3_24 (hX.2.1 16 i hi) rfl ?_
    refine v_iadd dX3_nextTick_34 ?_
    refine v_callV (tX4_latest hR (by omega)) lc_X3_46 ⟨(Nat.le_of_ble_eq_true rfl), (Nat.le_of_ble_eq_true rfl)⟩ dX3_nextTick_35 rfl rfl (Nat.le_of_ble_eq_true rfl) ⟨(Nat.le_of_ble_eq_true rfl), (Nat.le_of_ble_eq_true rfl)⟩ ⟨_, _, _, _, hR.1, rfl⟩ (kP fun r35 hr35 hp35 => ?_)
    have hq35 := hp35; unfold lateP at hq35
    refine v_istore dX3_nextTick_38 (Nat.le_of_ble_eq_true rfl) ?_
    refine v_iloadn dX3_nextTick_40 rfl ?_
    refine v_istore dX3_nextTick_41 (Nat.le_of_ble_eq_true rfl) ?_
    refine v_iconst dX3_nextTick_43 ?_
    refine v_istore dX3_nextTick_44 (Nat.le_of_ble_eq_true rfl) ?_
    refine wV.locs (lv' := [(0, .ref (fw 16 i)), (1, .int (gI f)), (2, .int (gI d)), (3, .int (gI w)), (4, .int (gI _)), (5, .int (gI (r20))), (6, .int (gI (r35))), (7, .int (gI (f))), (8, .int (gI (0)))]) ⟨rfl, rfl, rfl, rfl, rfl, rfl, rfl, rfl, rfl, trivial⟩ (tX3_nextTick_loop hX hi hf hd hw (by omega) 110 _ _ _ _ (by omega) (by omega) (by omega) (by omega) (by omega) (by omega))
