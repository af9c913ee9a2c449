set_option maxHeartbeats 4000000 in
set_option maxRecDepth 100000 in
theorem fX3_nextTick_loop {sz : Nat} {M0 : wM} {G : gG} {fw : Nat → Nat → Nat} {s : sG} {M : wM} (hX : wX G fw s M) {i : Nat} (hi : i < 11) (hS : pS s i) {f d w : Int} (hf : bt (-60) f 4000) (hd : bt (-60) d 4000) (hw : bt 0 w 1) {z : Int} (hz : (z = 1 ∧ s 16 i 5 = w) ∨ (z = 0 ∧ s 16 i 5 ≠ w)) : ∀ (k : Nat) (a b t u : Int), 0 ≤ 102 - u → 102 - u < (k : Int) → (bt 0 u 101) → (bt (-1) a (51 + u)) → (bt (-1) b (51 + u)) → (bt (-60) t 1000050) → (f ≤ t) → (t < d → lateP (s 10 (s 16 i 1).toNat 2) (s 11 (s 16 i 1).toNat) t a ∧ lateP (s 10 (s 16 i 2).toNat 2) (s 11 (s 16 i 2).toNat) (t + s 16 i 3) b ∧ u ≤ (a + 1) + (b + 1)) → (∀ v, f ≤ v → v < t → v < d → ¬ (pW s i v ↔ w = 1)) → wV G qX3_nextTick 0 0 sz M0 0 0 46 [(0, .ref (fw 16 i)), (1, .int (gI f)), (2, .int (gI d)), (3, .int (gI w)), (4, .int (gI z)), (5, .int (gI a)), (6, .int (gI b)), (7, .int (gI t)), (8, .int (gI u))] [] M (iP fun x M' => M' = M ∧ fstP (fun v => pW s i v ↔ w = 1) f d x) := by
  intro k
  induction k with
  | zero =>
    intros
    omega
  | succ k ih =>
    intro a b t u hmz hml h1 h2 h3 h4 h5 h6 h7
    have hq := hX.2.2.2.2.2.2.2.2.2.2 i hi
    have hL := hX.row (i := (s 16 i 1).toNat) (by omega)
    have hR := hX.row (i := (s 16 i 2).toNat) (by omega)
    obtain ⟨sL, sR⟩ := id hS
    have hg0 := hL.rg
    have hg1 := hR.rg
    refine v_iload dX3_nextTick_46 rfl ?_
    refine v_bipush dX3_nextTick_48 (by decide) ?_
    refine v_icmp_gt 172 dX3_nextTick_50 (by decide) (by omega) (by omega) (fun h50 => ?_) (fun h50 => ?_)
    · have htd : d ≤ t := by
        rcases (show d ≤ t ∨ t < d by omega) with h | h
        · exact h
        · have q := h6 h
          have q1 := q.1.2.1
          have q2 := q.2.1.2.1
          have q3 := q.2.2
          omega
      refine v_iloadn dX3_nextTick_172 rfl ?_
      exact v_iret dX3_nextTick_173 rfl ⟨(Nat.le_of_ble_eq_true rfl), (Nat.le_of_ble_eq_true rfl)⟩ (by omega) ⟨rfl, by
        rcases (show d ≤ f ∨ f < d by omega) with c | c
        · exact Or.inl ⟨c, rfl⟩
        · exact Or.inr ⟨c, by omega, by omega, fun q => absurd q (by omega), fun v v1 v2 => h7 v v1 (by omega) v2⟩⟩
    · refine v_iload dX3_nextTick_53 rfl ?_
      refine v_iloadn dX3_nextTick_55 rfl ?_
      refine v_icmp_ge 172 dX3_nextTick_56 (by decide) (by omega) (by omega) (fun h56 => ?_) (fun h56 => ?_)
      · have htd : d ≤ t := by
          rcases (show d ≤ t ∨ t < d by omega) with h | h
          · exact h
          · have q := h6 h
            have q1 := q.1.2.1
            have q2 := q.2.1.2.1
            have q3 := q.2.2
            omega
        refine v_iloadn dX3_nextTick_172 rfl ?_
        exact v_iret dX3_nextTick_173 rfl ⟨(Nat.le_of_ble_eq_true rfl), (Nat.le_of_ble_eq_true rfl)⟩ (by omega) ⟨rfl, by
          rcases (show d ≤ f ∨ f < d by omega) with c | c
          · exact Or.inl ⟨c, rfl⟩
          · exact Or.inr ⟨c, by omega, by omega, fun q => absurd q (by omega), fun v v1 v2 => h7 v v1 (by omega) v2⟩⟩
      · refine v_aloadn dX3_nextTick_59 rfl ?_
        refine v_get dX3_nextTick_60 gf_X3_18 (hX.2.1 16 i hi) rfl ?_
        obtain ⟨hlL, hlR, hab⟩ := h6 (by omega)
        have hA1 := hlL.2.1
        have hB1 := hlR.2.1
        refine v_iload dX3_nextTick_63 rfl ?_
        refine v_callV (tX4_valueOf hL (by omega)) lc_X3_50 ⟨(Nat.le_of_ble_eq_true rfl), (Nat.le_of_ble_eq_true rfl)⟩ dX3_nextTick_65 rfl rfl (Nat.le_of_ble_eq_true rfl) ⟨(Nat.le_of_ble_eq_true rfl), (Nat.le_of_ble_eq_true rfl)⟩ ⟨_, _, _, _, hL.1, rfl⟩ (kP fun r65 hr65 hp65 => ?_)
        refine v_aloadn dX3_nextTick_68 rfl ?_
        refine v_get dX3_nextTick_69 gf_X3_21 (hX.2.1 16 i hi) rfl ?_
        refine v_iload dX3_nextTick_72 rfl ?_
        refine v_callV (tX4_valueOf hR (by omega)) lc_X3_50 ⟨(Nat.le_of_ble_eq_true rfl), (Nat.le_of_ble_eq_true rfl)⟩ dX3_nextTick_74 rfl rfl (Nat.le_of_ble_eq_true rfl) ⟨(Nat.le_of_ble_eq_true rfl), (Nat.le_of_ble_eq_true rfl)⟩ ⟨_, _, _, _, hR.1, rfl⟩ (kP fun r74 hr74 hp74 => ?_)
        refine v_aloadn dX3_nextTick_77 rfl ?_
        refine v_get dX3_nextTick_78 gf_X3_28 (hX.2.1 16 i hi) rfl ?_
        refine v_callSN (tX6_agree hr65 hr74 (by omega)) lc_X3_53 ⟨(Nat.le_of_ble_eq_true rfl), (Nat.le_of_ble_eq_true rfl)⟩ dX3_nextTick_81 rfl rfl (Nat.le_of_ble_eq_true rfl) ⟨(Nat.le_of_ble_eq_true rfl), (Nat.le_of_ble_eq_true rfl)⟩ (kP fun r81 hr81 hp81 => ?_)
        have hvt : agF (vX s (s 16 i 1).toNat t) (vX s (s 16 i 2).toNat (t + s 16 i 3)) (s 16 i 4) = r81 := by unfold vX; rw [← atF_late sL hlL, ← atF_late sR hlR, hp81.1, hp65, hp74]
        refine v_iload dX3_nextTick_84 rfl ?_
        refine v_icmp_ne 92 dX3_nextTick_86 (by decide) (by omega) (by omega) (fun h86 => ?_) (fun h86 => ?_)
        · refine v_aloadn dX3_nextTick_92 rfl ?_
          refine v_get dX3_nextTick_93 gf_X3_18 (hX.2.1 16 i hi) rfl ?_
          refine v_iload dX3_nextTick_96 rfl ?_
          refine v_iconst dX3_nextTick_98 ?_
          refine v_iadd dX3_nextTick_99 ?_
          refine v_callV (tX4_tickOf hL (by omega)) lc_X3_57 ⟨(Nat.le_of_ble_eq_true rfl), (Nat.le_of_ble_eq_true rfl)⟩ dX3_nextTick_100 rfl rfl (Nat.le_of_ble_eq_true rfl) ⟨(Nat.le_of_ble_eq_true rfl), (Nat.le_of_ble_eq_true rfl)⟩ ⟨_, _, _, _, hL.1, rfl⟩ (kP fun r100 hr100 hp100 => ?_)
          have hb100 := tickF_rg hL.2.2.2 (a + 1)
          refine v_istore dX3_nextTick_103 (Nat.le_of_ble_eq_true rfl) ?_
          refine v_aloadn dX3_nextTick_105 rfl ?_
          refine v_get dX3_nextTick_106 gf_X3_21 (hX.2.1 16 i hi) rfl ?_
          refine v_iload dX3_nextTick_109 rfl ?_
          refine v_iconst dX3_nextTick_111 ?_
          refine v_iadd dX3_nextTick_112 ?_
          refine v_callV (tX4_tickOf hR (by omega)) lc_X3_57 ⟨(Nat.le_of_ble_eq_true rfl), (Nat.le_of_ble_eq_true rfl)⟩ dX3_nextTick_113 rfl rfl (Nat.le_of_ble_eq_true rfl) ⟨(Nat.le_of_ble_eq_true rfl), (Nat.le_of_ble_eq_true rfl)⟩ ⟨_, _, _, _, hR.1, rfl⟩ (kP fun r113 hr113 hp113 => ?_)
          have hb113 := tickF_rg hR.2.2.2 (b + 1)
          refine v_aloadn dX3_nextTick_116 rfl ?_
          refine v_get dX3_nextTick_117 gf_X3_24 (hX.2.1 16 i hi) rfl ?_
          refine v_isub dX3_nextTick_120 ?_
          refine v_istore dX3_nextTick_121 (Nat.le_of_ble_eq_true rfl) ?_
          refine v_iload dX3_nextTick_123 rfl ?_
          refine v_iload dX3_nextTick_125 rfl ?_
          refine v_min dX3_nextTick_127 lc_X3_60 (Nat.le_of_ble_eq_true rfl) (Nat.le_of_ble_eq_true rfl) ⟨(Nat.le_of_ble_eq_true rfl), (Nat.le_of_ble_eq_true rfl)⟩ (by omega) (by omega) ?_
          obtain ⟨mn, hmn⟩ : ∃ z, z = (if r113 - s 16 i 3 < r100 then r113 - s 16 i 3 else r100) := ⟨_, rfl⟩
          rw [← hmn]
          have hmn2 : bt (-60) mn 1000050 ∧ mn ≤ r100 ∧ mn ≤ r113 - s 16 i 3 ∧ (mn = r100 ∨ mn = r113 - s 16 i 3) := by rw [hmn]; split <;> omega
          have hl1 := late_lt sL (by omega) hlL
          have hl2 := late_lt sR (by omega) hlR
          have hvc : ∀ v, t ≤ v → v < mn → agF (vX s (s 16 i 1).toNat v) (vX s (s 16 i 2).toNat (v + s 16 i 3)) (s 16 i 4) = r81 := fun v v1 v2 => by
            unfold vX
            rw [← atF_late sL (late_mono sL hlL v1 (by omega)), ← atF_late sR (late_mono sR hlR (by omega) (by omega)), hp81.1, hp65, hp74]
          have hno : ∀ v, f ≤ v → v < mn → v < d → ¬ (pW s i v ↔ w = 1) := fun v v1 v2 v3 => by
            rcases (show v < t ∨ t ≤ v by omega) with c | c
            · exact h7 v v1 c v3
            · have e := hvc v c v2
              have e81 := hp81.2
              unfold pW
              rw [e]
              omega
          have hgL := late_go sL hlL (show t ≤ mn by omega) (by omega)
          have hgR := late_go (u := mn + s 16 i 3) sR hlR (by omega) (by omega)
          clear hmn hvc h7 h6
          refine v_istore dX3_nextTick_130 (Nat.le_of_ble_eq_true rfl) ?_
          refine v_iload dX3_nextTick_132 rfl ?_
          refine v_iload dX3_nextTick_134 rfl ?_
          refine v_iload dX3_nextTick_136 rfl ?_
          refine v_icmp_ne 145 dX3_nextTick_138 (by decide) (by omega) (by omega) (fun h138 => ?_) (fun h138 => ?_)
          · refine v_iconst dX3_nextTick_145 ?_
            refine v_iadd dX3_nextTick_146 ?_
            refine v_istore dX3_nextTick_147 (Nat.le_of_ble_eq_true rfl) ?_
            refine v_iload dX3_nextTick_149 rfl ?_
            refine v_iload dX3_nextTick_151 rfl ?_
            refine v_iload dX3_nextTick_153 rfl ?_
            refine v_icmp_ne 162 dX3_nextTick_155 (by decide) (by omega) (by omega) (fun h155 => ?_) (fun h155 => ?_)
            · refine v_iconst dX3_nextTick_162 ?_
              refine v_iadd dX3_nextTick_163 ?_
              refine v_istore dX3_nextTick_164 (Nat.le_of_ble_eq_true rfl) ?_
              refine v_iinc dX3_nextTick_166 rfl (Nat.le_of_ble_eq_true rfl) ?_
              refine v_goto 46 dX3_nextTick_169 (by decide) ?_
              refine wV.locs (lv' := [(0, .ref (fw 16 i)), (1, .int (gI f)), (2, .int (gI d)), (3, .int (gI w)), (4, .int (gI z)), (5, .int (gI _)), (6, .int (gI _)), (7, .int (gI _)), (8, .int (gI _))]) ⟨rfl, rfl, rfl, rfl, rfl, rfl, rfl, rfl, rfl, trivial⟩ (ih _ _ _ _ (by omega) (by omega) (by omega) (by omega) (by omega) (by omega) (by omega) (fun htd => ⟨by first | exact (hgL (by omega)).1 (by omega) | exact (hgL (by omega)).2 (by omega), by first | exact (hgR (by omega)).1 (by omega) | exact (hgR (by omega)).2 (by omega), by omega⟩) hno)
            · refine v_iconst dX3_nextTick_158 ?_
              refine v_goto 163 dX3_nextTick_159 (by decide) ?_
              refine v_iadd dX3_nextTick_163 ?_
              refine v_istore dX3_nextTick_164 (Nat.le_of_ble_eq_true rfl) ?_
              refine v_iinc dX3_nextTick_166 rfl (Nat.le_of_ble_eq_true rfl) ?_
              refine v_goto 46 dX3_nextTick_169 (by decide) ?_
              refine wV.locs (lv' := [(0, .ref (fw 16 i)), (1, .int (gI f)), (2, .int (gI d)), (3, .int (gI w)), (4, .int (gI z)), (5, .int (gI _)), (6, .int (gI _)), (7, .int (gI _)), (8, .int (gI _))]) ⟨rfl, rfl, rfl, rfl, rfl, rfl, rfl, rfl, rfl, trivial⟩ (ih _ _ _ _ (by omega) (by omega) (by omega) (by omega) (by omega) (by omega) (by omega) (fun htd => ⟨by first | exact (hgL (by omega)).1 (by omega) | exact (hgL (by omega)).2 (by omega), by first | exact (hgR (by omega)).1 (by omega) | exact (hgR (by omega)).2 (by omega), by omega⟩) hno)
          · refine v_iconst dX3_nextTick_141 ?_
            refine v_goto 146 dX3_nextTick_142 (by decide) ?_
            refine v_iadd dX3_nextTick_146 ?_
            refine v_istore dX3_nextTick_147 (Nat.le_of_ble_eq_true rfl) ?_
            refine v_iload dX3_nextTick_149 rfl ?_
            refine v_iload dX3_nextTick_151 rfl ?_
            refine v_iload dX3_nextTick_153 rfl ?_
            refine v_icmp_ne 162 dX3_nextTick_155 (by decide) (by omega) (by omega) (fun h155 => ?_) (fun h155 => ?_)
            · refine v_iconst dX3_nextTick_162 ?_
              refine v_iadd dX3_nextTick_163 ?_
              refine v_istore dX3_nextTick_164 (Nat.le_of_ble_eq_true rfl) ?_
              refine v_iinc dX3_nextTick_166 rfl (Nat.le_of_ble_eq_true rfl) ?_
              refine v_goto 46 dX3_nextTick_169 (by decide) ?_
              refine wV.locs (lv' := [(0, .ref (fw 16 i)), (1, .int (gI f)), (2, .int (gI d)), (3, .int (gI w)), (4, .int (gI z)), (5, .int (gI _)), (6, .int (gI _)), (7, .int (gI _)), (8, .int (gI _))]) ⟨rfl, rfl, rfl, rfl, rfl, rfl, rfl, rfl, rfl, trivial⟩ (ih _ _ _ _ (by omega) (by omega) (by omega) (by omega) (by omega) (by omega) (by omega) (fun htd => ⟨by first | exact (hgL (by omega)).1 (by omega) | exact (hgL (by omega)).2 (by omega), by first | exact (hgR (by omega)).1 (by omega) | exact (hgR (by omega)).2 (by omega), by omega⟩) hno)
            · refine v_iconst dX3_nextTick_158 ?_
              refine v_goto 163 dX3_nextTick_159 (by decide) ?_
              refine v_iadd dX3_nextTick_163 ?_
              refine v_istore dX3_nextTick_164 (Nat.le_of_ble_eq_true rfl) ?_
              refine v_iinc dX3_nextTick_166 rfl (Nat.le_of_ble_eq_true rfl) ?_
              refine v_goto 46 dX3_nextTick_169 (by decide) ?_
              refine wV.locs (lv' := [(0, .ref (fw 16 i)), (1, .int (gI f)), (2, .int (gI d)), (3, .int (gI w)), (4, .int (gI z)), (5, .int (gI _)), (6, .int (gI _)), (7, .int (gI _)), (8, .int (gI _))]) ⟨rfl, rfl, rfl, rfl, rfl, rfl, rfl, rfl, rfl, trivial⟩ (ih _ _ _ _ (by omega) (by omega) (by omega) (by omega) (by omega) (by omega) (by omega) (fun htd => ⟨by first | exact (hgL (by omega)).1 (by omega) | exact (hgL (by omega)).2 (by omega), by first | exact (hgR (by omega)).1 (by omega) | exact (hgR (by omega)).2 (by omega), by omega⟩) hno)
        · refine v_iload dX3_nextTick_89 rfl ?_
          exact v_iret dX3_nextTick_91 rfl ⟨(Nat.le_of_ble_eq_true rfl), (Nat.le_of_ble_eq_true rfl)⟩ (by omega) ⟨rfl, Or.inr ⟨by omega, h5, by omega, fun _ => by have e81 := hp81.2; show pW s i t ↔ w = 1; unfold pW; rw [hvt]; omega, fun v v1 v2 => h7 v v1 v2 (by omega)⟩⟩
set_option maxHeartbeats 4000000 in
set_option maxRecDepth 100000 in
theorem fX3_nextTick {G : gG} {fw : Nat → Nat → Nat} {s : sG} {M : wM} (hX : wX G fw s M) {i : Nat} (hi : i < 11) (hS : pS s i) {f d w : Int} (hf : bt (-60) f 4000) (hd : bt (-60) d 4000) (hw : bt 0 w 1) : wT G qX3_nextTick 0 0 [.ref (fw 16 i), .int (gI f), .int (gI d), .int (gI w)] M (iP fun x M' => M' = M ∧ fstP (fun v => pW s i v ↔ w = 1) f d x) := by
  refine wT.intro (by decide) (Nat.le_of_ble_eq_true rfl) (fun sz => ?_)
  have hq := hX.2.2.2.2.2.2.2.2.2.2 i hi
  have hL := hX.row (i := (s 16 i 1).toNat) (by omega)
  have hR := hX.row (i := (s 16 i 2).toNat) (by omega)
  obtain ⟨sL, sR⟩ := id hS
  have hg0 := hL.rg
  have hg1 := hR.rg
  refine v_aloadn dX3_nextTick_0 rfl ?_
  refine v_get dX3_nextTick_1 gf_X3_32 (hX.2.1 16 i hi) rfl ?_
  refine v_iloadn dX3_nextTick_4 rfl ?_
  refine v_icmp_ne 12 dX3_nextTick_5 (by decide) (by omega) (by omega) (fun h5 => ?_) (fun h5 => ?_)
  · refine v_iconst dX3_nextTick_12 ?_
    refine v_istore dX3_nextTick_13 (Nat.le_of_ble_eq_true rfl) ?_
    refine v_aloadn dX3_nextTick_15 rfl ?_
    refine v_get dX3_nextTick_16 gf_X3_18 (hX.2.1 16 i hi) rfl ?_
    refine v_iloadn dX3_nextTick_19 rfl ?_
    refine v_callV (tX4_latest hL (by omega)) lc_X3_46 ⟨(Nat.le_of_ble_eq_true rfl), (Nat.le_of_ble_eq_true rfl)⟩ dX3_nextTick_20 rfl rfl (Nat.le_of_ble_eq_true rfl) ⟨(Nat.le_of_ble_eq_true rfl), (Nat.le_of_ble_eq_true rfl)⟩ ⟨_, _, _, _, hL.1, rfl⟩ (kP fun r20 hr20 hp20 => ?_)
    have hq20 := And.intro hp20.1 hp20.2.1
    refine v_istore dX3_nextTick_23 (Nat.le_of_ble_eq_true rfl) ?_
    refine v_aloadn dX3_nextTick_25 rfl ?_
    refine v_get dX3_nextTick_26 gf_X3_21 (hX.2.1 16 i hi) rfl ?_
    refine v_iloadn dX3_nextTick_29 rfl ?_
    refine v_aloadn dX3_nextTick_30 rfl ?_
    refine v_get dX3_nextTick_31 gf_X3_24 (hX.2.1 16 i hi) rfl ?_
    refine v_iadd dX3_nextTick_34 ?_
    refine v_callV (tX4_latest hR (by omega)) lc_X3_46 ⟨(Nat.le_of_ble_eq_true rfl), (Nat.le_of_ble_eq_true rfl)⟩ dX3_nextTick_35 rfl rfl (Nat.le_of_ble_eq_true rfl) ⟨(Nat.le_of_ble_eq_true rfl), (Nat.le_of_ble_eq_true rfl)⟩ ⟨_, _, _, _, hR.1, rfl⟩ (kP fun r35 hr35 hp35 => ?_)
    have hq35 := And.intro hp35.1 hp35.2.1
    refine v_istore dX3_nextTick_38 (Nat.le_of_ble_eq_true rfl) ?_
    refine v_iloadn dX3_nextTick_40 rfl ?_
    refine v_istore dX3_nextTick_41 (Nat.le_of_ble_eq_true rfl) ?_
    refine v_iconst dX3_nextTick_43 ?_
    refine v_istore dX3_nextTick_44 (Nat.le_of_ble_eq_true rfl) ?_
    refine wV.locs (lv' := [(0, .ref (fw 16 i)), (1, .int (gI f)), (2, .int (gI d)), (3, .int (gI w)), (4, .int (gI _)), (5, .int (gI (r20))), (6, .int (gI (r35))), (7, .int (gI (f))), (8, .int (gI (0)))]) ⟨rfl, rfl, rfl, rfl, rfl, rfl, rfl, rfl, rfl, trivial⟩ (fX3_nextTick_loop hX hi hS hf hd hw (by omega) 110 _ _ _ _ (by omega) (by omega) (by omega) (by omega) (by omega) (by omega) (by omega) (fun _ => ⟨hp20, hp35, by omega⟩) (fun v v1 v2 => by omega))
  · refine v_iconst dX3_nextTick_8 ?_
    refine v_goto 13 dX3_nextTick_9 (by decide) ?_
    refine v_istore dX3_nextTick_13 (Nat.le_of_ble_eq_true rfl) ?_
    refine v_aloadn dX3_nextTick_15 rfl ?_
    refine v_get dX3_nextTick_16 gf_X3_18 (hX.2.1 16 i hi) rfl ?_
    refine v_iloadn dX3_nextTick_19 rfl ?_
    refine v_callV (tX4_latest hL (by omega)) lc_X3_46 ⟨(Nat.le_of_ble_eq_true rfl), (Nat.le_of_ble_eq_true rfl)⟩ dX3_nextTick_20 rfl rfl (Nat.le_of_ble_eq_true rfl) ⟨(Nat.le_of_ble_eq_true rfl), (Nat.le_of_ble_eq_true rfl)⟩ ⟨_, _, _, _, hL.1, rfl⟩ (kP fun r20 hr20 hp20 => ?_)
    have hq20 := And.intro hp20.1 hp20.2.1
    refine v_istore dX3_nextTick_23 (Nat.le_of_ble_eq_true rfl) ?_
    refine v_aloadn dX3_nextTick_25 rfl ?_
    refine v_get dX3_nextTick_26 gf_X3_21 (hX.2.1 16 i hi) rfl ?_
    refine v_iloadn dX3_nextTick_29 rfl ?_
    refine v_aloadn dX3_nextTick_30 rfl ?_
    refine v_get dX3_nextTick_31 gf_X3_24 (hX.2.1 16 i hi) rfl ?_
    refine v_iadd dX3_nextTick_34 ?_
    refine v_callV (tX4_latest hR (by omega)) lc_X3_46 ⟨(Nat.le_of_ble_eq_true rfl), (Nat.le_of_ble_eq_true rfl)⟩ dX3_nextTick_35 rfl rfl (Nat.le_of_ble_eq_true rfl) ⟨(Nat.le_of_ble_eq_true rfl), (Nat.le_of_ble_eq_true rfl)⟩ ⟨_, _, _, _, hR.1, rfl⟩ (kP fun r35 hr35 hp35 => ?_)
    have hq35 := And.intro hp35.1 hp35.2.1
    refine v_istore dX3_nextTick_38 (Nat.le_of_ble_eq_true rfl) ?_
    refine v_iloadn dX3_nextTick_40 rfl ?_
    refine v_istore dX3_nextTick_41 (Nat.le_of_ble_eq_true rfl) ?_
    refine v_iconst dX3_nextTick_43 ?_
    refine v_istore dX3_nextTick_44 (Nat.le_of_ble_eq_true rfl) ?_
    refine wV.locs (lv' := [(0, .ref (fw 16 i)), (1, .int (gI f)), (2, .int (gI d)), (3, .int (gI w)), (4, .int (gI _)), (5, .int (gI (r20))), (6, .int (gI (r35))), (7, .int (gI (f))), (8, .int (gI (0)))]) ⟨rfl, rfl, rfl, rfl, rfl, rfl, rfl, rfl, rfl, trivial⟩ (fX3_nextTick_loop hX hi hS hf hd hw (by omega) 110 _ _ _ _ (by omega) (by omega) (by omega) (by omega) (by omega) (by omega) (by omega) (fun _ => ⟨hp20, hp35, by omega⟩) (fun v v1 v2 => by omega))
