def hoX (s : sG) (a b c d e t : Int) : Prop := vX s (rix a b) t = c ∧ (b ≠ d → vX s (rix a d) t ≠ e)
set_option maxHeartbeats 4000000 in
set_option maxRecDepth 100000 in
theorem fX6_holds {G : gG} {fw : Nat → Nat → Nat} {si : sG} {Mi : wM} (hsO : sOK si) (hX : wX G fw si Mi) {a b c d e f g h : Int} (ha : rng a) (hb : rng b) (hc : rng c) (hd : rng d) (he : rng e) (hf : rng f) (hg : rng g) (hh : rng h) : wT G qX6_holds 0 0 [.ref (fw 0 0), .int (gI a), .int (gI b), .int (gI c), .int (gI d), .int (gI e), .int (gI f), .int (gI g), .int (gI h)] Mi (PX G fw Mi (fun x s' => keepX si s' ∧ ((¬ (bt 0 a 1 ∧ bt 0 b 11 ∧ bt 0 c 256 ∧ bt 0 d 11 ∧ bt 0 e 256 ∧ bt 1 f 4000 ∧ -1 ≤ g ∧ bt 0 h 1) ∧ x = -1) ∨ ((bt 0 a 1 ∧ bt 0 b 11 ∧ bt 0 c 256 ∧ bt 0 d 11 ∧ bt 0 e 256 ∧ bt 1 f 4000 ∧ -1 ≤ g ∧ bt 0 h 1) ∧ hoP (hoX si a b c d e) f (si 0 0 9) g h x)))) := by
  refine wT.intro (by decide) (Nat.le_of_ble_eq_true rfl) (fun sz => ?_)
  have hO : wO cntX fw Mi Mi := wO.rf
  have hK : keepX si si := keepX.rf
  refine v_iloadn dX6_holds_0 rfl ?_
  refine v_iloadn dX6_holds_1 rfl ?_
  refine v_callS (tX6_isNoRow (by omega) (by omega)) lc_X6_65 ⟨(Nat.le_of_ble_eq_true rfl), (Nat.le_of_ble_eq_true rfl)⟩ dX6_holds_2 rfl rfl (Nat.le_of_ble_eq_true rfl) ⟨(Nat.le_of_ble_eq_true rfl), (Nat.le_of_ble_eq_true rfl)⟩ (kP fun r2 hr2 hp2 => ?_)
  refine v_if_ne 31 dX6_holds_5 (by decide) (by omega) (fun h5 => ?_) (fun h5 => ?_)
  · refine v_iconst dX6_holds_31 ?_
    exact v_iret dX6_holds_32 rfl ⟨(Nat.le_of_ble_eq_true rfl), (Nat.le_of_ble_eq_true rfl)⟩ (by omega) ⟨si, hX, hO, hK, Or.inl ⟨by omega, by omega⟩⟩
  · refine v_iloadn dX6_holds_8 rfl ?_
    refine v_callS (tX6_isNoValue (by omega)) lc_X6_73 ⟨(Nat.le_of_ble_eq_true rfl), (Nat.le_of_ble_eq_true rfl)⟩ dX6_holds_9 rfl rfl (Nat.le_of_ble_eq_true rfl) ⟨(Nat.le_of_ble_eq_true rfl), (Nat.le_of_ble_eq_true rfl)⟩ (kP fun r9 hr9 hp9 => ?_)
    refine v_if_ne 31 dX6_holds_12 (by decide) (by omega) (fun h12 => ?_) (fun h12 => ?_)
    · refine v_iconst dX6_holds_31 ?_
      exact v_iret dX6_holds_32 rfl ⟨(Nat.le_of_ble_eq_true rfl), (Nat.le_of_ble_eq_true rfl)⟩ (by omega) ⟨si, hX, hO, hK, Or.inl ⟨by omega, by omega⟩⟩
    · refine v_iload dX6_holds_15 rfl ?_
      refine v_callS (tX6_isNoSignal (by omega)) lc_X6_117 ⟨(Nat.le_of_ble_eq_true rfl), (Nat.le_of_ble_eq_true rfl)⟩ dX6_holds_17 rfl rfl (Nat.le_of_ble_eq_true rfl) ⟨(Nat.le_of_ble_eq_true rfl), (Nat.le_of_ble_eq_true rfl)⟩ (kP fun r17 hr17 hp17 => ?_)
      refine v_if_ne 31 dX6_holds_20 (by decide) (by omega) (fun h20 => ?_) (fun h20 => ?_)
      · refine v_iconst dX6_holds_31 ?_
        exact v_iret dX6_holds_32 rfl ⟨(Nat.le_of_ble_eq_true rfl), (Nat.le_of_ble_eq_true rfl)⟩ (by omega) ⟨si, hX, hO, hK, Or.inl ⟨by omega, by omega⟩⟩
      · refine v_iload dX6_holds_23 rfl ?_
        refine v_callS (tX6_isNoValue (by omega)) lc_X6_73 ⟨(Nat.le_of_ble_eq_true rfl), (Nat.le_of_ble_eq_true rfl)⟩ dX6_holds_25 rfl rfl (Nat.le_of_ble_eq_true rfl) ⟨(Nat.le_of_ble_eq_true rfl), (Nat.le_of_ble_eq_true rfl)⟩ (kP fun r25 hr25 hp25 => ?_)
        refine v_if_eq 33 dX6_holds_28 (by decide) (by omega) (fun h28 => ?_) (fun h28 => ?_)
        · refine v_iload dX6_holds_33 rfl ?_
          refine v_iconst dX6_holds_35 ?_
          refine v_sipush dX6_holds_36 (by decide) ?_
          refine v_callS (tX6_outside (by omega) (by omega) (by omega)) lc_X6_69 ⟨(Nat.le_of_ble_eq_true rfl), (Nat.le_of_ble_eq_true rfl)⟩ dX6_holds_39 rfl rfl (Nat.le_of_ble_eq_true rfl) ⟨(Nat.le_of_ble_eq_true rfl), (Nat.le_of_ble_eq_true rfl)⟩ (kP fun r39 hr39 hp39 => ?_)
          refine v_if_ne 61 dX6_holds_42 (by decide) (by omega) (fun h42 => ?_) (fun h42 => ?_)
          · refine v_iconst dX6_holds_61 ?_
            exact v_iret dX6_holds_62 rfl ⟨(Nat.le_of_ble_eq_true rfl), (Nat.le_of_ble_eq_true rfl)⟩ (by omega) ⟨si, hX, hO, hK, Or.inl ⟨by omega, by omega⟩⟩
          · refine v_iload dX6_holds_45 rfl ?_
            refine v_iconst dX6_holds_47 ?_
            refine v_icmp_lt 61 dX6_holds_48 (by decide) (by omega) (by omega) (fun h48 => ?_) (fun h48 => ?_)
            · refine v_iconst dX6_holds_61 ?_
              exact v_iret dX6_holds_62 rfl ⟨(Nat.le_of_ble_eq_true rfl), (Nat.le_of_ble_eq_true rfl)⟩ (by omega) ⟨si, hX, hO, hK, Or.inl ⟨by omega, by omega⟩⟩
            · refine v_iload dX6_holds_51 rfl ?_
              refine v_iconst dX6_holds_53 ?_
              refine v_iconst dX6_holds_54 ?_
              refine v_callS (tX6_outside (by omega) (by omega) (by omega)) lc_X6_69 ⟨(Nat.le_of_ble_eq_true rfl), (Nat.le_of_ble_eq_true rfl)⟩ dX6_holds_55 rfl rfl (Nat.le_of_ble_eq_true rfl) ⟨(Nat.le_of_ble_eq_true rfl), (Nat.le_of_ble_eq_true rfl)⟩ (kP fun r55 hr55 hp55 => ?_)
              refine v_if_eq 63 dX6_holds_58 (by decide) (by omega) (fun h58 => ?_) (fun h58 => ?_)
              · refine v_aloadn dX6_holds_63 rfl ?_
                refine v_get dX6_holds_64 gf_X6_46 (hX.2.1 0 0 (by decide)) rfl ?_
                refine v_callV (tX5_clear hX) lc_X6_147 ⟨(Nat.le_of_ble_eq_true rfl), (Nat.le_of_ble_eq_true rfl)⟩ dX6_holds_67 rfl rfl (Nat.le_of_ble_eq_true rfl) ⟨(Nat.le_of_ble_eq_true rfl), (Nat.le_of_ble_eq_true rfl)⟩ ⟨_, _, _, _, hX.2.1 8 0 (by decide), rfl⟩ (kV fun M67 hp67 => ?_)
                obtain ⟨s67, hX, hO67, hs67⟩ := hp67
                have hO := hO.tr hO67
                have hSD67 : SD s67 (fun _ => True) := by rw [hs67]; exact SD_clear
                have hK : keepX si s67 := hK.tr (by rw [hs67]; exact keepX_8)
                have hK67 := hK
                have e67 : s67 8 0 1 = 0 := by rw [hs67, ups_at]; rfl
                have h0 := hX.2.2.1
                have hnm := hX.2.2.2.1
                have hsh := hX.2.2.2.2.1
                have h8 := hX.2.2.2.2.2.1
                refine v_aloadn dX6_holds_70 rfl ?_
                refine v_get dX6_holds_71 gf_X6_46 (hX.2.1 0 0 (by decide)) rfl ?_
                refine v_callV (tX5_take hX) lc_X6_150 ⟨(Nat.le_of_ble_eq_true rfl), (Nat.le_of_ble_eq_true rfl)⟩ dX6_holds_74 rfl rfl (Nat.le_of_ble_eq_true rfl) ⟨(Nat.le_of_ble_eq_true rfl), (Nat.le_of_ble_eq_true rfl)⟩ ⟨_, _, _, _, hX.2.1 8 0 (by decide), rfl⟩ (kR fun r74 M74 hp74 => ?_)
                obtain ⟨s74, j74, hj74, rfl, hX, hO74, hjv74, hs74⟩ := hp74
                have hO := hO.tr hO74
                have hjv74 := take_j hjv74 (by omega)
                have hK : keepX si s74 := hK.tr (by rw [hs74]; exact keepX_8)
                have h0 := hX.2.2.1
                have hnm := hX.2.2.2.1
                have hsh := hX.2.2.2.2.1
                have h8 := hX.2.2.2.2.2.1
                refine v_aloadn dX6_holds_77 rfl ?_
                refine v_iloadn dX6_holds_78 rfl ?_
                refine v_iloadn dX6_holds_79 rfl ?_
                refine v_callV (tX6_rowOf hX (by omega) (by omega)) lc_X6_77 ⟨(Nat.le_of_ble_eq_true rfl), (Nat.le_of_ble_eq_true rfl)⟩ dX6_holds_80 rfl rfl (Nat.le_of_ble_eq_true rfl) ⟨(Nat.le_of_ble_eq_true rfl), (Nat.le_of_ble_eq_true rfl)⟩ ⟨_, _, _, _, (hX.2.1 0 0 (by decide)), rfl⟩ (kRp fun r80 hp80 => ?_)
                subst hp80
                refine v_iloadn dX6_holds_83 rfl ?_
                refine v_callV (fX3_wantValue hX (by omega) (by omega) (by omega)) lc_X6_251 ⟨(Nat.le_of_ble_eq_true rfl), (Nat.le_of_ble_eq_true rfl)⟩ dX6_holds_84 rfl rfl (Nat.le_of_ble_eq_true rfl) ⟨(Nat.le_of_ble_eq_true rfl), (Nat.le_of_ble_eq_true rfl)⟩ ⟨_, _, _, _, hX.2.1 16 _ (by simp [cntX]; omega), rfl⟩ (kV fun M84 hp84 => ?_)
                obtain ⟨s84, hX, hO84, hs84⟩ := hp84
                have hO := hO.tr hO84
                have hSD := SD_val (m := j74) (j := (a * 12 + b).toNat) (v := c) (q := 1) hSD67 hjv74 (by omega) (hK67.s (by omega) (hsO.1 _ (by omega))) (by omega)
                rw [← hs74, ← hs84] at hSD
                have e84 : s84 8 0 1 = 1 := by rw [hs84, wvS_o _ _ _ _ (by omega) (by omega), hs74, ups_at]; show (j74 : Int) + 1 = 1; omega
                have hK : keepX si s84 := hK.tr (by rw [hs84]; exact keepX_wv)
                have hK84 := hK
                have hSD : SD s84 (fun t => vX si (rix a b) t = c) := hSD.iff (fun t ht => by
                  rw [hK67.v (by omega)]
                  exact ⟨fun z => z.2.mpr rfl, fun z => ⟨trivial, fun _ => rfl, fun _ => z⟩⟩)
                clear hs84 hs74 hs67
                have h0 := hX.2.2.1
                have hnm := hX.2.2.2.1
                have hsh := hX.2.2.2.2.1
                have h8 := hX.2.2.2.2.2.1
                refine v_iload dX6_holds_87 rfl ?_
                refine v_iloadn dX6_holds_89 rfl ?_
                refine v_icmp_eq 112 dX6_holds_90 (by decide) (by omega) (by omega) (fun h90 => ?_) (fun h90 => ?_)
                · refine v_iload dX6_holds_112 rfl ?_
                  have hSD : SD s84 (hoX si a b c d e) := by first | exact hSD | exact hSD.iff (fun t ht => ⟨fun z => ⟨z, fun y => absurd (by omega) y⟩, fun z => z.1⟩)
                  have q9 : s84 0 0 9 = si 0 0 9 := by rw [hK 0 0 (by unfold scrX; omega)]
                  refine v_iconst dX6_holds_114 ?_
                  refine v_icmp_ne 132 dX6_holds_115 (by decide) (by omega) (by omega) (fun h115 => ?_) (fun h115 => ?_)
                  · refine v_aloadn dX6_holds_132 rfl ?_
                    refine v_get dX6_holds_133 gf_X6_46 (hX.2.1 0 0 (by decide)) rfl ?_
                    refine v_iload dX6_holds_136 rfl ?_
                    refine v_iload dX6_holds_138 rfl ?_
                    refine v_aloadn dX6_holds_140 rfl ?_
                    refine v_get dX6_holds_141 gf_X6_54 (hX.2.1 0 0 (by decide)) rfl ?_
                    refine v_callV (fX5_find hX hSD.1 (by omega) (by omega) (by omega)) lc_X6_135 ⟨(Nat.le_of_ble_eq_true rfl), (Nat.le_of_ble_eq_true rfl)⟩ dX6_holds_144 rfl rfl (Nat.le_of_ble_eq_true rfl) ⟨(Nat.le_of_ble_eq_true rfl), (Nat.le_of_ble_eq_true rfl)⟩ ⟨_, _, _, _, hX.2.1 8 0 (by decide), rfl⟩ (kI fun r144 M144 hr144 hp144 => ?_)
                    obtain ⟨s144, hX, hO144, hE144, e1, hz144⟩ := hp144
                    have hO := hO.tr hO144
                    have hK : keepX si s144 := hK.tr (fun k i' hq => by rw [hE144 k (fun z => hq (Or.inl z))])
                    rw [hSD.c _ _ _ (Int.le_refl _), q9] at hz144
                    have hb144 : r144 = 0 ∨ r144 = 1 := hz144.elim (fun z => Or.inr z.1) (fun z => Or.inl z.1)
                    have hsp : r144 ≠ 0 → spP (hoX si a b c d e) f (si 0 0 9) g (s144 8 0 3) (s144 8 0 4) := fun q => hz144.elim (fun z => hSD.sp z.2) (fun z => absurd z.1 q)
                    have hno : r144 = 0 → cS (hoX si a b c d e) f (si 0 0 9) (si 0 0 9) ≤ g := fun q => hz144.elim (fun z => absurd z.1 (by omega)) (fun z => z.2.2 (by omega))
                    clear hz144
                    have h0 := hX.2.2.1
                    have hnm := hX.2.2.2.1
                    have hsh := hX.2.2.2.2.1
                    have h8 := hX.2.2.2.2.2.1
                    refine v_if_eq 162 dX6_holds_147 (by decide) (by omega) (fun h147 => ?_) (fun h147 => ?_)
                    · refine v_bipush dX6_holds_162 (by decide) ?_
                      exact v_iret dX6_holds_164 rfl ⟨(Nat.le_of_ble_eq_true rfl), (Nat.le_of_ble_eq_true rfl)⟩ (by omega) (by first | exact ⟨_, hX, hO, hK, Or.inr ⟨by omega, Or.inr ⟨by omega, Or.inl ⟨hno (by omega), rfl⟩⟩⟩⟩ | exact ⟨_, hX, hO, hK, Or.inr ⟨by omega, Or.inr ⟨by omega, Or.inr ⟨_, _, hsp (by omega), hp156⟩⟩⟩⟩)
                    · refine v_aloadn dX6_holds_150 rfl ?_
                      refine v_get dX6_holds_151 gf_X6_46 (hX.2.1 0 0 (by decide)) rfl ?_
                      refine v_iload dX6_holds_154 rfl ?_
                      refine v_callV (tX5_edgeFound hX (by omega)) lc_X6_138 ⟨(Nat.le_of_ble_eq_true rfl), (Nat.le_of_ble_eq_true rfl)⟩ dX6_holds_156 rfl rfl (Nat.le_of_ble_eq_true rfl) ⟨(Nat.le_of_ble_eq_true rfl), (Nat.le_of_ble_eq_true rfl)⟩ ⟨_, _, _, _, hX.2.1 8 0 (by decide), rfl⟩ (kP fun r156 hr156 hp156 => ?_)
                      refine v_goto 164 dX6_holds_159 (by decide) ?_
                      exact v_iret dX6_holds_164 rfl ⟨(Nat.le_of_ble_eq_true rfl), (Nat.le_of_ble_eq_true rfl)⟩ (by omega) (by first | exact ⟨_, hX, hO, hK, Or.inr ⟨by omega, Or.inr ⟨by omega, Or.inl ⟨hno (by omega), rfl⟩⟩⟩⟩ | exact ⟨_, hX, hO, hK, Or.inr ⟨by omega, Or.inr ⟨by omega, Or.inr ⟨_, _, hsp (by omega), hp156⟩⟩⟩⟩)
                  · refine v_aloadn dX6_holds_118 rfl ?_
                    refine v_get dX6_holds_119 gf_X6_46 (hX.2.1 0 0 (by decide)) rfl ?_
                    refine v_iload dX6_holds_122 rfl ?_
                    refine v_aloadn dX6_holds_124 rfl ?_
                    refine v_get dX6_holds_125 gf_X6_54 (hX.2.1 0 0 (by decide)) rfl ?_
                    refine v_callV (fX5_howMany hX hSD.1 (by omega) (by omega)) lc_X6_131 ⟨(Nat.le_of_ble_eq_true rfl), (Nat.le_of_ble_eq_true rfl)⟩ dX6_holds_128 rfl rfl (Nat.le_of_ble_eq_true rfl) ⟨(Nat.le_of_ble_eq_true rfl), (Nat.le_of_ble_eq_true rfl)⟩ ⟨_, _, _, _, hX.2.1 8 0 (by decide), rfl⟩ (kI fun r128 M128 hr128 hp128 => ?_)
                    obtain ⟨hc128, s128, hX, hO128, hK128⟩ := hp128
                    have hO := hO.tr hO128
                    have hK := hK.tr hK128
                    rw [hSD.c _ _ _ (Int.le_refl _), q9] at hc128
                    exact v_iret dX6_holds_131 rfl ⟨(Nat.le_of_ble_eq_true rfl), (Nat.le_of_ble_eq_true rfl)⟩ (by omega) ⟨_, hX, hO, hK, Or.inr ⟨by omega, Or.inl ⟨by omega, hc128⟩⟩⟩
                · refine v_aloadn dX6_holds_93 rfl ?_
                  refine v_get dX6_holds_94 gf_X6_46 (hX.2.1 0 0 (by decide)) rfl ?_
                  refine v_callV (tX5_take hX) lc_X6_150 ⟨(Nat.le_of_ble_eq_true rfl), (Nat.le_of_ble_eq_true rfl)⟩ dX6_holds_97 rfl rfl (Nat.le_of_ble_eq_true rfl) ⟨(Nat.le_of_ble_eq_true rfl), (Nat.le_of_ble_eq_true rfl)⟩ ⟨_, _, _, _, hX.2.1 8 0 (by decide), rfl⟩ (kR fun r97 M97 hp97 => ?_)
                  obtain ⟨s97, j97, hj97, rfl, hX, hO97, hjv97, hs97⟩ := hp97
                  have hO := hO.tr hO97
                  have hjv97 := take_j hjv97 (by omega)
                  have hK : keepX si s97 := hK.tr (by rw [hs97]; exact keepX_8)
                  have h0 := hX.2.2.1
                  have hnm := hX.2.2.2.1
                  have hsh := hX.2.2.2.2.1
                  have h8 := hX.2.2.2.2.2.1
                  refine v_aloadn dX6_holds_100 rfl ?_
                  refine v_iloadn dX6_holds_101 rfl ?_
                  refine v_iload dX6_holds_102 rfl ?_
                  refine v_callV (tX6_rowOf hX (by omega) (by omega)) lc_X6_77 ⟨(Nat.le_of_ble_eq_true rfl), (Nat.le_of_ble_eq_true rfl)⟩ dX6_holds_104 rfl rfl (Nat.le_of_ble_eq_true rfl) ⟨(Nat.le_of_ble_eq_true rfl), (Nat.le_of_ble_eq_true rfl)⟩ ⟨_, _, _, _, (hX.2.1 0 0 (by decide)), rfl⟩ (kRp fun r104 hp104 => ?_)
                  subst hp104
                  refine v_iload dX6_holds_107 rfl ?_
                  refine v_callV (fX3_wantValueNot hX (by omega) (by omega) (by omega)) lc_X6_173 ⟨(Nat.le_of_ble_eq_true rfl), (Nat.le_of_ble_eq_true rfl)⟩ dX6_holds_109 rfl rfl (Nat.le_of_ble_eq_true rfl) ⟨(Nat.le_of_ble_eq_true rfl), (Nat.le_of_ble_eq_true rfl)⟩ ⟨_, _, _, _, hX.2.1 16 _ (by simp [cntX]; omega), rfl⟩ (kV fun M109 hp109 => ?_)
                  obtain ⟨s109, hX, hO109, hs109⟩ := hp109
                  have hO := hO.tr hO109
                  have hSD2 := SD_val (m := j97) (j := (a * 12 + d).toNat) (v := e) (q := 0) hSD hjv97 (by omega) (hK84.s (by omega) (hsO.1 _ (by omega))) (by omega)
                  rw [← hs97, ← hs109] at hSD2
                  have hK : keepX si s109 := hK.tr (by rw [hs109]; exact keepX_wv)
                  have hSD : SD s109 (hoX si a b c d e) := hSD2.iff (fun t ht => by
                    rw [hK84.v (by omega)]
                    exact ⟨fun z => ⟨z.1, fun _ y => absurd (z.2.mp y) (by decide)⟩, fun z => ⟨z.1, fun y => absurd y (z.2 (by omega)), fun y => absurd y (by decide)⟩⟩)
                  clear hs109 hs97
                  have h0 := hX.2.2.1
                  have hnm := hX.2.2.2.1
                  have hsh := hX.2.2.2.2.1
                  have h8 := hX.2.2.2.2.2.1
                  refine v_iload dX6_holds_112 rfl ?_
                  have hSD : SD s109 (hoX si a b c d e) := by first | exact hSD | exact hSD.iff (fun t ht => ⟨fun z => ⟨z, fun y => absurd (by omega) y⟩, fun z => z.1⟩)
                  have q9 : s109 0 0 9 = si 0 0 9 := by rw [hK 0 0 (by unfold scrX; omega)]
                  refine v_iconst dX6_holds_114 ?_
                  refine v_icmp_ne 132 dX6_holds_115 (by decide) (by omega) (by omega) (fun h115 => ?_) (fun h115 => ?_)
                  · refine v_aloadn dX6_holds_132 rfl ?_
                    refine v_get dX6_holds_133 gf_X6_46 (hX.2.1 0 0 (by decide)) rfl ?_
                    refine v_iload dX6_holds_136 rfl ?_
                    refine v_iload dX6_holds_138 rfl ?_
                    refine v_aloadn dX6_holds_140 rfl ?_
                    refine v_get dX6_holds_141 gf_X6_54 (hX.2.1 0 0 (by decide)) rfl ?_
                    refine v_callV (fX5_find hX hSD.1 (by omega) (by omega) (by omega)) lc_X6_135 ⟨(Nat.le_of_ble_eq_true rfl), (Nat.le_of_ble_eq_true rfl)⟩ dX6_holds_144 rfl rfl (Nat.le_of_ble_eq_true rfl) ⟨(Nat.le_of_ble_eq_true rfl), (Nat.le_of_ble_eq_true rfl)⟩ ⟨_, _, _, _, hX.2.1 8 0 (by decide), rfl⟩ (kI fun r144 M144 hr144 hp144 => ?_)
                    obtain ⟨s144, hX, hO144, hE144, e1, hz144⟩ := hp144
                    have hO := hO.tr hO144
                    have hK : keepX si s144 := hK.tr (fun k i' hq => by rw [hE144 k (fun z => hq (Or.inl z))])
                    rw [hSD.c _ _ _ (Int.le_refl _), q9] at hz144
                    have hb144 : r144 = 0 ∨ r144 = 1 := hz144.elim (fun z => Or.inr z.1) (fun z => Or.inl z.1)
                    have hsp : r144 ≠ 0 → spP (hoX si a b c d e) f (si 0 0 9) g (s144 8 0 3) (s144 8 0 4) := fun q => hz144.elim (fun z => hSD.sp z.2) (fun z => absurd z.1 q)
                    have hno : r144 = 0 → cS (hoX si a b c d e) f (si 0 0 9) (si 0 0 9) ≤ g := fun q => hz144.elim (fun z => absurd z.1 (by omega)) (fun z => z.2.2 (by omega))
                    clear hz144
                    have h0 := hX.2.2.1
                    have hnm := hX.2.2.2.1
                    have hsh := hX.2.2.2.2.1
                    have h8 := hX.2.2.2.2.2.1
                    refine v_if_eq 162 dX6_holds_147 (by decide) (by omega) (fun h147 => ?_) (fun h147 => ?_)
                    · refine v_bipush dX6_holds_162 (by decide) ?_
                      exact v_iret dX6_holds_164 rfl ⟨(Nat.le_of_ble_eq_true rfl), (Nat.le_of_ble_eq_true rfl)⟩ (by omega) (by first | exact ⟨_, hX, hO, hK, Or.inr ⟨by omega, Or.inr ⟨by omega, Or.inl ⟨hno (by omega), rfl⟩⟩⟩⟩ | exact ⟨_, hX, hO, hK, Or.inr ⟨by omega, Or.inr ⟨by omega, Or.inr ⟨_, _, hsp (by omega), hp156⟩⟩⟩⟩)
                    · refine v_aloadn dX6_holds_150 rfl ?_
                      refine v_get dX6_holds_151 gf_X6_46 (hX.2.1 0 0 (by decide)) rfl ?_
                      refine v_iload dX6_holds_154 rfl ?_
                      refine v_callV (tX5_edgeFound hX (by omega)) lc_X6_138 ⟨(Nat.le_of_ble_eq_true rfl), (Nat.le_of_ble_eq_true rfl)⟩ dX6_holds_156 rfl rfl (Nat.le_of_ble_eq_true rfl) ⟨(Nat.le_of_ble_eq_true rfl), (Nat.le_of_ble_eq_true rfl)⟩ ⟨_, _, _, _, hX.2.1 8 0 (by decide), rfl⟩ (kP fun r156 hr156 hp156 => ?_)
                      refine v_goto 164 dX6_holds_159 (by decide) ?_
                      exact v_iret dX6_holds_164 rfl ⟨(Nat.le_of_ble_eq_true rfl), (Nat.le_of_ble_eq_true rfl)⟩ (by omega) (by first | exact ⟨_, hX, hO, hK, Or.inr ⟨by omega, Or.inr ⟨by omega, Or.inl ⟨hno (by omega), rfl⟩⟩⟩⟩ | exact ⟨_, hX, hO, hK, Or.inr ⟨by omega, Or.inr ⟨by omega, Or.inr ⟨_, _, hsp (by omega), hp156⟩⟩⟩⟩)
                  · refine v_aloadn dX6_holds_118 rfl ?_
                    refine v_get dX6_holds_119 gf_X6_46 (hX.2.1 0 0 (by decide)) rfl ?_
                    refine v_iload dX6_holds_122 rfl ?_
                    refine v_aloadn dX6_holds_124 rfl ?_
                    refine v_get dX6_holds_125 gf_X6_54 (hX.2.1 0 0 (by decide)) rfl ?_
                    refine v_callV (fX5_howMany hX hSD.1 (by omega) (by omega)) lc_X6_131 ⟨(Nat.le_of_ble_eq_true rfl), (Nat.le_of_ble_eq_true rfl)⟩ dX6_holds_128 rfl rfl (Nat.le_of_ble_eq_true rfl) ⟨(Nat.le_of_ble_eq_true rfl), (Nat.le_of_ble_eq_true rfl)⟩ ⟨_, _, _, _, hX.2.1 8 0 (by decide), rfl⟩ (kI fun r128 M128 hr128 hp128 => ?_)
                    obtain ⟨hc128, s128, hX, hO128, hK128⟩ := hp128
                    have hO := hO.tr hO128
                    have hK := hK.tr hK128
                    rw [hSD.c _ _ _ (Int.le_refl _), q9] at hc128
                    exact v_iret dX6_holds_131 rfl ⟨(Nat.le_of_ble_eq_true rfl), (Nat.le_of_ble_eq_true rfl)⟩ (by omega) ⟨_, hX, hO, hK, Or.inr ⟨by omega, Or.inl ⟨by omega, hc128⟩⟩⟩
              · refine v_iconst dX6_holds_61 ?_
                exact v_iret dX6_holds_62 rfl ⟨(Nat.le_of_ble_eq_true rfl), (Nat.le_of_ble_eq_true rfl)⟩ (by omega) ⟨si, hX, hO, hK, Or.inl ⟨by omega, by omega⟩⟩
        · refine v_iconst dX6_holds_31 ?_
          exact v_iret dX6_holds_32 rfl ⟨(Nat.le_of_ble_eq_true rfl), (Nat.le_of_ble_eq_true rfl)⟩ (by omega) ⟨si, hX, hO, hK, Or.inl ⟨by omega, by omega⟩⟩
