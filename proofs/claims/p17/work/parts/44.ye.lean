set_option maxHeartbeats 4000000 in
set_option maxRecDepth 100000 in
theorem tX7_called {G : gG} {fw : Nat → Nat → Nat} {s : sG} {M : wM} (hY : wY G fw s M) {a b : Int} (ha : rng a) (hb : bt 0 b 11) : wT G qX7_called 0 0 [.ref (fw 0 0), .int (gI a), .int (gI b)] M (iP fun x M' => M' = M ∧ bt 0 x 11) := by
  refine wT.intro (by decide) (Nat.le_of_ble_eq_true rfl) (fun sz => ?_)
  have h0 := hY.2.2.1
  have hrw := hY.2.2.2.1
  have hnm := hY.2.2.2.2.1
  have hsh := hY.2.2.2.2.2.1
  have hmk := hY.2.2.2.2.2.2.1
  have hic := hY.2.2.2.2.2.2.2.1
  have hcn := hY.2.2.2.2.2.2.2.2.1
  have hgt := hY.2.2.2.2.2.2.2.2.2
  have hnb := hnm b.toNat (by omega)
  refine v_iloadn dX7_called_0 rfl ?_
  refine v_if_ne 8 dX7_called_1 (by decide) (by omega) (fun h1 => ?_) (fun h1 => ?_)
  · refine v_aloadn dX7_called_8 rfl ?_
    refine v_get dX7_called_9 gf_X7_23 (hY.2.1 0 0 (by decide)) rfl ?_
    refine v_iloadn dX7_called_12 rfl ?_
    refine v_iald dX7_called_13 (hY.2.1 4 0 (by decide)) (by omega) (by omega) (by decide) ?_
    exact v_iret dX7_called_14 rfl ⟨(Nat.le_of_ble_eq_true rfl), (Nat.le_of_ble_eq_true rfl)⟩ (by omega) ⟨rfl, by omega⟩
  · refine v_iloadn dX7_called_4 rfl ?_
    refine v_goto 14 dX7_called_5 (by decide) ?_
    exact v_iret dX7_called_14 rfl ⟨(Nat.le_of_ble_eq_true rfl), (Nat.le_of_ble_eq_true rfl)⟩ (by omega) ⟨rfl, by omega⟩
set_option maxHeartbeats 4000000 in
set_option maxRecDepth 100000 in
theorem tX7_isEdge {G : gG} {fw : Nat → Nat → Nat} {s : sG} {M : wM} (hY : wY G fw s M) {a b t : Int} (ha : bt 0 a 1) (hb : bt 0 b 11) (ht : bt (-100) t 200000) : wT G qX7_isEdge 0 0 [.ref (fw 0 0), .int (gI a), .int (gI b), .int (gI t)] M (iP fun x M' => M' = M ∧ (x = 0 ∨ x = 1)) := by
  refine wT.intro (by decide) (Nat.le_of_ble_eq_true rfl) (fun sz => ?_)
  have h0 := hY.2.2.1
  have hrw := hY.2.2.2.1
  have hnm := hY.2.2.2.2.1
  have hsh := hY.2.2.2.2.2.1
  have hmk := hY.2.2.2.2.2.2.1
  have hic := hY.2.2.2.2.2.2.2.1
  have hcn := hY.2.2.2.2.2.2.2.2.1
  have hgt := hY.2.2.2.2.2.2.2.2.2
  refine v_iloadn dX7_isEdge_0 rfl ?_
  refine v_if_le 32 dX7_isEdge_1 (by decide) (by omega) (fun h1 => ?_) (fun h1 => ?_)
  · refine v_iconst dX7_isEdge_32 ?_
    exact v_zret dX7_isEdge_33 rfl ⟨(Nat.le_of_ble_eq_true rfl), (Nat.le_of_ble_eq_true rfl)⟩ (by omega) ⟨rfl, by omega⟩
  · refine v_aloadn dX7_isEdge_4 rfl ?_
    refine v_iloadn dX7_isEdge_5 rfl ?_
    refine v_iloadn dX7_isEdge_6 rfl ?_
    refine v_iloadn dX7_isEdge_7 rfl ?_
    refine v_callV (tX7_at hY (by omega) (by omega) (by omega)) lc_X7_83 ⟨(Nat.le_of_ble_eq_true rfl), (Nat.le_of_ble_eq_true rfl)⟩ dX7_isEdge_8 rfl rfl (Nat.le_of_ble_eq_true rfl) ⟨(Nat.le_of_ble_eq_true rfl), (Nat.le_of_ble_eq_true rfl)⟩ ⟨_, _, _, _, hY.2.1 0 0 (by decide), rfl⟩ (kP fun r8 hr8 hp8 => ?_)
    refine v_iconst dX7_isEdge_11 ?_
    refine v_icmp_ne 32 dX7_isEdge_12 (by decide) (by omega) (by omega) (fun h12 => ?_) (fun h12 => ?_)
    · refine v_iconst dX7_isEdge_32 ?_
      exact v_zret dX7_isEdge_33 rfl ⟨(Nat.le_of_ble_eq_true rfl), (Nat.le_of_ble_eq_true rfl)⟩ (by omega) ⟨rfl, by omega⟩
    · refine v_aloadn dX7_isEdge_15 rfl ?_
      refine v_iloadn dX7_isEdge_16 rfl ?_
      refine v_iloadn dX7_isEdge_17 rfl ?_
      refine v_iloadn dX7_isEdge_18 rfl ?_
      refine v_iconst dX7_isEdge_19 ?_
      refine v_isub dX7_isEdge_20 ?_
      refine v_callV (tX7_at hY (by omega) (by omega) (by omega)) lc_X7_83 ⟨(Nat.le_of_ble_eq_true rfl), (Nat.le_of_ble_eq_true rfl)⟩ dX7_isEdge_21 rfl rfl (Nat.le_of_ble_eq_true rfl) ⟨(Nat.le_of_ble_eq_true rfl), (Nat.le_of_ble_eq_true rfl)⟩ ⟨_, _, _, _, hY.2.1 0 0 (by decide), rfl⟩ (kP fun r21 hr21 hp21 => ?_)
      refine v_iconst dX7_isEdge_24 ?_
      refine v_icmp_eq 32 dX7_isEdge_25 (by decide) (by omega) (by omega) (fun h25 => ?_) (fun h25 => ?_)
      · refine v_iconst dX7_isEdge_32 ?_
        exact v_zret dX7_isEdge_33 rfl ⟨(Nat.le_of_ble_eq_true rfl), (Nat.le_of_ble_eq_true rfl)⟩ (by omega) ⟨rfl, by omega⟩
      · refine v_iconst dX7_isEdge_28 ?_
        refine v_goto 33 dX7_isEdge_29 (by decide) ?_
        exact v_zret dX7_isEdge_33 rfl ⟨(Nat.le_of_ble_eq_true rfl), (Nat.le_of_ble_eq_true rfl)⟩ (by omega) ⟨rfl, by omega⟩
set_option maxHeartbeats 4000000 in
set_option maxRecDepth 100000 in
theorem tX7_acts_loop {sz : Nat} {M0 : wM} {G : gG} {fw : Nat → Nat → Nat} {si : sG} {Mi : wM} {c a q b : Int} (hc : bt 0 c 3) (ha : bt 0 a 1) (hq : rng q) (hb : bt 0 b 11) : ∀ (k : Nat) (s : sG) (M : wM) (n t : Int), 0 ≤ 100000 - t → 100000 - t < (k : Int) → (wY G fw s M) → (wO cntY fw Mi M) → (keepY si s) → (bt 0 t 100000) → (bt 0 n t) → wV G qX7_acts 0 0 sz M0 0 0 28 [(0, .ref (fw 0 0)), (1, .int (gI c)), (2, .int (gI a)), (3, .int (gI q)), (4, .int (gI b)), (5, .int (gI n)), (6, .int (gI t))] [] M (PY G fw Mi (fun x s' => keepY si s' ∧ bt 0 x 100000)) := by
  intro k
  induction k with
  | zero =>
    intros
    omega
  | succ k ih =>
    intro s M n t hmz hml hY hO hK h1 h2
    have h0 := hY.2.2.1
    have hrw := hY.2.2.2.1
    have hnm := hY.2.2.2.2.1
    have hsh := hY.2.2.2.2.2.1
    have hmk := hY.2.2.2.2.2.2.1
    have hic := hY.2.2.2.2.2.2.2.1
    have hcn := hY.2.2.2.2.2.2.2.2.1
    have hgt := hY.2.2.2.2.2.2.2.2.2
    obtain ⟨hJ, hH, hI⟩ := id hY
    refine v_iload dX7_acts_28 rfl ?_
    refine v_aloadn dX7_acts_30 rfl ?_
    refine v_get dX7_acts_31 gf_X7_7 (hH 0 0 (by decide)) rfl ?_
    refine v_icmp_ge 186 dX7_acts_34 (by decide) (by omega) (by omega) (fun h34 => ?_) (fun h34 => ?_)
    · refine v_iload dX7_acts_186 rfl ?_
      exact v_iret dX7_acts_188 rfl ⟨(Nat.le_of_ble_eq_true rfl), (Nat.le_of_ble_eq_true rfl)⟩ (by omega) ⟨s, hY, hO, hK, by omega⟩
    · refine v_aloadn dX7_acts_37 rfl ?_
      refine v_iloadn dX7_acts_38 rfl ?_
      refine v_iload dX7_acts_39 rfl ?_
      refine v_iload dX7_acts_41 rfl ?_
      refine v_callV (tX7_isEdge hY (by omega) (by omega) (by omega)) lc_X7_135 ⟨(Nat.le_of_ble_eq_true rfl), (Nat.le_of_ble_eq_true rfl)⟩ dX7_acts_43 rfl rfl (Nat.le_of_ble_eq_true rfl) ⟨(Nat.le_of_ble_eq_true rfl), (Nat.le_of_ble_eq_true rfl)⟩ ⟨_, _, _, _, hH 0 0 (by decide), rfl⟩ (kP fun r43 hr43 hp43 => ?_)
      refine v_if_eq 109 dX7_acts_46 (by decide) (by omega) (fun h46 => ?_) (fun h46 => ?_)
      · refine v_iconst dX7_acts_109 ?_
        refine v_istore dX7_acts_110 (Nat.le_of_ble_eq_true rfl) ?_
        refine v_iload dX7_acts_112 rfl ?_
        refine v_if_eq 157 dX7_acts_114 (by decide) (by omega) (fun h114 => ?_) (fun h114 => ?_)
        · refine v_iload dX7_acts_157 rfl ?_
          refine v_iload dX7_acts_159 rfl ?_
          refine v_if_eq 168 dX7_acts_161 (by decide) (by omega) (fun h161 => ?_) (fun h161 => ?_)
          · refine v_iconst dX7_acts_168 ?_
            refine v_iadd dX7_acts_169 ?_
            refine v_istore dX7_acts_170 (Nat.le_of_ble_eq_true rfl) ?_
            refine v_aloadn dX7_acts_172 rfl ?_
            refine v_iloadn dX7_acts_173 rfl ?_
            refine v_iload dX7_acts_174 rfl ?_
            refine v_iload dX7_acts_176 rfl ?_
            refine v_callV (tX7_nextChange hY (by omega) (by omega) (by omega) (by omega)) lc_X7_103 ⟨(Nat.le_of_ble_eq_true rfl), (Nat.le_of_ble_eq_true rfl)⟩ dX7_acts_178 rfl rfl (Nat.le_of_ble_eq_true rfl) ⟨(Nat.le_of_ble_eq_true rfl), (Nat.le_of_ble_eq_true rfl)⟩ ⟨_, _, _, _, hH 0 0 (by decide), rfl⟩ (kP fun r178 hr178 hp178 => ?_)
            refine v_istore dX7_acts_181 (Nat.le_of_ble_eq_true rfl) ?_
            refine v_goto 28 dX7_acts_183 (by decide) ?_
            refine wV.locs (lv' := [(0, .ref (fw 0 0)), (1, .int (gI c)), (2, .int (gI a)), (3, .int (gI q)), (4, .int (gI b)), (5, .int (gI _)), (6, .int (gI _))]) ⟨rfl, rfl, rfl, rfl, rfl, rfl, rfl, trivial⟩ (ih _ _ _ _ (by omega) (by omega) hY hO hK (by omega) (by omega))
          · refine v_iconst dX7_acts_164 ?_
            refine v_goto 169 dX7_acts_165 (by decide) ?_
            refine v_iadd dX7_acts_169 ?_
            refine v_istore dX7_acts_170 (Nat.le_of_ble_eq_true rfl) ?_
            refine v_aloadn dX7_acts_172 rfl ?_
            refine v_iloadn dX7_acts_173 rfl ?_
            refine v_iload dX7_acts_174 rfl ?_
            refine v_iload dX7_acts_176 rfl ?_
            refine v_callV (tX7_nextChange hY (by omega) (by omega) (by omega) (by omega)) lc_X7_103 ⟨(Nat.le_of_ble_eq_true rfl), (Nat.le_of_ble_eq_true rfl)⟩ dX7_acts_178 rfl rfl (Nat.le_of_ble_eq_true rfl) ⟨(Nat.le_of_ble_eq_true rfl), (Nat.le_of_ble_eq_true rfl)⟩ ⟨_, _, _, _, hH 0 0 (by decide), rfl⟩ (kP fun r178 hr178 hp178 => ?_)
            refine v_istore dX7_acts_181 (Nat.le_of_ble_eq_true rfl) ?_
            refine v_goto 28 dX7_acts_183 (by decide) ?_
            refine wV.locs (lv' := [(0, .ref (fw 0 0)), (1, .int (gI c)), (2, .int (gI a)), (3, .int (gI q)), (4, .int (gI b)), (5, .int (gI _)), (6, .int (gI _))]) ⟨rfl, rfl, rfl, rfl, rfl, rfl, rfl, trivial⟩ (ih _ _ _ _ (by omega) (by omega) hY hO hK (by omega) (by omega))
        · refine v_iload dX7_acts_117 rfl ?_
          refine v_iloadn dX7_acts_119 rfl ?_
          refine v_icmp_ne 157 dX7_acts_120 (by decide) (by omega) (by omega) (fun h120 => ?_) (fun h120 => ?_)
          · refine v_iload dX7_acts_157 rfl ?_
            refine v_iload dX7_acts_159 rfl ?_
            refine v_if_eq 168 dX7_acts_161 (by decide) (by omega) (fun h161 => ?_) (fun h161 => ?_)
            · refine v_iconst dX7_acts_168 ?_
              refine v_iadd dX7_acts_169 ?_
              refine v_istore dX7_acts_170 (Nat.le_of_ble_eq_true rfl) ?_
              refine v_aloadn dX7_acts_172 rfl ?_
              refine v_iloadn dX7_acts_173 rfl ?_
              refine v_iload dX7_acts_174 rfl ?_
              refine v_iload dX7_acts_176 rfl ?_
              refine v_callV (tX7_nextChange hY (by omega) (by omega) (by omega) (by omega)) lc_X7_103 ⟨(Nat.le_of_ble_eq_true rfl), (Nat.le_of_ble_eq_true rfl)⟩ dX7_acts_178 rfl rfl (Nat.le_of_ble_eq_true rfl) ⟨(Nat.le_of_ble_eq_true rfl), (Nat.le_of_ble_eq_true rfl)⟩ ⟨_, _, _, _, hH 0 0 (by decide), rfl⟩ (kP fun r178 hr178 hp178 => ?_)
              refine v_istore dX7_acts_181 (Nat.le_of_ble_eq_true rfl) ?_
              refine v_goto 28 dX7_acts_183 (by decide) ?_
              refine wV.locs (lv' := [(0, .ref (fw 0 0)), (1, .int (gI c)), (2, .int (gI a)), (3, .int (gI q)), (4, .int (gI b)), (5, .int (gI _)), (6, .int (gI _))]) ⟨rfl, rfl, rfl, rfl, rfl, rfl, rfl, trivial⟩ (ih _ _ _ _ (by omega) (by omega) hY hO hK (by omega) (by omega))
            · refine v_iconst dX7_acts_164 ?_
              refine v_goto 169 dX7_acts_165 (by decide) ?_
              refine v_iadd dX7_acts_169 ?_
              refine v_istore dX7_acts_170 (Nat.le_of_ble_eq_true rfl) ?_
              refine v_aloadn dX7_acts_172 rfl ?_
              refine v_iloadn dX7_acts_173 rfl ?_
              refine v_iload dX7_acts_174 rfl ?_
              refine v_iload dX7_acts_176 rfl ?_
              refine v_callV (tX7_nextChange hY (by omega) (by omega) (by omega) (by omega)) lc_X7_103 ⟨(Nat.le_of_ble_eq_true rfl), (Nat.le_of_ble_eq_true rfl)⟩ dX7_acts_178 rfl rfl (Nat.le_of_ble_eq_true rfl) ⟨(Nat.le_of_ble_eq_true rfl), (Nat.le_of_ble_eq_true rfl)⟩ ⟨_, _, _, _, hH 0 0 (by decide), rfl⟩ (kP fun r178 hr178 hp178 => ?_)
              refine v_istore dX7_acts_181 (Nat.le_of_ble_eq_true rfl) ?_
              refine v_goto 28 dX7_acts_183 (by decide) ?_
              refine wV.locs (lv' := [(0, .ref (fw 0 0)), (1, .int (gI c)), (2, .int (gI a)), (3, .int (gI q)), (4, .int (gI b)), (5, .int (gI _)), (6, .int (gI _))]) ⟨rfl, rfl, rfl, rfl, rfl, rfl, rfl, trivial⟩ (ih _ _ _ _ (by omega) (by omega) hY hO hK (by omega) (by omega))
          · refine v_aloadn dX7_acts_123 rfl ?_
            refine v_iload dX7_acts_124 rfl ?_
            refine v_put dX7_acts_126 pf_X7_138 (hH 0 0 (by decide)) rfl rfl (Nat.le_of_ble_eq_true rfl) ?_
            generalize hMe126 : wup _ _ _ = M126
            have hO : wO cntY fw Mi M126 := by rw [← hMe126]; exact hO.up (k := 0) (i := 0) (by decide)
            obtain ⟨s126, hs126⟩ : ∃ z, z = ups s 0 0 (21) (t) := ⟨_, rfl⟩
            have hH : wH cntY (cellY G fw) fw s126 M126 := by rw [← hMe126, hs126]; exact wH.up hJ hH (k := 0) (i := 0) (21) (t) (by decide) rfl
            have hI : invY s126 := by rw [hs126]; exact invY_scr hI (by simp) (by omega)
            have hK : keepY si s126 := hK.tr (by rw [hs126]; exact keepY_up (by decide))
            have hY : wY G fw s126 M126 := ⟨hJ, hH, hI⟩
            have h0 := hY.2.2.1
            have hrw := hY.2.2.2.1
            have hnm := hY.2.2.2.2.1
            have hsh := hY.2.2.2.2.2.1
            have hmk := hY.2.2.2.2.2.2.1
            have hic := hY.2.2.2.2.2.2.2.1
            have hcn := hY.2.2.2.2.2.2.2.2.1
            have hgt := hY.2.2.2.2.2.2.2.2.2
            refine v_aloadn dX7_acts_129 rfl ?_
            refine v_aloadn dX7_acts_130 rfl ?_
            refine v_iloadn dX7_acts_131 rfl ?_
            refine v_aloadn dX7_acts_132 rfl ?_
            refine v_iloadn dX7_acts_133 rfl ?_
            refine v_aloadn dX7_acts_134 rfl ?_
            refine v_get dX7_acts_135 gf_X7_48 (hH 0 0 (by decide)) rfl ?_
            refine v_iconst dX7_acts_138 ?_
            refine v_iloadn dX7_acts_139 rfl ?_
            refine v_imul dX7_acts_140 ?_
            refine v_iconst dX7_acts_141 ?_
            refine v_iadd dX7_acts_142 ?_
            refine v_iald dX7_acts_143 (hH 12 0 (by decide)) (by omega) (by omega) (by decide) ?_
            have hcc := hcn (4 * c + 3).toNat (by omega)
            refine v_callV (tX7_called hY (by omega) (by omega)) lc_X7_132 ⟨(Nat.le_of_ble_eq_true rfl), (Nat.le_of_ble_eq_true rfl)⟩ dX7_acts_144 rfl rfl (Nat.le_of_ble_eq_true rfl) ⟨(Nat.le_of_ble_eq_true rfl), (Nat.le_of_ble_eq_true rfl)⟩ ⟨_, _, _, _, hH 0 0 (by decide), rfl⟩ (kP fun r144 hr144 hp144 => ?_)
            refine v_iload dX7_acts_147 rfl ?_
            refine v_iconst dX7_acts_149 ?_
            refine v_isub dX7_acts_150 ?_
            refine v_callV (tX7_at hY (by omega) (by omega) (by omega)) lc_X7_83 ⟨(Nat.le_of_ble_eq_true rfl), (Nat.le_of_ble_eq_true rfl)⟩ dX7_acts_151 rfl rfl (Nat.le_of_ble_eq_true rfl) ⟨(Nat.le_of_ble_eq_true rfl), (Nat.le_of_ble_eq_true rfl)⟩ ⟨_, _, _, _, hH 0 0 (by decide), rfl⟩ (kP fun r151 hr151 hp151 => ?_)
            refine v_put dX7_acts_154 pf_X7_141 (hH 0 0 (by decide)) rfl rfl (Nat.le_of_ble_eq_true rfl) ?_
            generalize hMe154 : wup _ _ _ = M154
            have hO : wO cntY fw Mi M154 := by rw [← hMe154]; exact hO.up (k := 0) (i := 0) (by decide)
            obtain ⟨s154, hs154⟩ : ∃ z, z = ups s126 0 0 (22) (r151) := ⟨_, rfl⟩
            have hH : wH cntY (cellY G fw) fw s154 M154 := by rw [← hMe154, hs154]; exact wH.up hJ hH (k := 0) (i := 0) (22) (r151) (by decide) rfl
            have hI : invY s154 := by rw [hs154]; exact invY_scr hI (by simp) (by omega)
            have hK : keepY si s154 := hK.tr (by rw [hs154]; exact keepY_up (by decide))
            have hY : wY G fw s154 M154 := ⟨hJ, hH, hI⟩
            have h0 := hY.2.2.1
            have hrw := hY.2.2.2.1
            have hnm := hY.2.2.2.2.1
            have hsh := hY.2.2.2.2.2.1
            have hmk := hY.2.2.2.2.2.2.1
            have hic := hY.2.2.2.2.2.2.2.1
            have hcn := hY.2.2.2.2.2.2.2.2.1
            have hgt := hY.2.2.2.2.2.2.2.2.2
            refine v_iload dX7_acts_157 rfl ?_
            refine v_iload dX7_acts_159 rfl ?_
            refine v_if_eq 168 dX7_acts_161 (by decide) (by omega) (fun h161 => ?_) (fun h161 => ?_)
            · refine v_iconst dX7_acts_168 ?_
              refine v_iadd dX7_acts_169 ?_
              refine v_istore dX7_acts_170 (Nat.le_of_ble_eq_true rfl) ?_
              refine v_aloadn dX7_acts_172 rfl ?_
              refine v_iloadn dX7_acts_173 rfl ?_
              refine v_iload dX7_acts_174 rfl ?_
              refine v_iload dX7_acts_176 rfl ?_
              refine v_callV (tX7_nextChange hY (by omega) (by omega) (by omega) (by omega)) lc_X7_103 ⟨(Nat.le_of_ble_eq_true rfl), (Nat.le_of_ble_eq_true rfl)⟩ dX7_acts_178 rfl rfl (Nat.le_of_ble_eq_true rfl) ⟨(Nat.le_of_ble_eq_true rfl), (Nat.le_of_ble_eq_true rfl)⟩ ⟨_, _, _, _, hH 0 0 (by decide), rfl⟩ (kP fun r178 hr178 hp178 => ?_)
              refine v_istore dX7_acts_181 (Nat.le_of_ble_eq_true rfl) ?_
              refine v_goto 28 dX7_acts_183 (by decide) ?_
              refine wV.locs (lv' := [(0, .ref (fw 0 0)), (1, .int (gI c)), (2, .int (gI a)), (3, .int (gI q)), (4, .int (gI b)), (5, .int (gI _)), (6, .int (gI _))]) ⟨rfl, rfl, rfl, rfl, rfl, rfl, rfl, trivial⟩ (ih _ _ _ _ (by omega) (by omega) hY hO hK (by omega) (by omega))
            · refine v_iconst dX7_acts_164 ?_
              refine v_goto 169 dX7_acts_165 (by decide) ?_
              refine v_iadd dX7_acts_169 ?_
              refine v_istore dX7_acts_170 (Nat.le_of_ble_eq_true rfl) ?_
              refine v_aloadn dX7_acts_172 rfl ?_
              refine v_iloadn dX7_acts_173 rfl ?_
              refine v_iload dX7_acts_174 rfl ?_
              refine v_iload dX7_acts_176 rfl ?_
              refine v_callV (tX7_nextChange hY (by omega) (by omega) (by omega) (by omega)) lc_X7_103 ⟨(Nat.le_of_ble_eq_true rfl), (Nat.le_of_ble_eq_true rfl)⟩ dX7_acts_178 rfl rfl (Nat.le_of_ble_eq_true rfl) ⟨(Nat.le_of_ble_eq_true rfl), (Nat.le_of_ble_eq_true rfl)⟩ ⟨_, _, _, _, hH 0 0 (by decide), rfl⟩ (kP fun r178 hr178 hp178 => ?_)
              refine v_istore dX7_acts_181 (Nat.le_of_ble_eq_true rfl) ?_
              refine v_goto 28 dX7_acts_183 (by decide) ?_
              refine wV.locs (lv' := [(0, .ref (fw 0 0)), (1, .int (gI c)), (2, .int (gI a)), (3, .int (gI q)), (4, .int (gI b)), (5, .int (gI _)), (6, .int (gI _))]) ⟨rfl, rfl, rfl, rfl, rfl, rfl, rfl, trivial⟩ (ih _ _ _ _ (by omega) (by omega) hY hO hK (by omega) (by omega))
      · refine v_aloadn dX7_acts_49 rfl ?_
        refine v_iloadn dX7_acts_50 rfl ?_
        refine v_aloadn dX7_acts_51 rfl ?_
        refine v_iloadn dX7_acts_52 rfl ?_
        refine v_aloadn dX7_acts_53 rfl ?_
        refine v_get dX7_acts_54 gf_X7_48 (hH 0 0 (by decide)) rfl ?_
        refine v_iconst dX7_acts_57 ?_
        refine v_iloadn dX7_acts_58 rfl ?_
        refine v_imul dX7_acts_59 ?_
        refine v_iconst dX7_acts_60 ?_
        refine v_iadd dX7_acts_61 ?_
        refine v_iald dX7_acts_62 (hH 12 0 (by decide)) (by omega) (by omega) (by decide) ?_
        have hcc := hcn (4 * c + 1).toNat (by omega)
        refine v_callV (tX7_called hY (by omega) (by omega)) lc_X7_132 ⟨(Nat.le_of_ble_eq_true rfl), (Nat.le_of_ble_eq_true rfl)⟩ dX7_acts_63 rfl rfl (Nat.le_of_ble_eq_true rfl) ⟨(Nat.le_of_ble_eq_true rfl), (Nat.le_of_ble_eq_true rfl)⟩ ⟨_, _, _, _, hH 0 0 (by decide), rfl⟩ (kP fun r63 hr63 hp63 => ?_)
        refine v_iload dX7_acts_66 rfl ?_
        refine v_iconst dX7_acts_68 ?_
        refine v_isub dX7_acts_69 ?_
        refine v_callV (tX7_at hY (by omega) (by omega) (by omega)) lc_X7_83 ⟨(Nat.le_of_ble_eq_true rfl), (Nat.le_of_ble_eq_true rfl)⟩ dX7_acts_70 rfl rfl (Nat.le_of_ble_eq_true rfl) ⟨(Nat.le_of_ble_eq_true rfl), (Nat.le_of_ble_eq_true rfl)⟩ ⟨_, _, _, _, hH 0 0 (by decide), rfl⟩ (kP fun r70 hr70 hp70 => ?_)
        refine v_iconst dX7_acts_73 ?_
        refine v_icmp_ne 109 dX7_acts_74 (by decide) (by omega) (by omega) (fun h74 => ?_) (fun h74 => ?_)
        · refine v_iconst dX7_acts_109 ?_
          refine v_istore dX7_acts_110 (Nat.le_of_ble_eq_true rfl) ?_
          refine v_iload dX7_acts_112 rfl ?_
          refine v_if_eq 157 dX7_acts_114 (by decide) (by omega) (fun h114 => ?_) (fun h114 => ?_)
          · refine v_iload dX7_acts_157 rfl ?_
            refine v_iload dX7_acts_159 rfl ?_
            refine v_if_eq 168 dX7_acts_161 (by decide) (by omega) (fun h161 => ?_) (fun h161 => ?_)
            · refine v_iconst dX7_acts_168 ?_
              refine v_iadd dX7_acts_169 ?_
              refine v_istore dX7_acts_170 (Nat.le_of_ble_eq_true rfl) ?_
              refine v_aloadn dX7_acts_172 rfl ?_
              refine v_iloadn dX7_acts_173 rfl ?_
              refine v_iload dX7_acts_174 rfl ?_
              refine v_iload dX7_acts_176 rfl ?_
              refine v_callV (tX7_nextChange hY (by omega) (by omega) (by omega) (by omega)) lc_X7_103 ⟨(Nat.le_of_ble_eq_true rfl), (Nat.le_of_ble_eq_true rfl)⟩ dX7_acts_178 rfl rfl (Nat.le_of_ble_eq_true rfl) ⟨(Nat.le_of_ble_eq_true rfl), (Nat.le_of_ble_eq_true rfl)⟩ ⟨_, _, _, _, hH 0 0 (by decide), rfl⟩ (kP fun r178 hr178 hp178 => ?_)
              refine v_istore dX7_acts_181 (Nat.le_of_ble_eq_true rfl) ?_
              refine v_goto 28 dX7_acts_183 (by decide) ?_
              refine wV.locs (lv' := [(0, .ref (fw 0 0)), (1, .int (gI c)), (2, .int (gI a)), (3, .int (gI q)), (4, .int (gI b)), (5, .int (gI _)), (6, .int (gI _))]) ⟨rfl, rfl, rfl, rfl, rfl, rfl, rfl, trivial⟩ (ih _ _ _ _ (by omega) (by omega) hY hO hK (by omega) (by omega))
            · refine v_iconst dX7_acts_164 ?_
              refine v_goto 169 dX7_acts_165 (by decide) ?_
              refine v_iadd dX7_acts_169 ?_
              refine v_istore dX7_acts_170 (Nat.le_of_ble_eq_true rfl) ?_
              refine v_aloadn dX7_acts_172 rfl ?_
              refine v_iloadn dX7_acts_173 rfl ?_
              refine v_iload dX7_acts_174 rfl ?_
              refine v_iload dX7_acts_176 rfl ?_
              refine v_callV (tX7_nextChange hY (by omega) (by omega) (by omega) (by omega)) lc_X7_103 ⟨(Nat.le_of_ble_eq_true rfl), (Nat.le_of_ble_eq_true rfl)⟩ dX7_acts_178 rfl rfl (Nat.le_of_ble_eq_true rfl) ⟨(Nat.le_of_ble_eq_true rfl), (Nat.le_of_ble_eq_true rfl)⟩ ⟨_, _, _, _, hH 0 0 (by decide), rfl⟩ (kP fun r178 hr178 hp178 => ?_)
              refine v_istore dX7_acts_181 (Nat.le_of_ble_eq_true rfl) ?_
              refine v_goto 28 dX7_acts_183 (by decide) ?_
              refine wV.locs (lv' := [(0, .ref (fw 0 0)), (1, .int (gI c)), (2, .int (gI a)), (3, .int (gI q)), (4, .int (gI b)), (5, .int (gI _)), (6, .int (gI _))]) ⟨rfl, rfl, rfl, rfl, rfl, rfl, rfl, trivial⟩ (ih _ _ _ _ (by omega) (by omega) hY hO hK (by omega) (by omega))
          · refine v_iload dX7_acts_117 rfl ?_
            refine v_iloadn dX7_acts_119 rfl ?_
            refine v_icmp_ne 157 dX7_acts_120 (by decide) (by omega) (by omega) (fun h120 => ?_) (fun h120 => ?_)
            · refine v_iload dX7_acts_157 rfl ?_
              refine v_iload dX7_acts_159 rfl ?_
              refine v_if_eq 168 dX7_acts_161 (by decide) (by omega) (fun h161 => ?_) (fun h161 => ?_)
              · refine v_iconst dX7_acts_168 ?_
                refine v_iadd dX7_acts_169 ?_
                refine v_istore dX7_acts_170 (Nat.le_of_ble_eq_true rfl) ?_
                refine v_aloadn dX7_acts_172 rfl ?_
                refine v_iloadn dX7_acts_173 rfl ?_
                refine v_iload dX7_acts_174 rfl ?_
                refine v_iload dX7_acts_176 rfl ?_
                refine v_callV (tX7_nextChange hY (by omega) (by omega) (by omega) (by omega)) lc_X7_103 ⟨(Nat.le_of_ble_eq_true rfl), (Nat.le_of_ble_eq_true rfl)⟩ dX7_acts_178 rfl rfl (Nat.le_of_ble_eq_true rfl) ⟨(Nat.le_of_ble_eq_true rfl), (Nat.le_of_ble_eq_true rfl)⟩ ⟨_, _, _, _, hH 0 0 (by decide), rfl⟩ (kP fun r178 hr178 hp178 => ?_)
                refine v_istore dX7_acts_181 (Nat.le_of_ble_eq_true rfl) ?_
                refine v_goto 28 dX7_acts_183 (by decide) ?_
                refine wV.locs (lv' := [(0, .ref (fw 0 0)), (1, .int (gI c)), (2, .int (gI a)), (3, .int (gI q)), (4, .int (gI b)), (5, .int (gI _)), (6, .int (gI _))]) ⟨rfl, rfl, rfl, rfl, rfl, rfl, rfl, trivial⟩ (ih _ _ _ _ (by omega) (by omega) hY hO hK (by omega) (by omega))
              · refine v_iconst dX7_acts_164 ?_
                refine v_goto 169 dX7_acts_165 (by decide) ?_
                refine v_iadd dX7_acts_169 ?_
                refine v_istore dX7_acts_170 (Nat.le_of_ble_eq_true rfl) ?_
                refine v_aloadn dX7_acts_172 rfl ?_
                refine v_iloadn dX7_acts_173 rfl ?_
                refine v_iload dX7_acts_174 rfl ?_
                refine v_iload dX7_acts_176 rfl ?_
                refine v_callV (tX7_nextChange hY (by omega) (by omega) (by omega) (by omega)) lc_X7_103 ⟨(Nat.le_of_ble_eq_true rfl), (Nat.le_of_ble_eq_true rfl)⟩ dX7_acts_178 rfl rfl (Nat.le_of_ble_eq_true rfl) ⟨(Nat.le_of_ble_eq_true rfl), (Nat.le_of_ble_eq_true rfl)⟩ ⟨_, _, _, _, hH 0 0 (by decide), rfl⟩ (kP fun r178 hr178 hp178 => ?_)
                refine v_istore dX7_acts_181 (Nat.le_of_ble_eq_true rfl) ?_
                refine v_goto 28 dX7_acts_183 (by decide) ?_
                refine wV.locs (lv' := [(0, .ref (fw 0 0)), (1, .int (gI c)), (2, .int (gI a)), (3, .int (gI q)), (4, .int (gI b)), (5, .int (gI _)), (6, .int (gI _))]) ⟨rfl, rfl, rfl, rfl, rfl, rfl, rfl, trivial⟩ (ih _ _ _ _ (by omega) (by omega) hY hO hK (by omega) (by omega))
            · refine v_aloadn dX7_acts_123 rfl ?_
              refine v_iload dX7_acts_124 rfl ?_
              refine v_put dX7_acts_126 pf_X7_138 (hH 0 0 (by decide)) rfl rfl (Nat.le_of_ble_eq_true rfl) ?_
              generalize hMe126 : wup _ _ _ = M126
              have hO : wO cntY fw Mi M126 := by rw [← hMe126]; exact hO.up (k := 0) (i := 0) (by decide)
              obtain ⟨s126, hs126⟩ : ∃ z, z = ups s 0 0 (21) (t) := ⟨_, rfl⟩
              have hH : wH cntY (cellY G fw) fw s126 M126 := by rw [← hMe126, hs126]; exact wH.up hJ hH (k := 0) (i := 0) (21) (t) (by decide) rfl
              have hI : invY s126 := by rw [hs126]; exact invY_scr hI (by simp) (by omega)
              have hK : keepY si s126 := hK.tr (by rw [hs126]; exact keepY_up (by decide))
              have hY : wY G fw s126 M126 := ⟨hJ, hH, hI⟩
              have h0 := hY.2.2.1
              have hrw := hY.2.2.2.1
              have hnm := hY.2.2.2.2.1
              have hsh := hY.2.2.2.2.2.1
              have hmk := hY.2.2.2.2.2.2.1
              have hic := hY.2.2.2.2.2.2.2.1
              have hcn := hY.2.2.2.2.2.2.2.2.1
              have hgt := hY.2.2.2.2.2.2.2.2.2
              refine v_aloadn dX7_acts_129 rfl ?_
              refine v_aloadn dX7_acts_130 rfl ?_
              refine v_iloadn dX7_acts_131 rfl ?_
              refine v_aloadn dX7_acts_132 rfl ?_
              refine v_iloadn dX7_acts_133 rfl ?_
              refine v_aloadn dX7_acts_134 rfl ?_
              refine v_get dX7_acts_135 gf_X7_48 (hH 0 0 (by decide)) rfl ?_
              refine v_iconst dX7_acts_138 ?_
              refine v_iloadn dX7_acts_139 rfl ?_
              refine v_imul dX7_acts_140 ?_
              refine v_iconst dX7_acts_141 ?_
              refine v_iadd dX7_acts_142 ?_
              refine v_iald dX7_acts_143 (hH 12 0 (by decide)) (by omega) (by omega) (by decide) ?_
              have hcc := hcn (4 * c + 3).toNat (by omega)
              refine v_callV (tX7_called hY (by omega) (by omega)) lc_X7_132 ⟨(Nat.le_of_ble_eq_true rfl), (Nat.le_of_ble_eq_true rfl)⟩ dX7_acts_144 rfl rfl (Nat.le_of_ble_eq_true rfl) ⟨(Nat.le_of_ble_eq_true rfl), (Nat.le_of_ble_eq_true rfl)⟩ ⟨_, _, _, _, hH 0 0 (by decide), rfl⟩ (kP fun r144 hr144 hp144 => ?_)
              refine v_iload dX7_acts_147 rfl ?_
              refine v_iconst dX7_acts_149 ?_
              refine v_isub dX7_acts_150 ?_
              refine v_callV (tX7_at hY (by omega) (by omega) (by omega)) lc_X7_83 ⟨(Nat.le_of_ble_eq_true rfl), (Nat.le_of_ble_eq_true rfl)⟩ dX7_acts_151 rfl rfl (Nat.le_of_ble_eq_true rfl) ⟨(Nat.le_of_ble_eq_true rfl), (Nat.le_of_ble_eq_true rfl)⟩ ⟨_, _, _, _, hH 0 0 (by decide), rfl⟩ (kP fun r151 hr151 hp151 => ?_)
              refine v_put dX7_acts_154 pf_X7_141 (hH 0 0 (by decide)) rfl rfl (Nat.le_of_ble_eq_true rfl) ?_
              generalize hMe154 : wup _ _ _ = M154
              have hO : wO cntY fw Mi M154 := by rw [← hMe154]; exact hO.up (k := 0) (i := 0) (by decide)
              obtain ⟨s154, hs154⟩ : ∃ z, z = ups s126 0 0 (22) (r151) := ⟨_, rfl⟩
              have hH : wH cntY (cellY G fw) fw s154 M154 := by rw [← hMe154, hs154]; exact wH.up hJ hH (k := 0) (i := 0) (22) (r151) (by decide) rfl
              have hI : invY s154 := by rw [hs154]; exact invY_scr hI (by simp) (by omega)
              have hK : keepY si s154 := hK.tr (by rw [hs154]; exact keepY_up (by decide))
              have hY : wY G fw s154 M154 := ⟨hJ, hH, hI⟩
              have h0 := hY.2.2.1
              have hrw := hY.2.2.2.1
              have hnm := hY.2.2.2.2.1
              have hsh := hY.2.2.2.2.2.1
              have hmk := hY.2.2.2.2.2.2.1
              have hic := hY.2.2.2.2.2.2.2.1
              have hcn := hY.2.2.2.2.2.2.2.2.1
              have hgt := hY.2.2.2.2.2.2.2.2.2
              refine v_iload dX7_acts_157 rfl ?_
              refine v_iload dX7_acts_159 rfl ?_
              refine v_if_eq 168 dX7_acts_161 (by decide) (by omega) (fun h161 => ?_) (fun h161 => ?_)
              · refine v_iconst dX7_acts_168 ?_
                refine v_iadd dX7_acts_169 ?_
                refine v_istore dX7_acts_170 (Nat.le_of_ble_eq_true rfl) ?_
                refine v_aloadn dX7_acts_172 rfl ?_
                refine v_iloadn dX7_acts_173 rfl ?_
                refine v_iload dX7_acts_174 rfl ?_
                refine v_iload dX7_acts_176 rfl ?_
                refine v_callV (tX7_nextChange hY (by omega) (by omega) (by omega) (by omega)) lc_X7_103 ⟨(Nat.le_of_ble_eq_true rfl), (Nat.le_of_ble_eq_true rfl)⟩ dX7_acts_178 rfl rfl (Nat.le_of_ble_eq_true rfl) ⟨(Nat.le_of_ble_eq_true rfl), (Nat.le_of_ble_eq_true rfl)⟩ ⟨_, _, _, _, hH 0 0 (by decide), rfl⟩ (kP fun r178 hr178 hp178 => ?_)
                refine v_istore dX7_acts_181 (Nat.le_of_ble_eq_true rfl) ?_
                refine v_goto 28 dX7_acts_183 (by decide) ?_
                refine wV.locs (lv' := [(0, .ref (fw 0 0)), (1, .int (gI c)), (2, .int (gI a)), (3, .int (gI q)), (4, .int (gI b)), (5, .int (gI _)), (6, .int (gI _))]) ⟨rfl, rfl, rfl, rfl, rfl, rfl, rfl, trivial⟩ (ih _ _ _ _ (by omega) (by omega) hY hO hK (by omega) (by omega))
              · refine v_iconst dX7_acts_164 ?_
                refine v_goto 169 dX7_acts_165 (by decide) ?_
                refine v_iadd dX7_acts_169 ?_
                refine v_istore dX7_acts_170 (Nat.le_of_ble_eq_true rfl) ?_
                refine v_aloadn dX7_acts_172 rfl ?_
                refine v_iloadn dX7_acts_173 rfl ?_
                refine v_iload dX7_acts_174 rfl ?_
                refine v_iload dX7_acts_176 rfl ?_
                refine v_callV (tX7_nextChange hY (by omega) (by omega) (by omega) (by omega)) lc_X7_103 ⟨(Nat.le_of_ble_eq_true rfl), (Nat.le_of_ble_eq_true rfl)⟩ dX7_acts_178 rfl rfl (Nat.le_of_ble_eq_true rfl) ⟨(Nat.le_of_ble_eq_true rfl), (Nat.le_of_ble_eq_true rfl)⟩ ⟨_, _, _, _, hH 0 0 (by decide), rfl⟩ (kP fun r178 hr178 hp178 => ?_)
                refine v_istore dX7_acts_181 (Nat.le_of_ble_eq_true rfl) ?_
                refine v_goto 28 dX7_acts_183 (by decide) ?_
                refine wV.locs (lv' := [(0, .ref (fw 0 0)), (1, .int (gI c)), (2, .int (gI a)), (3, .int (gI q)), (4, .int (gI b)), (5, .int (gI _)), (6, .int (gI _))]) ⟨rfl, rfl, rfl, rfl, rfl, rfl, rfl, trivial⟩ (ih _ _ _ _ (by omega) (by omega) hY hO hK (by omega) (by omega))
        · refine v_aloadn dX7_acts_77 rfl ?_
          refine v_iloadn dX7_acts_78 rfl ?_
          refine v_aloadn dX7_acts_79 rfl ?_
          refine v_iloadn dX7_acts_80 rfl ?_
          refine v_aloadn dX7_acts_81 rfl ?_
          refine v_get dX7_acts_82 gf_X7_48 (hH 0 0 (by decide)) rfl ?_
          refine v_iconst dX7_acts_85 ?_
          refine v_iloadn dX7_acts_86 rfl ?_
          refine v_imul dX7_acts_87 ?_
          refine v_iconst dX7_acts_88 ?_
          refine v_iadd dX7_acts_89 ?_
          refine v_iald dX7_acts_90 (hH 12 0 (by decide)) (by omega) (by omega) (by decide) ?_
          have hcc := hcn (4 * c + 2).toNat (by omega)
          refine v_callV (tX7_called hY (by omega) (by omega)) lc_X7_132 ⟨(Nat.le_of_ble_eq_true rfl), (Nat.le_of_ble_eq_true rfl)⟩ dX7_acts_91 rfl rfl (Nat.le_of_ble_eq_true rfl) ⟨(Nat.le_of_ble_eq_true rfl), (Nat.le_of_ble_eq_true rfl)⟩ ⟨_, _, _, _, hH 0 0 (by decide), rfl⟩ (kP fun r91 hr91 hp91 => ?_)
          refine v_iload dX7_acts_94 rfl ?_
          refine v_iconst dX7_acts_96 ?_
          refine v_isub dX7_acts_97 ?_
          refine v_callV (tX7_at hY (by omega) (by omega) (by omega)) lc_X7_83 ⟨(Nat.le_of_ble_eq_true rfl), (Nat.le_of_ble_eq_true rfl)⟩ dX7_acts_98 rfl rfl (Nat.le_of_ble_eq_true rfl) ⟨(Nat.le_of_ble_eq_true rfl), (Nat.le_of_ble_eq_true rfl)⟩ ⟨_, _, _, _, hH 0 0 (by decide), rfl⟩ (kP fun r98 hr98 hp98 => ?_)
          refine v_iconst dX7_acts_101 ?_
          refine v_icmp_ne 109 dX7_acts_102 (by decide) (by omega) (by omega) (fun h102 => ?_) (fun h102 => ?_)
          · refine v_iconst dX7_acts_109 ?_
            refine v_istore dX7_acts_110 (Nat.le_of_ble_eq_true rfl) ?_
            refine v_iload dX7_acts_112 rfl ?_
            refine v_if_eq 157 dX7_acts_114 (by decide) (by omega) (fun h114 => ?_) (fun h114 => ?_)
            · refine v_iload dX7_acts_157 rfl ?_
              refine v_iload dX7_acts_159 rfl ?_
              refine v_if_eq 168 dX7_acts_161 (by decide) (by omega) (fun h161 => ?_) (fun h161 => ?_)
              · refine v_iconst dX7_acts_168 ?_
                refine v_iadd dX7_acts_169 ?_
                refine v_istore dX7_acts_170 (Nat.le_of_ble_eq_true rfl) ?_
                refine v_aloadn dX7_acts_172 rfl ?_
                refine v_iloadn dX7_acts_173 rfl ?_
                refine v_iload dX7_acts_174 rfl ?_
                refine v_iload dX7_acts_176 rfl ?_
                refine v_callV (tX7_nextChange hY (by omega) (by omega) (by omega) (by omega)) lc_X7_103 ⟨(Nat.le_of_ble_eq_true rfl), (Nat.le_of_ble_eq_true rfl)⟩ dX7_acts_178 rfl rfl (Nat.le_of_ble_eq_true rfl) ⟨(Nat.le_of_ble_eq_true rfl), (Nat.le_of_ble_eq_true rfl)⟩ ⟨_, _, _, _, hH 0 0 (by decide), rfl⟩ (kP fun r178 hr178 hp178 => ?_)
                refine v_istore dX7_acts_181 (Nat.le_of_ble_eq_true rfl) ?_
                refine v_goto 28 dX7_acts_183 (by decide) ?_
                refine wV.locs (lv' := [(0, .ref (fw 0 0)), (1, .int (gI c)), (2, .int (gI a)), (3, .int (gI q)), (4, .int (gI b)), (5, .int (gI _)), (6, .int (gI _))]) ⟨rfl, rfl, rfl, rfl, rfl, rfl, rfl, trivial⟩ (ih _ _ _ _ (by omega) (by omega) hY hO hK (by omega) (by omega))
              · refine v_iconst dX7_acts_164 ?_
                refine v_goto 169 dX7_acts_165 (by decide) ?_
                refine v_iadd dX7_acts_169 ?_
                refine v_istore dX7_acts_170 (Nat.le_of_ble_eq_true rfl) ?_
                refine v_aloadn dX7_acts_172 rfl ?_
                refine v_iloadn dX7_acts_173 rfl ?_
                refine v_iload dX7_acts_174 rfl ?_
                refine v_iload dX7_acts_176 rfl ?_
                refine v_callV (tX7_nextChange hY (by omega) (by omega) (by omega) (by omega)) lc_X7_103 ⟨(Nat.le_of_ble_eq_true rfl), (Nat.le_of_ble_eq_true rfl)⟩ dX7_acts_178 rfl rfl (Nat.le_of_ble_eq_true rfl) ⟨(Nat.le_of_ble_eq_true rfl), (Nat.le_of_ble_eq_true rfl)⟩ ⟨_, _, _, _, hH 0 0 (by decide), rfl⟩ (kP fun r178 hr178 hp178 => ?_)
                refine v_istore dX7_acts_181 (Nat.le_of_ble_eq_true rfl) ?_
                refine v_goto 28 dX7_acts_183 (by decide) ?_
                refine wV.locs (lv' := [(0, .ref (fw 0 0)), (1, .int (gI c)), (2, .int (gI a)), (3, .int (gI q)), (4, .int (gI b)), (5, .int (gI _)), (6, .int (gI _))]) ⟨rfl, rfl, rfl, rfl, rfl, rfl, rfl, trivial⟩ (ih _ _ _ _ (by omega) (by omega) hY hO hK (by omega) (by omega))
            · refine v_iload dX7_acts_117 rfl ?_
              refine v_iloadn dX7_acts_119 rfl ?_
              refine v_icmp_ne 157 dX7_acts_120 (by decide) (by omega) (by omega) (fun h120 => ?_) (fun h120 => ?_)
              · refine v_iload dX7_acts_157 rfl ?_
                refine v_iload dX7_acts_159 rfl ?_
                refine v_if_eq 168 dX7_acts_161 (by decide) (by omega) (fun h161 => ?_) (fun h161 => ?_)
                · refine v_iconst dX7_acts_168 ?_
                  refine v_iadd dX7_acts_169 ?_
                  refine v_istore dX7_acts_170 (Nat.le_of_ble_eq_true rfl) ?_
                  refine v_aloadn dX7_acts_172 rfl ?_
                  refine v_iloadn dX7_acts_173 rfl ?_
                  refine v_iload dX7_acts_174 rfl ?_
                  refine v_iload dX7_acts_176 rfl ?_
                  refine v_callV (tX7_nextChange hY (by omega) (by omega) (by omega) (by omega)) lc_X7_103 ⟨(Nat.le_of_ble_eq_true rfl), (Nat.le_of_ble_eq_true rfl)⟩ dX7_acts_178 rfl rfl (Nat.le_of_ble_eq_true rfl) ⟨(Nat.le_of_ble_eq_true rfl), (Nat.le_of_ble_eq_true rfl)⟩ ⟨_, _, _, _, hH 0 0 (by decide), rfl⟩ (kP fun r178 hr178 hp178 => ?_)
                  refine v_istore dX7_acts_181 (Nat.le_of_ble_eq_true rfl) ?_
                  refine v_goto 28 dX7_acts_183 (by decide) ?_
                  refine wV.locs (lv' := [(0, .ref (fw 0 0)), (1, .int (gI c)), (2, .int (gI a)), (3, .int (gI q)), (4, .int (gI b)), (5, .int (gI _)), (6, .int (gI _))]) ⟨rfl, rfl, rfl, rfl, rfl, rfl, rfl, trivial⟩ (ih _ _ _ _ (by omega) (by omega) hY hO hK (by omega) (by omega))
                · refine v_iconst dX7_acts_164 ?_
                  refine v_goto 169 dX7_acts_165 (by decide) ?_
                  refine v_iadd dX7_acts_169 ?_
                  refine v_istore dX7_acts_170 (Nat.le_of_ble_eq_true rfl) ?_
                  refine v_aloadn dX7_acts_172 rfl ?_
                  refine v_iloadn dX7_acts_173 rfl ?_
                  refine v_iload dX7_acts_174 rfl ?_
                  refine v_iload dX7_acts_176 rfl ?_
                  refine v_callV (tX7_nextChange hY (by omega) (by omega) (by omega) (by omega)) lc_X7_103 ⟨(Nat.le_of_ble_eq_true rfl), (Nat.le_of_ble_eq_true rfl)⟩ dX7_acts_178 rfl rfl (Nat.le_of_ble_eq_true rfl) ⟨(Nat.le_of_ble_eq_true rfl), (Nat.le_of_ble_eq_true rfl)⟩ ⟨_, _, _, _, hH 0 0 (by decide), rfl⟩ (kP fun r178 hr178 hp178 => ?_)
                  refine v_istore dX7_acts_181 (Nat.le_of_ble_eq_true rfl) ?_
                  refine v_goto 28 dX7_acts_183 (by decide) ?_
                  refine wV.locs (lv' := [(0, .ref (fw 0 0)), (1, .int (gI c)), (2, .int (gI a)), (3, .int (gI q)), (4, .int (gI b)), (5, .int (gI _)), (6, .int (gI _))]) ⟨rfl, rfl, rfl, rfl, rfl, rfl, rfl, trivial⟩ (ih _ _ _ _ (by omega) (by omega) hY hO hK (by omega) (by omega))
              · refine v_aloadn dX7_acts_123 rfl ?_
                refine v_iload dX7_acts_124 rfl ?_
                refine v_put dX7_acts_126 pf_X7_138 (hH 0 0 (by decide)) rfl rfl (Nat.le_of_ble_eq_true rfl) ?_
                generalize hMe126 : wup _ _ _ = M126
                have hO : wO cntY fw Mi M126 := by rw [← hMe126]; exact hO.up (k := 0) (i := 0) (by decide)
                obtain ⟨s126, hs126⟩ : ∃ z, z = ups s 0 0 (21) (t) := ⟨_, rfl⟩
                have hH : wH cntY (cellY G fw) fw s126 M126 := by rw [← hMe126, hs126]; exact wH.up hJ hH (k := 0) (i := 0) (21) (t) (by decide) rfl
                have hI : invY s126 := by rw [hs126]; exact invY_scr hI (by simp) (by omega)
                have hK : keepY si s126 := hK.tr (by rw [hs126]; exact keepY_up (by decide))
                have hY : wY G fw s126 M126 := ⟨hJ, hH, hI⟩
                have h0 := hY.2.2.1
                have hrw := hY.2.2.2.1
                have hnm := hY.2.2.2.2.1
                have hsh := hY.2.2.2.2.2.1
                have hmk := hY.2.2.2.2.2.2.1
                have hic := hY.2.2.2.2.2.2.2.1
                have hcn := hY.2.2.2.2.2.2.2.2.1
                have hgt := hY.2.2.2.2.2.2.2.2.2
                refine v_aloadn dX7_acts_129 rfl ?_
                refine v_aloadn dX7_acts_130 rfl ?_
                refine v_iloadn dX7_acts_131 rfl ?_
                refine v_aloadn dX7_acts_132 rfl ?_
                refine v_iloadn dX7_acts_133 rfl ?_
                refine v_aloadn dX7_acts_134 rfl ?_
                refine v_get dX7_acts_135 gf_X7_48 (hH 0 0 (by decide)) rfl ?_
                refine v_iconst dX7_acts_138 ?_
                refine v_iloadn dX7_acts_139 rfl ?_
                refine v_imul dX7_acts_140 ?_
                refine v_iconst dX7_acts_141 ?_
                refine v_iadd dX7_acts_142 ?_
                refine v_iald dX7_acts_143 (hH 12 0 (by decide)) (by omega) (by omega) (by decide) ?_
                have hcc := hcn (4 * c + 3).toNat (by omega)
                refine v_callV (tX7_called hY (by omega) (by omega)) lc_X7_132 ⟨(Nat.le_of_ble_eq_true rfl), (Nat.le_of_ble_eq_true rfl)⟩ dX7_acts_144 rfl rfl (Nat.le_of_ble_eq_true rfl) ⟨(Nat.le_of_ble_eq_true rfl), (Nat.le_of_ble_eq_true rfl)⟩ ⟨_, _, _, _, hH 0 0 (by decide), rfl⟩ (kP fun r144 hr144 hp144 => ?_)
                refine v_iload dX7_acts_147 rfl ?_
                refine v_iconst dX7_acts_149 ?_
                refine v_isub dX7_acts_150 ?_
                refine v_callV (tX7_at hY (by omega) (by omega) (by omega)) lc_X7_83 ⟨(Nat.le_of_ble_eq_true rfl), (Nat.le_of_ble_eq_true rfl)⟩ dX7_acts_151 rfl rfl (Nat.le_of_ble_eq_true rfl) ⟨(Nat.le_of_ble_eq_true rfl), (Nat.le_of_ble_eq_true rfl)⟩ ⟨_, _, _, _, hH 0 0 (by decide), rfl⟩ (kP fun r151 hr151 hp151 => ?_)
                refine v_put dX7_acts_154 pf_X7_141 (hH 0 0 (by decide)) rfl rfl (Nat.le_of_ble_eq_true rfl) ?_
                generalize hMe154 : wup _ _ _ = M154
                have hO : wO cntY fw Mi M154 := by rw [← hMe154]; exact hO.up (k := 0) (i := 0) (by decide)
                obtain ⟨s154, hs154⟩ : ∃ z, z = ups s126 0 0 (22) (r151) := ⟨_, rfl⟩
                have hH : wH cntY (cellY G fw) fw s154 M154 := by rw [← hMe154, hs154]; exact wH.up hJ hH (k := 0) (i := 0) (22) (r151) (by decide) rfl
                have hI : invY s154 := by rw [hs154]; exact invY_scr hI (by simp) (by omega)
                have hK : keepY si s154 := hK.tr (by rw [hs154]; exact keepY_up (by decide))
                have hY : wY G fw s154 M154 := ⟨hJ, hH, hI⟩
                have h0 := hY.2.2.1
                have hrw := hY.2.2.2.1
                have hnm := hY.2.2.2.2.1
                have hsh := hY.2.2.2.2.2.1
                have hmk := hY.2.2.2.2.2.2.1
                have hic := hY.2.2.2.2.2.2.2.1
                have hcn := hY.2.2.2.2.2.2.2.2.1
                have hgt := hY.2.2.2.2.2.2.2.2.2
                refine v_iload dX7_acts_157 rfl ?_
                refine v_iload dX7_acts_159 rfl ?_
                refine v_if_eq 168 dX7_acts_161 (by decide) (by omega) (fun h161 => ?_) (fun h161 => ?_)
                · refine v_iconst dX7_acts_168 ?_
                  refine v_iadd dX7_acts_169 ?_
                  refine v_istore dX7_acts_170 (Nat.le_of_ble_eq_true rfl) ?_
                  refine v_aloadn dX7_acts_172 rfl ?_
                  refine v_iloadn dX7_acts_173 rfl ?_
                  refine v_iload dX7_acts_174 rfl ?_
                  refine v_iload dX7_acts_176 rfl ?_
                  refine v_callV (tX7_nextChange hY (by omega) (by omega) (by omega) (by omega)) lc_X7_103 ⟨(Nat.le_of_ble_eq_true rfl), (Nat.le_of_ble_eq_true rfl)⟩ dX7_acts_178 rfl rfl (Nat.le_of_ble_eq_true rfl) ⟨(Nat.le_of_ble_eq_true rfl), (Nat.le_of_ble_eq_true rfl)⟩ ⟨_, _, _, _, hH 0 0 (by decide), rfl⟩ (kP fun r178 hr178 hp178 => ?_)
                  refine v_istore dX7_acts_181 (Nat.le_of_ble_eq_true rfl) ?_
                  refine v_goto 28 dX7_acts_183 (by decide) ?_
                  refine wV.locs (lv' := [(0, .ref (fw 0 0)), (1, .int (gI c)), (2, .int (gI a)), (3, .int (gI q)), (4, .int (gI b)), (5, .int (gI _)), (6, .int (gI _))]) ⟨rfl, rfl, rfl, rfl, rfl, rfl, rfl, trivial⟩ (ih _ _ _ _ (by omega) (by omega) hY hO hK (by omega) (by omega))
                · refine v_iconst dX7_acts_164 ?_
                  refine v_goto 169 dX7_acts_165 (by decide) ?_
                  refine v_iadd dX7_acts_169 ?_
                  refine v_istore dX7_acts_170 (Nat.le_of_ble_eq_true rfl) ?_
                  refine v_aloadn dX7_acts_172 rfl ?_
                  refine v_iloadn dX7_acts_173 rfl ?_
                  refine v_iload dX7_acts_174 rfl ?_
                  refine v_iload dX7_acts_176 rfl ?_
                  refine v_callV (tX7_nextChange hY (by omega) (by omega) (by omega) (by omega)) lc_X7_103 ⟨(Nat.le_of_ble_eq_true rfl), (Nat.le_of_ble_eq_true rfl)⟩ dX7_acts_178 rfl rfl (Nat.le_of_ble_eq_true rfl) ⟨(Nat.le_of_ble_eq_true rfl), (Nat.le_of_ble_eq_true rfl)⟩ ⟨_, _, _, _, hH 0 0 (by decide), rfl⟩ (kP fun r178 hr178 hp178 => ?_)
                  refine v_istore dX7_acts_181 (Nat.le_of_ble_eq_true rfl) ?_
                  refine v_goto 28 dX7_acts_183 (by decide) ?_
                  refine wV.locs (lv' := [(0, .ref (fw 0 0)), (1, .int (gI c)), (2, .int (gI a)), (3, .int (gI q)), (4, .int (gI b)), (5, .int (gI _)), (6, .int (gI _))]) ⟨rfl, rfl, rfl, rfl, rfl, rfl, rfl, trivial⟩ (ih _ _ _ _ (by omega) (by omega) hY hO hK (by omega) (by omega))
          · refine v_iconst dX7_acts_105 ?_
            refine v_goto 110 dX7_acts_106 (by decide) ?_
            refine v_istore dX7_acts_110 (Nat.le_of_ble_eq_true rfl) ?_
            refine v_iload dX7_acts_112 rfl ?_
            refine v_if_eq 157 dX7_acts_114 (by decide) (by omega) (fun h114 => ?_) (fun h114 => ?_)
            · refine v_iload dX7_acts_157 rfl ?_
              refine v_iload dX7_acts_159 rfl ?_
              refine v_if_eq 168 dX7_acts_161 (by decide) (by omega) (fun h161 => ?_) (fun h161 => ?_)
              · refine v_iconst dX7_acts_168 ?_
                refine v_iadd dX7_acts_169 ?_
                refine v_istore dX7_acts_170 (Nat.le_of_ble_eq_true rfl) ?_
                refine v_aloadn dX7_acts_172 rfl ?_
                refine v_iloadn dX7_acts_173 rfl ?_
                refine v_iload dX7_acts_174 rfl ?_
                refine v_iload dX7_acts_176 rfl ?_
                refine v_callV (tX7_nextChange hY (by omega) (by omega) (by omega) (by omega)) lc_X7_103 ⟨(Nat.le_of_ble_eq_true rfl), (Nat.le_of_ble_eq_true rfl)⟩ dX7_acts_178 rfl rfl (Nat.le_of_ble_eq_true rfl) ⟨(Nat.le_of_ble_eq_true rfl), (Nat.le_of_ble_eq_true rfl)⟩ ⟨_, _, _, _, hH 0 0 (by decide), rfl⟩ (kP fun r178 hr178 hp178 => ?_)
                refine v_istore dX7_acts_181 (Nat.le_of_ble_eq_true rfl) ?_
                refine v_goto 28 dX7_acts_183 (by decide) ?_
                refine wV.locs (lv' := [(0, .ref (fw 0 0)), (1, .int (gI c)), (2, .int (gI a)), (3, .int (gI q)), (4, .int (gI b)), (5, .int (gI _)), (6, .int (gI _))]) ⟨rfl, rfl, rfl, rfl, rfl, rfl, rfl, trivial⟩ (ih _ _ _ _ (by omega) (by omega) hY hO hK (by omega) (by omega))
              · refine v_iconst dX7_acts_164 ?_
                refine v_goto 169 dX7_acts_165 (by decide) ?_
                refine v_iadd dX7_acts_169 ?_
                refine v_istore dX7_acts_170 (Nat.le_of_ble_eq_true rfl) ?_
                refine v_aloadn dX7_acts_172 rfl ?_
                refine v_iloadn dX7_acts_173 rfl ?_
                refine v_iload dX7_acts_174 rfl ?_
                refine v_iload dX7_acts_176 rfl ?_
                refine v_callV (tX7_nextChange hY (by omega) (by omega) (by omega) (by omega)) lc_X7_103 ⟨(Nat.le_of_ble_eq_true rfl), (Nat.le_of_ble_eq_true rfl)⟩ dX7_acts_178 rfl rfl (Nat.le_of_ble_eq_true rfl) ⟨(Nat.le_of_ble_eq_true rfl), (Nat.le_of_ble_eq_true rfl)⟩ ⟨_, _, _, _, hH 0 0 (by decide), rfl⟩ (kP fun r178 hr178 hp178 => ?_)
                refine v_istore dX7_acts_181 (Nat.le_of_ble_eq_true rfl) ?_
                refine v_goto 28 dX7_acts_183 (by decide) ?_
                refine wV.locs (lv' := [(0, .ref (fw 0 0)), (1, .int (gI c)), (2, .int (gI a)), (3, .int (gI q)), (4, .int (gI b)), (5, .int (gI _)), (6, .int (gI _))]) ⟨rfl, rfl, rfl, rfl, rfl, rfl, rfl, trivial⟩ (ih _ _ _ _ (by omega) (by omega) hY hO hK (by omega) (by omega))
            · refine v_iload dX7_acts_117 rfl ?_
              refine v_iloadn dX7_acts_119 rfl ?_
              refine v_icmp_ne 157 dX7_acts_120 (by decide) (by omega) (by omega) (fun h120 => ?_) (fun h120 => ?_)
              · refine v_iload dX7_acts_157 rfl ?_
                refine v_iload dX7_acts_159 rfl ?_
                refine v_if_eq 168 dX7_acts_161 (by decide) (by omega) (fun h161 => ?_) (fun h161 => ?_)
                · refine v_iconst dX7_acts_168 ?_
                  refine v_iadd dX7_acts_169 ?_
                  refine v_istore dX7_acts_170 (Nat.le_of_ble_eq_true rfl) ?_
                  refine v_aloadn dX7_acts_172 rfl ?_
                  refine v_iloadn dX7_acts_173 rfl ?_
                  refine v_iload dX7_acts_174 rfl ?_
                  refine v_iload dX7_acts_176 rfl ?_
                  refine v_callV (tX7_nextChange hY (by omega) (by omega) (by omega) (by omega)) lc_X7_103 ⟨(Nat.le_of_ble_eq_true rfl), (Nat.le_of_ble_eq_true rfl)⟩ dX7_acts_178 rfl rfl (Nat.le_of_ble_eq_true rfl) ⟨(Nat.le_of_ble_eq_true rfl), (Nat.le_of_ble_eq_true rfl)⟩ ⟨_, _, _, _, hH 0 0 (by decide), rfl⟩ (kP fun r178 hr178 hp178 => ?_)
                  refine v_istore dX7_acts_181 (Nat.le_of_ble_eq_true rfl) ?_
                  refine v_goto 28 dX7_acts_183 (by decide) ?_
                  refine wV.locs (lv' := [(0, .ref (fw 0 0)), (1, .int (gI c)), (2, .int (gI a)), (3, .int (gI q)), (4, .int (gI b)), (5, .int (gI _)), (6, .int (gI _))]) ⟨rfl, rfl, rfl, rfl, rfl, rfl, rfl, trivial⟩ (ih _ _ _ _ (by omega) (by omega) hY hO hK (by omega) (by omega))
                · refine v_iconst dX7_acts_164 ?_
                  refine v_goto 169 dX7_acts_165 (by decide) ?_
                  refine v_iadd dX7_acts_169 ?_
                  refine v_istore dX7_acts_170 (Nat.le_of_ble_eq_true rfl) ?_
                  refine v_aloadn dX7_acts_172 rfl ?_
                  refine v_iloadn dX7_acts_173 rfl ?_
                  refine v_iload dX7_acts_174 rfl ?_
                  refine v_iload dX7_acts_176 rfl ?_
                  refine v_callV (tX7_nextChange hY (by omega) (by omega) (by omega) (by omega)) lc_X7_103 ⟨(Nat.le_of_ble_eq_true rfl), (Nat.le_of_ble_eq_true rfl)⟩ dX7_acts_178 rfl rfl (Nat.le_of_ble_eq_true rfl) ⟨(Nat.le_of_ble_eq_true rfl), (Nat.le_of_ble_eq_true rfl)⟩ ⟨_, _, _, _, hH 0 0 (by decide), rfl⟩ (kP fun r178 hr178 hp178 => ?_)
                  refine v_istore dX7_acts_181 (Nat.le_of_ble_eq_true rfl) ?_
                  refine v_goto 28 dX7_acts_183 (by decide) ?_
                  refine wV.locs (lv' := [(0, .ref (fw 0 0)), (1, .int (gI c)), (2, .int (gI a)), (3, .int (gI q)), (4, .int (gI b)), (5, .int (gI _)), (6, .int (gI _))]) ⟨rfl, rfl, rfl, rfl, rfl, rfl, rfl, trivial⟩ (ih _ _ _ _ (by omega) (by omega) hY hO hK (by omega) (by omega))
              · refine v_aloadn dX7_acts_123 rfl ?_
                refine v_iload dX7_acts_124 rfl ?_
                refine v_put dX7_acts_126 pf_X7_138 (hH 0 0 (by decide)) rfl rfl (Nat.le_of_ble_eq_true rfl) ?_
                generalize hMe126 : wup _ _ _ = M126
                have hO : wO cntY fw Mi M126 := by rw [← hMe126]; exact hO.up (k := 0) (i := 0) (by decide)
                obtain ⟨s126, hs126⟩ : ∃ z, z = ups s 0 0 (21) (t) := ⟨_, rfl⟩
                have hH : wH cntY (cellY G fw) fw s126 M126 := by rw [← hMe126, hs126]; exact wH.up hJ hH (k := 0) (i := 0) (21) (t) (by decide) rfl
                have hI : invY s126 := by rw [hs126]; exact invY_scr hI (by simp) (by omega)
                have hK : keepY si s126 := hK.tr (by rw [hs126]; exact keepY_up (by decide))
                have hY : wY G fw s126 M126 := ⟨hJ, hH, hI⟩
                have h0 := hY.2.2.1
                have hrw := hY.2.2.2.1
                have hnm := hY.2.2.2.2.1
                have hsh := hY.2.2.2.2.2.1
                have hmk := hY.2.2.2.2.2.2.1
                have hic := hY.2.2.2.2.2.2.2.1
                have hcn := hY.2.2.2.2.2.2.2.2.1
                have hgt := hY.2.2.2.2.2.2.2.2.2
                refine v_aloadn dX7_acts_129 rfl ?_
                refine v_aloadn dX7_acts_130 rfl ?_
                refine v_iloadn dX7_acts_131 rfl ?_
                refine v_aloadn dX7_acts_132 rfl ?_
                refine v_iloadn dX7_acts_133 rfl ?_
                refine v_aloadn dX7_acts_134 rfl ?_
                refine v_get dX7_acts_135 gf_X7_48 (hH 0 0 (by decide)) rfl ?_
                refine v_iconst dX7_acts_138 ?_
                refine v_iloadn dX7_acts_139 rfl ?_
                refine v_imul dX7_acts_140 ?_
                refine v_iconst dX7_acts_141 ?_
                refine v_iadd dX7_acts_142 ?_
                refine v_iald dX7_acts_143 (hH 12 0 (by decide)) (by omega) (by omega) (by decide) ?_
                have hcc := hcn (4 * c + 3).toNat (by omega)
                refine v_callV (tX7_called hY (by omega) (by omega)) lc_X7_132 ⟨(Nat.le_of_ble_eq_true rfl), (Nat.le_of_ble_eq_true rfl)⟩ dX7_acts_144 rfl rfl (Nat.le_of_ble_eq_true rfl) ⟨(Nat.le_of_ble_eq_true rfl), (Nat.le_of_ble_eq_true rfl)⟩ ⟨_, _, _, _, hH 0 0 (by decide), rfl⟩ (kP fun r144 hr144 hp144 => ?_)
                refine v_iload dX7_acts_147 rfl ?_
                refine v_iconst dX7_acts_149 ?_
                refine v_isub dX7_acts_150 ?_
                refine v_callV (tX7_at hY (by omega) (by omega) (by omega)) lc_X7_83 ⟨(Nat.le_of_ble_eq_true rfl), (Nat.le_of_ble_eq_true rfl)⟩ dX7_acts_151 rfl rfl (Nat.le_of_ble_eq_true rfl) ⟨(Nat.le_of_ble_eq_true rfl), (Nat.le_of_ble_eq_true rfl)⟩ ⟨_, _, _, _, hH 0 0 (by decide), rfl⟩ (kP fun r151 hr151 hp151 => ?_)
                refine v_put dX7_acts_154 pf_X7_141 (hH 0 0 (by decide)) rfl rfl (Nat.le_of_ble_eq_true rfl) ?_
                generalize hMe154 : wup _ _ _ = M154
                have hO : wO cntY fw Mi M154 := by rw [← hMe154]; exact hO.up (k := 0) (i := 0) (by decide)
                obtain ⟨s154, hs154⟩ : ∃ z, z = ups s126 0 0 (22) (r151) := ⟨_, rfl⟩
                have hH : wH cntY (cellY G fw) fw s154 M154 := by rw [← hMe154, hs154]; exact wH.up hJ hH (k := 0) (i := 0) (22) (r151) (by decide) rfl
                have hI : invY s154 := by rw [hs154]; exact invY_scr hI (by simp) (by omega)
                have hK : keepY si s154 := hK.tr (by rw [hs154]; exact keepY_up (by decide))
                have hY : wY G fw s154 M154 := ⟨hJ, hH, hI⟩
                have h0 := hY.2.2.1
                have hrw := hY.2.2.2.1
                have hnm := hY.2.2.2.2.1
                have hsh := hY.2.2.2.2.2.1
                have hmk := hY.2.2.2.2.2.2.1
                have hic := hY.2.2.2.2.2.2.2.1
                have hcn := hY.2.2.2.2.2.2.2.2.1
                have hgt := hY.2.2.2.2.2.2.2.2.2
                refine v_iload dX7_acts_157 rfl ?_
                refine v_iload dX7_acts_159 rfl ?_
                refine v_if_eq 168 dX7_acts_161 (by decide) (by omega) (fun h161 => ?_) (fun h161 => ?_)
                · refine v_iconst dX7_acts_168 ?_
                  refine v_iadd dX7_acts_169 ?_
                  refine v_istore dX7_acts_170 (Nat.le_of_ble_eq_true rfl) ?_
                  refine v_aloadn dX7_acts_172 rfl ?_
                  refine v_iloadn dX7_acts_173 rfl ?_
                  refine v_iload dX7_acts_174 rfl ?_
                  refine v_iload dX7_acts_176 rfl ?_
                  refine v_callV (tX7_nextChange hY (by omega) (by omega) (by omega) (by omega)) lc_X7_103 ⟨(Nat.le_of_ble_eq_true rfl), (Nat.le_of_ble_eq_true rfl)⟩ dX7_acts_178 rfl rfl (Nat.le_of_ble_eq_true rfl) ⟨(Nat.le_of_ble_eq_true rfl), (Nat.le_of_ble_eq_true rfl)⟩ ⟨_, _, _, _, hH 0 0 (by decide), rfl⟩ (kP fun r178 hr178 hp178 => ?_)
                  refine v_istore dX7_acts_181 (Nat.le_of_ble_eq_true rfl) ?_
                  refine v_goto 28 dX7_acts_183 (by decide) ?_
                  refine wV.locs (lv' := [(0, .ref (fw 0 0)), (1, .int (gI c)), (2, .int (gI a)), (3, .int (gI q)), (4, .int (gI b)), (5, .int (gI _)), (6, .int (gI _))]) ⟨rfl, rfl, rfl, rfl, rfl, rfl, rfl, trivial⟩ (ih _ _ _ _ (by omega) (by omega) hY hO hK (by omega) (by omega))
                · refine v_iconst dX7_acts_164 ?_
                  refine v_goto 169 dX7_acts_165 (by decide) ?_
                  refine v_iadd dX7_acts_169 ?_
                  refine v_istore dX7_acts_170 (Nat.le_of_ble_eq_true rfl) ?_
                  refine v_aloadn dX7_acts_172 rfl ?_
                  refine v_iloadn dX7_acts_173 rfl ?_
                  refine v_iload dX7_acts_174 rfl ?_
                  refine v_iload dX7_acts_176 rfl ?_
                  refine v_callV (tX7_nextChange hY (by omega) (by omega) (by omega) (by omega)) lc_X7_103 ⟨(Nat.le_of_ble_eq_true rfl), (Nat.le_of_ble_eq_true rfl)⟩ dX7_acts_178 rfl rfl (Nat.le_of_ble_eq_true rfl) ⟨(Nat.le_of_ble_eq_true rfl), (Nat.le_of_ble_eq_true rfl)⟩ ⟨_, _, _, _, hH 0 0 (by decide), rfl⟩ (kP fun r178 hr178 hp178 => ?_)
                  refine v_istore dX7_acts_181 (Nat.le_of_ble_eq_true rfl) ?_
                  refine v_goto 28 dX7_acts_183 (by decide) ?_
                  refine wV.locs (lv' := [(0, .ref (fw 0 0)), (1, .int (gI c)), (2, .int (gI a)), (3, .int (gI q)), (4, .int (gI b)), (5, .int (gI _)), (6, .int (gI _))]) ⟨rfl, rfl, rfl, rfl, rfl, rfl, rfl, trivial⟩ (ih _ _ _ _ (by omega) (by omega) hY hO hK (by omega) (by omega))
set_option maxHeartbeats 4000000 in
set_option maxRecDepth 100000 in
theorem tX7_acts {G : gG} {fw : Nat → Nat → Nat} {si : sG} {Mi : wM} (hY : wY G fw si Mi) {c a q : Int} (hc : bt 0 c 3) (ha : bt 0 a 1) (hq : rng q) : wT G qX7_acts 0 0 [.ref (fw 0 0), .int (gI c), .int (gI a), .int (gI q)] Mi (PY G fw Mi (fun x s' => keepY si s' ∧ bt 0 x 100000)) := by
  refine wT.intro (by decide) (Nat.le_of_ble_eq_true rfl) (fun sz => ?_)
  have hO : wO cntY fw Mi Mi := wO.rf
  have hK : keepY si si := keepY.rf
  have h0 := hY.2.2.1
  have hrw := hY.2.2.2.1
  have hnm := hY.2.2.2.2.1
  have hsh := hY.2.2.2.2.2.1
  have hmk := hY.2.2.2.2.2.2.1
  have hic := hY.2.2.2.2.2.2.2.1
  have hcn := hY.2.2.2.2.2.2.2.2.1
  have hgt := hY.2.2.2.2.2.2.2.2.2
  refine v_aloadn dX7_acts_0 rfl ?_
  refine v_iloadn dX7_acts_1 rfl ?_
  refine v_aloadn dX7_acts_2 rfl ?_
  refine v_get dX7_acts_3 gf_X7_48 (hY.2.1 0 0 (by decide)) rfl ?_
  refine v_iconst dX7_acts_6 ?_
  refine v_iloadn dX7_acts_7 rfl ?_
  refine v_imul dX7_acts_8 ?_
  refine v_iald dX7_acts_9 (hY.2.1 12 0 (by decide)) (by omega) (by omega) (by decide) ?_
  have hcc := hcn (4 * c).toNat (by omega)
  refine v_callV (tX7_called hY (by omega) (by omega)) lc_X7_132 ⟨(Nat.le_of_ble_eq_true rfl), (Nat.le_of_ble_eq_true rfl)⟩ dX7_acts_10 rfl rfl (Nat.le_of_ble_eq_true rfl) ⟨(Nat.le_of_ble_eq_true rfl), (Nat.le_of_ble_eq_true rfl)⟩ ⟨_, _, _, _, hY.2.1 0 0 (by decide), rfl⟩ (kP fun r10 hr10 hp10 => ?_)
  refine v_istore dX7_acts_13 (Nat.le_of_ble_eq_true rfl) ?_
  refine v_iconst dX7_acts_15 ?_
  refine v_istore dX7_acts_16 (Nat.le_of_ble_eq_true rfl) ?_
  refine v_aloadn dX7_acts_18 rfl ?_
  refine v_iloadn dX7_acts_19 rfl ?_
  refine v_iload dX7_acts_20 rfl ?_
  refine v_iconst dX7_acts_22 ?_
  refine v_callV (tX7_nextChange hY (by omega) (by omega) (by omega) (by omega)) lc_X7_103 ⟨(Nat.le_of_ble_eq_true rfl), (Nat.le_of_ble_eq_true rfl)⟩ dX7_acts_23 rfl rfl (Nat.le_of_ble_eq_true rfl) ⟨(Nat.le_of_ble_eq_true rfl), (Nat.le_of_ble_eq_true rfl)⟩ ⟨_, _, _, _, hY.2.1 0 0 (by decide), rfl⟩ (kP fun r23 hr23 hp23 => ?_)
  refine v_istore dX7_acts_26 (Nat.le_of_ble_eq_true rfl) ?_
  refine wV.locs (lv' := [(0, .ref (fw 0 0)), (1, .int (gI c)), (2, .int (gI a)), (3, .int (gI q)), (4, .int (gI _)), (5, .int (gI (0))), (6, .int (gI (_)))]) ⟨rfl, rfl, rfl, rfl, rfl, rfl, rfl, trivial⟩ (tX7_acts_loop hc ha hq (by omega) 100010 _ _ _ _ (by omega) (by omega) hY hO hK (by omega) (by omega))
set_option maxHeartbeats 4000000 in
set_option maxRecDepth 100000 in
theorem tX7_act {G : gG} {fw : Nat → Nat → Nat} {si : sG} {Mi : wM} (hY : wY G fw si Mi) {c a n w : Int} (hc : rng c) (ha : rng a) (hn : rng n) (hw : rng w) : wT G qX7_act 0 0 [.ref (fw 0 0), .int (gI c), .int (gI a), .int (gI n), .int (gI w)] Mi (PY G fw Mi (fun x s' => keepY si s')) := by
  refine wT.intro (by decide) (Nat.le_of_ble_eq_true rfl) (fun sz => ?_)
  have hO : wO cntY fw Mi Mi := wO.rf
  have hK : keepY si si := keepY.rf
  have h0 := hY.2.2.1
  have hrw := hY.2.2.2.1
  have hnm := hY.2.2.2.2.1
  have hsh := hY.2.2.2.2.2.1
  have hmk := hY.2.2.2.2.2.2.1
  have hic := hY.2.2.2.2.2.2.2.1
  have hcn := hY.2.2.2.2.2.2.2.2.1
  have hgt := hY.2.2.2.2.2.2.2.2.2
  refine v_iloadn dX7_act_0 rfl ?_
  refine v_iconst dX7_act_1 ?_
  refine v_iconst dX7_act_2 ?_
  refine v_callS (tX7_in (by omega) (by omega) (by omega)) lc_X7_60 ⟨(Nat.le_of_ble_eq_true rfl), (Nat.le_of_ble_eq_true rfl)⟩ dX7_act_3 rfl rfl (Nat.le_of_ble_eq_true rfl) ⟨(Nat.le_of_ble_eq_true rfl), (Nat.le_of_ble_eq_true rfl)⟩ (kP fun r3 hr3 hp3 => ?_)
  refine v_if_eq 33 dX7_act_6 (by decide) (by omega) (fun h6 => ?_) (fun h6 => ?_)
  · refine v_iconst dX7_act_33 ?_
    exact v_iret dX7_act_34 rfl ⟨(Nat.le_of_ble_eq_true rfl), (Nat.le_of_ble_eq_true rfl)⟩ (by omega) ⟨_, hY, hO, hK⟩
  · refine v_iloadn dX7_act_9 rfl ?_
    refine v_iconst dX7_act_10 ?_
    refine v_iconst dX7_act_11 ?_
    refine v_callS (tX7_in (by omega) (by omega) (by omega)) lc_X7_60 ⟨(Nat.le_of_ble_eq_true rfl), (Nat.le_of_ble_eq_true rfl)⟩ dX7_act_12 rfl rfl (Nat.le_of_ble_eq_true rfl) ⟨(Nat.le_of_ble_eq_true rfl), (Nat.le_of_ble_eq_true rfl)⟩ (kP fun r12 hr12 hp12 => ?_)
    refine v_if_eq 33 dX7_act_15 (by decide) (by omega) (fun h15 => ?_) (fun h15 => ?_)
    · refine v_iconst dX7_act_33 ?_
      exact v_iret dX7_act_34 rfl ⟨(Nat.le_of_ble_eq_true rfl), (Nat.le_of_ble_eq_true rfl)⟩ (by omega) ⟨_, hY, hO, hK⟩
    · refine v_iloadn dX7_act_18 rfl ?_
      refine v_iconst dX7_act_19 ?_
      refine v_icmp_lt 33 dX7_act_20 (by decide) (by omega) (by omega) (fun h20 => ?_) (fun h20 => ?_)
      · refine v_iconst dX7_act_33 ?_
        exact v_iret dX7_act_34 rfl ⟨(Nat.le_of_ble_eq_true rfl), (Nat.le_of_ble_eq_true rfl)⟩ (by omega) ⟨_, hY, hO, hK⟩
      · refine v_iload dX7_act_23 rfl ?_
        refine v_iconst dX7_act_25 ?_
        refine v_iconst dX7_act_26 ?_
        refine v_callS (tX7_in (by omega) (by omega) (by omega)) lc_X7_60 ⟨(Nat.le_of_ble_eq_true rfl), (Nat.le_of_ble_eq_true rfl)⟩ dX7_act_27 rfl rfl (Nat.le_of_ble_eq_true rfl) ⟨(Nat.le_of_ble_eq_true rfl), (Nat.le_of_ble_eq_true rfl)⟩ (kP fun r27 hr27 hp27 => ?_)
        refine v_if_ne 35 dX7_act_30 (by decide) (by omega) (fun h30 => ?_) (fun h30 => ?_)
        · refine v_aloadn dX7_act_35 rfl ?_
          refine v_get dX7_act_36 gf_X7_44 (hY.2.1 0 0 (by decide)) rfl ?_
          refine v_iloadn dX7_act_39 rfl ?_
          refine v_zald dX7_act_40 (hY.2.1 11 0 (by decide)) (by omega) (by omega) (by decide) ?_
          have hicc := hic c.toNat (by omega)
          refine v_if_ne 47 dX7_act_41 (by decide) (by omega) (fun h41 => ?_) (fun h41 => ?_)
          · refine v_aloadn dX7_act_47 rfl ?_
            refine v_iloadn dX7_act_48 rfl ?_
            refine v_iloadn dX7_act_49 rfl ?_
            refine v_iloadn dX7_act_50 rfl ?_
            refine v_callV (tX7_acts hY (by omega) (by omega) (by omega)) lc_X7_144 ⟨(Nat.le_of_ble_eq_true rfl), (Nat.le_of_ble_eq_true rfl)⟩ dX7_act_51 rfl rfl (Nat.le_of_ble_eq_true rfl) ⟨(Nat.le_of_ble_eq_true rfl), (Nat.le_of_ble_eq_true rfl)⟩ ⟨_, _, _, _, hY.2.1 0 0 (by decide), rfl⟩ (kI fun r51 M51 hr51 hp51 => ?_)
            obtain ⟨s51, hY, hO51, hK51, hx51⟩ := hp51
            have hO := hO.tr hO51
            have hK := hK.tr hK51
            have h0 := hY.2.2.1
            have hrw := hY.2.2.2.1
            have hnm := hY.2.2.2.2.1
            have hsh := hY.2.2.2.2.2.1
            have hmk := hY.2.2.2.2.2.2.1
            have hic := hY.2.2.2.2.2.2.2.1
            have hcn := hY.2.2.2.2.2.2.2.2.1
            have hgt := hY.2.2.2.2.2.2.2.2.2
            refine v_istore dX7_act_54 (Nat.le_of_ble_eq_true rfl) ?_
            refine v_iloadn dX7_act_56 rfl ?_
            refine v_if_ge 65 dX7_act_57 (by decide) (by omega) (fun h57 => ?_) (fun h57 => ?_)
            · refine v_iloadn dX7_act_65 rfl ?_
              refine v_iload dX7_act_66 rfl ?_
              refine v_icmp_lt 76 dX7_act_68 (by decide) (by omega) (by omega) (fun h68 => ?_) (fun h68 => ?_)
              · refine v_iload dX7_act_76 rfl ?_
                refine v_if_ne 88 dX7_act_78 (by decide) (by omega) (fun h78 => ?_) (fun h78 => ?_)
                · refine v_aloadn dX7_act_88 rfl ?_
                  refine v_get dX7_act_89 gf_X7_141 (hY.2.1 0 0 (by decide)) rfl ?_
                  exact v_iret dX7_act_92 rfl ⟨(Nat.le_of_ble_eq_true rfl), (Nat.le_of_ble_eq_true rfl)⟩ (by omega) ⟨_, hY, hO, hK⟩
                · refine v_aloadn dX7_act_81 rfl ?_
                  refine v_get dX7_act_82 gf_X7_138 (hY.2.1 0 0 (by decide)) rfl ?_
                  refine v_goto 92 dX7_act_85 (by decide) ?_
                  exact v_iret dX7_act_92 rfl ⟨(Nat.le_of_ble_eq_true rfl), (Nat.le_of_ble_eq_true rfl)⟩ (by omega) ⟨_, hY, hO, hK⟩
              · refine v_bipush dX7_act_71 (by decide) ?_
                refine v_goto 92 dX7_act_73 (by decide) ?_
                exact v_iret dX7_act_92 rfl ⟨(Nat.le_of_ble_eq_true rfl), (Nat.le_of_ble_eq_true rfl)⟩ (by omega) ⟨_, hY, hO, hK⟩
            · refine v_iload dX7_act_60 rfl ?_
              refine v_goto 92 dX7_act_62 (by decide) ?_
              exact v_iret dX7_act_92 rfl ⟨(Nat.le_of_ble_eq_true rfl), (Nat.le_of_ble_eq_true rfl)⟩ (by omega) ⟨_, hY, hO, hK⟩
          · refine v_bipush dX7_act_44 (by decide) ?_
            exact v_iret dX7_act_46 rfl ⟨(Nat.le_of_ble_eq_true rfl), (Nat.le_of_ble_eq_true rfl)⟩ (by omega) ⟨_, hY, hO, hK⟩
        · refine v_iconst dX7_act_33 ?_
          exact v_iret dX7_act_34 rfl ⟨(Nat.le_of_ble_eq_true rfl), (Nat.le_of_ble_eq_true rfl)⟩ (by omega) ⟨_, hY, hO, hK⟩
set_option maxHeartbeats 4000000 in
set_option maxRecDepth 100000 in
theorem tX7_unlike_loop {sz : Nat} {M0 : wM} {G : gG} {fw : Nat → Nat → Nat} {si : sG} {Mi : wM} {c d e : Int} (hc : bt 0 c 3) (hd : bt 0 d 100000) (he : bt 0 e 100000) : ∀ (k : Nat) (s : sG) (M : wM) (i : Int), 0 ≤ 200001 - i → 200001 - i < (k : Int) → (wY G fw s M) → (wO cntY fw Mi M) → (keepY si s) → (bt 0 i (d + e)) → wV G qX7_unlike 0 0 sz M0 0 0 42 [(0, .ref (fw 0 0)), (1, .int (gI c)), (2, .int (gI d)), (3, .int (gI e)), (4, .int (gI i))] [] M (PY G fw Mi (fun x s' => keepY si s')) := by
  intro k
  induction k with
  | zero =>
    intros
    omega
  | succ k ih =>
    intro s M i hmz hml hY hO hK h1
    have h0 := hY.2.2.1
    have hrw := hY.2.2.2.1
    have hnm := hY.2.2.2.2.1
    have hsh := hY.2.2.2.2.2.1
    have hmk := hY.2.2.2.2.2.2.1
    have hic := hY.2.2.2.2.2.2.2.1
    have hcn := hY.2.2.2.2.2.2.2.2.1
    have hgt := hY.2.2.2.2.2.2.2.2.2
    refine v_iload dX7_unlike_42 rfl ?_
    refine v_iloadn dX7_unlike_44 rfl ?_
    refine v_icmp_lt 54 dX7_unlike_45 (by decide) (by omega) (by omega) (fun h45 => ?_) (fun h45 => ?_)
    · refine v_iload dX7_unlike_54 rfl ?_
      refine v_iloadn dX7_unlike_56 rfl ?_
      refine v_icmp_ge 66 dX7_unlike_57 (by decide) (by omega) (by omega) (fun h57 => ?_) (fun h57 => ?_)
      · refine v_iload dX7_unlike_66 rfl ?_
        exact v_iret dX7_unlike_68 rfl ⟨(Nat.le_of_ble_eq_true rfl), (Nat.le_of_ble_eq_true rfl)⟩ (by omega) ⟨_, hY, hO, hK⟩
      · refine v_iload dX7_unlike_60 rfl ?_
        refine v_iloadn dX7_unlike_62 rfl ?_
        refine v_icmp_lt 69 dX7_unlike_63 (by decide) (by omega) (by omega) (fun h63 => ?_) (fun h63 => ?_)
        · refine v_aloadn dX7_unlike_69 rfl ?_
          refine v_iloadn dX7_unlike_70 rfl ?_
          refine v_iconst dX7_unlike_71 ?_
          refine v_iload dX7_unlike_72 rfl ?_
          refine v_callV (tX7_acts hY (by omega) (by omega) (by omega)) lc_X7_144 ⟨(Nat.le_of_ble_eq_true rfl), (Nat.le_of_ble_eq_true rfl)⟩ dX7_unlike_74 rfl rfl (Nat.le_of_ble_eq_true rfl) ⟨(Nat.le_of_ble_eq_true rfl), (Nat.le_of_ble_eq_true rfl)⟩ ⟨_, _, _, _, hY.2.1 0 0 (by decide), rfl⟩ (kI fun r74 M74 hr74 hp74 => ?_)
          obtain ⟨s74, hY, hO74, hK74, hx74⟩ := hp74
          have hO := hO.tr hO74
          have hK := hK.tr hK74
          have h0 := hY.2.2.1
          have hrw := hY.2.2.2.1
          have hnm := hY.2.2.2.2.1
          have hsh := hY.2.2.2.2.2.1
          have hmk := hY.2.2.2.2.2.2.1
          have hic := hY.2.2.2.2.2.2.2.1
          have hcn := hY.2.2.2.2.2.2.2.2.1
          have hgt := hY.2.2.2.2.2.2.2.2.2
          refine v_istore dX7_unlike_77 (Nat.le_of_ble_eq_true rfl) ?_
          refine v_aloadn dX7_unlike_79 rfl ?_
          refine v_get dX7_unlike_80 gf_X7_141 (hY.2.1 0 0 (by decide)) rfl ?_
          have hv80 := h0.2.2.2.2.2.2.2
          refine v_istore dX7_unlike_83 (Nat.le_of_ble_eq_true rfl) ?_
          refine v_aloadn dX7_unlike_85 rfl ?_
          refine v_iloadn dX7_unlike_86 rfl ?_
          refine v_iconst dX7_unlike_87 ?_
          refine v_iload dX7_unlike_88 rfl ?_
          refine v_callV (tX7_acts hY (by omega) (by omega) (by omega)) lc_X7_144 ⟨(Nat.le_of_ble_eq_true rfl), (Nat.le_of_ble_eq_true rfl)⟩ dX7_unlike_90 rfl rfl (Nat.le_of_ble_eq_true rfl) ⟨(Nat.le_of_ble_eq_true rfl), (Nat.le_of_ble_eq_true rfl)⟩ ⟨_, _, _, _, hY.2.1 0 0 (by decide), rfl⟩ (kI fun r90 M90 hr90 hp90 => ?_)
          obtain ⟨s90, hY, hO90, hK90, hx90⟩ := hp90
          have hO := hO.tr hO90
          have hK := hK.tr hK90
          have h0 := hY.2.2.1
          have hrw := hY.2.2.2.1
          have hnm := hY.2.2.2.2.1
          have hsh := hY.2.2.2.2.2.1
          have hmk := hY.2.2.2.2.2.2.1
          have hic := hY.2.2.2.2.2.2.2.1
          have hcn := hY.2.2.2.2.2.2.2.2.1
          have hgt := hY.2.2.2.2.2.2.2.2.2
          refine v_istore dX7_unlike_93 (Nat.le_of_ble_eq_true rfl) ?_
          refine v_aloadn dX7_unlike_95 rfl ?_
          refine v_iload dX7_unlike_96 rfl ?_
          refine v_aloadn dX7_unlike_98 rfl ?_
          refine v_get dX7_unlike_99 gf_X7_141 (hY.2.1 0 0 (by decide)) rfl ?_
          refine v_callV (tX7_agree hY (by omega) (by omega)) lc_X7_97 ⟨(Nat.le_of_ble_eq_true rfl), (Nat.le_of_ble_eq_true rfl)⟩ dX7_unlike_102 rfl rfl (Nat.le_of_ble_eq_true rfl) ⟨(Nat.le_of_ble_eq_true rfl), (Nat.le_of_ble_eq_true rfl)⟩ ⟨_, _, _, _, hY.2.1 0 0 (by decide), rfl⟩ (kP fun r102 hr102 hp102 => ?_)
          refine v_if_ne 111 dX7_unlike_105 (by decide) (by omega) (fun h105 => ?_) (fun h105 => ?_)
          · refine v_iinc dX7_unlike_111 rfl (Nat.le_of_ble_eq_true rfl) ?_
            refine v_goto 42 dX7_unlike_114 (by decide) ?_
            refine wV.locs (lv' := [(0, .ref (fw 0 0)), (1, .int (gI c)), (2, .int (gI d)), (3, .int (gI e)), (4, .int (gI _))]) ⟨rfl, rfl, rfl, rfl, rfl, trivial⟩ (ih _ _ _ (by omega) (by omega) hY hO hK (by omega))
          · refine v_iload dX7_unlike_108 rfl ?_
            exact v_iret dX7_unlike_110 rfl ⟨(Nat.le_of_ble_eq_true rfl), (Nat.le_of_ble_eq_true rfl)⟩ (by omega) ⟨_, hY, hO, hK⟩
        · refine v_iload dX7_unlike_66 rfl ?_
          exact v_iret dX7_unlike_68 rfl ⟨(Nat.le_of_ble_eq_true rfl), (Nat.le_of_ble_eq_true rfl)⟩ (by omega) ⟨_, hY, hO, hK⟩
    · refine v_iload dX7_unlike_48 rfl ?_
      refine v_iloadn dX7_unlike_50 rfl ?_
      refine v_icmp_ge 117 dX7_unlike_51 (by decide) (by omega) (by omega) (fun h51 => ?_) (fun h51 => ?_)
      · refine v_bipush dX7_unlike_117 (by decide) ?_
        exact v_iret dX7_unlike_119 rfl ⟨(Nat.le_of_ble_eq_true rfl), (Nat.le_of_ble_eq_true rfl)⟩ (by omega) ⟨_, hY, hO, hK⟩
      · refine v_iload dX7_unlike_54 rfl ?_
        refine v_iloadn dX7_unlike_56 rfl ?_
        refine v_icmp_ge 66 dX7_unlike_57 (by decide) (by omega) (by omega) (fun h57 => ?_) (fun h57 => ?_)
        · refine v_iload dX7_unlike_66 rfl ?_
          exact v_iret dX7_unlike_68 rfl ⟨(Nat.le_of_ble_eq_true rfl), (Nat.le_of_ble_eq_true rfl)⟩ (by omega) ⟨_, hY, hO, hK⟩
        · refine v_iload dX7_unlike_60 rfl ?_
          refine v_iloadn dX7_unlike_62 rfl ?_
          refine v_icmp_lt 69 dX7_unlike_63 (by decide) (by omega) (by omega) (fun h63 => ?_) (fun h63 => ?_)
          · refine v_aloadn dX7_unlike_69 rfl ?_
            refine v_iloadn dX7_unlike_70 rfl ?_
            refine v_iconst dX7_unlike_71 ?_
            refine v_iload dX7_unlike_72 rfl ?_
            refine v_callV (tX7_acts hY (by omega) (by omega) (by omega)) lc_X7_144 ⟨(Nat.le_of_ble_eq_true rfl), (Nat.le_of_ble_eq_true rfl)⟩ dX7_unlike_74 rfl rfl (Nat.le_of_ble_eq_true rfl) ⟨(Nat.le_of_ble_eq_true rfl), (Nat.le_of_ble_eq_true rfl)⟩ ⟨_, _, _, _, hY.2.1 0 0 (by decide), rfl⟩ (kI fun r74 M74 hr74 hp74 => ?_)
            obtain ⟨s74, hY, hO74, hK74, hx74⟩ := hp74
            have hO := hO.tr hO74
            have hK := hK.tr hK74
            have h0 := hY.2.2.1
            have hrw := hY.2.2.2.1
            have hnm := hY.2.2.2.2.1
            have hsh := hY.2.2.2.2.2.1
            have hmk := hY.2.2.2.2.2.2.1
            have hic := hY.2.2.2.2.2.2.2.1
            have hcn := hY.2.2.2.2.2.2.2.2.1
            have hgt := hY.2.2.2.2.2.2.2.2.2
            refine v_istore dX7_unlike_77 (Nat.le_of_ble_eq_true rfl) ?_
            refine v_aloadn dX7_unlike_79 rfl ?_
            refine v_get dX7_unlike_80 gf_X7_141 (hY.2.1 0 0 (by decide)) rfl ?_
            have hv80 := h0.2.2.2.2.2.2.2
            refine v_istore dX7_unlike_83 (Nat.le_of_ble_eq_true rfl) ?_
            refine v_aloadn dX7_unlike_85 rfl ?_
            refine v_iloadn dX7_unlike_86 rfl ?_
            refine v_iconst dX7_unlike_87 ?_
            refine v_iload dX7_unlike_88 rfl ?_
            refine v_callV (tX7_acts hY (by omega) (by omega) (by omega)) lc_X7_144 ⟨(Nat.le_of_ble_eq_true rfl), (Nat.le_of_ble_eq_true rfl)⟩ dX7_unlike_90 rfl rfl (Nat.le_of_ble_eq_true rfl) ⟨(Nat.le_of_ble_eq_true rfl), (Nat.le_of_ble_eq_true rfl)⟩ ⟨_, _, _, _, hY.2.1 0 0 (by decide), rfl⟩ (kI fun r90 M90 hr90 hp90 => ?_)
            obtain ⟨s90, hY, hO90, hK90, hx90⟩ := hp90
            have hO := hO.tr hO90
            have hK := hK.tr hK90
            have h0 := hY.2.2.1
            have hrw := hY.2.2.2.1
            have hnm := hY.2.2.2.2.1
            have hsh := hY.2.2.2.2.2.1
            have hmk := hY.2.2.2.2.2.2.1
            have hic := hY.2.2.2.2.2.2.2.1
            have hcn := hY.2.2.2.2.2.2.2.2.1
            have hgt := hY.2.2.2.2.2.2.2.2.2
            refine v_istore dX7_unlike_93 (Nat.le_of_ble_eq_true rfl) ?_
            refine v_aloadn dX7_unlike_95 rfl ?_
            refine v_iload dX7_unlike_96 rfl ?_
            refine v_aloadn dX7_unlike_98 rfl ?_
            refine v_get dX7_unlike_99 gf_X7_141 (hY.2.1 0 0 (by decide)) rfl ?_
            refine v_callV (tX7_agree hY (by omega) (by omega)) lc_X7_97 ⟨(Nat.le_of_ble_eq_true rfl), (Nat.le_of_ble_eq_true rfl)⟩ dX7_unlike_102 rfl rfl (Nat.le_of_ble_eq_true rfl) ⟨(Nat.le_of_ble_eq_true rfl), (Nat.le_of_ble_eq_true rfl)⟩ ⟨_, _, _, _, hY.2.1 0 0 (by decide), rfl⟩ (kP fun r102 hr102 hp102 => ?_)
            refine v_if_ne 111 dX7_unlike_105 (by decide) (by omega) (fun h105 => ?_) (fun h105 => ?_)
            · refine v_iinc dX7_unlike_111 rfl (Nat.le_of_ble_eq_true rfl) ?_
              refine v_goto 42 dX7_unlike_114 (by decide) ?_
              refine wV.locs (lv' := [(0, .ref (fw 0 0)), (1, .int (gI c)), (2, .int (gI d)), (3, .int (gI e)), (4, .int (gI _))]) ⟨rfl, rfl, rfl, rfl, rfl, trivial⟩ (ih _ _ _ (by omega) (by omega) hY hO hK (by omega))
            · refine v_iload dX7_unlike_108 rfl ?_
              exact v_iret dX7_unlike_110 rfl ⟨(Nat.le_of_ble_eq_true rfl), (Nat.le_of_ble_eq_true rfl)⟩ (by omega) ⟨_, hY, hO, hK⟩
          · refine v_iload dX7_unlike_66 rfl ?_
            exact v_iret dX7_unlike_68 rfl ⟨(Nat.le_of_ble_eq_true rfl), (Nat.le_of_ble_eq_true rfl)⟩ (by omega) ⟨_, hY, hO, hK⟩
set_option maxHeartbeats 4000000 in
set_option maxRecDepth 100000 in
theorem tX7_unlike {G : gG} {fw : Nat → Nat → Nat} {si : sG} {Mi : wM} (hY : wY G fw si Mi) {c : Int} (hc : rng c) : wT G qX7_unlike 0 0 [.ref (fw 0 0), .int (gI c)] Mi (PY G fw Mi (fun x s' => keepY si s')) := by
  refine wT.intro (by decide) (Nat.le_of_ble_eq_true rfl) (fun sz => ?_)
  have hO : wO cntY fw Mi Mi := wO.rf
  have hK : keepY si si := keepY.rf
  have h0 := hY.2.2.1
  have hrw := hY.2.2.2.1
  have hnm := hY.2.2.2.2.1
  have hsh := hY.2.2.2.2.2.1
  have hmk := hY.2.2.2.2.2.2.1
  have hic := hY.2.2.2.2.2.2.2.1
  have hcn := hY.2.2.2.2.2.2.2.2.1
  have hgt := hY.2.2.2.2.2.2.2.2.2
  refine v_iloadn dX7_unlike_0 rfl ?_
  refine v_iconst dX7_unlike_1 ?_
  refine v_iconst dX7_unlike_2 ?_
  refine v_callS (tX7_in (by omega) (by omega) (by omega)) lc_X7_60 ⟨(Nat.le_of_ble_eq_true rfl), (Nat.le_of_ble_eq_true rfl)⟩ dX7_unlike_3 rfl rfl (Nat.le_of_ble_eq_true rfl) ⟨(Nat.le_of_ble_eq_true rfl), (Nat.le_of_ble_eq_true rfl)⟩ (kP fun r3 hr3 hp3 => ?_)
  refine v_if_ne 11 dX7_unlike_6 (by decide) (by omega) (fun h6 => ?_) (fun h6 => ?_)
  · refine v_aloadn dX7_unlike_11 rfl ?_
    refine v_get dX7_unlike_12 gf_X7_44 (hY.2.1 0 0 (by decide)) rfl ?_
    refine v_iloadn dX7_unlike_15 rfl ?_
    refine v_zald dX7_unlike_16 (hY.2.1 11 0 (by decide)) (by omega) (by omega) (by decide) ?_
    have hicc := hic c.toNat (by omega)
    refine v_if_ne 23 dX7_unlike_17 (by decide) (by omega) (fun h17 => ?_) (fun h17 => ?_)
    · refine v_aloadn dX7_unlike_23 rfl ?_
      refine v_iloadn dX7_unlike_24 rfl ?_
      refine v_iconst dX7_unlike_25 ?_
      refine v_iconst dX7_unlike_26 ?_
      refine v_callV (tX7_acts hY (by omega) (by omega) (by omega)) lc_X7_144 ⟨(Nat.le_of_ble_eq_true rfl), (Nat.le_of_ble_eq_true rfl)⟩ dX7_unlike_27 rfl rfl (Nat.le_of_ble_eq_true rfl) ⟨(Nat.le_of_ble_eq_true rfl), (Nat.le_of_ble_eq_true rfl)⟩ ⟨_, _, _, _, hY.2.1 0 0 (by decide), rfl⟩ (kI fun r27 M27 hr27 hp27 => ?_)
      obtain ⟨s27, hY, hO27, hK27, hx27⟩ := hp27
      have hO := hO.tr hO27
      have hK := hK.tr hK27
      have h0 := hY.2.2.1
      have hrw := hY.2.2.2.1
      have hnm := hY.2.2.2.2.1
      have hsh := hY.2.2.2.2.2.1
      have hmk := hY.2.2.2.2.2.2.1
      have hic := hY.2.2.2.2.2.2.2.1
      have hcn := hY.2.2.2.2.2.2.2.2.1
      have hgt := hY.2.2.2.2.2.2.2.2.2
      refine v_istoren dX7_unlike_30 (Nat.le_of_ble_eq_true rfl) ?_
      refine v_aloadn dX7_unlike_31 rfl ?_
      refine v_iloadn dX7_unlike_32 rfl ?_
      refine v_iconst dX7_unlike_33 ?_
      refine v_iconst dX7_unlike_34 ?_
      refine v_callV (tX7_acts hY (by omega) (by omega) (by omega)) lc_X7_144 ⟨(Nat.le_of_ble_eq_true rfl), (Nat.le_of_ble_eq_true rfl)⟩ dX7_unlike_35 rfl rfl (Nat.le_of_ble_eq_true rfl) ⟨(Nat.le_of_ble_eq_true rfl), (Nat.le_of_ble_eq_true rfl)⟩ ⟨_, _, _, _, hY.2.1 0 0 (by decide), rfl⟩ (kI fun r35 M35 hr35 hp35 => ?_)
      obtain ⟨s35, hY, hO35, hK35, hx35⟩ := hp35
      have hO := hO.tr hO35
      have hK := hK.tr hK35
      have h0 := hY.2.2.1
      have hrw := hY.2.2.2.1
      have hnm := hY.2.2.2.2.1
      have hsh := hY.2.2.2.2.2.1
      have hmk := hY.2.2.2.2.2.2.1
      have hic := hY.2.2.2.2.2.2.2.1
      have hcn := hY.2.2.2.2.2.2.2.2.1
      have hgt := hY.2.2.2.2.2.2.2.2.2
      refine v_istoren dX7_unlike_38 (Nat.le_of_ble_eq_true rfl) ?_
      refine v_iconst dX7_unlike_39 ?_
      refine v_istore dX7_unlike_40 (Nat.le_of_ble_eq_true rfl) ?_
      refine wV.locs (lv' := [(0, .ref (fw 0 0)), (1, .int (gI c)), (2, .int (gI _)), (3, .int (gI _)), (4, .int (gI (0)))]) ⟨rfl, rfl, rfl, rfl, rfl, trivial⟩ (tX7_unlike_loop (by omega) (by omega) (by omega) 200010 _ _ _ (by omega) (by omega) hY hO hK (by omega))
    · refine v_bipush dX7_unlike_20 (by decide) ?_
      exact v_iret dX7_unlike_22 rfl ⟨(Nat.le_of_ble_eq_true rfl), (Nat.le_of_ble_eq_true rfl)⟩ (by omega) ⟨_, hY, hO, hK⟩
  · refine v_iconst dX7_unlike_9 ?_
    exact v_iret dX7_unlike_10 rfl ⟨(Nat.le_of_ble_eq_true rfl), (Nat.le_of_ble_eq_true rfl)⟩ (by omega) ⟨_, hY, hO, hK⟩
