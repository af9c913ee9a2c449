theorem itN {D : Nat → dE} (j : Nat) (h : D 2 = .inr (.inl (0, 12, 0))) : itL 5 12 (126) 1 (7) F_gate D (j) 2 = .inr (.inl (0, 12, j)) := by
  cases j with
  | zero => exact h
  | succ j =>
    show upD _ _ _ _ = _
    rw [upD_ne (by decide)]
    unfold F_gate
    rw [upD_ne (by omega), upD_at, show 126 + 1 * j - 126 + 1 = j + 1 by omega]
set_option maxHeartbeats 4000000 in
set_option maxRecDepth 100000 in
theorem tX6_init_rows {sz : Nat} {M0 : wM} {G : gG} {t : Nat} {ad : Nat → Nat} {D : Nat → dE} {Post : Option Value → wM → Prop} (ht : ad 0 = t) (hx : D 0 = .inl (6, [.inl (some (1)), .inl (some (2)), .inl (some (3)), .inl (some (4)), .inl (some (5)), .inl (some (6)), .inl (some (7)), .inl (some (8)), .inr (0), .inr (1000), .inr (0)])) (har : D (1) = .inr (.inr (2, 24, 0, 54, 3))) (hkk : ∀ ad' M', wB G (54 + 3 * 24) ad' (itL 2 24 (54) 3 (1) F_row D (24)) M' → wS (54) ad ad' → wV G qX6_init 181 8000 sz M0 (53 + 3 * 24) (1294 + 103 * 24) 120 [(0, .ref t), (1, .int (gI ((24 : Nat) : Int)))] [] M' Post) : ∀ (r j : Nat) (ad1 : Nat → Nat) (M1 : wM), r + j = 24 → wB G (54 + 3 * j) ad1 (itL 2 24 (54) 3 (1) F_row D (j)) M1 → wS (54) ad ad1 → wV G qX6_init 181 8000 sz M0 (53 + 3 * j) (1294 + 103 * j) 92 [(0, .ref t), (1, .int (gI (j : Int)))] [] M1 Post := by
  intro r
  induction r with
  | zero =>
    intro j ad1 M1 hr hB hS
    have hj : j = 24 := by omega
    have hDk : itL 2 24 (54) 3 (1) F_row D (j) 0 = .inl (6, [.inl (some (1)), .inl (some (2)), .inl (some (3)), .inl (some (4)), .inl (some (5)), .inl (some (6)), .inl (some (7)), .inl (some (8)), .inr (0), .inr (1000), .inr (0)]) := (itL_o (fun D p h => F_row_o D p h) (by omega) (by omega) j).trans hx
    have hDa : itL 2 24 (54) 3 (1) F_row D (j) (1) = _ := itL_a har j
    refine v_iloadn dX6_init_92 rfl ?_
    refine v_aloadn dX6_init_93 rfl ?_
    refine v_get dX6_init_94 gf_X6_11 (hB.at (k := 0) (by omega) ((hS 0 (by omega)).trans ht) hDk rfl) rfl ?_
    refine v_alen (ty := .int) (n := 24) dX6_init_97 (hB.at (k := 1) (by omega) rfl hDa rfl) (by simp) rfl ?_
    refine v_icmp_ge 120 dX6_init_98 (by decide) (by omega) (by omega) (fun hge => ?_) (fun hge => ?_)
    · subst hj; exact hkk _ _ hB hS
    · exfalso; omega
  | succ r ih =>
    intro j ad1 M1 hr hB hS
    have hDk : itL 2 24 (54) 3 (1) F_row D (j) 0 = .inl (6, [.inl (some (1)), .inl (some (2)), .inl (some (3)), .inl (some (4)), .inl (some (5)), .inl (some (6)), .inl (some (7)), .inl (some (8)), .inr (0), .inr (1000), .inr (0)]) := (itL_o (fun D p h => F_row_o D p h) (by omega) (by omega) j).trans hx
    have hDa : itL 2 24 (54) 3 (1) F_row D (j) (1) = _ := itL_a har j
    refine v_iloadn dX6_init_92 rfl ?_
    refine v_aloadn dX6_init_93 rfl ?_
    refine v_get dX6_init_94 gf_X6_11 (hB.at (k := 0) (by omega) ((hS 0 (by omega)).trans ht) hDk rfl) rfl ?_
    refine v_alen (ty := .int) (n := 24) dX6_init_97 (hB.at (k := 1) (by omega) rfl hDa rfl) (by simp) rfl ?_
    refine v_icmp_ge 120 dX6_init_98 (by decide) (by omega) (by omega) (fun hge => ?_) (fun hge => ?_)
    · exfalso; omega
    · skip
      obtain ⟨Dj, hDj⟩ : ∃ z, z = itL 2 24 (54) 3 (1) F_row D (j) := ⟨_, rfl⟩
      rw [← hDj] at hB hDk hDa
      refine v_aloadn dX6_init_101 rfl ?_
      refine v_get dX6_init_102 gf_X6_11 (hB.at (k := 0) (by omega) ((hS 0 (by omega)).trans ht) hDk rfl) rfl ?_
      refine v_iloadn dX6_init_105 rfl ?_
      refine v_new dX6_init_106 ln_X6_9 (by omega) (by omega) (fun a hn => ?_)
      generalize hMe : wup _ _ _ = M2
      obtain ⟨ad2, hB, ha, hS2⟩ : ∃ ad', wB G (54 + 3 * j + 1) ad' (upD Dj (54 + 3 * j) (.inl (4, [.inl none, .inl none, .inr (0)]))) M2 ∧ ad' (54 + 3 * j) = a ∧ wS (54 + 3 * j) ad1 ad' := by rw [← hMe]; exact hB.push (.inl (4, [.inl none, .inl none, .inr (0)])) hn (fun _ => rfl) rfl
      subst ha
      obtain ⟨D2, hD2⟩ : ∃ z, z = upD Dj (54 + 3 * j) (.inl (4, [.inl none, .inl none, .inr (0)])) := ⟨_, rfl⟩
      rw [← hD2] at hB
      refine v_dup dX6_init_109 rfl ?_
      refine v_callIN (tX4_init hB (k := 54 + 3 * j) (by omega) rfl (by rw [hD2, upD_at])) lc_X6_61 ⟨(Nat.le_of_ble_eq_true rfl), (Nat.le_of_ble_eq_true rfl)⟩ dX6_init_110 rfl rfl (Nat.le_of_ble_eq_true rfl) ⟨by omega, by omega⟩ (kV fun M3 hp3 => ?_)
      obtain ⟨ad3, hB, hS3⟩ := hp3
      obtain ⟨D3, hD3⟩ : ∃ z, z = rowD D2 (54 + 3 * j) (54 + 3 * j + 1) := ⟨_, rfl⟩
      rw [← hD3] at hB
      have hA3 : D3 (1) = .inr (.inr (2, 24, j, 54, 3)) := by rw [hD3]; unfold rowD; rw [upD_ne (by omega), upD_ne (by omega), upD_ne (by omega)]; rw [hD2, upD_ne (by omega)]; exact hDa
      have hP3 : ∃ vs, D3 (54 + 3 * j) = .inl (4, vs) := ⟨_, by rw [hD3]; unfold rowD oRow; rw [upD_at]⟩
      obtain ⟨vs, hP3⟩ := hP3
      have hS13 : wS (54 + 3 * j) ad1 ad3 := hS2.tr hS3 (by omega)
      rw [show ad2 (54 + 3 * j) = ad3 (54 + 3 * j) from (hS3 _ (by omega)).symm, show rdV ad1 (.inl (some (1))) = Value.ref (ad3 (1)) from by show Value.ref (ad1 (1)) = Value.ref (ad3 (1)); rw [hS13 (1) (by omega)]]
      refine v_aast (i := j) (t0 := 2) (n := 24) dX6_init_113 (hB.at (k := 1) (by omega) rfl hA3 rfl) (hB.at (k := 54 + 3 * j) (by omega) rfl hP3 rfl) rfl (Or.inl ⟨rfl, rfl⟩) (by omega) (by decide) ?_
      generalize hM4 : wup _ _ _ = M4
      have hB : wB G (54 + 3 * j + 3) ad3 (upD D3 (1) (.inr (.inr (2, 24, j + 1, 54, 3)))) M4 := by rw [← hM4]; exact hB.set (k := 1) (by omega) rfl (.inr (.inr (2, 24, j + 1, 54, 3))) (by rw [rd_up]; rfl) (by simp [rfE] <;> omega)
      rw [show upD D3 (1) (.inr (.inr (2, 24, j + 1, 54, 3))) = itL 2 24 (54) 3 (1) F_row D (j + 1) by rw [hD3, hD2, hDj]; rfl] at hB
      refine v_iinc dX6_init_114 rfl (Nat.le_of_ble_eq_true rfl) ?_
      refine v_goto 92 dX6_init_117 (by decide) ?_
      refine wV.locs (lv' := [(0, .ref t), (1, .int (gI ((j + 1 : Nat) : Int)))]) ⟨rfl, rfl, trivial⟩ (wV.wid (by omega) (by omega) (ih (j + 1) ad3 M4 (by omega) (by rw [show 54 + 3 * (j + 1) = 54 + 3 * j + 3 by omega]; exact hB) (hS.tr hS13 (by omega))))
set_option maxHeartbeats 4000000 in
set_option maxRecDepth 100000 in
theorem tX6_init_gates {sz : Nat} {M0 : wM} {G : gG} {t : Nat} {ad : Nat → Nat} {D : Nat → dE} {Post : Option Value → wM → Prop} (ht : ad 0 = t) (hx : D 0 = .inl (6, [.inl (some (1)), .inl (some (2)), .inl (some (3)), .inl (some (4)), .inl (some (5)), .inl (some (6)), .inl (some (7)), .inl (some (8)), .inr (0), .inr (1000), .inr (0)])) (har : D (7) = .inr (.inr (5, 12, 0, 126, 1))) (hnm : D 2 = .inr (.inl (0, 12, 0))) (hkk : ∀ ad' M', wB G (126 + 1 * 12) ad' (itL 5 12 (126) 1 (7) F_gate D (12)) M' → wS (54) ad ad' → wV G qX6_init 181 8000 sz M0 (125 + 1 * 12) (3766 + 3 * 12) 154 [(0, .ref t), (1, .int (gI ((12 : Nat) : Int)))] [] M' Post) : ∀ (r j : Nat) (ad1 : Nat → Nat) (M1 : wM), r + j = 12 → wB G (126 + 1 * j) ad1 (itL 5 12 (126) 1 (7) F_gate D (j)) M1 → wS (54) ad ad1 → wV G qX6_init 181 8000 sz M0 (125 + 1 * j) (3766 + 3 * j) 122 [(0, .ref t), (1, .int (gI (j : Int)))] [] M1 Post := by
  intro r
  induction r with
  | zero =>
    intro j ad1 M1 hr hB hS
    have hj : j = 12 := by omega
    have hDk : itL 5 12 (126) 1 (7) F_gate D (j) 0 = .inl (6, [.inl (some (1)), .inl (some (2)), .inl (some (3)), .inl (some (4)), .inl (some (5)), .inl (some (6)), .inl (some (7)), .inl (some (8)), .inr (0), .inr (1000), .inr (0)]) := (itL_o (fun D p h => F_gate_o D p (by decide) h) (by omega) (by omega) j).trans hx
    have hDa : itL 5 12 (126) 1 (7) F_gate D (j) (7) = _ := itL_a har j
    refine v_iloadn dX6_init_122 rfl ?_
    refine v_bipush dX6_init_123 (by decide) ?_
    refine v_icmp_ge 154 dX6_init_125 (by decide) (by omega) (by omega) (fun hge => ?_) (fun hge => ?_)
    · subst hj; exact hkk _ _ hB hS
    · exfalso; omega
  | succ r ih =>
    intro j ad1 M1 hr hB hS
    have hDk : itL 5 12 (126) 1 (7) F_gate D (j) 0 = .inl (6, [.inl (some (1)), .inl (some (2)), .inl (some (3)), .inl (some (4)), .inl (some (5)), .inl (some (6)), .inl (some (7)), .inl (some (8)), .inr (0), .inr (1000), .inr (0)]) := (itL_o (fun D p h => F_gate_o D p (by decide) h) (by omega) (by omega) j).trans hx
    have hDa : itL 5 12 (126) 1 (7) F_gate D (j) (7) = _ := itL_a har j
    refine v_iloadn dX6_init_122 rfl ?_
    refine v_bipush dX6_init_123 (by decide) ?_
    refine v_icmp_ge 154 dX6_init_125 (by decide) (by omega) (by omega) (fun hge => ?_) (fun hge => ?_)
    · exfalso; omega
    · skip
      obtain ⟨Dj, hDj⟩ : ∃ z, z = itL 5 12 (126) 1 (7) F_gate D (j) := ⟨_, rfl⟩
      rw [← hDj] at hB hDk hDa
      have hDn : Dj 2 = .inr (.inl (0, 12, j)) := by rw [hDj]; exact itN j hnm
      refine v_aloadn dX6_init_128 rfl ?_
      refine v_get dX6_init_129 gf_X6_15 (hB.at (k := 0) (by omega) ((hS 0 (by omega)).trans ht) hDk rfl) rfl ?_
      refine v_iloadn dX6_init_132 rfl ?_
      refine v_iloadn dX6_init_133 rfl ?_
      refine v_iast (n := 12) dX6_init_134 (hB.at (k := 2) (by omega) rfl hDn rfl) (by omega) (by omega) (by decide) ?_
      generalize hMn : wup _ _ _ = Mn
      have hB : wB G (126 + 1 * j) ad1 (upD Dj 2 (.inr (.inl (0, 12, j + 1)))) Mn := by rw [← hMn]; exact hB.set (k := 2) (by omega) rfl (.inr (.inl (0, 12, j + 1))) (by rw [Int.toNat_natCast, rd_nm]; rfl) rfl
      obtain ⟨Dn, hDnn⟩ : ∃ z, z = upD Dj 2 (.inr (.inl (0, 12, j + 1))) := ⟨_, rfl⟩
      rw [← hDnn] at hB
      have hDk : Dn 0 = .inl (6, [.inl (some (1)), .inl (some (2)), .inl (some (3)), .inl (some (4)), .inl (some (5)), .inl (some (6)), .inl (some (7)), .inl (some (8)), .inr (0), .inr (1000), .inr (0)]) := (by rw [hDnn, upD_ne (by decide)]; exact hDk)
      have hDa : Dn (7) = .inr (.inr (5, 12, j, 126, 1)) := (by rw [hDnn, upD_ne (by decide)]; exact hDa)
      refine v_aloadn dX6_init_135 rfl ?_
      refine v_get dX6_init_136 gf_X6_39 (hB.at (k := 0) (by omega) ((hS 0 (by omega)).trans ht) hDk rfl) rfl ?_
      refine v_iloadn dX6_init_139 rfl ?_
      refine v_new dX6_init_140 ln_X6_37 (by omega) (by omega) (fun a hn => ?_)
      generalize hMe : wup _ _ _ = M2
      obtain ⟨ad2, hB, ha, hS2⟩ : ∃ ad', wB G (126 + 1 * j + 1) ad' (upD Dn (126 + 1 * j) (.inl (1, [.inr (0), .inr (0), .inr (0)]))) M2 ∧ ad' (126 + 1 * j) = a ∧ wS (126 + 1 * j) ad1 ad' := by rw [← hMe]; exact hB.push (.inl (1, [.inr (0), .inr (0), .inr (0)])) hn (fun _ => rfl) rfl
      subst ha
      obtain ⟨D2, hD2⟩ : ∃ z, z = upD Dn (126 + 1 * j) (.inl (1, [.inr (0), .inr (0), .inr (0)])) := ⟨_, rfl⟩
      rw [← hD2] at hB
      refine v_dup dX6_init_143 rfl ?_
      refine v_callIN (tX1_init hB (k := 126 + 1 * j) (by omega) rfl (by rw [hD2, upD_at])) lc_X6_62 ⟨(Nat.le_of_ble_eq_true rfl), (Nat.le_of_ble_eq_true rfl)⟩ dX6_init_144 rfl rfl (Nat.le_of_ble_eq_true rfl) ⟨by omega, by omega⟩ (kV fun M3 hp3 => ?_)
      obtain ⟨ad3, hB, hS3⟩ := hp3
      obtain ⟨D3, hD3⟩ : ∃ z, z = D2 := ⟨_, rfl⟩
      rw [← hD3] at hB
      have hA3 : D3 (7) = .inr (.inr (5, 12, j, 126, 1)) := by rw [hD3]; skip; rw [hD2, upD_ne (by omega)]; exact hDa
      have hP3 : ∃ vs, D3 (126 + 1 * j) = .inl (1, vs) := ⟨_, by rw [hD3]; rw [hD2, upD_at]⟩
      obtain ⟨vs, hP3⟩ := hP3
      have hS13 : wS (126 + 1 * j) ad1 ad3 := hS2.tr hS3 (by omega)
      rw [show ad2 (126 + 1 * j) = ad3 (126 + 1 * j) from (hS3 _ (by omega)).symm, show rdV ad1 (.inl (some (7))) = Value.ref (ad3 (7)) from by show Value.ref (ad1 (7)) = Value.ref (ad3 (7)); rw [hS13 (7) (by omega)]]
      refine v_aast (i := j) (t0 := 5) (n := 12) dX6_init_147 (hB.at (k := 7) (by omega) rfl hA3 rfl) (hB.at (k := 126 + 1 * j) (by omega) rfl hP3 rfl) rfl (Or.inr (Or.inr (Or.inr (Or.inl ⟨rfl, rfl⟩)))) (by omega) (by decide) ?_
      generalize hM4 : wup _ _ _ = M4
      have hB : wB G (126 + 1 * j + 1) ad3 (upD D3 (7) (.inr (.inr (5, 12, j + 1, 126, 1)))) M4 := by rw [← hM4]; exact hB.set (k := 7) (by omega) rfl (.inr (.inr (5, 12, j + 1, 126, 1))) (by rw [rd_up]; rfl) (by simp [rfE] <;> omega)
      rw [show upD D3 (7) (.inr (.inr (5, 12, j + 1, 126, 1))) = itL 5 12 (126) 1 (7) F_gate D (j + 1) by rw [hD3, hD2, hDnn, hDj]; show _ = upD (F_gate (itL 5 12 (126) 1 (7) F_gate D (j)) (126 + 1 * j)) _ _; unfold F_gate; rw [show 126 + 1 * j - 126 + 1 = j + 1 by omega]] at hB
      refine v_iinc dX6_init_148 rfl (Nat.le_of_ble_eq_true rfl) ?_
      refine v_goto 122 dX6_init_151 (by decide) ?_
      refine wV.locs (lv' := [(0, .ref t), (1, .int (gI ((j + 1 : Nat) : Int)))]) ⟨rfl, rfl, trivial⟩ (wV.wid (by omega) (by omega) (ih (j + 1) ad3 M4 (by omega) (by rw [show 126 + 1 * (j + 1) = 126 + 1 * j + 1 by omega]; exact hB) (hS.tr hS13 (by omega))))
set_option maxHeartbeats 4000000 in
set_option maxRecDepth 100000 in
theorem tX6_init_masks {sz : Nat} {M0 : wM} {G : gG} {t : Nat} {ad : Nat → Nat} {D : Nat → dE} {Post : Option Value → wM → Prop} (ht : ad 0 = t) (hx : D 0 = .inl (6, [.inl (some (1)), .inl (some (2)), .inl (some (3)), .inl (some (4)), .inl (some (5)), .inl (some (6)), .inl (some (7)), .inl (some (8)), .inr (0), .inr (1000), .inr (0)])) (har : D (5) = .inr (.inr (3, 10, 0, 138, 4))) (hkk : ∀ ad' M', wB G (138 + 4 * 10) ad' (itL 3 10 (138) 4 (5) F_mask D (10)) M' → wS (54) ad ad' → wV G qX6_init 181 8000 sz M0 (137 + 4 * 10) (3802 + 107 * 10) 184 [(0, .ref t), (1, .int (gI ((10 : Nat) : Int)))] [] M' Post) : ∀ (r j : Nat) (ad1 : Nat → Nat) (M1 : wM), r + j = 10 → wB G (138 + 4 * j) ad1 (itL 3 10 (138) 4 (5) F_mask D (j)) M1 → wS (54) ad ad1 → wV G qX6_init 181 8000 sz M0 (137 + 4 * j) (3802 + 107 * j) 156 [(0, .ref t), (1, .int (gI (j : Int)))] [] M1 Post := by
  intro r
  induction r with
  | zero =>
    intro j ad1 M1 hr hB hS
    have hj : j = 10 := by omega
    have hDk : itL 3 10 (138) 4 (5) F_mask D (j) 0 = .inl (6, [.inl (some (1)), .inl (some (2)), .inl (some (3)), .inl (some (4)), .inl (some (5)), .inl (some (6)), .inl (some (7)), .inl (some (8)), .inr (0), .inr (1000), .inr (0)]) := (itL_o (fun D p h => F_mask_o D p h) (by omega) (by omega) j).trans hx
    have hDa : itL 3 10 (138) 4 (5) F_mask D (j) (5) = _ := itL_a har j
    refine v_iloadn dX6_init_156 rfl ?_
    refine v_aloadn dX6_init_157 rfl ?_
    refine v_get dX6_init_158 gf_X6_27 (hB.at (k := 0) (by omega) ((hS 0 (by omega)).trans ht) hDk rfl) rfl ?_
    refine v_alen (ty := .int) (n := 10) dX6_init_161 (hB.at (k := 5) (by omega) rfl hDa rfl) (by simp) rfl ?_
    refine v_icmp_ge 184 dX6_init_162 (by decide) (by omega) (by omega) (fun hge => ?_) (fun hge => ?_)
    · subst hj; exact hkk _ _ hB hS
    · exfalso; omega
  | succ r ih =>
    intro j ad1 M1 hr hB hS
    have hDk : itL 3 10 (138) 4 (5) F_mask D (j) 0 = .inl (6, [.inl (some (1)), .inl (some (2)), .inl (some (3)), .inl (some (4)), .inl (some (5)), .inl (some (6)), .inl (some (7)), .inl (some (8)), .inr (0), .inr (1000), .inr (0)]) := (itL_o (fun D p h => F_mask_o D p h) (by omega) (by omega) j).trans hx
    have hDa : itL 3 10 (138) 4 (5) F_mask D (j) (5) = _ := itL_a har j
    refine v_iloadn dX6_init_156 rfl ?_
    refine v_aloadn dX6_init_157 rfl ?_
    refine v_get dX6_init_158 gf_X6_27 (hB.at (k := 0) (by omega) ((hS 0 (by omega)).trans ht) hDk rfl) rfl ?_
    refine v_alen (ty := .int) (n := 10) dX6_init_161 (hB.at (k := 5) (by omega) rfl hDa rfl) (by simp) rfl ?_
    refine v_icmp_ge 184 dX6_init_162 (by decide) (by omega) (by omega) (fun hge => ?_) (fun hge => ?_)
    · exfalso; omega
    · skip
      obtain ⟨Dj, hDj⟩ : ∃ z, z = itL 3 10 (138) 4 (5) F_mask D (j) := ⟨_, rfl⟩
      rw [← hDj] at hB hDk hDa
      refine v_aloadn dX6_init_165 rfl ?_
      refine v_get dX6_init_166 gf_X6_27 (hB.at (k := 0) (by omega) ((hS 0 (by omega)).trans ht) hDk rfl) rfl ?_
      refine v_iloadn dX6_init_169 rfl ?_
      refine v_new dX6_init_170 ln_X6_25 (by omega) (by omega) (fun a hn => ?_)
      generalize hMe : wup _ _ _ = M2
      obtain ⟨ad2, hB, ha, hS2⟩ : ∃ ad', wB G (138 + 4 * j + 1) ad' (upD Dj (138 + 4 * j) (.inl (2, [.inl none, .inr (0), .inl none, .inr (0)]))) M2 ∧ ad' (138 + 4 * j) = a ∧ wS (138 + 4 * j) ad1 ad' := by rw [← hMe]; exact hB.push (.inl (2, [.inl none, .inr (0), .inl none, .inr (0)])) hn (fun _ => rfl) rfl
      subst ha
      obtain ⟨D2, hD2⟩ : ∃ z, z = upD Dj (138 + 4 * j) (.inl (2, [.inl none, .inr (0), .inl none, .inr (0)])) := ⟨_, rfl⟩
      rw [← hD2] at hB
      refine v_dup dX6_init_173 rfl ?_
      refine v_callIN (tX2_init hB (k := 138 + 4 * j) (by omega) rfl (by rw [hD2, upD_at])) lc_X6_63 ⟨(Nat.le_of_ble_eq_true rfl), (Nat.le_of_ble_eq_true rfl)⟩ dX6_init_174 rfl rfl (Nat.le_of_ble_eq_true rfl) ⟨by omega, by omega⟩ (kV fun M3 hp3 => ?_)
      obtain ⟨ad3, hB, hS3⟩ := hp3
      obtain ⟨D3, hD3⟩ : ∃ z, z = maskD D2 (138 + 4 * j) (138 + 4 * j + 1) := ⟨_, rfl⟩
      rw [← hD3] at hB
      have hA3 : D3 (5) = .inr (.inr (3, 10, j, 138, 4)) := by rw [hD3]; unfold maskD rowD; rw [upD_ne (by omega), upD_ne (by omega), upD_ne (by omega), upD_ne (by omega), upD_ne (by omega)]; rw [hD2, upD_ne (by omega)]; exact hDa
      have hP3 : ∃ vs, D3 (138 + 4 * j) = .inl (2, vs) := ⟨_, by rw [hD3]; unfold maskD; rw [upD_at]⟩
      obtain ⟨vs, hP3⟩ := hP3
      have hS13 : wS (138 + 4 * j) ad1 ad3 := hS2.tr hS3 (by omega)
      rw [show ad2 (138 + 4 * j) = ad3 (138 + 4 * j) from (hS3 _ (by omega)).symm, show rdV ad1 (.inl (some (5))) = Value.ref (ad3 (5)) from by show Value.ref (ad1 (5)) = Value.ref (ad3 (5)); rw [hS13 (5) (by omega)]]
      refine v_aast (i := j) (t0 := 3) (n := 10) dX6_init_177 (hB.at (k := 5) (by omega) rfl hA3 rfl) (hB.at (k := 138 + 4 * j) (by omega) rfl hP3 rfl) rfl (Or.inr (Or.inl ⟨rfl, rfl⟩)) (by omega) (by decide) ?_
      generalize hM4 : wup _ _ _ = M4
      have hB : wB G (138 + 4 * j + 4) ad3 (upD D3 (5) (.inr (.inr (3, 10, j + 1, 138, 4)))) M4 := by rw [← hM4]; exact hB.set (k := 5) (by omega) rfl (.inr (.inr (3, 10, j + 1, 138, 4))) (by rw [rd_up]; rfl) (by simp [rfE] <;> omega)
      rw [show upD D3 (5) (.inr (.inr (3, 10, j + 1, 138, 4))) = itL 3 10 (138) 4 (5) F_mask D (j + 1) by rw [hD3, hD2, hDj]; rfl] at hB
      refine v_iinc dX6_init_178 rfl (Nat.le_of_ble_eq_true rfl) ?_
      refine v_goto 156 dX6_init_181 (by decide) ?_
      refine wV.locs (lv' := [(0, .ref t), (1, .int (gI ((j + 1 : Nat) : Int)))]) ⟨rfl, rfl, trivial⟩ (wV.wid (by omega) (by omega) (ih (j + 1) ad3 M4 (by omega) (by rw [show 138 + 4 * (j + 1) = 138 + 4 * j + 4 by omega]; exact hB) (hS.tr hS13 (by omega))))
set_option maxHeartbeats 4000000 in
set_option maxRecDepth 100000 in
theorem tX6_init_chans {sz : Nat} {M0 : wM} {G : gG} {t : Nat} {ad : Nat → Nat} {D : Nat → dE} {Post : Option Value → wM → Prop} (ht : ad 0 = t) (hx : D 0 = .inl (6, [.inl (some (1)), .inl (some (2)), .inl (some (3)), .inl (some (4)), .inl (some (5)), .inl (some (6)), .inl (some (7)), .inl (some (8)), .inr (0), .inr (1000), .inr (0)])) (har : D (6) = .inr (.inr (4, 4, 0, 178, 1))) (hkk : ∀ ad' M', wB G (178 + 1 * 4) ad' (itL 4 4 (178) 1 (6) F_chan D (4)) M' → wS (54) ad ad' → wV G qX6_init 181 8000 sz M0 (177 + 1 * 4) (4872 + 5 * 4) 214 [(0, .ref t), (1, .int (gI ((4 : Nat) : Int)))] [] M' Post) : ∀ (r j : Nat) (ad1 : Nat → Nat) (M1 : wM), r + j = 4 → wB G (178 + 1 * j) ad1 (itL 4 4 (178) 1 (6) F_chan D (j)) M1 → wS (54) ad ad1 → wV G qX6_init 181 8000 sz M0 (177 + 1 * j) (4872 + 5 * j) 186 [(0, .ref t), (1, .int (gI (j : Int)))] [] M1 Post := by
  intro r
  induction r with
  | zero =>
    intro j ad1 M1 hr hB hS
    have hj : j = 4 := by omega
    have hDk : itL 4 4 (178) 1 (6) F_chan D (j) 0 = .inl (6, [.inl (some (1)), .inl (some (2)), .inl (some (3)), .inl (some (4)), .inl (some (5)), .inl (some (6)), .inl (some (7)), .inl (some (8)), .inr (0), .inr (1000), .inr (0)]) := (itL_o (fun D p h => F_chan_o D p h) (by omega) (by omega) j).trans hx
    have hDa : itL 4 4 (178) 1 (6) F_chan D (j) (6) = _ := itL_a har j
    refine v_iloadn dX6_init_186 rfl ?_
    refine v_aloadn dX6_init_187 rfl ?_
    refine v_get dX6_init_188 gf_X6_33 (hB.at (k := 0) (by omega) ((hS 0 (by omega)).trans ht) hDk rfl) rfl ?_
    refine v_alen (ty := .int) (n := 4) dX6_init_191 (hB.at (k := 6) (by omega) rfl hDa rfl) (by simp) rfl ?_
    refine v_icmp_ge 214 dX6_init_192 (by decide) (by omega) (by omega) (fun hge => ?_) (fun hge => ?_)
    · subst hj; exact hkk _ _ hB hS
    · exfalso; omega
  | succ r ih =>
    intro j ad1 M1 hr hB hS
    have hDk : itL 4 4 (178) 1 (6) F_chan D (j) 0 = .inl (6, [.inl (some (1)), .inl (some (2)), .inl (some (3)), .inl (some (4)), .inl (some (5)), .inl (some (6)), .inl (some (7)), .inl (some (8)), .inr (0), .inr (1000), .inr (0)]) := (itL_o (fun D p h => F_chan_o D p h) (by omega) (by omega) j).trans hx
    have hDa : itL 4 4 (178) 1 (6) F_chan D (j) (6) = _ := itL_a har j
    refine v_iloadn dX6_init_186 rfl ?_
    refine v_aloadn dX6_init_187 rfl ?_
    refine v_get dX6_init_188 gf_X6_33 (hB.at (k := 0) (by omega) ((hS 0 (by omega)).trans ht) hDk rfl) rfl ?_
    refine v_alen (ty := .int) (n := 4) dX6_init_191 (hB.at (k := 6) (by omega) rfl hDa rfl) (by simp) rfl ?_
    refine v_icmp_ge 214 dX6_init_192 (by decide) (by omega) (by omega) (fun hge => ?_) (fun hge => ?_)
    · exfalso; omega
    · skip
      obtain ⟨Dj, hDj⟩ : ∃ z, z = itL 4 4 (178) 1 (6) F_chan D (j) := ⟨_, rfl⟩
      rw [← hDj] at hB hDk hDa
      refine v_aloadn dX6_init_195 rfl ?_
      refine v_get dX6_init_196 gf_X6_33 (hB.at (k := 0) (by omega) ((hS 0 (by omega)).trans ht) hDk rfl) rfl ?_
      refine v_iloadn dX6_init_199 rfl ?_
      refine v_new dX6_init_200 ln_X6_31 (by omega) (by omega) (fun a hn => ?_)
      generalize hMe : wup _ _ _ = M2
      obtain ⟨ad2, hB, ha, hS2⟩ : ∃ ad', wB G (178 + 1 * j + 1) ad' (upD Dj (178 + 1 * j) (.inl (0, [.inr (0), .inr (0), .inr (0), .inr (0), .inr (0)]))) M2 ∧ ad' (178 + 1 * j) = a ∧ wS (178 + 1 * j) ad1 ad' := by rw [← hMe]; exact hB.push (.inl (0, [.inr (0), .inr (0), .inr (0), .inr (0), .inr (0)])) hn (fun _ => rfl) rfl
      subst ha
      obtain ⟨D2, hD2⟩ : ∃ z, z = upD Dj (178 + 1 * j) (.inl (0, [.inr (0), .inr (0), .inr (0), .inr (0), .inr (0)])) := ⟨_, rfl⟩
      rw [← hD2] at hB
      refine v_dup dX6_init_203 rfl ?_
      refine v_callIN (tX0_init hB (k := 178 + 1 * j) (by omega) rfl (by rw [hD2, upD_at])) lc_X6_64 ⟨(Nat.le_of_ble_eq_true rfl), (Nat.le_of_ble_eq_true rfl)⟩ dX6_init_204 rfl rfl (Nat.le_of_ble_eq_true rfl) ⟨by omega, by omega⟩ (kV fun M3 hp3 => ?_)
      obtain ⟨ad3, hB, hS3⟩ := hp3
      obtain ⟨D3, hD3⟩ : ∃ z, z = D2 := ⟨_, rfl⟩
      rw [← hD3] at hB
      have hA3 : D3 (6) = .inr (.inr (4, 4, j, 178, 1)) := by rw [hD3]; skip; rw [hD2, upD_ne (by omega)]; exact hDa
      have hP3 : ∃ vs, D3 (178 + 1 * j) = .inl (0, vs) := ⟨_, by rw [hD3]; rw [hD2, upD_at]⟩
      obtain ⟨vs, hP3⟩ := hP3
      have hS13 : wS (178 + 1 * j) ad1 ad3 := hS2.tr hS3 (by omega)
      rw [show ad2 (178 + 1 * j) = ad3 (178 + 1 * j) from (hS3 _ (by omega)).symm, show rdV ad1 (.inl (some (6))) = Value.ref (ad3 (6)) from by show Value.ref (ad1 (6)) = Value.ref (ad3 (6)); rw [hS13 (6) (by omega)]]
      refine v_aast (i := j) (t0 := 4) (n := 4) dX6_init_207 (hB.at (k := 6) (by omega) rfl hA3 rfl) (hB.at (k := 178 + 1 * j) (by omega) rfl hP3 rfl) rfl (Or.inr (Or.inr (Or.inl ⟨rfl, rfl⟩))) (by omega) (by decide) ?_
      generalize hM4 : wup _ _ _ = M4
      have hB : wB G (178 + 1 * j + 1) ad3 (upD D3 (6) (.inr (.inr (4, 4, j + 1, 178, 1)))) M4 := by rw [← hM4]; exact hB.set (k := 6) (by omega) rfl (.inr (.inr (4, 4, j + 1, 178, 1))) (by rw [rd_up]; rfl) (by simp [rfE] <;> omega)
      rw [show upD D3 (6) (.inr (.inr (4, 4, j + 1, 178, 1))) = itL 4 4 (178) 1 (6) F_chan D (j + 1) by rw [hD3, hD2, hDj]; rfl] at hB
      refine v_iinc dX6_init_208 rfl (Nat.le_of_ble_eq_true rfl) ?_
      refine v_goto 186 dX6_init_211 (by decide) ?_
      refine wV.locs (lv' := [(0, .ref t), (1, .int (gI ((j + 1 : Nat) : Int)))]) ⟨rfl, rfl, trivial⟩ (wV.wid (by omega) (by omega) (ih (j + 1) ad3 M4 (by omega) (by rw [show 178 + 1 * (j + 1) = 178 + 1 * j + 1 by omega]; exact hB) (hS.tr hS13 (by omega))))
