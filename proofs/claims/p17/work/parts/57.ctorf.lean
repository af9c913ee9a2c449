set_option maxHeartbeats 4000000 in
set_option maxRecDepth 100000 in
theorem tX7_init_loop {sz : Nat} {M0 : wM} {G : gG} {t : Nat} {ad : Nat → Nat} {D : Nat → dE} {Post : Option Value → wM → Prop} (ht : ad 182 = t) (hx : D 182 = .inl (7, [.inr (1000), .inr (0), .inl (some (183)), .inl (some (184)), .inl (some (185)), .inl (some (186)), .inl (some (187)), .inl (some (188)), .inr (0), .inl (some (189)), .inl (some (190)), .inl (some (191)), .inl (some (192)), .inl (some (193)), .inl (some (194)), .inl (some (195)), .inl (some (196)), .inl (some (197)), .inr (0), .inr (0), .inr (0), .inr (0), .inr (0)])) (hkk : ∀ M', wB G 198 ad (upD D 186 (.inr (.inl (0, 12, 12)))) M' → wV G qX7_init 15 4000 sz M0 15 4000 152 [(0, .ref t), (1, .int (gI ((12 : Nat) : Int)))] [] M' Post) : ∀ (r j : Nat) (M1 : wM), r + j = 12 → wB G 198 ad (upD D 186 (.inr (.inl (0, 12, j)))) M1 → wV G qX7_init 15 4000 sz M0 15 4000 133 [(0, .ref t), (1, .int (gI (j : Int)))] [] M1 Post := by
  intro r
  induction r with
  | zero =>
    intro j M1 hr hB
    have hj : j = 12 := by omega
    refine v_iloadn dX7_init_133 rfl ?_
    refine v_bipush dX7_init_134 (by decide) ?_
    refine v_icmp_ge 152 dX7_init_136 (by decide) (by omega) (by omega) (fun hge => ?_) (fun hge => ?_)
    · subst hj; exact hkk _ hB
    · exfalso; omega
  | succ r ih =>
    intro j M1 hr hB
    refine v_iloadn dX7_init_133 rfl ?_
    refine v_bipush dX7_init_134 (by decide) ?_
    refine v_icmp_ge 152 dX7_init_136 (by decide) (by omega) (by omega) (fun hge => ?_) (fun hge => ?_)
    · exfalso; omega
    · skip
      have hDk : upD D 186 (.inr (.inl (0, 12, j))) 182 = .inl (7, [.inr (1000), .inr (0), .inl (some (183)), .inl (some (184)), .inl (some (185)), .inl (some (186)), .inl (some (187)), .inl (some (188)), .inr (0), .inl (some (189)), .inl (some (190)), .inl (some (191)), .inl (some (192)), .inl (some (193)), .inl (some (194)), .inl (some (195)), .inl (some (196)), .inl (some (197)), .inr (0), .inr (0), .inr (0), .inr (0), .inr (0)]) := by rw [upD_ne (by decide)]; exact hx
      refine v_aloadn dX7_init_139 rfl ?_
      refine v_get dX7_init_140 gf_X7_23 (hB.at (k := 182) (by omega) ht hDk rfl) rfl ?_
      refine v_iloadn dX7_init_143 rfl ?_
      refine v_iloadn dX7_init_144 rfl ?_
      refine v_iast (n := 12) dX7_init_145 (hB.at (k := 186) (by omega) rfl upD_at rfl) (by omega) (by omega) (by decide) ?_
      generalize hMn : wup _ _ _ = Mn
      have hB : wB G 198 ad (upD (upD D 186 (.inr (.inl (0, 12, j)))) 186 (.inr (.inl (0, 12, j + 1)))) Mn := by rw [← hMn]; exact hB.set (k := 186) (by omega) rfl (.inr (.inl (0, 12, j + 1))) (by rw [Int.toNat_natCast, rd_nm]; rfl) rfl
      rw [upD_upD] at hB
      refine v_iinc dX7_init_146 rfl (Nat.le_of_ble_eq_true rfl) ?_
      refine v_goto 133 dX7_init_149 (by decide) ?_
      refine wV.locs (lv' := [(0, .ref t), (1, .int (gI ((j + 1 : Nat) : Int)))]) ⟨rfl, rfl, trivial⟩ (ih (j + 1) Mn (by omega) hB)
def yD (D : Nat → dE) : Nat → dE := upD (upD (upD (upD (upD (upD (upD (upD (upD (upD (upD (upD (upD (upD (upD (upD (upD (D) 183 (.inr (.inl (0, 24, 0)))) 184 (.inr (.inl (0, 1200, 0)))) 185 (.inr (.inl (0, 1200, 0)))) 186 (.inr (.inl (0, 12, 0)))) 187 (.inr (.inl (0, 12, 0)))) 188 (.inr (.inl (0, 4, 0)))) 189 (.inr (.inl (0, 10, 0)))) 190 (.inr (.inl (0, 10, 0)))) 191 (.inr (.inl (0, 10, 0)))) 192 (.inr (.inl (0, 10, 0)))) 193 (.inr (.inl (1, 4, 0)))) 194 (.inr (.inl (0, 16, 0)))) 195 (.inr (.inl (0, 12, 0)))) 196 (.inr (.inl (0, 12, 0)))) 197 (.inr (.inl (0, 12, 0)))) 182 (.inl (7, [.inr (1000), .inr (0), .inl (some (183)), .inl (some (184)), .inl (some (185)), .inl (some (186)), .inl (some (187)), .inl (some (188)), .inr (0), .inl (some (189)), .inl (some (190)), .inl (some (191)), .inl (some (192)), .inl (some (193)), .inl (some (194)), .inl (some (195)), .inl (some (196)), .inl (some (197)), .inr (0), .inr (0), .inr (0), .inr (0), .inr (0)]))) 186 (.inr (.inl (0, 12, 12)))
set_option maxHeartbeats 4000000 in
set_option maxRecDepth 100000 in
theorem tX7_init {G : gG} {t : Nat} {ad : Nat → Nat} {D : Nat → dE} {M : wM} (hB : wB G 183 ad D M) (ht : ad 182 = t) (hDk : D 182 = .inl (7, [.inr (0), .inr (0), .inl none, .inl none, .inl none, .inl none, .inl none, .inl none, .inr (0), .inl none, .inl none, .inl none, .inl none, .inl none, .inl none, .inl none, .inl none, .inl none, .inr (0), .inr (0), .inr (0), .inr (0), .inr (0)])) : wT G qX7_init 15 4000 [.ref t] M (vP fun M' => ∃ ad', wB G 198 ad' (yD D) M' ∧ wS 183 ad ad') := by
  refine wT.intro (by decide) (Nat.le_of_ble_eq_true rfl) (fun sz => ?_)
  have hS : wS 183 ad ad := wS.rf
  have hk : 182 < 183 := by decide
  refine v_aloadn dX7_init_0 rfl ?_
  refine v_objInit dX7_init_1 lo_X7 (Nat.le_of_ble_eq_true rfl) (Nat.le_of_ble_eq_true rfl) ?_
  refine v_aloadn dX7_init_4 rfl ?_
  refine v_sipush dX7_init_5 (by decide) ?_
  refine v_put dX7_init_8 pf_X7_7 (hB.at (k := 182) (by omega) ((hS 182 hk).trans ht) hDk rfl) rfl rfl (Nat.le_of_ble_eq_true rfl) ?_
  generalize hMe8 : wup _ _ _ = M8
  have hB : wB G (183) ad (upD D 182 (.inl (7, [.inr (1000), .inr (0), .inl none, .inl none, .inl none, .inl none, .inl none, .inl none, .inr (0), .inl none, .inl none, .inl none, .inl none, .inl none, .inl none, .inl none, .inl none, .inl none, .inr (0), .inr (0), .inr (0), .inr (0), .inr (0)]))) M8 := by rw [← hMe8]; exact hB.set (k := 182) (by omega) ((hS 182 hk).trans ht) (.inl (7, [.inr (1000), .inr (0), .inl none, .inl none, .inl none, .inl none, .inl none, .inl none, .inr (0), .inl none, .inl none, .inl none, .inl none, .inl none, .inl none, .inl none, .inl none, .inl none, .inr (0), .inr (0), .inr (0), .inr (0), .inr (0)])) rfl (by simp [rfE, rfV] <;> omega)
  obtain ⟨D8, hD8⟩ : ∃ z, z = upD D 182 (.inl (7, [.inr (1000), .inr (0), .inl none, .inl none, .inl none, .inl none, .inl none, .inl none, .inr (0), .inl none, .inl none, .inl none, .inl none, .inl none, .inl none, .inl none, .inl none, .inl none, .inr (0), .inr (0), .inr (0), .inr (0), .inr (0)])) := ⟨_, rfl⟩
  rw [← hD8] at hB
  have hDk : D8 182 = .inl (7, [.inr (1000), .inr (0), .inl none, .inl none, .inl none, .inl none, .inl none, .inl none, .inr (0), .inl none, .inl none, .inl none, .inl none, .inl none, .inl none, .inl none, .inl none, .inl none, .inr (0), .inr (0), .inr (0), .inr (0), .inr (0)]) := by rw [hD8, upD_at]
  refine v_aloadn dX7_init_11 rfl ?_
  refine v_bipush dX7_init_12 (by decide) ?_
  refine v_newi (n := 24) dX7_init_14 (by decide) (Nat.le_of_ble_eq_true rfl) (Nat.le_of_ble_eq_true rfl) lai_I (fun a14 hn14 => ?_)
  generalize hMe14 : wup _ _ _ = M14
  obtain ⟨ad14, hB, ha14, hS14⟩ : ∃ ad', wB G (183 + 1) ad' (upD D8 (183) (.inr (.inl (0, 24, 0)))) M14 ∧ ad' (183) = a14 ∧ wS (183) ad ad' := by rw [← hMe14]; exact hB.push (.inr (.inl (0, 24, 0))) hn14 (fun _ => rfl) (by simp [rfE, rfV] <;> omega)
  subst ha14
  have hS := hS.tr hS14 (by omega)
  obtain ⟨D14, hD14⟩ : ∃ z, z = upD D8 (183) (.inr (.inl (0, 24, 0))) := ⟨_, rfl⟩
  rw [← hD14] at hB
  have hDk : D14 182 = .inl (7, [.inr (1000), .inr (0), .inl none, .inl none, .inl none, .inl none, .inl none, .inl none, .inr (0), .inl none, .inl none, .inl none, .inl none, .inl none, .inl none, .inl none, .inl none, .inl none, .inr (0), .inr (0), .inr (0), .inr (0), .inr (0)]) := by rw [hD14, upD_ne (by omega)]; exact hDk
  refine v_putF dX7_init_16 pf_X7_13 rfl (hB.at (k := 182) (by omega) ((hS 182 hk).trans ht) hDk rfl) rfl rfl (Nat.le_of_ble_eq_true rfl) ?_
  generalize hMe16 : wup _ _ _ = M16
  have hB : wB G (184) ad14 (upD D14 182 (.inl (7, [.inr (1000), .inr (0), .inl (some (183)), .inl none, .inl none, .inl none, .inl none, .inl none, .inr (0), .inl none, .inl none, .inl none, .inl none, .inl none, .inl none, .inl none, .inl none, .inl none, .inr (0), .inr (0), .inr (0), .inr (0), .inr (0)]))) M16 := by rw [← hMe16]; exact hB.set (k := 182) (by omega) ((hS 182 hk).trans ht) (.inl (7, [.inr (1000), .inr (0), .inl (some (183)), .inl none, .inl none, .inl none, .inl none, .inl none, .inr (0), .inl none, .inl none, .inl none, .inl none, .inl none, .inl none, .inl none, .inl none, .inl none, .inr (0), .inr (0), .inr (0), .inr (0), .inr (0)])) rfl (by simp [rfE, rfV] <;> omega)
  obtain ⟨D16, hD16⟩ : ∃ z, z = upD D14 182 (.inl (7, [.inr (1000), .inr (0), .inl (some (183)), .inl none, .inl none, .inl none, .inl none, .inl none, .inr (0), .inl none, .inl none, .inl none, .inl none, .inl none, .inl none, .inl none, .inl none, .inl none, .inr (0), .inr (0), .inr (0), .inr (0), .inr (0)])) := ⟨_, rfl⟩
  rw [← hD16] at hB
  have hDk : D16 182 = .inl (7, [.inr (1000), .inr (0), .inl (some (183)), .inl none, .inl none, .inl none, .inl none, .inl none, .inr (0), .inl none, .inl none, .inl none, .inl none, .inl none, .inl none, .inl none, .inl none, .inl none, .inr (0), .inr (0), .inr (0), .inr (0), .inr (0)]) := by rw [hD16, upD_at]
  refine v_aloadn dX7_init_19 rfl ?_
  refine v_sipush dX7_init_20 (by decide) ?_
  refine v_newi (n := 1200) dX7_init_23 (by decide) (Nat.le_of_ble_eq_true rfl) (Nat.le_of_ble_eq_true rfl) lai_I (fun a23 hn23 => ?_)
  generalize hMe23 : wup _ _ _ = M23
  obtain ⟨ad23, hB, ha23, hS23⟩ : ∃ ad', wB G (184 + 1) ad' (upD D16 (184) (.inr (.inl (0, 1200, 0)))) M23 ∧ ad' (184) = a23 ∧ wS (184) ad14 ad' := by rw [← hMe23]; exact hB.push (.inr (.inl (0, 1200, 0))) hn23 (fun _ => rfl) (by simp [rfE, rfV] <;> omega)
  subst ha23
  have hS := hS.tr hS23 (by omega)
  obtain ⟨D23, hD23⟩ : ∃ z, z = upD D16 (184) (.inr (.inl (0, 1200, 0))) := ⟨_, rfl⟩
  rw [← hD23] at hB
  have hDk : D23 182 = .inl (7, [.inr (1000), .inr (0), .inl (some (183)), .inl none, .inl none, .inl none, .inl none, .inl none, .inr (0), .inl none, .inl none, .inl none, .inl none, .inl none, .inl none, .inl none, .inl none, .inl none, .inr (0), .inr (0), .inr (0), .inr (0), .inr (0)]) := by rw [hD23, upD_ne (by omega)]; exact hDk
  refine v_putF dX7_init_25 pf_X7_17 rfl (hB.at (k := 182) (by omega) ((hS 182 hk).trans ht) hDk rfl) rfl rfl (Nat.le_of_ble_eq_true rfl) ?_
  generalize hMe25 : wup _ _ _ = M25
  have hB : wB G (185) ad23 (upD D23 182 (.inl (7, [.inr (1000), .inr (0), .inl (some (183)), .inl (some (184)), .inl none, .inl none, .inl none, .inl none, .inr (0), .inl none, .inl none, .inl none, .inl none, .inl none, .inl none, .inl none, .inl none, .inl none, .inr (0), .inr (0), .inr (0), .inr (0), .inr (0)]))) M25 := by rw [← hMe25]; exact hB.set (k := 182) (by omega) ((hS 182 hk).trans ht) (.inl (7, [.inr (1000), .inr (0), .inl (some (183)), .inl (some (184)), .inl none, .inl none, .inl none, .inl none, .inr (0), .inl none, .inl none, .inl none, .inl none, .inl none, .inl none, .inl none, .inl none, .inl none, .inr (0), .inr (0), .inr (0), .inr (0), .inr (0)])) rfl (by simp [rfE, rfV] <;> omega)
  obtain ⟨D25, hD25⟩ : ∃ z, z = upD D23 182 (.inl (7, [.inr (1000), .inr (0), .inl (some (183)), .inl (some (184)), .inl none, .inl none, .inl none, .inl none, .inr (0), .inl none, .inl none, .inl none, .inl none, .inl none, .inl none, .inl none, .inl none, .inl none, .inr (0), .inr (0), .inr (0), .inr (0), .inr (0)])) := ⟨_, rfl⟩
  rw [← hD25] at hB
  have hDk : D25 182 = .inl (7, [.inr (1000), .inr (0), .inl (some (183)), .inl (some (184)), .inl none, .inl none, .inl none, .inl none, .inr (0), .inl none, .inl none, .inl none, .inl none, .inl none, .inl none, .inl none, .inl none, .inl none, .inr (0), .inr (0), .inr (0), .inr (0), .inr (0)]) := by rw [hD25, upD_at]
  refine v_aloadn dX7_init_28 rfl ?_
  refine v_sipush dX7_init_29 (by decide) ?_
  refine v_newi (n := 1200) dX7_init_32 (by decide) (Nat.le_of_ble_eq_true rfl) (Nat.le_of_ble_eq_true rfl) lai_I (fun a32 hn32 => ?_)
  generalize hMe32 : wup _ _ _ = M32
  obtain ⟨ad32, hB, ha32, hS32⟩ : ∃ ad', wB G (185 + 1) ad' (upD D25 (185) (.inr (.inl (0, 1200, 0)))) M32 ∧ ad' (185) = a32 ∧ wS (185) ad23 ad' := by rw [← hMe32]; exact hB.push (.inr (.inl (0, 1200, 0))) hn32 (fun _ => rfl) (by simp [rfE, rfV] <;> omega)
  subst ha32
  have hS := hS.tr hS32 (by omega)
  obtain ⟨D32, hD32⟩ : ∃ z, z = upD D25 (185) (.inr (.inl (0, 1200, 0))) := ⟨_, rfl⟩
  rw [← hD32] at hB
  have hDk : D32 182 = .inl (7, [.inr (1000), .inr (0), .inl (some (183)), .inl (some (184)), .inl none, .inl none, .inl none, .inl none, .inr (0), .inl none, .inl none, .inl none, .inl none, .inl none, .inl none, .inl none, .inl none, .inl none, .inr (0), .inr (0), .inr (0), .inr (0), .inr (0)]) := by rw [hD32, upD_ne (by omega)]; exact hDk
  refine v_putF dX7_init_34 pf_X7_20 rfl (hB.at (k := 182) (by omega) ((hS 182 hk).trans ht) hDk rfl) rfl rfl (Nat.le_of_ble_eq_true rfl) ?_
  generalize hMe34 : wup _ _ _ = M34
  have hB : wB G (186) ad32 (upD D32 182 (.inl (7, [.inr (1000), .inr (0), .inl (some (183)), .inl (some (184)), .inl (some (185)), .inl none, .inl none, .inl none, .inr (0), .inl none, .inl none, .inl none, .inl none, .inl none, .inl none, .inl none, .inl none, .inl none, .inr (0), .inr (0), .inr (0), .inr (0), .inr (0)]))) M34 := by rw [← hMe34]; exact hB.set (k := 182) (by omega) ((hS 182 hk).trans ht) (.inl (7, [.inr (1000), .inr (0), .inl (some (183)), .inl (some (184)), .inl (some (185)), .inl none, .inl none, .inl none, .inr (0), .inl none, .inl none, .inl none, .inl none, .inl none, .inl none, .inl none, .inl none, .inl none, .inr (0), .inr (0), .inr (0), .inr (0), .inr (0)])) rfl (by simp [rfE, rfV] <;> omega)
  obtain ⟨D34, hD34⟩ : ∃ z, z = upD D32 182 (.inl (7, [.inr (1000), .inr (0), .inl (some (183)), .inl (some (184)), .inl (some (185)), .inl none, .inl none, .inl none, .inr (0), .inl none, .inl none, .inl none, .inl none, .inl none, .inl none, .inl none, .inl none, .inl none, .inr (0), .inr (0), .inr (0), .inr (0), .inr (0)])) := ⟨_, rfl⟩
  rw [← hD34] at hB
  have hDk : D34 182 = .inl (7, [.inr (1000), .inr (0), .inl (some (183)), .inl (some (184)), .inl (some (185)), .inl none, .inl none, .inl none, .inr (0), .inl none, .inl none, .inl none, .inl none, .inl none, .inl none, .inl none, .inl none, .inl none, .inr (0), .inr (0), .inr (0), .inr (0), .inr (0)]) := by rw [hD34, upD_at]
  refine v_aloadn dX7_init_37 rfl ?_
  refine v_bipush dX7_init_38 (by decide) ?_
  refine v_newi (n := 12) dX7_init_40 (by decide) (Nat.le_of_ble_eq_true rfl) (Nat.le_of_ble_eq_true rfl) lai_I (fun a40 hn40 => ?_)
  generalize hMe40 : wup _ _ _ = M40
  obtain ⟨ad40, hB, ha40, hS40⟩ : ∃ ad', wB G (186 + 1) ad' (upD D34 (186) (.inr (.inl (0, 12, 0)))) M40 ∧ ad' (186) = a40 ∧ wS (186) ad32 ad' := by rw [← hMe40]; exact hB.push (.inr (.inl (0, 12, 0))) hn40 (fun _ => rfl) (by simp [rfE, rfV] <;> omega)
  subst ha40
  have hS := hS.tr hS40 (by omega)
  obtain ⟨D40, hD40⟩ : ∃ z, z = upD D34 (186) (.inr (.inl (0, 12, 0))) := ⟨_, rfl⟩
  rw [← hD40] at hB
  have hDk : D40 182 = .inl (7, [.inr (1000), .inr (0), .inl (some (183)), .inl (some (184)), .inl (some (185)), .inl none, .inl none, .inl none, .inr (0), .inl none, .inl none, .inl none, .inl none, .inl none, .inl none, .inl none, .inl none, .inl none, .inr (0), .inr (0), .inr (0), .inr (0), .inr (0)]) := by rw [hD40, upD_ne (by omega)]; exact hDk
  have h_nm : D40 (186) = .inr (.inl (0, 12, 0)) := by rw [hD40, upD_at]
  refine v_putF dX7_init_42 pf_X7_23 rfl (hB.at (k := 182) (by omega) ((hS 182 hk).trans ht) hDk rfl) rfl rfl (Nat.le_of_ble_eq_true rfl) ?_
  generalize hMe42 : wup _ _ _ = M42
  have hB : wB G (187) ad40 (upD D40 182 (.inl (7, [.inr (1000), .inr (0), .inl (some (183)), .inl (some (184)), .inl (some (185)), .inl (some (186)), .inl none, .inl none, .inr (0), .inl none, .inl none, .inl none, .inl none, .inl none, .inl none, .inl none, .inl none, .inl none, .inr (0), .inr (0), .inr (0), .inr (0), .inr (0)]))) M42 := by rw [← hMe42]; exact hB.set (k := 182) (by omega) ((hS 182 hk).trans ht) (.inl (7, [.inr (1000), .inr (0), .inl (some (183)), .inl (some (184)), .inl (some (185)), .inl (some (186)), .inl none, .inl none, .inr (0), .inl none, .inl none, .inl none, .inl none, .inl none, .inl none, .inl none, .inl none, .inl none, .inr (0), .inr (0), .inr (0), .inr (0), .inr (0)])) rfl (by simp [rfE, rfV] <;> omega)
  obtain ⟨D42, hD42⟩ : ∃ z, z = upD D40 182 (.inl (7, [.inr (1000), .inr (0), .inl (some (183)), .inl (some (184)), .inl (some (185)), .inl (some (186)), .inl none, .inl none, .inr (0), .inl none, .inl none, .inl none, .inl none, .inl none, .inl none, .inl none, .inl none, .inl none, .inr (0), .inr (0), .inr (0), .inr (0), .inr (0)])) := ⟨_, rfl⟩
  rw [← hD42] at hB
  have hDk : D42 182 = .inl (7, [.inr (1000), .inr (0), .inl (some (183)), .inl (some (184)), .inl (some (185)), .inl (some (186)), .inl none, .inl none, .inr (0), .inl none, .inl none, .inl none, .inl none, .inl none, .inl none, .inl none, .inl none, .inl none, .inr (0), .inr (0), .inr (0), .inr (0), .inr (0)]) := by rw [hD42, upD_at]
  have h_nm : D42 (186) = .inr (.inl (0, 12, 0)) := by rw [hD42, upD_ne (by omega)]; exact h_nm
  refine v_aloadn dX7_init_45 rfl ?_
  refine v_bipush dX7_init_46 (by decide) ?_
  refine v_newi (n := 12) dX7_init_48 (by decide) (Nat.le_of_ble_eq_true rfl) (Nat.le_of_ble_eq_true rfl) lai_I (fun a48 hn48 => ?_)
  generalize hMe48 : wup _ _ _ = M48
  obtain ⟨ad48, hB, ha48, hS48⟩ : ∃ ad', wB G (187 + 1) ad' (upD D42 (187) (.inr (.inl (0, 12, 0)))) M48 ∧ ad' (187) = a48 ∧ wS (187) ad40 ad' := by rw [← hMe48]; exact hB.push (.inr (.inl (0, 12, 0))) hn48 (fun _ => rfl) (by simp [rfE, rfV] <;> omega)
  subst ha48
  have hS := hS.tr hS48 (by omega)
  obtain ⟨D48, hD48⟩ : ∃ z, z = upD D42 (187) (.inr (.inl (0, 12, 0))) := ⟨_, rfl⟩
  rw [← hD48] at hB
  have hDk : D48 182 = .inl (7, [.inr (1000), .inr (0), .inl (some (183)), .inl (some (184)), .inl (some (185)), .inl (some (186)), .inl none, .inl none, .inr (0), .inl none, .inl none, .inl none, .inl none, .inl none, .inl none, .inl none, .inl none, .inl none, .inr (0), .inr (0), .inr (0), .inr (0), .inr (0)]) := by rw [hD48, upD_ne (by omega)]; exact hDk
  have h_nm : D48 (186) = .inr (.inl (0, 12, 0)) := by rw [hD48, upD_ne (by omega)]; exact h_nm
  refine v_putF dX7_init_50 pf_X7_26 rfl (hB.at (k := 182) (by omega) ((hS 182 hk).trans ht) hDk rfl) rfl rfl (Nat.le_of_ble_eq_true rfl) ?_
  generalize hMe50 : wup _ _ _ = M50
  have hB : wB G (188) ad48 (upD D48 182 (.inl (7, [.inr (1000), .inr (0), .inl (some (183)), .inl (some (184)), .inl (some (185)), .inl (some (186)), .inl (some (187)), .inl none, .inr (0), .inl none, .inl none, .inl none, .inl none, .inl none, .inl none, .inl none, .inl none, .inl none, .inr (0), .inr (0), .inr (0), .inr (0), .inr (0)]))) M50 := by rw [← hMe50]; exact hB.set (k := 182) (by omega) ((hS 182 hk).trans ht) (.inl (7, [.inr (1000), .inr (0), .inl (some (183)), .inl (some (184)), .inl (some (185)), .inl (some (186)), .inl (some (187)), .inl none, .inr (0), .inl none, .inl none, .inl none, .inl none, .inl none, .inl none, .inl none, .inl none, .inl none, .inr (0), .inr (0), .inr (0), .inr (0), .inr (0)])) rfl (by simp [rfE, rfV] <;> omega)
  obtain ⟨D50, hD50⟩ : ∃ z, z = upD D48 182 (.inl (7, [.inr (1000), .inr (0), .inl (some (183)), .inl (some (184)), .inl (some (185)), .inl (some (186)), .inl (some (187)), .inl none, .inr (0), .inl none, .inl none, .inl none, .inl none, .inl none, .inl none, .inl none, .inl none, .inl none, .inr (0), .inr (0), .inr (0), .inr (0), .inr (0)])) := ⟨_, rfl⟩
  rw [← hD50] at hB
  have hDk : D50 182 = .inl (7, [.inr (1000), .inr (0), .inl (some (183)), .inl (some (184)), .inl (some (185)), .inl (some (186)), .inl (some (187)), .inl none, .inr (0), .inl none, .inl none, .inl none, .inl none, .inl none, .inl none, .inl none, .inl none, .inl none, .inr (0), .inr (0), .inr (0), .inr (0), .inr (0)]) := by rw [hD50, upD_at]
  have h_nm : D50 (186) = .inr (.inl (0, 12, 0)) := by rw [hD50, upD_ne (by omega)]; exact h_nm
  refine v_aloadn dX7_init_53 rfl ?_
  refine v_iconst dX7_init_54 ?_
  refine v_newi (n := 4) dX7_init_55 (by decide) (Nat.le_of_ble_eq_true rfl) (Nat.le_of_ble_eq_true rfl) lai_I (fun a55 hn55 => ?_)
  generalize hMe55 : wup _ _ _ = M55
  obtain ⟨ad55, hB, ha55, hS55⟩ : ∃ ad', wB G (188 + 1) ad' (upD D50 (188) (.inr (.inl (0, 4, 0)))) M55 ∧ ad' (188) = a55 ∧ wS (188) ad48 ad' := by rw [← hMe55]; exact hB.push (.inr (.inl (0, 4, 0))) hn55 (fun _ => rfl) (by simp [rfE, rfV] <;> omega)
  subst ha55
  have hS := hS.tr hS55 (by omega)
  obtain ⟨D55, hD55⟩ : ∃ z, z = upD D50 (188) (.inr (.inl (0, 4, 0))) := ⟨_, rfl⟩
  rw [← hD55] at hB
  have hDk : D55 182 = .inl (7, [.inr (1000), .inr (0), .inl (some (183)), .inl (some (184)), .inl (some (185)), .inl (some (186)), .inl (some (187)), .inl none, .inr (0), .inl none, .inl none, .inl none, .inl none, .inl none, .inl none, .inl none, .inl none, .inl none, .inr (0), .inr (0), .inr (0), .inr (0), .inr (0)]) := by rw [hD55, upD_ne (by omega)]; exact hDk
  have h_nm : D55 (186) = .inr (.inl (0, 12, 0)) := by rw [hD55, upD_ne (by omega)]; exact h_nm
  refine v_putF dX7_init_57 pf_X7_29 rfl (hB.at (k := 182) (by omega) ((hS 182 hk).trans ht) hDk rfl) rfl rfl (Nat.le_of_ble_eq_true rfl) ?_
  generalize hMe57 : wup _ _ _ = M57
  have hB : wB G (189) ad55 (upD D55 182 (.inl (7, [.inr (1000), .inr (0), .inl (some (183)), .inl (some (184)), .inl (some (185)), .inl (some (186)), .inl (some (187)), .inl (some (188)), .inr (0), .inl none, .inl none, .inl none, .inl none, .inl none, .inl none, .inl none, .inl none, .inl none, .inr (0), .inr (0), .inr (0), .inr (0), .inr (0)]))) M57 := by rw [← hMe57]; exact hB.set (k := 182) (by omega) ((hS 182 hk).trans ht) (.inl (7, [.inr (1000), .inr (0), .inl (some (183)), .inl (some (184)), .inl (some (185)), .inl (some (186)), .inl (some (187)), .inl (some (188)), .inr (0), .inl none, .inl none, .inl none, .inl none, .inl none, .inl none, .inl none, .inl none, .inl none, .inr (0), .inr (0), .inr (0), .inr (0), .inr (0)])) rfl (by simp [rfE, rfV] <;> omega)
  obtain ⟨D57, hD57⟩ : ∃ z, z = upD D55 182 (.inl (7, [.inr (1000), .inr (0), .inl (some (183)), .inl (some (184)), .inl (some (185)), .inl (some (186)), .inl (some (187)), .inl (some (188)), .inr (0), .inl none, .inl none, .inl none, .inl none, .inl none, .inl none, .inl none, .inl none, .inl none, .inr (0), .inr (0), .inr (0), .inr (0), .inr (0)])) := ⟨_, rfl⟩
  rw [← hD57] at hB
  have hDk : D57 182 = .inl (7, [.inr (1000), .inr (0), .inl (some (183)), .inl (some (184)), .inl (some (185)), .inl (some (186)), .inl (some (187)), .inl (some (188)), .inr (0), .inl none, .inl none, .inl none, .inl none, .inl none, .inl none, .inl none, .inl none, .inl none, .inr (0), .inr (0), .inr (0), .inr (0), .inr (0)]) := by rw [hD57, upD_at]
  have h_nm : D57 (186) = .inr (.inl (0, 12, 0)) := by rw [hD57, upD_ne (by omega)]; exact h_nm
  refine v_aloadn dX7_init_60 rfl ?_
  refine v_bipush dX7_init_61 (by decide) ?_
  refine v_newi (n := 10) dX7_init_63 (by decide) (Nat.le_of_ble_eq_true rfl) (Nat.le_of_ble_eq_true rfl) lai_I (fun a63 hn63 => ?_)
  generalize hMe63 : wup _ _ _ = M63
  obtain ⟨ad63, hB, ha63, hS63⟩ : ∃ ad', wB G (189 + 1) ad' (upD D57 (189) (.inr (.inl (0, 10, 0)))) M63 ∧ ad' (189) = a63 ∧ wS (189) ad55 ad' := by rw [← hMe63]; exact hB.push (.inr (.inl (0, 10, 0))) hn63 (fun _ => rfl) (by simp [rfE, rfV] <;> omega)
  subst ha63
  have hS := hS.tr hS63 (by omega)
  obtain ⟨D63, hD63⟩ : ∃ z, z = upD D57 (189) (.inr (.inl (0, 10, 0))) := ⟨_, rfl⟩
  rw [← hD63] at hB
  have hDk : D63 182 = .inl (7, [.inr (1000), .inr (0), .inl (some (183)), .inl (some (184)), .inl (some (185)), .inl (some (186)), .inl (some (187)), .inl (some (188)), .inr (0), .inl none, .inl none, .inl none, .inl none, .inl none, .inl none, .inl none, .inl none, .inl none, .inr (0), .inr (0), .inr (0), .inr (0), .inr (0)]) := by rw [hD63, upD_ne (by omega)]; exact hDk
  have h_nm : D63 (186) = .inr (.inl (0, 12, 0)) := by rw [hD63, upD_ne (by omega)]; exact h_nm
  refine v_putF dX7_init_65 pf_X7_32 rfl (hB.at (k := 182) (by omega) ((hS 182 hk).trans ht) hDk rfl) rfl rfl (Nat.le_of_ble_eq_true rfl) ?_
  generalize hMe65 : wup _ _ _ = M65
  have hB : wB G (190) ad63 (upD D63 182 (.inl (7, [.inr (1000), .inr (0), .inl (some (183)), .inl (some (184)), .inl (some (185)), .inl (some (186)), .inl (some (187)), .inl (some (188)), .inr (0), .inl (some (189)), .inl none, .inl none, .inl none, .inl none, .inl none, .inl none, .inl none, .inl none, .inr (0), .inr (0), .inr (0), .inr (0), .inr (0)]))) M65 := by rw [← hMe65]; exact hB.set (k := 182) (by omega) ((hS 182 hk).trans ht) (.inl (7, [.inr (1000), .inr (0), .inl (some (183)), .inl (some (184)), .inl (some (185)), .inl (some (186)), .inl (some (187)), .inl (some (188)), .inr (0), .inl (some (189)), .inl none, .inl none, .inl none, .inl none, .inl none, .inl none, .inl none, .inl none, .inr (0), .inr (0), .inr (0), .inr (0), .inr (0)])) rfl (by simp [rfE, rfV] <;> omega)
  obtain ⟨D65, hD65⟩ : ∃ z, z = upD D63 182 (.inl (7, [.inr (1000), .inr (0), .inl (some (183)), .inl (some (184)), .inl (some (185)), .inl (some (186)), .inl (some (187)), .inl (some (188)), .inr (0), .inl (some (189)), .inl none, .inl none, .inl none, .inl none, .inl none, .inl none, .inl none, .inl none, .inr (0), .inr (0), .inr (0), .inr (0), .inr (0)])) := ⟨_, rfl⟩
  rw [← hD65] at hB
  have hDk : D65 182 = .inl (7, [.inr (1000), .inr (0), .inl (some (183)), .inl (some (184)), .inl (some (185)), .inl (some (186)), .inl (some (187)), .inl (some (188)), .inr (0), .inl (some (189)), .inl none, .inl none, .inl none, .inl none, .inl none, .inl none, .inl none, .inl none, .inr (0), .inr (0), .inr (0), .inr (0), .inr (0)]) := by rw [hD65, upD_at]
  have h_nm : D65 (186) = .inr (.inl (0, 12, 0)) := by rw [hD65, upD_ne (by omega)]; exact h_nm
  refine v_aloadn dX7_init_68 rfl ?_
  refine v_bipush dX7_init_69 (by decide) ?_
  refine v_newi (n := 10) dX7_init_71 (by decide) (Nat.le_of_ble_eq_true rfl) (Nat.le_of_ble_eq_true rfl) lai_I (fun a71 hn71 => ?_)
  generalize hMe71 : wup _ _ _ = M71
  obtain ⟨ad71, hB, ha71, hS71⟩ : ∃ ad', wB G (190 + 1) ad' (upD D65 (190) (.inr (.inl (0, 10, 0)))) M71 ∧ ad' (190) = a71 ∧ wS (190) ad63 ad' := by rw [← hMe71]; exact hB.push (.inr (.inl (0, 10, 0))) hn71 (fun _ => rfl) (by simp [rfE, rfV] <;> omega)
  subst ha71
  have hS := hS.tr hS71 (by omega)
  obtain ⟨D71, hD71⟩ : ∃ z, z = upD D65 (190) (.inr (.inl (0, 10, 0))) := ⟨_, rfl⟩
  rw [← hD71] at hB
  have hDk : D71 182 = .inl (7, [.inr (1000), .inr (0), .inl (some (183)), .inl (some (184)), .inl (some (185)), .inl (some (186)), .inl (some (187)), .inl (some (188)), .inr (0), .inl (some (189)), .inl none, .inl none, .inl none, .inl none, .inl none, .inl none, .inl none, .inl none, .inr (0), .inr (0), .inr (0), .inr (0), .inr (0)]) := by rw [hD71, upD_ne (by omega)]; exact hDk
  have h_nm : D71 (186) = .inr (.inl (0, 12, 0)) := by rw [hD71, upD_ne (by omega)]; exact h_nm
  refine v_putF dX7_init_73 pf_X7_35 rfl (hB.at (k := 182) (by omega) ((hS 182 hk).trans ht) hDk rfl) rfl rfl (Nat.le_of_ble_eq_true rfl) ?_
  generalize hMe73 : wup _ _ _ = M73
  have hB : wB G (191) ad71 (upD D71 182 (.inl (7, [.inr (1000), .inr (0), .inl (some (183)), .inl (some (184)), .inl (some (185)), .inl (some (186)), .inl (some (187)), .inl (some (188)), .inr (0), .inl (some (189)), .inl (some (190)), .inl none, .inl none, .inl none, .inl none, .inl none, .inl none, .inl none, .inr (0), .inr (0), .inr (0), .inr (0), .inr (0)]))) M73 := by rw [← hMe73]; exact hB.set (k := 182) (by omega) ((hS 182 hk).trans ht) (.inl (7, [.inr (1000), .inr (0), .inl (some (183)), .inl (some (184)), .inl (some (185)), .inl (some (186)), .inl (some (187)), .inl (some (188)), .inr (0), .inl (some (189)), .inl (some (190)), .inl none, .inl none, .inl none, .inl none, .inl none, .inl none, .inl none, .inr (0), .inr (0), .inr (0), .inr (0), .inr (0)])) rfl (by simp [rfE, rfV] <;> omega)
  obtain ⟨D73, hD73⟩ : ∃ z, z = upD D71 182 (.inl (7, [.inr (1000), .inr (0), .inl (some (183)), .inl (some (184)), .inl (some (185)), .inl (some (186)), .inl (some (187)), .inl (some (188)), .inr (0), .inl (some (189)), .inl (some (190)), .inl none, .inl none, .inl none, .inl none, .inl none, .inl none, .inl none, .inr (0), .inr (0), .inr (0), .inr (0), .inr (0)])) := ⟨_, rfl⟩
  rw [← hD73] at hB
  have hDk : D73 182 = .inl (7, [.inr (1000), .inr (0), .inl (some (183)), .inl (some (184)), .inl (some (185)), .inl (some (186)), .inl (some (187)), .inl (some (188)), .inr (0), .inl (some (189)), .inl (some (190)), .inl none, .inl none, .inl none, .inl none, .inl none, .inl none, .inl none, .inr (0), .inr (0), .inr (0), .inr (0), .inr (0)]) := by rw [hD73, upD_at]
  have h_nm : D73 (186) = .inr (.inl (0, 12, 0)) := by rw [hD73, upD_ne (by omega)]; exact h_nm
  refine v_aloadn dX7_init_76 rfl ?_
  refine v_bipush dX7_init_77 (by decide) ?_
  refine v_newi (n := 10) dX7_init_79 (by decide) (Nat.le_of_ble_eq_true rfl) (Nat.le_of_ble_eq_true rfl) lai_I (fun a79 hn79 => ?_)
  generalize hMe79 : wup _ _ _ = M79
  obtain ⟨ad79, hB, ha79, hS79⟩ : ∃ ad', wB G (191 + 1) ad' (upD D73 (191) (.inr (.inl (0, 10, 0)))) M79 ∧ ad' (191) = a79 ∧ wS (191) ad71 ad' := by rw [← hMe79]; exact hB.push (.inr (.inl (0, 10, 0))) hn79 (fun _ => rfl) (by simp [rfE, rfV] <;> omega)
  subst ha79
  have hS := hS.tr hS79 (by omega)
  obtain ⟨D79, hD79⟩ : ∃ z, z = upD D73 (191) (.inr (.inl (0, 10, 0))) := ⟨_, rfl⟩
  rw [← hD79] at hB
  have hDk : D79 182 = .inl (7, [.inr (1000), .inr (0), .inl (some (183)), .inl (some (184)), .inl (some (185)), .inl (some (186)), .inl (some (187)), .inl (some (188)), .inr (0), .inl (some (189)), .inl (some (190)), .inl none, .inl none, .inl none, .inl none, .inl none, .inl none, .inl none, .inr (0), .inr (0), .inr (0), .inr (0), .inr (0)]) := by rw [hD79, upD_ne (by omega)]; exact hDk
  have h_nm : D79 (186) = .inr (.inl (0, 12, 0)) := by rw [hD79, upD_ne (by omega)]; exact h_nm
  refine v_putF dX7_init_81 pf_X7_38 rfl (hB.at (k := 182) (by omega) ((hS 182 hk).trans ht) hDk rfl) rfl rfl (Nat.le_of_ble_eq_true rfl) ?_
  generalize hMe81 : wup _ _ _ = M81
  have hB : wB G (192) ad79 (upD D79 182 (.inl (7, [.inr (1000), .inr (0), .inl (some (183)), .inl (some (184)), .inl (some (185)), .inl (some (186)), .inl (some (187)), .inl (some (188)), .inr (0), .inl (some (189)), .inl (some (190)), .inl (some (191)), .inl none, .inl none, .inl none, .inl none, .inl none, .inl none, .inr (0), .inr (0), .inr (0), .inr (0), .inr (0)]))) M81 := by rw [← hMe81]; exact hB.set (k := 182) (by omega) ((hS 182 hk).trans ht) (.inl (7, [.inr (1000), .inr (0), .inl (some (183)), .inl (some (184)), .inl (some (185)), .inl (some (186)), .inl (some (187)), .inl (some (188)), .inr (0), .inl (some (189)), .inl (some (190)), .inl (some (191)), .inl none, .inl none, .inl none, .inl none, .inl none, .inl none, .inr (0), .inr (0), .inr (0), .inr (0), .inr (0)])) rfl (by simp [rfE, rfV] <;> omega)
  obtain ⟨D81, hD81⟩ : ∃ z, z = upD D79 182 (.inl (7, [.inr (1000), .inr (0), .inl (some (183)), .inl (some (184)), .inl (some (185)), .inl (some (186)), .inl (some (187)), .inl (some (188)), .inr (0), .inl (some (189)), .inl (some (190)), .inl (some (191)), .inl none, .inl none, .inl none, .inl none, .inl none, .inl none, .inr (0), .inr (0), .inr (0), .inr (0), .inr (0)])) := ⟨_, rfl⟩
  rw [← hD81] at hB
  have hDk : D81 182 = .inl (7, [.inr (1000), .inr (0), .inl (some (183)), .inl (some (184)), .inl (some (185)), .inl (some (186)), .inl (some (187)), .inl (some (188)), .inr (0), .inl (some (189)), .inl (some (190)), .inl (some (191)), .inl none, .inl none, .inl none, .inl none, .inl none, .inl none, .inr (0), .inr (0), .inr (0), .inr (0), .inr (0)]) := by rw [hD81, upD_at]
  have h_nm : D81 (186) = .inr (.inl (0, 12, 0)) := by rw [hD81, upD_ne (by omega)]; exact h_nm
  refine v_aloadn dX7_init_84 rfl ?_
  refine v_bipush dX7_init_85 (by decide) ?_
  refine v_newi (n := 10) dX7_init_87 (by decide) (Nat.le_of_ble_eq_true rfl) (Nat.le_of_ble_eq_true rfl) lai_I (fun a87 hn87 => ?_)
  generalize hMe87 : wup _ _ _ = M87
  obtain ⟨ad87, hB, ha87, hS87⟩ : ∃ ad', wB G (192 + 1) ad' (upD D81 (192) (.inr (.inl (0, 10, 0)))) M87 ∧ ad' (192) = a87 ∧ wS (192) ad79 ad' := by rw [← hMe87]; exact hB.push (.inr (.inl (0, 10, 0))) hn87 (fun _ => rfl) (by simp [rfE, rfV] <;> omega)
  subst ha87
  have hS := hS.tr hS87 (by omega)
  obtain ⟨D87, hD87⟩ : ∃ z, z = upD D81 (192) (.inr (.inl (0, 10, 0))) := ⟨_, rfl⟩
  rw [← hD87] at hB
  have hDk : D87 182 = .inl (7, [.inr (1000), .inr (0), .inl (some (183)), .inl (some (184)), .inl (some (185)), .inl (some (186)), .inl (some (187)), .inl (some (188)), .inr (0), .inl (some (189)), .inl (some (190)), .inl (some (191)), .inl none, .inl none, .inl none, .inl none, .inl none, .inl none, .inr (0), .inr (0), .inr (0), .inr (0), .inr (0)]) := by rw [hD87, upD_ne (by omega)]; exact hDk
  have h_nm : D87 (186) = .inr (.inl (0, 12, 0)) := by rw [hD87, upD_ne (by omega)]; exact h_nm
  refine v_putF dX7_init_89 pf_X7_41 rfl (hB.at (k := 182) (by omega) ((hS 182 hk).trans ht) hDk rfl) rfl rfl (Nat.le_of_ble_eq_true rfl) ?_
  generalize hMe89 : wup _ _ _ = M89
  have hB : wB G (193) ad87 (upD D87 182 (.inl (7, [.inr (1000), .inr (0), .inl (some (183)), .inl (some (184)), .inl (some (185)), .inl (some (186)), .inl (some (187)), .inl (some (188)), .inr (0), .inl (some (189)), .inl (some (190)), .inl (some (191)), .inl (some (192)), .inl none, .inl none, .inl none, .inl none, .inl none, .inr (0), .inr (0), .inr (0), .inr (0), .inr (0)]))) M89 := by rw [← hMe89]; exact hB.set (k := 182) (by omega) ((hS 182 hk).trans ht) (.inl (7, [.inr (1000), .inr (0), .inl (some (183)), .inl (some (184)), .inl (some (185)), .inl (some (186)), .inl (some (187)), .inl (some (188)), .inr (0), .inl (some (189)), .inl (some (190)), .inl (some (191)), .inl (some (192)), .inl none, .inl none, .inl none, .inl none, .inl none, .inr (0), .inr (0), .inr (0), .inr (0), .inr (0)])) rfl (by simp [rfE, rfV] <;> omega)
  obtain ⟨D89, hD89⟩ : ∃ z, z = upD D87 182 (.inl (7, [.inr (1000), .inr (0), .inl (some (183)), .inl (some (184)), .inl (some (185)), .inl (some (186)), .inl (some (187)), .inl (some (188)), .inr (0), .inl (some (189)), .inl (some (190)), .inl (some (191)), .inl (some (192)), .inl none, .inl none, .inl none, .inl none, .inl none, .inr (0), .inr (0), .inr (0), .inr (0), .inr (0)])) := ⟨_, rfl⟩
  rw [← hD89] at hB
  have hDk : D89 182 = .inl (7, [.inr (1000), .inr (0), .inl (some (183)), .inl (some (184)), .inl (some (185)), .inl (some (186)), .inl (some (187)), .inl (some (188)), .inr (0), .inl (some (189)), .inl (some (190)), .inl (some (191)), .inl (some (192)), .inl none, .inl none, .inl none, .inl none, .inl none, .inr (0), .inr (0), .inr (0), .inr (0), .inr (0)]) := by rw [hD89, upD_at]
  have h_nm : D89 (186) = .inr (.inl (0, 12, 0)) := by rw [hD89, upD_ne (by omega)]; exact h_nm
  refine v_aloadn dX7_init_92 rfl ?_
  refine v_iconst dX7_init_93 ?_
  refine v_newz (n := 4) dX7_init_94 (by decide) (Nat.le_of_ble_eq_true rfl) (Nat.le_of_ble_eq_true rfl) lai_Z (fun a94 hn94 => ?_)
  generalize hMe94 : wup _ _ _ = M94
  obtain ⟨ad94, hB, ha94, hS94⟩ : ∃ ad', wB G (193 + 1) ad' (upD D89 (193) (.inr (.inl (1, 4, 0)))) M94 ∧ ad' (193) = a94 ∧ wS (193) ad87 ad' := by rw [← hMe94]; exact hB.push (.inr (.inl (1, 4, 0))) hn94 (fun _ => rfl) (by simp [rfE, rfV] <;> omega)
  subst ha94
  have hS := hS.tr hS94 (by omega)
  obtain ⟨D94, hD94⟩ : ∃ z, z = upD D89 (193) (.inr (.inl (1, 4, 0))) := ⟨_, rfl⟩
  rw [← hD94] at hB
  have hDk : D94 182 = .inl (7, [.inr (1000), .inr (0), .inl (some (183)), .inl (some (184)), .inl (some (185)), .inl (some (186)), .inl (some (187)), .inl (some (188)), .inr (0), .inl (some (189)), .inl (some (190)), .inl (some (191)), .inl (some (192)), .inl none, .inl none, .inl none, .inl none, .inl none, .inr (0), .inr (0), .inr (0), .inr (0), .inr (0)]) := by rw [hD94, upD_ne (by omega)]; exact hDk
  have h_nm : D94 (186) = .inr (.inl (0, 12, 0)) := by rw [hD94, upD_ne (by omega)]; exact h_nm
  refine v_putF dX7_init_96 pf_X7_44 rfl (hB.at (k := 182) (by omega) ((hS 182 hk).trans ht) hDk rfl) rfl rfl (Nat.le_of_ble_eq_true rfl) ?_
  generalize hMe96 : wup _ _ _ = M96
  have hB : wB G (194) ad94 (upD D94 182 (.inl (7, [.inr (1000), .inr (0), .inl (some (183)), .inl (some (184)), .inl (some (185)), .inl (some (186)), .inl (some (187)), .inl (some (188)), .inr (0), .inl (some (189)), .inl (some (190)), .inl (some (191)), .inl (some (192)), .inl (some (193)), .inl none, .inl none, .inl none, .inl none, .inr (0), .inr (0), .inr (0), .inr (0), .inr (0)]))) M96 := by rw [← hMe96]; exact hB.set (k := 182) (by omega) ((hS 182 hk).trans ht) (.inl (7, [.inr (1000), .inr (0), .inl (some (183)), .inl (some (184)), .inl (some (185)), .inl (some (186)), .inl (some (187)), .inl (some (188)), .inr (0), .inl (some (189)), .inl (some (190)), .inl (some (191)), .inl (some (192)), .inl (some (193)), .inl none, .inl none, .inl none, .inl none, .inr (0), .inr (0), .inr (0), .inr (0), .inr (0)])) rfl (by simp [rfE, rfV] <;> omega)
  obtain ⟨D96, hD96⟩ : ∃ z, z = upD D94 182 (.inl (7, [.inr (1000), .inr (0), .inl (some (183)), .inl (some (184)), .inl (some (185)), .inl (some (186)), .inl (some (187)), .inl (some (188)), .inr (0), .inl (some (189)), .inl (some (190)), .inl (some (191)), .inl (some (192)), .inl (some (193)), .inl none, .inl none, .inl none, .inl none, .inr (0), .inr (0), .inr (0), .inr (0), .inr (0)])) := ⟨_, rfl⟩
  rw [← hD96] at hB
  have hDk : D96 182 = .inl (7, [.inr (1000), .inr (0), .inl (some (183)), .inl (some (184)), .inl (some (185)), .inl (some (186)), .inl (some (187)), .inl (some (188)), .inr (0), .inl (some (189)), .inl (some (190)), .inl (some (191)), .inl (some (192)), .inl (some (193)), .inl none, .inl none, .inl none, .inl none, .inr (0), .inr (0), .inr (0), .inr (0), .inr (0)]) := by rw [hD96, upD_at]
  have h_nm : D96 (186) = .inr (.inl (0, 12, 0)) := by rw [hD96, upD_ne (by omega)]; exact h_nm
  refine v_aloadn dX7_init_99 rfl ?_
  refine v_bipush dX7_init_100 (by decide) ?_
  refine v_newi (n := 16) dX7_init_102 (by decide) (Nat.le_of_ble_eq_true rfl) (Nat.le_of_ble_eq_true rfl) lai_I (fun a102 hn102 => ?_)
  generalize hMe102 : wup _ _ _ = M102
  obtain ⟨ad102, hB, ha102, hS102⟩ : ∃ ad', wB G (194 + 1) ad' (upD D96 (194) (.inr (.inl (0, 16, 0)))) M102 ∧ ad' (194) = a102 ∧ wS (194) ad94 ad' := by rw [← hMe102]; exact hB.push (.inr (.inl (0, 16, 0))) hn102 (fun _ => rfl) (by simp [rfE, rfV] <;> omega)
  subst ha102
  have hS := hS.tr hS102 (by omega)
  obtain ⟨D102, hD102⟩ : ∃ z, z = upD D96 (194) (.inr (.inl (0, 16, 0))) := ⟨_, rfl⟩
  rw [← hD102] at hB
  have hDk : D102 182 = .inl (7, [.inr (1000), .inr (0), .inl (some (183)), .inl (some (184)), .inl (some (185)), .inl (some (186)), .inl (some (187)), .inl (some (188)), .inr (0), .inl (some (189)), .inl (some (190)), .inl (some (191)), .inl (some (192)), .inl (some (193)), .inl none, .inl none, .inl none, .inl none, .inr (0), .inr (0), .inr (0), .inr (0), .inr (0)]) := by rw [hD102, upD_ne (by omega)]; exact hDk
  have h_nm : D102 (186) = .inr (.inl (0, 12, 0)) := by rw [hD102, upD_ne (by omega)]; exact h_nm
  refine v_putF dX7_init_104 pf_X7_48 rfl (hB.at (k := 182) (by omega) ((hS 182 hk).trans ht) hDk rfl) rfl rfl (Nat.le_of_ble_eq_true rfl) ?_
  generalize hMe104 : wup _ _ _ = M104
  have hB : wB G (195) ad102 (upD D102 182 (.inl (7, [.inr (1000), .inr (0), .inl (some (183)), .inl (some (184)), .inl (some (185)), .inl (some (186)), .inl (some (187)), .inl (some (188)), .inr (0), .inl (some (189)), .inl (some (190)), .inl (some (191)), .inl (some (192)), .inl (some (193)), .inl (some (194)), .inl none, .inl none, .inl none, .inr (0), .inr (0), .inr (0), .inr (0), .inr (0)]))) M104 := by rw [← hMe104]; exact hB.set (k := 182) (by omega) ((hS 182 hk).trans ht) (.inl (7, [.inr (1000), .inr (0), .inl (some (183)), .inl (some (184)), .inl (some (185)), .inl (some (186)), .inl (some (187)), .inl (some (188)), .inr (0), .inl (some (189)), .inl (some (190)), .inl (some (191)), .inl (some (192)), .inl (some (193)), .inl (some (194)), .inl none, .inl none, .inl none, .inr (0), .inr (0), .inr (0), .inr (0), .inr (0)])) rfl (by simp [rfE, rfV] <;> omega)
  obtain ⟨D104, hD104⟩ : ∃ z, z = upD D102 182 (.inl (7, [.inr (1000), .inr (0), .inl (some (183)), .inl (some (184)), .inl (some (185)), .inl (some (186)), .inl (some (187)), .inl (some (188)), .inr (0), .inl (some (189)), .inl (some (190)), .inl (some (191)), .inl (some (192)), .inl (some (193)), .inl (some (194)), .inl none, .inl none, .inl none, .inr (0), .inr (0), .inr (0), .inr (0), .inr (0)])) := ⟨_, rfl⟩
  rw [← hD104] at hB
  have hDk : D104 182 = .inl (7, [.inr (1000), .inr (0), .inl (some (183)), .inl (some (184)), .inl (some (185)), .inl (some (186)), .inl (some (187)), .inl (some (188)), .inr (0), .inl (some (189)), .inl (some (190)), .inl (some (191)), .inl (some (192)), .inl (some (193)), .inl (some (194)), .inl none, .inl none, .inl none, .inr (0), .inr (0), .inr (0), .inr (0), .inr (0)]) := by rw [hD104, upD_at]
  have h_nm : D104 (186) = .inr (.inl (0, 12, 0)) := by rw [hD104, upD_ne (by omega)]; exact h_nm
  refine v_aloadn dX7_init_107 rfl ?_
  refine v_bipush dX7_init_108 (by decide) ?_
  refine v_newi (n := 12) dX7_init_110 (by decide) (Nat.le_of_ble_eq_true rfl) (Nat.le_of_ble_eq_true rfl) lai_I (fun a110 hn110 => ?_)
  generalize hMe110 : wup _ _ _ = M110
  obtain ⟨ad110, hB, ha110, hS110⟩ : ∃ ad', wB G (195 + 1) ad' (upD D104 (195) (.inr (.inl (0, 12, 0)))) M110 ∧ ad' (195) = a110 ∧ wS (195) ad102 ad' := by rw [← hMe110]; exact hB.push (.inr (.inl (0, 12, 0))) hn110 (fun _ => rfl) (by simp [rfE, rfV] <;> omega)
  subst ha110
  have hS := hS.tr hS110 (by omega)
  obtain ⟨D110, hD110⟩ : ∃ z, z = upD D104 (195) (.inr (.inl (0, 12, 0))) := ⟨_, rfl⟩
  rw [← hD110] at hB
  have hDk : D110 182 = .inl (7, [.inr (1000), .inr (0), .inl (some (183)), .inl (some (184)), .inl (some (185)), .inl (some (186)), .inl (some (187)), .inl (some (188)), .inr (0), .inl (some (189)), .inl (some (190)), .inl (some (191)), .inl (some (192)), .inl (some (193)), .inl (some (194)), .inl none, .inl none, .inl none, .inr (0), .inr (0), .inr (0), .inr (0), .inr (0)]) := by rw [hD110, upD_ne (by omega)]; exact hDk
  have h_nm : D110 (186) = .inr (.inl (0, 12, 0)) := by rw [hD110, upD_ne (by omega)]; exact h_nm
  refine v_putF dX7_init_112 pf_X7_51 rfl (hB.at (k := 182) (by omega) ((hS 182 hk).trans ht) hDk rfl) rfl rfl (Nat.le_of_ble_eq_true rfl) ?_
  generalize hMe112 : wup _ _ _ = M112
  have hB : wB G (196) ad110 (upD D110 182 (.inl (7, [.inr (1000), .inr (0), .inl (some (183)), .inl (some (184)), .inl (some (185)), .inl (some (186)), .inl (some (187)), .inl (some (188)), .inr (0), .inl (some (189)), .inl (some (190)), .inl (some (191)), .inl (some (192)), .inl (some (193)), .inl (some (194)), .inl (some (195)), .inl none, .inl none, .inr (0), .inr (0), .inr (0), .inr (0), .inr (0)]))) M112 := by rw [← hMe112]; exact hB.set (k := 182) (by omega) ((hS 182 hk).trans ht) (.inl (7, [.inr (1000), .inr (0), .inl (some (183)), .inl (some (184)), .inl (some (185)), .inl (some (186)), .inl (some (187)), .inl (some (188)), .inr (0), .inl (some (189)), .inl (some (190)), .inl (some (191)), .inl (some (192)), .inl (some (193)), .inl (some (194)), .inl (some (195)), .inl none, .inl none, .inr (0), .inr (0), .inr (0), .inr (0), .inr (0)])) rfl (by simp [rfE, rfV] <;> omega)
  obtain ⟨D112, hD112⟩ : ∃ z, z = upD D110 182 (.inl (7, [.inr (1000), .inr (0), .inl (some (183)), .inl (some (184)), .inl (some (185)), .inl (some (186)), .inl (some (187)), .inl (some (188)), .inr (0), .inl (some (189)), .inl (some (190)), .inl (some (191)), .inl (some (192)), .inl (some (193)), .inl (some (194)), .inl (some (195)), .inl none, .inl none, .inr (0), .inr (0), .inr (0), .inr (0), .inr (0)])) := ⟨_, rfl⟩
  rw [← hD112] at hB
  have hDk : D112 182 = .inl (7, [.inr (1000), .inr (0), .inl (some (183)), .inl (some (184)), .inl (some (185)), .inl (some (186)), .inl (some (187)), .inl (some (188)), .inr (0), .inl (some (189)), .inl (some (190)), .inl (some (191)), .inl (some (192)), .inl (some (193)), .inl (some (194)), .inl (some (195)), .inl none, .inl none, .inr (0), .inr (0), .inr (0), .inr (0), .inr (0)]) := by rw [hD112, upD_at]
  have h_nm : D112 (186) = .inr (.inl (0, 12, 0)) := by rw [hD112, upD_ne (by omega)]; exact h_nm
  refine v_aloadn dX7_init_115 rfl ?_
  refine v_bipush dX7_init_116 (by decide) ?_
  refine v_newi (n := 12) dX7_init_118 (by decide) (Nat.le_of_ble_eq_true rfl) (Nat.le_of_ble_eq_true rfl) lai_I (fun a118 hn118 => ?_)
  generalize hMe118 : wup _ _ _ = M118
  obtain ⟨ad118, hB, ha118, hS118⟩ : ∃ ad', wB G (196 + 1) ad' (upD D112 (196) (.inr (.inl (0, 12, 0)))) M118 ∧ ad' (196) = a118 ∧ wS (196) ad110 ad' := by rw [← hMe118]; exact hB.push (.inr (.inl (0, 12, 0))) hn118 (fun _ => rfl) (by simp [rfE, rfV] <;> omega)
  subst ha118
  have hS := hS.tr hS118 (by omega)
  obtain ⟨D118, hD118⟩ : ∃ z, z = upD D112 (196) (.inr (.inl (0, 12, 0))) := ⟨_, rfl⟩
  rw [← hD118] at hB
  have hDk : D118 182 = .inl (7, [.inr (1000), .inr (0), .inl (some (183)), .inl (some (184)), .inl (some (185)), .inl (some (186)), .inl (some (187)), .inl (some (188)), .inr (0), .inl (some (189)), .inl (some (190)), .inl (some (191)), .inl (some (192)), .inl (some (193)), .inl (some (194)), .inl (some (195)), .inl none, .inl none, .inr (0), .inr (0), .inr (0), .inr (0), .inr (0)]) := by rw [hD118, upD_ne (by omega)]; exact hDk
  have h_nm : D118 (186) = .inr (.inl (0, 12, 0)) := by rw [hD118, upD_ne (by omega)]; exact h_nm
  refine v_putF dX7_init_120 pf_X7_54 rfl (hB.at (k := 182) (by omega) ((hS 182 hk).trans ht) hDk rfl) rfl rfl (Nat.le_of_ble_eq_true rfl) ?_
  generalize hMe120 : wup _ _ _ = M120
  have hB : wB G (197) ad118 (upD D118 182 (.inl (7, [.inr (1000), .inr (0), .inl (some (183)), .inl (some (184)), .inl (some (185)), .inl (some (186)), .inl (some (187)), .inl (some (188)), .inr (0), .inl (some (189)), .inl (some (190)), .inl (some (191)), .inl (some (192)), .inl (some (193)), .inl (some (194)), .inl (some (195)), .inl (some (196)), .inl none, .inr (0), .inr (0), .inr (0), .inr (0), .inr (0)]))) M120 := by rw [← hMe120]; exact hB.set (k := 182) (by omega) ((hS 182 hk).trans ht) (.inl (7, [.inr (1000), .inr (0), .inl (some (183)), .inl (some (184)), .inl (some (185)), .inl (some (186)), .inl (some (187)), .inl (some (188)), .inr (0), .inl (some (189)), .inl (some (190)), .inl (some (191)), .inl (some (192)), .inl (some (193)), .inl (some (194)), .inl (some (195)), .inl (some (196)), .inl none, .inr (0), .inr (0), .inr (0), .inr (0), .inr (0)])) rfl (by simp [rfE, rfV] <;> omega)
  obtain ⟨D120, hD120⟩ : ∃ z, z = upD D118 182 (.inl (7, [.inr (1000), .inr (0), .inl (some (183)), .inl (some (184)), .inl (some (185)), .inl (some (186)), .inl (some (187)), .inl (some (188)), .inr (0), .inl (some (189)), .inl (some (190)), .inl (some (191)), .inl (some (192)), .inl (some (193)), .inl (some (194)), .inl (some (195)), .inl (some (196)), .inl none, .inr (0), .inr (0), .inr (0), .inr (0), .inr (0)])) := ⟨_, rfl⟩
  rw [← hD120] at hB
  have hDk : D120 182 = .inl (7, [.inr (1000), .inr (0), .inl (some (183)), .inl (some (184)), .inl (some (185)), .inl (some (186)), .inl (some (187)), .inl (some (188)), .inr (0), .inl (some (189)), .inl (some (190)), .inl (some (191)), .inl (some (192)), .inl (some (193)), .inl (some (194)), .inl (some (195)), .inl (some (196)), .inl none, .inr (0), .inr (0), .inr (0), .inr (0), .inr (0)]) := by rw [hD120, upD_at]
  have h_nm : D120 (186) = .inr (.inl (0, 12, 0)) := by rw [hD120, upD_ne (by omega)]; exact h_nm
  refine v_aloadn dX7_init_123 rfl ?_
  refine v_bipush dX7_init_124 (by decide) ?_
  refine v_newi (n := 12) dX7_init_126 (by decide) (Nat.le_of_ble_eq_true rfl) (Nat.le_of_ble_eq_true rfl) lai_I (fun a126 hn126 => ?_)
  generalize hMe126 : wup _ _ _ = M126
  obtain ⟨ad126, hB, ha126, hS126⟩ : ∃ ad', wB G (197 + 1) ad' (upD D120 (197) (.inr (.inl (0, 12, 0)))) M126 ∧ ad' (197) = a126 ∧ wS (197) ad118 ad' := by rw [← hMe126]; exact hB.push (.inr (.inl (0, 12, 0))) hn126 (fun _ => rfl) (by simp [rfE, rfV] <;> omega)
  subst ha126
  have hS := hS.tr hS126 (by omega)
  obtain ⟨D126, hD126⟩ : ∃ z, z = upD D120 (197) (.inr (.inl (0, 12, 0))) := ⟨_, rfl⟩
  rw [← hD126] at hB
  have hDk : D126 182 = .inl (7, [.inr (1000), .inr (0), .inl (some (183)), .inl (some (184)), .inl (some (185)), .inl (some (186)), .inl (some (187)), .inl (some (188)), .inr (0), .inl (some (189)), .inl (some (190)), .inl (some (191)), .inl (some (192)), .inl (some (193)), .inl (some (194)), .inl (some (195)), .inl (some (196)), .inl none, .inr (0), .inr (0), .inr (0), .inr (0), .inr (0)]) := by rw [hD126, upD_ne (by omega)]; exact hDk
  have h_nm : D126 (186) = .inr (.inl (0, 12, 0)) := by rw [hD126, upD_ne (by omega)]; exact h_nm
  refine v_putF dX7_init_128 pf_X7_57 rfl (hB.at (k := 182) (by omega) ((hS 182 hk).trans ht) hDk rfl) rfl rfl (Nat.le_of_ble_eq_true rfl) ?_
  generalize hMe128 : wup _ _ _ = M128
  have hB : wB G (198) ad126 (upD D126 182 (.inl (7, [.inr (1000), .inr (0), .inl (some (183)), .inl (some (184)), .inl (some (185)), .inl (some (186)), .inl (some (187)), .inl (some (188)), .inr (0), .inl (some (189)), .inl (some (190)), .inl (some (191)), .inl (some (192)), .inl (some (193)), .inl (some (194)), .inl (some (195)), .inl (some (196)), .inl (some (197)), .inr (0), .inr (0), .inr (0), .inr (0), .inr (0)]))) M128 := by rw [← hMe128]; exact hB.set (k := 182) (by omega) ((hS 182 hk).trans ht) (.inl (7, [.inr (1000), .inr (0), .inl (some (183)), .inl (some (184)), .inl (some (185)), .inl (some (186)), .inl (some (187)), .inl (some (188)), .inr (0), .inl (some (189)), .inl (some (190)), .inl (some (191)), .inl (some (192)), .inl (some (193)), .inl (some (194)), .inl (some (195)), .inl (some (196)), .inl (some (197)), .inr (0), .inr (0), .inr (0), .inr (0), .inr (0)])) rfl (by simp [rfE, rfV] <;> omega)
  obtain ⟨D128, hD128⟩ : ∃ z, z = upD D126 182 (.inl (7, [.inr (1000), .inr (0), .inl (some (183)), .inl (some (184)), .inl (some (185)), .inl (some (186)), .inl (some (187)), .inl (some (188)), .inr (0), .inl (some (189)), .inl (some (190)), .inl (some (191)), .inl (some (192)), .inl (some (193)), .inl (some (194)), .inl (some (195)), .inl (some (196)), .inl (some (197)), .inr (0), .inr (0), .inr (0), .inr (0), .inr (0)])) := ⟨_, rfl⟩
  rw [← hD128] at hB
  have hDk : D128 182 = .inl (7, [.inr (1000), .inr (0), .inl (some (183)), .inl (some (184)), .inl (some (185)), .inl (some (186)), .inl (some (187)), .inl (some (188)), .inr (0), .inl (some (189)), .inl (some (190)), .inl (some (191)), .inl (some (192)), .inl (some (193)), .inl (some (194)), .inl (some (195)), .inl (some (196)), .inl (some (197)), .inr (0), .inr (0), .inr (0), .inr (0), .inr (0)]) := by rw [hD128, upD_at]
  have h_nm : D128 (186) = .inr (.inl (0, 12, 0)) := by rw [hD128, upD_ne (by omega)]; exact h_nm
  refine v_iconst dX7_init_131 ?_
  refine v_istoren dX7_init_132 (Nat.le_of_ble_eq_true rfl) ?_
  have e128 : upD D128 186 (.inr (.inl (0, 12, 12))) = yD D := by
    unfold yD
    refine upD_congr (fun i hi => ?_)
    by_cases hq : i = 182
    · rw [hq, hDk, upD_at]
    · simp only [hD128, hD120, hD112, hD104, hD96, hD89, hD81, hD73, hD65, hD57, hD50, hD42, hD34, hD25, hD16, hD126, hD118, hD110, hD102, hD94, hD87, hD79, hD71, hD63, hD55, hD48, hD40, hD32, hD23, hD14, hD8, upD, if_neg hq]
  refine wV.locs (lv' := [(0, .ref t), (1, .int (gI ((0 : Nat) : Int)))]) ⟨rfl, rfl, trivial⟩ (wV.wid (Nat.le_of_ble_eq_true rfl) (Nat.le_of_ble_eq_true rfl) (tX7_init_loop (ad := ad126) (D := D128) ((hS 182 hk).trans ht) hDk (fun M' hB' => ?_) 12 0 M128 rfl (by rw [show upD D128 186 (.inr (.inl (0, 12, 0))) = D128 by funext i; unfold upD; split <;> first | (rename_i h; rw [h, h_nm]) | rfl]; exact hB)))
  exact v_vret dX7_init_152 rfl ⟨(Nat.le_of_ble_eq_true rfl), (Nat.le_of_ble_eq_true rfl)⟩ ⟨ad126, by rw [← e128]; exact hB', hS⟩
