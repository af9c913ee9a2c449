set_option maxHeartbeats 4000000 in
set_option maxRecDepth 100000 in
theorem fX6_act_loop {sz : Nat} {M0 : wM} {G : gG} {fw : Nat → Nat → Nat} {s : sG} {M : wM} (hsO : sOK s) (hX : wX G fw s M) {a c n w : Int} (hV : (bt 0 c 3 ∧ bt 0 a 1 ∧ -1 ≤ n ∧ bt 0 w 1)) (hn : rng n) (ht : s 14 c.toNat 0 ≠ 0) : ∀ (k : Nat) (v e u : Int), 0 ≤ 4001 - u → 4001 - u < (k : Int) → (bt 0 u 4000) → (e = -4 ∨ (bt 1 e 4000 ∧ u < e)) → (bt 0 v u ∧ (0 ≤ n → v ≤ n)) → ((e = -4 ∧ cA (acX s c.toNat a) (s 0 0 9) = v) ∨ atA (acX s c.toNat a) (s 0 0 9) v e) → wV G qX6_act 0 0 sz M0 0 0 70 [(0, .ref (fw 0 0)), (1, .int (gI c)), (2, .int (gI a)), (3, .int (gI n)), (4, .int (gI w)), (5, .ref (fw 14 c.toNat)), (6, .int (gI v)), (7, .int (gI e)), (8, .int (gI u))] [] M (iP fun x M' => M' = M ∧ ((¬ (bt 0 c 3 ∧ bt 0 a 1 ∧ -1 ≤ n ∧ bt 0 w 1) ∧ x = -1) ∨ ((bt 0 c 3 ∧ bt 0 a 1 ∧ -1 ≤ n ∧ bt 0 w 1) ∧ ((s 14 c.toNat 0 = 0 ∧ x = -2) ∨ (s 14 c.toNat 0 ≠ 0 ∧ anA (acX s c.toNat a) (daX s c.toNat a) (s 0 0 9) n w x))))) := by
  intro k
  induction k with
  | zero =>
    intros
    omega
  | succ k ih =>
    intro v e u hmz hml h1 h3 h4 h2
    have h0 := hX.2.2.1
    have hnm := hX.2.2.2.1
    have hsh := hX.2.2.2.2.1
    have h8 := hX.2.2.2.2.2.1
    have hi : c.toNat < 4 := by omega
    have hch := hX.2.2.2.2.2.2.2.2.1 c.toNat hi
    refine v_iload dX6_act_70 rfl ?_
    refine v_sipush dX6_act_72 (by decide) ?_
    refine v_icmp_ge 131 dX6_act_75 (by decide) (by omega) (by omega) (fun h75 => ?_) (fun h75 => ?_)
    · refine v_iloadn dX6_act_131 rfl ?_
      refine v_iconst dX6_act_132 ?_
      refine v_icmp_ne 141 dX6_act_133 (by decide) (by omega) (by omega) (fun h133 => ?_) (fun h133 => ?_)
      · refine v_bipush dX6_act_141 (by decide) ?_
        exact v_iret dX6_act_143 rfl ⟨(Nat.le_of_ble_eq_true rfl), (Nat.le_of_ble_eq_true rfl)⟩ (by omega) (by
      have e4 : e = -4 := by omega
      have hc : cA (acX s c.toNat a) (s 0 0 9) = v := h2.elim (fun z => z.2) (fun z => by have z1 := z.1; omega)
      refine ⟨rfl, Or.inr ⟨hV, Or.inr ⟨ht, ?_⟩⟩⟩
      first
        | exact Or.inl ⟨by omega, hc.symm⟩
        | exact Or.inr ⟨by omega, Or.inl ⟨by omega, rfl⟩⟩)
      · refine v_iload dX6_act_136 rfl ?_
        refine v_goto 143 dX6_act_138 (by decide) ?_
        exact v_iret dX6_act_143 rfl ⟨(Nat.le_of_ble_eq_true rfl), (Nat.le_of_ble_eq_true rfl)⟩ (by omega) (by
      have e4 : e = -4 := by omega
      have hc : cA (acX s c.toNat a) (s 0 0 9) = v := h2.elim (fun z => z.2) (fun z => by have z1 := z.1; omega)
      refine ⟨rfl, Or.inr ⟨hV, Or.inr ⟨ht, ?_⟩⟩⟩
      first
        | exact Or.inl ⟨by omega, hc.symm⟩
        | exact Or.inr ⟨by omega, Or.inl ⟨by omega, rfl⟩⟩)
    · refine v_iload dX6_act_78 rfl ?_
      refine v_bipush dX6_act_80 (by decide) ?_
      refine v_icmp_eq 131 dX6_act_82 (by decide) (by omega) (by omega) (fun h82 => ?_) (fun h82 => ?_)
      · refine v_iloadn dX6_act_131 rfl ?_
        refine v_iconst dX6_act_132 ?_
        refine v_icmp_ne 141 dX6_act_133 (by decide) (by omega) (by omega) (fun h133 => ?_) (fun h133 => ?_)
        · refine v_bipush dX6_act_141 (by decide) ?_
          exact v_iret dX6_act_143 rfl ⟨(Nat.le_of_ble_eq_true rfl), (Nat.le_of_ble_eq_true rfl)⟩ (by omega) (by
      have e4 : e = -4 := by omega
      have hc : cA (acX s c.toNat a) (s 0 0 9) = v := h2.elim (fun z => z.2) (fun z => by have z1 := z.1; omega)
      refine ⟨rfl, Or.inr ⟨hV, Or.inr ⟨ht, ?_⟩⟩⟩
      first
        | exact Or.inl ⟨by omega, hc.symm⟩
        | exact Or.inr ⟨by omega, Or.inl ⟨by omega, rfl⟩⟩)
        · refine v_iload dX6_act_136 rfl ?_
          refine v_goto 143 dX6_act_138 (by decide) ?_
          exact v_iret dX6_act_143 rfl ⟨(Nat.le_of_ble_eq_true rfl), (Nat.le_of_ble_eq_true rfl)⟩ (by omega) (by
      have e4 : e = -4 := by omega
      have hc : cA (acX s c.toNat a) (s 0 0 9) = v := h2.elim (fun z => z.2) (fun z => by have z1 := z.1; omega)
      refine ⟨rfl, Or.inr ⟨hV, Or.inr ⟨ht, ?_⟩⟩⟩
      first
        | exact Or.inl ⟨by omega, hc.symm⟩
        | exact Or.inr ⟨by omega, Or.inl ⟨by omega, rfl⟩⟩)
      · refine v_iload dX6_act_85 rfl ?_
        refine v_iloadn dX6_act_87 rfl ?_
        refine v_icmp_ne 111 dX6_act_88 (by decide) (by omega) (by omega) (fun h88 => ?_) (fun h88 => ?_)
        · refine v_iinc dX6_act_111 rfl (Nat.le_of_ble_eq_true rfl) ?_
          refine v_aloadn dX6_act_114 rfl ?_
          refine v_aload dX6_act_115 rfl ?_
          refine v_iloadn dX6_act_117 rfl ?_
          refine v_iload dX6_act_118 rfl ?_
          refine v_callV (fX6_nextAct hsO hX hi (by omega) (by omega)) lc_X6_184 ⟨(Nat.le_of_ble_eq_true rfl), (Nat.le_of_ble_eq_true rfl)⟩ dX6_act_120 rfl rfl (Nat.le_of_ble_eq_true rfl) ⟨(Nat.le_of_ble_eq_true rfl), (Nat.le_of_ble_eq_true rfl)⟩ ⟨_, _, _, _, (hX.2.1 0 0 (by decide)), rfl⟩ (kP fun r120 hr120 hp120 => ?_)
          have hat : atA (acX s c.toNat a) (s 0 0 9) v e := h2.elim (fun z => absurd z.1 (by omega)) id
          have hgo := nx_go hat hp120
          have hn4 : r120 = -4 ∨ (e < r120 ∧ bt 1 r120 4000) := hgo.elim (fun z => Or.inl z.1) (fun z => Or.inr ⟨z.2, by have := z.1.1; omega⟩)
          have hn2 : (r120 = -4 ∧ cA (acX s c.toNat a) (s 0 0 9) = v + 1) ∨ atA (acX s c.toNat a) (s 0 0 9) (v + 1) r120 := hgo.imp id (fun z => z.1)
          clear hgo hp120
          refine v_istore dX6_act_123 (Nat.le_of_ble_eq_true rfl) ?_
          refine v_iinc dX6_act_125 rfl (Nat.le_of_ble_eq_true rfl) ?_
          refine v_goto 70 dX6_act_128 (by decide) ?_
          refine wV.locs (lv' := [(0, .ref (fw 0 0)), (1, .int (gI c)), (2, .int (gI a)), (3, .int (gI n)), (4, .int (gI w)), (5, .ref (fw 14 c.toNat)), (6, .int (gI _)), (7, .int (gI _)), (8, .int (gI _))]) ⟨rfl, rfl, rfl, rfl, rfl, rfl, rfl, rfl, rfl, trivial⟩ (ih _ _ _ (by omega) (by omega) (by omega) (by omega) (by omega) hn2)
        · refine v_iload dX6_act_91 rfl ?_
          refine v_if_ne 101 dX6_act_93 (by decide) (by omega) (fun h93 => ?_) (fun h93 => ?_)
          · refine v_aloadn dX6_act_101 rfl ?_
            refine v_aload dX6_act_102 rfl ?_
            refine v_iloadn dX6_act_104 rfl ?_
            refine v_iload dX6_act_105 rfl ?_
            refine v_callV (fX6_dataAhead hsO hX hi (by omega) (by omega)) lc_X6_188 ⟨(Nat.le_of_ble_eq_true rfl), (Nat.le_of_ble_eq_true rfl)⟩ dX6_act_107 rfl rfl (Nat.le_of_ble_eq_true rfl) ⟨(Nat.le_of_ble_eq_true rfl), (Nat.le_of_ble_eq_true rfl)⟩ ⟨_, _, _, _, (hX.2.1 0 0 (by decide)), rfl⟩ (kP fun r107 hr107 hp107 => ?_)
            exact v_iret dX6_act_110 rfl ⟨(Nat.le_of_ble_eq_true rfl), (Nat.le_of_ble_eq_true rfl)⟩ (by omega) ⟨rfl, Or.inr ⟨hV, Or.inr ⟨ht, Or.inr ⟨by omega, Or.inr ⟨e, by rw [show n = v by omega]; exact h2.elim (fun z => absurd z.1 (by omega)) id, by first | (rw [if_pos (by omega)]) | (rw [if_neg (by omega)]; exact hp107.1)⟩⟩⟩⟩⟩
          · refine v_iload dX6_act_96 rfl ?_
            refine v_goto 110 dX6_act_98 (by decide) ?_
            exact v_iret dX6_act_110 rfl ⟨(Nat.le_of_ble_eq_true rfl), (Nat.le_of_ble_eq_true rfl)⟩ (by omega) ⟨rfl, Or.inr ⟨hV, Or.inr ⟨ht, Or.inr ⟨by omega, Or.inr ⟨e, by rw [show n = v by omega]; exact h2.elim (fun z => absurd z.1 (by omega)) id, by first | (rw [if_pos (by omega)]) | (rw [if_neg (by omega)]; exact hp107.1)⟩⟩⟩⟩⟩
set_option maxHeartbeats 4000000 in
set_option maxRecDepth 100000 in
theorem fX6_act {G : gG} {fw : Nat → Nat → Nat} {s : sG} {M : wM} (hsO : sOK s) (hX : wX G fw s M) {c a n w : Int} (hc : rng c) (ha : rng a) (hn : rng n) (hw : rng w) : wT G qX6_act 0 0 [.ref (fw 0 0), .int (gI c), .int (gI a), .int (gI n), .int (gI w)] M (iP fun x M' => M' = M ∧ ((¬ (bt 0 c 3 ∧ bt 0 a 1 ∧ -1 ≤ n ∧ bt 0 w 1) ∧ x = -1) ∨ ((bt 0 c 3 ∧ bt 0 a 1 ∧ -1 ≤ n ∧ bt 0 w 1) ∧ ((s 14 c.toNat 0 = 0 ∧ x = -2) ∨ (s 14 c.toNat 0 ≠ 0 ∧ anA (acX s c.toNat a) (daX s c.toNat a) (s 0 0 9) n w x))))) := by
  refine wT.intro (by decide) (Nat.le_of_ble_eq_true rfl) (fun sz => ?_)
  have h0 := hX.2.2.1
  have hnm := hX.2.2.2.1
  have hsh := hX.2.2.2.2.1
  have h8 := hX.2.2.2.2.2.1
  refine v_iloadn dX6_act_0 rfl ?_
  refine v_iconst dX6_act_1 ?_
  refine v_iconst dX6_act_2 ?_
  refine v_callS (tX6_outside (by omega) (by omega) (by omega)) lc_X6_69 ⟨(Nat.le_of_ble_eq_true rfl), (Nat.le_of_ble_eq_true rfl)⟩ dX6_act_3 rfl rfl (Nat.le_of_ble_eq_true rfl) ⟨(Nat.le_of_ble_eq_true rfl), (Nat.le_of_ble_eq_true rfl)⟩ (kP fun r3 hr3 hp3 => ?_)
  refine v_if_ne 33 dX6_act_6 (by decide) (by omega) (fun h6 => ?_) (fun h6 => ?_)
  · refine v_iconst dX6_act_33 ?_
    exact v_iret dX6_act_34 rfl ⟨(Nat.le_of_ble_eq_true rfl), (Nat.le_of_ble_eq_true rfl)⟩ (by omega) ⟨rfl, Or.inl ⟨by omega, by omega⟩⟩
  · refine v_iloadn dX6_act_9 rfl ?_
    refine v_iconst dX6_act_10 ?_
    refine v_iconst dX6_act_11 ?_
    refine v_callS (tX6_outside (by omega) (by omega) (by omega)) lc_X6_69 ⟨(Nat.le_of_ble_eq_true rfl), (Nat.le_of_ble_eq_true rfl)⟩ dX6_act_12 rfl rfl (Nat.le_of_ble_eq_true rfl) ⟨(Nat.le_of_ble_eq_true rfl), (Nat.le_of_ble_eq_true rfl)⟩ (kP fun r12 hr12 hp12 => ?_)
    refine v_if_ne 33 dX6_act_15 (by decide) (by omega) (fun h15 => ?_) (fun h15 => ?_)
    · refine v_iconst dX6_act_33 ?_
      exact v_iret dX6_act_34 rfl ⟨(Nat.le_of_ble_eq_true rfl), (Nat.le_of_ble_eq_true rfl)⟩ (by omega) ⟨rfl, Or.inl ⟨by omega, by omega⟩⟩
    · refine v_iloadn dX6_act_18 rfl ?_
      refine v_iconst dX6_act_19 ?_
      refine v_icmp_lt 33 dX6_act_20 (by decide) (by omega) (by omega) (fun h20 => ?_) (fun h20 => ?_)
      · refine v_iconst dX6_act_33 ?_
        exact v_iret dX6_act_34 rfl ⟨(Nat.le_of_ble_eq_true rfl), (Nat.le_of_ble_eq_true rfl)⟩ (by omega) ⟨rfl, Or.inl ⟨by omega, by omega⟩⟩
      · refine v_iload dX6_act_23 rfl ?_
        refine v_iconst dX6_act_25 ?_
        refine v_iconst dX6_act_26 ?_
        refine v_callS (tX6_outside (by omega) (by omega) (by omega)) lc_X6_69 ⟨(Nat.le_of_ble_eq_true rfl), (Nat.le_of_ble_eq_true rfl)⟩ dX6_act_27 rfl rfl (Nat.le_of_ble_eq_true rfl) ⟨(Nat.le_of_ble_eq_true rfl), (Nat.le_of_ble_eq_true rfl)⟩ (kP fun r27 hr27 hp27 => ?_)
        refine v_if_eq 35 dX6_act_30 (by decide) (by omega) (fun h30 => ?_) (fun h30 => ?_)
        · refine v_aloadn dX6_act_35 rfl ?_
          refine v_get dX6_act_36 gf_X6_33 (hX.2.1 0 0 (by decide)) rfl ?_
          refine v_iloadn dX6_act_39 rfl ?_
          refine v_aald2 (Cn := "WavePairs$Channel") dX6_act_40 (hX.2.1 6 0 (by decide)) (by simp) (by omega) (by omega) (by decide) ?_
          have hch := hX.2.2.2.2.2.2.2.2.1 c.toNat (by omega)
          refine v_astore dX6_act_41 (Nat.le_of_ble_eq_true rfl) ?_
          refine v_aload dX6_act_43 rfl ?_
          refine v_getN dX6_act_45 gf_X6_181 (hX.2.1 14 _ (by simp [cntX]; omega)) rfl ?_
          refine v_if_ne 54 dX6_act_48 (by decide) (by omega) (fun h48 => ?_) (fun h48 => ?_)
          · refine v_iconst dX6_act_54 ?_
            refine v_istore dX6_act_55 (Nat.le_of_ble_eq_true rfl) ?_
            refine v_aloadn dX6_act_57 rfl ?_
            refine v_aload dX6_act_58 rfl ?_
            refine v_iloadn dX6_act_60 rfl ?_
            refine v_iconst dX6_act_61 ?_
            refine v_callV (fX6_nextAct hsO hX (by omega) (by omega) (by omega)) lc_X6_184 ⟨(Nat.le_of_ble_eq_true rfl), (Nat.le_of_ble_eq_true rfl)⟩ dX6_act_62 rfl rfl (Nat.le_of_ble_eq_true rfl) ⟨(Nat.le_of_ble_eq_true rfl), (Nat.le_of_ble_eq_true rfl)⟩ ⟨_, _, _, _, (hX.2.1 0 0 (by decide)), rfl⟩ (kP fun r62 hr62 hp62 => ?_)
            have hgo := nx_0 (by omega) (fun z => edP_0 z.1) hp62
            have hn4 : r62 = -4 ∨ (bt 1 r62 4000 ∧ 0 < r62) := hgo.elim (fun z => Or.inl z.1) (fun z => Or.inr (by have := z.1; omega))
            refine v_istore dX6_act_65 (Nat.le_of_ble_eq_true rfl) ?_
            refine v_iconst dX6_act_67 ?_
            refine v_istore dX6_act_68 (Nat.le_of_ble_eq_true rfl) ?_
            refine wV.locs (lv' := [(0, .ref (fw 0 0)), (1, .int (gI c)), (2, .int (gI a)), (3, .int (gI n)), (4, .int (gI w)), (5, .ref (fw 14 c.toNat)), (6, .int (gI (0))), (7, .int (gI (_))), (8, .int (gI (0)))]) ⟨rfl, rfl, rfl, rfl, rfl, rfl, rfl, rfl, rfl, trivial⟩ (fX6_act_loop hsO hX (by clear hgo; omega) hn (by clear hgo; omega) 4010 _ _ _ (by omega) (by omega) (by omega) hn4 (by omega) hgo)
          · refine v_bipush dX6_act_51 (by decide) ?_
            exact v_iret dX6_act_53 rfl ⟨(Nat.le_of_ble_eq_true rfl), (Nat.le_of_ble_eq_true rfl)⟩ (by omega) ⟨rfl, Or.inr ⟨by omega, Or.inl ⟨by omega, rfl⟩⟩⟩
        · refine v_iconst dX6_act_33 ?_
          exact v_iret dX6_act_34 rfl ⟨(Nat.le_of_ble_eq_true rfl), (Nat.le_of_ble_eq_true rfl)⟩ (by omega) ⟨rfl, Or.inl ⟨by omega, by omega⟩⟩
set_option maxHeartbeats 4000000 in
set_option maxRecDepth 100000 in
theorem fX6_unlike_loop {sz : Nat} {M0 : wM} {G : gG} {fw : Nat → Nat → Nat} {s : sG} {M : wM} (hsO : sOK s) (hX : wX G fw s M) {c : Int} (hc : bt 0 c 3) (ht : s 14 c.toNat 0 ≠ 0) : ∀ (k : Nat) (d e u : Int), 0 ≤ 4001 - u → 4001 - u < (k : Int) → (bt 0 u 4000) → ((e = -4 ∨ (bt 1 e 4000 ∧ u < e)) ∧ (d = -4 ∨ (bt 1 d 4000 ∧ u < d))) → ((d = -4 ∧ cA (acX s c.toNat 0) (s 0 0 9) = u) ∨ atA (acX s c.toNat 0) (s 0 0 9) u d) → ((e = -4 ∧ cA (acX s c.toNat 1) (s 0 0 9) = u) ∨ atA (acX s c.toNat 1) (s 0 0 9) u e) → (∀ j, 0 ≤ j → j < u → ∃ t q, atA (acX s c.toNat 0) (s 0 0 9) j t ∧ atA (acX s c.toNat 1) (s 0 0 9) j q ∧ agF (daX s c.toNat 0 t) (daX s c.toNat 1 q) (s 0 0 10) ≠ 0) → wV G qX6_unlike 0 0 sz M0 0 0 48 [(0, .ref (fw 0 0)), (1, .int (gI c)), (2, .ref (fw 14 c.toNat)), (3, .int (gI d)), (4, .int (gI e)), (5, .int (gI u))] [] M (iP fun x M' => M' = M ∧ ((¬ bt 0 c 3 ∧ x = -1) ∨ (bt 0 c 3 ∧ ((s 14 c.toNat 0 = 0 ∧ x = -2) ∨ (s 14 c.toNat 0 ≠ 0 ∧ ulP (acX s c.toNat 0) (acX s c.toNat 1) (daX s c.toNat 0) (daX s c.toNat 1) (s 0 0 10) (s 0 0 9) x))))) := by
  intro k
  induction k with
  | zero =>
    intros
    omega
  | succ k ih =>
    intro d e u hmz hml h1 h3 h2 h4 h5
    have h0 := hX.2.2.1
    have hnm := hX.2.2.2.1
    have hsh := hX.2.2.2.2.1
    have h8 := hX.2.2.2.2.2.1
    have hi : c.toNat < 4 := by omega
    have hch := hX.2.2.2.2.2.2.2.2.1 c.toNat hi
    refine v_iload dX6_unlike_48 rfl ?_
    refine v_sipush dX6_unlike_50 (by decide) ?_
    refine v_icmp_ge 134 dX6_unlike_53 (by decide) (by omega) (by omega) (fun h53 => ?_) (fun h53 => ?_)
    · refine v_bipush dX6_unlike_134 (by decide) ?_
      exact v_iret dX6_unlike_136 rfl ⟨(Nat.le_of_ble_eq_true rfl), (Nat.le_of_ble_eq_true rfl)⟩ (by omega) ⟨rfl, Or.inr ⟨hc, Or.inr ⟨ht, ul_all (n := u) (h2.elim (fun z => z.2) (fun z => by have z1 := z.1; omega)) (h4.elim (fun z => z.2) (fun z => by have z1 := z.1; omega)) h5⟩⟩⟩
    · refine v_iloadn dX6_unlike_56 rfl ?_
      refine v_bipush dX6_unlike_57 (by decide) ?_
      refine v_icmp_ne 69 dX6_unlike_59 (by decide) (by omega) (by omega) (fun h59 => ?_) (fun h59 => ?_)
      · refine v_iloadn dX6_unlike_69 rfl ?_
        refine v_bipush dX6_unlike_70 (by decide) ?_
        refine v_icmp_eq 107 dX6_unlike_72 (by decide) (by omega) (by omega) (fun h72 => ?_) (fun h72 => ?_)
        · refine v_iload dX6_unlike_107 rfl ?_
          exact v_iret dX6_unlike_109 rfl ⟨(Nat.le_of_ble_eq_true rfl), (Nat.le_of_ble_eq_true rfl)⟩ (by omega) ⟨rfl, Or.inr ⟨hc, Or.inr ⟨ht, Or.inr ⟨by omega, h5, by first | exact Or.inl ⟨Int.le_of_eq (h2.elim (fun z => z.2) (fun z => by have z1 := z.1; omega)), (h4.elim (fun z => absurd z.1 (by omega)) (fun z => z.in.2))⟩ | exact Or.inr (Or.inl ⟨Int.le_of_eq (h4.elim (fun z => z.2) (fun z => by have z1 := z.1; omega)), (h2.elim (fun z => absurd z.1 (by omega)) (fun z => z.in.2))⟩) | exact Or.inr (Or.inr ⟨d, e, a0, a1, by omega⟩)⟩⟩⟩⟩
        · refine v_iload dX6_unlike_75 rfl ?_
          refine v_bipush dX6_unlike_77 (by decide) ?_
          refine v_icmp_eq 107 dX6_unlike_79 (by decide) (by omega) (by omega) (fun h79 => ?_) (fun h79 => ?_)
          · refine v_iload dX6_unlike_107 rfl ?_
            exact v_iret dX6_unlike_109 rfl ⟨(Nat.le_of_ble_eq_true rfl), (Nat.le_of_ble_eq_true rfl)⟩ (by omega) ⟨rfl, Or.inr ⟨hc, Or.inr ⟨ht, Or.inr ⟨by omega, h5, by first | exact Or.inl ⟨Int.le_of_eq (h2.elim (fun z => z.2) (fun z => by have z1 := z.1; omega)), (h4.elim (fun z => absurd z.1 (by omega)) (fun z => z.in.2))⟩ | exact Or.inr (Or.inl ⟨Int.le_of_eq (h4.elim (fun z => z.2) (fun z => by have z1 := z.1; omega)), (h2.elim (fun z => absurd z.1 (by omega)) (fun z => z.in.2))⟩) | exact Or.inr (Or.inr ⟨d, e, a0, a1, by omega⟩)⟩⟩⟩⟩
          · refine v_aloadn dX6_unlike_82 rfl ?_
            refine v_aloadn dX6_unlike_83 rfl ?_
            refine v_iconst dX6_unlike_84 ?_
            refine v_iloadn dX6_unlike_85 rfl ?_
            have a0 : atA (acX s c.toNat 0) (s 0 0 9) u d := h2.elim (fun z => absurd z.1 (by omega)) id
            have a1 : atA (acX s c.toNat 1) (s 0 0 9) u e := h4.elim (fun z => absurd z.1 (by omega)) id
            refine v_callV (fX6_dataAhead hsO hX hi (by omega) (by omega)) lc_X6_188 ⟨(Nat.le_of_ble_eq_true rfl), (Nat.le_of_ble_eq_true rfl)⟩ dX6_unlike_86 rfl rfl (Nat.le_of_ble_eq_true rfl) ⟨(Nat.le_of_ble_eq_true rfl), (Nat.le_of_ble_eq_true rfl)⟩ ⟨_, _, _, _, (hX.2.1 0 0 (by decide)), rfl⟩ (kP fun r86 hr86 hp86 => ?_)
            refine v_aloadn dX6_unlike_89 rfl ?_
            refine v_aloadn dX6_unlike_90 rfl ?_
            refine v_iconst dX6_unlike_91 ?_
            refine v_iload dX6_unlike_92 rfl ?_
            refine v_callV (fX6_dataAhead hsO hX hi (by omega) (by omega)) lc_X6_188 ⟨(Nat.le_of_ble_eq_true rfl), (Nat.le_of_ble_eq_true rfl)⟩ dX6_unlike_94 rfl rfl (Nat.le_of_ble_eq_true rfl) ⟨(Nat.le_of_ble_eq_true rfl), (Nat.le_of_ble_eq_true rfl)⟩ ⟨_, _, _, _, (hX.2.1 0 0 (by decide)), rfl⟩ (kP fun r94 hr94 hp94 => ?_)
            refine v_aloadn dX6_unlike_97 rfl ?_
            refine v_get dX6_unlike_98 gf_X6_57 (hX.2.1 0 0 (by decide)) rfl ?_
            refine v_callS (tX6_agree (by omega) (by omega) (by omega)) lc_X6_191 ⟨(Nat.le_of_ble_eq_true rfl), (Nat.le_of_ble_eq_true rfl)⟩ dX6_unlike_101 rfl rfl (Nat.le_of_ble_eq_true rfl) ⟨(Nat.le_of_ble_eq_true rfl), (Nat.le_of_ble_eq_true rfl)⟩ (kP fun r101 hr101 hp101 => ?_)
            have hag0 : r101 = agF (daX s c.toNat 0 d) (daX s c.toNat 1 e) (s 0 0 10) := by rw [hp101.1, hp86.1, hp94.1]
            have hp101 := hp101.2
            refine v_if_ne 110 dX6_unlike_104 (by decide) (by omega) (fun h104 => ?_) (fun h104 => ?_)
            · refine v_aloadn dX6_unlike_110 rfl ?_
              refine v_aloadn dX6_unlike_111 rfl ?_
              refine v_iconst dX6_unlike_112 ?_
              refine v_iloadn dX6_unlike_113 rfl ?_
              have hag : agF (daX s c.toNat 0 d) (daX s c.toNat 1 e) (s 0 0 10) ≠ 0 := by omega
              refine v_callV (fX6_nextAct hsO hX hi (by omega) (by omega)) lc_X6_184 ⟨(Nat.le_of_ble_eq_true rfl), (Nat.le_of_ble_eq_true rfl)⟩ dX6_unlike_114 rfl rfl (Nat.le_of_ble_eq_true rfl) ⟨(Nat.le_of_ble_eq_true rfl), (Nat.le_of_ble_eq_true rfl)⟩ ⟨_, _, _, _, (hX.2.1 0 0 (by decide)), rfl⟩ (kP fun r114 hr114 hp114 => ?_)
              refine v_istoren dX6_unlike_117 (Nat.le_of_ble_eq_true rfl) ?_
              refine v_aloadn dX6_unlike_118 rfl ?_
              refine v_aloadn dX6_unlike_119 rfl ?_
              refine v_iconst dX6_unlike_120 ?_
              refine v_iload dX6_unlike_121 rfl ?_
              refine v_callV (fX6_nextAct hsO hX hi (by omega) (by omega)) lc_X6_184 ⟨(Nat.le_of_ble_eq_true rfl), (Nat.le_of_ble_eq_true rfl)⟩ dX6_unlike_123 rfl rfl (Nat.le_of_ble_eq_true rfl) ⟨(Nat.le_of_ble_eq_true rfl), (Nat.le_of_ble_eq_true rfl)⟩ ⟨_, _, _, _, (hX.2.1 0 0 (by decide)), rfl⟩ (kP fun r123 hr123 hp123 => ?_)
              have hgo := nx_go a0 hp114
              have hgp := nx_go a1 hp123
              have hn0 : r114 = -4 ∨ (d < r114 ∧ bt 1 r114 4000) := hgo.elim (fun z => Or.inl z.1) (fun z => Or.inr ⟨z.2, by have := z.1.1; omega⟩)
              have hn1 : r123 = -4 ∨ (e < r123 ∧ bt 1 r123 4000) := hgp.elim (fun z => Or.inl z.1) (fun z => Or.inr ⟨z.2, by have := z.1.1; omega⟩)
              have hb0 : (r114 = -4 ∧ cA (acX s c.toNat 0) (s 0 0 9) = u + 1) ∨ atA (acX s c.toNat 0) (s 0 0 9) (u + 1) r114 := hgo.imp id (fun z => z.1)
              have hb1 : (r123 = -4 ∧ cA (acX s c.toNat 1) (s 0 0 9) = u + 1) ∨ atA (acX s c.toNat 1) (s 0 0 9) (u + 1) r123 := hgp.imp id (fun z => z.1)
              have hall : ∀ j, 0 ≤ j → j < u + 1 → ∃ t q, atA (acX s c.toNat 0) (s 0 0 9) j t ∧ atA (acX s c.toNat 1) (s 0 0 9) j q ∧ agF (daX s c.toNat 0 t) (daX s c.toNat 1 q) (s 0 0 10) ≠ 0 := fun j j1 j2 => by
                rcases (show j < u ∨ j = u by omega) with z | z
                · exact h5 j j1 z
                · rw [z]; exact ⟨d, e, a0, a1, hag⟩
              clear hgo hgp hp114 hp123
              refine v_istore dX6_unlike_126 (Nat.le_of_ble_eq_true rfl) ?_
              refine v_iinc dX6_unlike_128 rfl (Nat.le_of_ble_eq_true rfl) ?_
              refine v_goto 48 dX6_unlike_131 (by decide) ?_
              refine wV.locs (lv' := [(0, .ref (fw 0 0)), (1, .int (gI c)), (2, .ref (fw 14 c.toNat)), (3, .int (gI _)), (4, .int (gI _)), (5, .int (gI _))]) ⟨rfl, rfl, rfl, rfl, rfl, rfl, trivial⟩ (ih _ _ _ (by omega) (by omega) (by omega) (by omega) hb0 hb1 hall)
            · refine v_iload dX6_unlike_107 rfl ?_
              exact v_iret dX6_unlike_109 rfl ⟨(Nat.le_of_ble_eq_true rfl), (Nat.le_of_ble_eq_true rfl)⟩ (by omega) ⟨rfl, Or.inr ⟨hc, Or.inr ⟨ht, Or.inr ⟨by omega, h5, by first | exact Or.inl ⟨Int.le_of_eq (h2.elim (fun z => z.2) (fun z => by have z1 := z.1; omega)), (h4.elim (fun z => absurd z.1 (by omega)) (fun z => z.in.2))⟩ | exact Or.inr (Or.inl ⟨Int.le_of_eq (h4.elim (fun z => z.2) (fun z => by have z1 := z.1; omega)), (h2.elim (fun z => absurd z.1 (by omega)) (fun z => z.in.2))⟩) | exact Or.inr (Or.inr ⟨d, e, a0, a1, by omega⟩)⟩⟩⟩⟩
      · refine v_iload dX6_unlike_62 rfl ?_
        refine v_bipush dX6_unlike_64 (by decide) ?_
        refine v_icmp_eq 134 dX6_unlike_66 (by decide) (by omega) (by omega) (fun h66 => ?_) (fun h66 => ?_)
        · refine v_bipush dX6_unlike_134 (by decide) ?_
          exact v_iret dX6_unlike_136 rfl ⟨(Nat.le_of_ble_eq_true rfl), (Nat.le_of_ble_eq_true rfl)⟩ (by omega) ⟨rfl, Or.inr ⟨hc, Or.inr ⟨ht, ul_all (n := u) (h2.elim (fun z => z.2) (fun z => by have z1 := z.1; omega)) (h4.elim (fun z => z.2) (fun z => by have z1 := z.1; omega)) h5⟩⟩⟩
        · refine v_iloadn dX6_unlike_69 rfl ?_
          refine v_bipush dX6_unlike_70 (by decide) ?_
          refine v_icmp_eq 107 dX6_unlike_72 (by decide) (by omega) (by omega) (fun h72 => ?_) (fun h72 => ?_)
          · refine v_iload dX6_unlike_107 rfl ?_
            exact v_iret dX6_unlike_109 rfl ⟨(Nat.le_of_ble_eq_true rfl), (Nat.le_of_ble_eq_true rfl)⟩ (by omega) ⟨rfl, Or.inr ⟨hc, Or.inr ⟨ht, Or.inr ⟨by omega, h5, by first | exact Or.inl ⟨Int.le_of_eq (h2.elim (fun z => z.2) (fun z => by have z1 := z.1; omega)), (h4.elim (fun z => absurd z.1 (by omega)) (fun z => z.in.2))⟩ | exact Or.inr (Or.inl ⟨Int.le_of_eq (h4.elim (fun z => z.2) (fun z => by have z1 := z.1; omega)), (h2.elim (fun z => absurd z.1 (by omega)) (fun z => z.in.2))⟩) | exact Or.inr (Or.inr ⟨d, e, a0, a1, by omega⟩)⟩⟩⟩⟩
          · refine v_iload dX6_unlike_75 rfl ?_
            refine v_bipush dX6_unlike_77 (by decide) ?_
            refine v_icmp_eq 107 dX6_unlike_79 (by decide) (by omega) (by omega) (fun h79 => ?_) (fun h79 => ?_)
            · refine v_iload dX6_unlike_107 rfl ?_
              exact v_iret dX6_unlike_109 rfl ⟨(Nat.le_of_ble_eq_true rfl), (Nat.le_of_ble_eq_true rfl)⟩ (by omega) ⟨rfl, Or.inr ⟨hc, Or.inr ⟨ht, Or.inr ⟨by omega, h5, by first | exact Or.inl ⟨Int.le_of_eq (h2.elim (fun z => z.2) (fun z => by have z1 := z.1; omega)), (h4.elim (fun z => absurd z.1 (by omega)) (fun z => z.in.2))⟩ | exact Or.inr (Or.inl ⟨Int.le_of_eq (h4.elim (fun z => z.2) (fun z => by have z1 := z.1; omega)), (h2.elim (fun z => absurd z.1 (by omega)) (fun z => z.in.2))⟩) | exact Or.inr (Or.inr ⟨d, e, a0, a1, by omega⟩)⟩⟩⟩⟩
            · refine v_aloadn dX6_unlike_82 rfl ?_
              refine v_aloadn dX6_unlike_83 rfl ?_
              refine v_iconst dX6_unlike_84 ?_
              refine v_iloadn dX6_unlike_85 rfl ?_
              have a0 : atA (acX s c.toNat 0) (s 0 0 9) u d := h2.elim (fun z => absurd z.1 (by omega)) id
              have a1 : atA (acX s c.toNat 1) (s 0 0 9) u e := h4.elim (fun z => absurd z.1 (by omega)) id
              refine v_callV (fX6_dataAhead hsO hX hi (by omega) (by omega)) lc_X6_188 ⟨(Nat.le_of_ble_eq_true rfl), (Nat.le_of_ble_eq_true rfl)⟩ dX6_unlike_86 rfl rfl (Nat.le_of_ble_eq_true rfl) ⟨(Nat.le_of_ble_eq_true rfl), (Nat.le_of_ble_eq_true rfl)⟩ ⟨_, _, _, _, (hX.2.1 0 0 (by decide)), rfl⟩ (kP fun r86 hr86 hp86 => ?_)
              refine v_aloadn dX6_unlike_89 rfl ?_
              refine v_aloadn dX6_unlike_90 rfl ?_
              refine v_iconst dX6_unlike_91 ?_
              refine v_iload dX6_unlike_92 rfl ?_
              refine v_callV (fX6_dataAhead hsO hX hi (by omega) (by omega)) lc_X6_188 ⟨(Nat.le_of_ble_eq_true rfl), (Nat.le_of_ble_eq_true rfl)⟩ dX6_unlike_94 rfl rfl (Nat.le_of_ble_eq_true rfl) ⟨(Nat.le_of_ble_eq_true rfl), (Nat.le_of_ble_eq_true rfl)⟩ ⟨_, _, _, _, (hX.2.1 0 0 (by decide)), rfl⟩ (kP fun r94 hr94 hp94 => ?_)
              refine v_aloadn dX6_unlike_97 rfl ?_
              refine v_get dX6_unlike_98 gf_X6_57 (hX.2.1 0 0 (by decide)) rfl ?_
              refine v_callS (tX6_agree (by omega) (by omega) (by omega)) lc_X6_191 ⟨(Nat.le_of_ble_eq_true rfl), (Nat.le_of_ble_eq_true rfl)⟩ dX6_unlike_101 rfl rfl (Nat.le_of_ble_eq_true rfl) ⟨(Nat.le_of_ble_eq_true rfl), (Nat.le_of_ble_eq_true rfl)⟩ (kP fun r101 hr101 hp101 => ?_)
              have hag0 : r101 = agF (daX s c.toNat 0 d) (daX s c.toNat 1 e) (s 0 0 10) := by rw [hp101.1, hp86.1, hp94.1]
              have hp101 := hp101.2
              refine v_if_ne 110 dX6_unlike_104 (by decide) (by omega) (fun h104 => ?_) (fun h104 => ?_)
              · refine v_aloadn dX6_unlike_110 rfl ?_
                refine v_aloadn dX6_unlike_111 rfl ?_
                refine v_iconst dX6_unlike_112 ?_
                refine v_iloadn dX6_unlike_113 rfl ?_
                have hag : agF (daX s c.toNat 0 d) (daX s c.toNat 1 e) (s 0 0 10) ≠ 0 := by omega
                refine v_callV (fX6_nextAct hsO hX hi (by omega) (by omega)) lc_X6_184 ⟨(Nat.le_of_ble_eq_true rfl), (Nat.le_of_ble_eq_true rfl)⟩ dX6_unlike_114 rfl rfl (Nat.le_of_ble_eq_true rfl) ⟨(Nat.le_of_ble_eq_true rfl), (Nat.le_of_ble_eq_true rfl)⟩ ⟨_, _, _, _, (hX.2.1 0 0 (by decide)), rfl⟩ (kP fun r114 hr114 hp114 => ?_)
                refine v_istoren dX6_unlike_117 (Nat.le_of_ble_eq_true rfl) ?_
                refine v_aloadn dX6_unlike_118 rfl ?_
                refine v_aloadn dX6_unlike_119 rfl ?_
                refine v_iconst dX6_unlike_120 ?_
                refine v_iload dX6_unlike_121 rfl ?_
                refine v_callV (fX6_nextAct hsO hX hi (by omega) (by omega)) lc_X6_184 ⟨(Nat.le_of_ble_eq_true rfl), (Nat.le_of_ble_eq_true rfl)⟩ dX6_unlike_123 rfl rfl (Nat.le_of_ble_eq_true rfl) ⟨(Nat.le_of_ble_eq_true rfl), (Nat.le_of_ble_eq_true rfl)⟩ ⟨_, _, _, _, (hX.2.1 0 0 (by decide)), rfl⟩ (kP fun r123 hr123 hp123 => ?_)
                have hgo := nx_go a0 hp114
                have hgp := nx_go a1 hp123
                have hn0 : r114 = -4 ∨ (d < r114 ∧ bt 1 r114 4000) := hgo.elim (fun z => Or.inl z.1) (fun z => Or.inr ⟨z.2, by have := z.1.1; omega⟩)
                have hn1 : r123 = -4 ∨ (e < r123 ∧ bt 1 r123 4000) := hgp.elim (fun z => Or.inl z.1) (fun z => Or.inr ⟨z.2, by have := z.1.1; omega⟩)
                have hb0 : (r114 = -4 ∧ cA (acX s c.toNat 0) (s 0 0 9) = u + 1) ∨ atA (acX s c.toNat 0) (s 0 0 9) (u + 1) r114 := hgo.imp id (fun z => z.1)
                have hb1 : (r123 = -4 ∧ cA (acX s c.toNat 1) (s 0 0 9) = u + 1) ∨ atA (acX s c.toNat 1) (s 0 0 9) (u + 1) r123 := hgp.imp id (fun z => z.1)
                have hall : ∀ j, 0 ≤ j → j < u + 1 → ∃ t q, atA (acX s c.toNat 0) (s 0 0 9) j t ∧ atA (acX s c.toNat 1) (s 0 0 9) j q ∧ agF (daX s c.toNat 0 t) (daX s c.toNat 1 q) (s 0 0 10) ≠ 0 := fun j j1 j2 => by
                  rcases (show j < u ∨ j = u by omega) with z | z
                  · exact h5 j j1 z
                  · rw [z]; exact ⟨d, e, a0, a1, hag⟩
                clear hgo hgp hp114 hp123
                refine v_istore dX6_unlike_126 (Nat.le_of_ble_eq_true rfl) ?_
                refine v_iinc dX6_unlike_128 rfl (Nat.le_of_ble_eq_true rfl) ?_
                refine v_goto 48 dX6_unlike_131 (by decide) ?_
                refine wV.locs (lv' := [(0, .ref (fw 0 0)), (1, .int (gI c)), (2, .ref (fw 14 c.toNat)), (3, .int (gI _)), (4, .int (gI _)), (5, .int (gI _))]) ⟨rfl, rfl, rfl, rfl, rfl, rfl, trivial⟩ (ih _ _ _ (by omega) (by omega) (by omega) (by omega) hb0 hb1 hall)
              · refine v_iload dX6_unlike_107 rfl ?_
                exact v_iret dX6_unlike_109 rfl ⟨(Nat.le_of_ble_eq_true rfl), (Nat.le_of_ble_eq_true rfl)⟩ (by omega) ⟨rfl, Or.inr ⟨hc, Or.inr ⟨ht, Or.inr ⟨by omega, h5, by first | exact Or.inl ⟨Int.le_of_eq (h2.elim (fun z => z.2) (fun z => by have z1 := z.1; omega)), (h4.elim (fun z => absurd z.1 (by omega)) (fun z => z.in.2))⟩ | exact Or.inr (Or.inl ⟨Int.le_of_eq (h4.elim (fun z => z.2) (fun z => by have z1 := z.1; omega)), (h2.elim (fun z => absurd z.1 (by omega)) (fun z => z.in.2))⟩) | exact Or.inr (Or.inr ⟨d, e, a0, a1, by omega⟩)⟩⟩⟩⟩
set_option maxHeartbeats 4000000 in
set_option maxRecDepth 100000 in
theorem fX6_unlike {G : gG} {fw : Nat → Nat → Nat} {s : sG} {M : wM} (hsO : sOK s) (hX : wX G fw s M) {c : Int} (hc : rng c) : wT G qX6_unlike 0 0 [.ref (fw 0 0), .int (gI c)] M (iP fun x M' => M' = M ∧ ((¬ bt 0 c 3 ∧ x = -1) ∨ (bt 0 c 3 ∧ ((s 14 c.toNat 0 = 0 ∧ x = -2) ∨ (s 14 c.toNat 0 ≠ 0 ∧ ulP (acX s c.toNat 0) (acX s c.toNat 1) (daX s c.toNat 0) (daX s c.toNat 1) (s 0 0 10) (s 0 0 9) x))))) := by
  refine wT.intro (by decide) (Nat.le_of_ble_eq_true rfl) (fun sz => ?_)
  have h0 := hX.2.2.1
  have hnm := hX.2.2.2.1
  have hsh := hX.2.2.2.2.1
  have h8 := hX.2.2.2.2.2.1
  refine v_iloadn dX6_unlike_0 rfl ?_
  refine v_iconst dX6_unlike_1 ?_
  refine v_iconst dX6_unlike_2 ?_
  refine v_callS (tX6_outside (by omega) (by omega) (by omega)) lc_X6_69 ⟨(Nat.le_of_ble_eq_true rfl), (Nat.le_of_ble_eq_true rfl)⟩ dX6_unlike_3 rfl rfl (Nat.le_of_ble_eq_true rfl) ⟨(Nat.le_of_ble_eq_true rfl), (Nat.le_of_ble_eq_true rfl)⟩ (kP fun r3 hr3 hp3 => ?_)
  refine v_if_eq 11 dX6_unlike_6 (by decide) (by omega) (fun h6 => ?_) (fun h6 => ?_)
  · refine v_aloadn dX6_unlike_11 rfl ?_
    refine v_get dX6_unlike_12 gf_X6_33 (hX.2.1 0 0 (by decide)) rfl ?_
    refine v_iloadn dX6_unlike_15 rfl ?_
    refine v_aald2 (Cn := "WavePairs$Channel") dX6_unlike_16 (hX.2.1 6 0 (by decide)) (by simp) (by omega) (by omega) (by decide) ?_
    have hch := hX.2.2.2.2.2.2.2.2.1 c.toNat (by omega)
    refine v_astoren dX6_unlike_17 (Nat.le_of_ble_eq_true rfl) ?_
    refine v_aloadn dX6_unlike_18 rfl ?_
    refine v_getN dX6_unlike_19 gf_X6_181 (hX.2.1 14 _ (by simp [cntX]; omega)) rfl ?_
    refine v_if_ne 28 dX6_unlike_22 (by decide) (by omega) (fun h22 => ?_) (fun h22 => ?_)
    · refine v_aloadn dX6_unlike_28 rfl ?_
      refine v_aloadn dX6_unlike_29 rfl ?_
      refine v_iconst dX6_unlike_30 ?_
      refine v_iconst dX6_unlike_31 ?_
      refine v_callV (fX6_nextAct hsO hX (by omega) (by omega) (by omega)) lc_X6_184 ⟨(Nat.le_of_ble_eq_true rfl), (Nat.le_of_ble_eq_true rfl)⟩ dX6_unlike_32 rfl rfl (Nat.le_of_ble_eq_true rfl) ⟨(Nat.le_of_ble_eq_true rfl), (Nat.le_of_ble_eq_true rfl)⟩ ⟨_, _, _, _, (hX.2.1 0 0 (by decide)), rfl⟩ (kP fun r32 hr32 hp32 => ?_)
      have hgo := nx_0 (by omega) (fun z => edP_0 z.1) hp32
      have hn4 : r32 = -4 ∨ (bt 1 r32 4000 ∧ 0 < r32) := hgo.elim (fun z => Or.inl z.1) (fun z => Or.inr (by have := z.1; omega))
      refine v_istoren dX6_unlike_35 (Nat.le_of_ble_eq_true rfl) ?_
      refine v_aloadn dX6_unlike_36 rfl ?_
      refine v_aloadn dX6_unlike_37 rfl ?_
      refine v_iconst dX6_unlike_38 ?_
      refine v_iconst dX6_unlike_39 ?_
      refine v_callV (fX6_nextAct hsO hX (by omega) (by omega) (by omega)) lc_X6_184 ⟨(Nat.le_of_ble_eq_true rfl), (Nat.le_of_ble_eq_true rfl)⟩ dX6_unlike_40 rfl rfl (Nat.le_of_ble_eq_true rfl) ⟨(Nat.le_of_ble_eq_true rfl), (Nat.le_of_ble_eq_true rfl)⟩ ⟨_, _, _, _, (hX.2.1 0 0 (by decide)), rfl⟩ (kP fun r40 hr40 hp40 => ?_)
      have hgp := nx_0 (by omega) (fun z => edP_0 z.1) hp40
      have hn5 : r40 = -4 ∨ (bt 1 r40 4000 ∧ 0 < r40) := hgp.elim (fun z => Or.inl z.1) (fun z => Or.inr (by have := z.1; omega))
      refine v_istore dX6_unlike_43 (Nat.le_of_ble_eq_true rfl) ?_
      refine v_iconst dX6_unlike_45 ?_
      refine v_istore dX6_unlike_46 (Nat.le_of_ble_eq_true rfl) ?_
      refine wV.locs (lv' := [(0, .ref (fw 0 0)), (1, .int (gI c)), (2, .ref (fw 14 c.toNat)), (3, .int (gI (_))), (4, .int (gI (_))), (5, .int (gI (0)))]) ⟨rfl, rfl, rfl, rfl, rfl, rfl, trivial⟩ (fX6_unlike_loop hsO hX (by clear hgo hgp; omega) (by clear hgo hgp; omega) 4010 _ _ _ (by omega) (by omega) (by omega) ⟨hn5, hn4⟩ hgo hgp (fun j j1 j2 => by omega))
    · refine v_bipush dX6_unlike_25 (by decide) ?_
      exact v_iret dX6_unlike_27 rfl ⟨(Nat.le_of_ble_eq_true rfl), (Nat.le_of_ble_eq_true rfl)⟩ (by omega) ⟨rfl, Or.inr ⟨by omega, Or.inl ⟨by omega, rfl⟩⟩⟩
  · refine v_iconst dX6_unlike_9 ?_
    exact v_iret dX6_unlike_10 rfl ⟨(Nat.le_of_ble_eq_true rfl), (Nat.le_of_ble_eq_true rfl)⟩ (by omega) ⟨rfl, Or.inl ⟨by omega, by omega⟩⟩
