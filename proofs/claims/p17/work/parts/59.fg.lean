theorem vY_const {s : sG} {r : Nat} {t x p : Int} (hs : srt (s 1 0 r) (yT s r)) (h0 : 0 ≤ p) (h1 : ∀ j : Nat, (j : Int) < p → yT s r j ≤ t) (h2 : p = s 1 0 r ∨ (p < s 1 0 r ∧ x = yT s r p.toNat)) : ∀ u, t ≤ u → u < x → vY s r u = vY s r t := by
  intro u hu hx
  refine atF_const (fun j hj => ?_) hu
  rcases (show (j : Int) < p ∨ p ≤ (j : Int) by omega) with h | h
  · exact Or.inl (h1 j h)
  · rcases h2 with h2 | ⟨h2, h3⟩
    · omega
    · have := mono_le hs (m := j) (j := p.toNat) (by omega) hj
      omega
set_option maxHeartbeats 4000000 in
set_option maxRecDepth 100000 in
theorem fX7_nextChange_loop {sz : Nat} {M0 : wM} {G : gG} {fw : Nat → Nat → Nat} {s : sG} {M : wM} (hsY : srY s) (hY : wY G fw s M) {a b t : Int} (ha : bt 0 a 1) (hb : bt 0 b 11) (ht : rng t) (ht2 : t < 100000) : ∀ (k : Nat) (p : Int), 0 ≤ 51 - (p - 50 * (12 * a + b)) → 51 - (p - 50 * (12 * a + b)) < (k : Int) → (bt (50 * (12 * a + b)) p (50 * (12 * a + b) + s 1 0 (12 * a + b).toNat)) → (∀ j : Nat, (j : Int) < p - 50 * (12 * a + b) → yT s (12 * a + b).toNat j ≤ t) → wV G qX7_nextChange 0 0 sz M0 0 0 15 [(0, .ref (fw 0 0)), (1, .int (gI a)), (2, .int (gI b)), (3, .int (gI t)), (4, .int (gI (12 * a + b))), (5, .int (gI p))] [] M (iP fun x M' => M' = M ∧ ((t < x ∧ (x = 100000 ∨ bt 0 x 3999)) ∧ ∀ u, t ≤ u → u < x → vY s (12 * a + b).toNat u = vY s (12 * a + b).toNat t)) := by
  intro k
  induction k with
  | zero =>
    intros
    omega
  | succ k ih =>
    intro p hmz hml h1 h2
    have h0 := hY.2.2.1
    have hrw := hY.2.2.2.1
    have hnm := hY.2.2.2.2.1
    have hsh := hY.2.2.2.2.2.1
    have hmk := hY.2.2.2.2.2.2.1
    have hic := hY.2.2.2.2.2.2.2.1
    have hcn := hY.2.2.2.2.2.2.2.2.1
    have hgt := hY.2.2.2.2.2.2.2.2.2
    have hr1 := hrw (12 * a + b).toNat (by omega)
    have hw : bt 0 (12 * a + b) 23 := by omega
    have eP : yT s (12 * a + b).toNat (p - 50 * (12 * a + b)).toNat = s 2 0 p.toNat := by unfold yT; congr 1; omega
    refine v_iload dX7_nextChange_15 rfl ?_
    refine v_bipush dX7_nextChange_17 (by decide) ?_
    refine v_iload dX7_nextChange_19 rfl ?_
    refine v_imul dX7_nextChange_21 ?_
    refine v_aloadn dX7_nextChange_22 rfl ?_
    refine v_get dX7_nextChange_23 gf_X7_13 (hY.2.1 0 0 (by decide)) rfl ?_
    refine v_iload dX7_nextChange_26 rfl ?_
    refine v_iald dX7_nextChange_28 (hY.2.1 1 0 (by decide)) (by omega) (by omega) (by decide) ?_
    refine v_iadd dX7_nextChange_29 ?_
    refine v_icmp_ge 58 dX7_nextChange_30 (by decide) (by omega) (by omega) (fun h30 => ?_) (fun h30 => ?_)
    · refine v_ldc (n := 100000) dX7_nextChange_58 (by decide +kernel) ?_
      exact v_iret dX7_nextChange_60 rfl ⟨(Nat.le_of_ble_eq_true rfl), (Nat.le_of_ble_eq_true rfl)⟩ (by omega) ⟨rfl, ⟨by omega, by omega⟩, vY_const (p := p - 50 * (12 * a + b)) (hsY _ (by omega)) (by omega) h2 (Or.inl (by omega))⟩
    · refine v_aloadn dX7_nextChange_33 rfl ?_
      refine v_get dX7_nextChange_34 gf_X7_17 (hY.2.1 0 0 (by decide)) rfl ?_
      refine v_iload dX7_nextChange_37 rfl ?_
      refine v_iald dX7_nextChange_39 (hY.2.1 2 0 (by decide)) (by omega) (by omega) (by decide) ?_
      have ht1 := hr1.2 (p - 50 * (12 * a + b)).toNat (by omega)
      rw [show 50 * (12 * a + b).toNat + (p - 50 * (12 * a + b)).toNat = (p).toNat by omega] at ht1
      refine v_iloadn dX7_nextChange_40 rfl ?_
      refine v_icmp_le 52 dX7_nextChange_41 (by decide) (by omega) (by omega) (fun h41 => ?_) (fun h41 => ?_)
      · refine v_iinc dX7_nextChange_52 rfl (Nat.le_of_ble_eq_true rfl) ?_
        refine v_goto 15 dX7_nextChange_55 (by decide) ?_
        refine wV.locs (lv' := [(0, .ref (fw 0 0)), (1, .int (gI a)), (2, .int (gI b)), (3, .int (gI t)), (4, .int (gI (12 * a + b))), (5, .int (gI _))]) ⟨rfl, rfl, rfl, rfl, rfl, rfl, trivial⟩ (ih _ (by omega) (by omega) (by omega) (fun j hj => (show (j : Int) < p - 50 * (12 * a + b) ∨ j = (p - 50 * (12 * a + b)).toNat by omega).elim (fun h => h2 j h) (fun h => by rw [h, eP]; exact h41)))
      · refine v_aloadn dX7_nextChange_44 rfl ?_
        refine v_get dX7_nextChange_45 gf_X7_17 (hY.2.1 0 0 (by decide)) rfl ?_
        refine v_iload dX7_nextChange_48 rfl ?_
        refine v_iald dX7_nextChange_50 (hY.2.1 2 0 (by decide)) (by omega) (by omega) (by decide) ?_
        exact v_iret dX7_nextChange_51 rfl ⟨(Nat.le_of_ble_eq_true rfl), (Nat.le_of_ble_eq_true rfl)⟩ (by omega) ⟨rfl, ⟨by omega, by omega⟩, vY_const (p := p - 50 * (12 * a + b)) (hsY _ (by omega)) (by omega) h2 (Or.inr ⟨by omega, eP.symm⟩)⟩
set_option maxHeartbeats 4000000 in
set_option maxRecDepth 100000 in
theorem fX7_nextChange {G : gG} {fw : Nat → Nat → Nat} {s : sG} {M : wM} (hsY : srY s) (hY : wY G fw s M) {a b t : Int} (ha : bt 0 a 1) (hb : bt 0 b 11) (ht : rng t) (ht2 : t < 100000) : wT G qX7_nextChange 0 0 [.ref (fw 0 0), .int (gI a), .int (gI b), .int (gI t)] M (iP fun x M' => M' = M ∧ ((t < x ∧ (x = 100000 ∨ bt 0 x 3999)) ∧ ∀ u, t ≤ u → u < x → vY s (12 * a + b).toNat u = vY s (12 * a + b).toNat t)) := by
  refine wT.intro (by decide) (Nat.le_of_ble_eq_true rfl) (fun sz => ?_)
  have h0 := hY.2.2.1
  have hrw := hY.2.2.2.1
  have hnm := hY.2.2.2.2.1
  have hsh := hY.2.2.2.2.2.1
  have hmk := hY.2.2.2.2.2.2.1
  have hic := hY.2.2.2.2.2.2.2.1
  have hcn := hY.2.2.2.2.2.2.2.2.1
  have hgt := hY.2.2.2.2.2.2.2.2.2
  have hr1 := hrw (12 * a + b).toNat (by omega)
  have hw : bt 0 (12 * a + b) 23 := by omega
  refine v_bipush dX7_nextChange_0 (by decide) ?_
  refine v_iloadn dX7_nextChange_2 rfl ?_
  refine v_imul dX7_nextChange_3 ?_
  refine v_iloadn dX7_nextChange_4 rfl ?_
  refine v_iadd dX7_nextChange_5 ?_
  refine v_istore dX7_nextChange_6 (Nat.le_of_ble_eq_true rfl) ?_
  refine v_bipush dX7_nextChange_8 (by decide) ?_
  refine v_iload dX7_nextChange_10 rfl ?_
  refine v_imul dX7_nextChange_12 ?_
  refine v_istore dX7_nextChange_13 (Nat.le_of_ble_eq_true rfl) ?_
  refine wV.locs (lv' := [(0, .ref (fw 0 0)), (1, .int (gI a)), (2, .int (gI b)), (3, .int (gI t)), (4, .int (gI (12 * a + b))), (5, .int (gI (50 * (12 * a + b))))]) ⟨rfl, rfl, rfl, rfl, rfl, rfl, trivial⟩ (fX7_nextChange_loop hsY hY ha hb ht ht2 60 _ (by omega) (by omega) (by omega) (fun j hj => by omega))
theorem vY_neg {s : sG} (hI : invY s) {r : Nat} (hr : r < 24) {t : Int} (ht : t < 0) : vY s r t = 256 := atF_ahead (fun j hj => by
  have := (hI.2.1 r hr).2 j hj
  unfold yT
  omega)
theorem wF_step {v : Int → Int} {c t x e : Int} (hct : c ≤ t) (htx : t < x) (he : bt 0 e 2) (h : ∀ u, t ≤ u → u < x → v u = v t) : Sm (wF e v) c x = Sm (wF e v) c t + (if e = 0 then (if v t ≠ v (t - 1) then 1 else 0) else if e = 1 then (if v t = 256 then x - t else 0) else if v t = 256 then 0 else v t * (x - t)) := by
  rw [Sm_split hct (by omega)]
  congr 1
  unfold wF
  by_cases h0 : e = 0
  · rw [if_pos h0, if_pos h0, Sm_split (b := t + 1) (by omega) (by omega), Sm_const (w := if v t ≠ v (t - 1) then 1 else 0) (by omega) (fun u h1 h2 => ?_), Sm_const (a := t + 1) (w := 0) (by omega) (fun u h1 h2 => ?_)]
    · omega
    · unfold w0
      rw [h u (by omega) h2, h (u - 1) (by omega) (by omega)]
      simp
    · have : u = t := by omega
      rw [this]
      rfl
  · rw [if_neg h0, if_neg h0]
    by_cases h1 : e = 1
    · rw [if_pos h1, if_pos h1, Sm_const (w := if v t = 256 then 1 else 0) (by omega) (fun u h1 h2 => by unfold w1; rw [h u h1 h2])]
      split <;> omega
    · rw [if_neg h1, if_neg h1, Sm_const (w := if v t = 256 then 0 else v t) (by omega) (fun u h1 h2 => by unfold w2; rw [h u h1 h2])]
      split
      · omega
      · rfl
set_option maxHeartbeats 4000000 in
set_option maxRecDepth 100000 in
theorem fX7_window_loop {sz : Nat} {M0 : wM} {G : gG} {fw : Nat → Nat → Nat} {s : sG} {M : wM} (hsY : srY s) (hY : wY G fw s M) {a b c d e : Int} (ha : bt 0 a 1) (hb : bt 0 b 11) (hc : 0 ≤ c) (hd : bt 0 d 4000) (he : bt 0 e 2) (hV : (bt 0 a 1 ∧ bt 0 b 11 ∧ 0 ≤ c ∧ c < d ∧ d ≤ s 0 0 0 ∧ bt 0 e 2)) : ∀ (k : Nat) (u t : Int), 0 ≤ 4000 - t → 4000 - t < (k : Int) → (bt c t d) → (u = Sm (wF e (vY s (12 * a + b).toNat)) c t) → wV G qX7_window 0 0 sz M0 0 0 45 [(0, .ref (fw 0 0)), (1, .int (gI a)), (2, .int (gI b)), (3, .int (gI c)), (4, .int (gI d)), (5, .int (gI e)), (6, .int (gI u)), (7, .int (gI t))] [] M (iP fun x M' => M' = M ∧ ((¬ (bt 0 a 1 ∧ bt 0 b 11 ∧ 0 ≤ c ∧ c < d ∧ d ≤ s 0 0 0 ∧ bt 0 e 2) ∧ x = -1) ∨ ((bt 0 a 1 ∧ bt 0 b 11 ∧ 0 ≤ c ∧ c < d ∧ d ≤ s 0 0 0 ∧ bt 0 e 2) ∧ x = (gI (Sm (wF e (vY s (12 * a + b).toNat)) c d)).toInt))) := by
  intro k
  induction k with
  | zero =>
    intros
    omega
  | succ k ih =>
    intro u t hmz hml h1 h2
    have h0 := hY.2.2.1
    have hrw := hY.2.2.2.1
    have hnm := hY.2.2.2.2.1
    have hsh := hY.2.2.2.2.2.1
    have hmk := hY.2.2.2.2.2.2.1
    have hic := hY.2.2.2.2.2.2.2.1
    have hcn := hY.2.2.2.2.2.2.2.2.1
    have hgt := hY.2.2.2.2.2.2.2.2.2
    refine v_iload dX7_window_45 rfl ?_
    refine v_iload dX7_window_47 rfl ?_
    refine v_icmp_ge 188 dX7_window_49 (by decide) (by omega) (by omega) (fun h49 => ?_) (fun h49 => ?_)
    · refine v_iload dX7_window_188 rfl ?_
      exact v_iretA dX7_window_190 rfl ⟨(Nat.le_of_ble_eq_true rfl), (Nat.le_of_ble_eq_true rfl)⟩ ⟨rfl, Or.inr ⟨hV, by rw [h2, show t = d by omega]⟩⟩
    · refine v_aloadn dX7_window_52 rfl ?_
      refine v_iloadn dX7_window_53 rfl ?_
      refine v_iloadn dX7_window_54 rfl ?_
      refine v_iload dX7_window_55 rfl ?_
      refine v_callV (fX7_nextChange hsY hY (by omega) (by omega) (by omega) (by omega)) lc_X7_103 ⟨(Nat.le_of_ble_eq_true rfl), (Nat.le_of_ble_eq_true rfl)⟩ dX7_window_57 rfl rfl (Nat.le_of_ble_eq_true rfl) ⟨(Nat.le_of_ble_eq_true rfl), (Nat.le_of_ble_eq_true rfl)⟩ ⟨_, _, _, _, hY.2.1 0 0 (by decide), rfl⟩ (kP fun r57 hr57 hp57 => ?_)
      refine v_iload dX7_window_60 rfl ?_
      refine v_callS (tX7_least (by omega) (by omega)) lc_X7_106 ⟨(Nat.le_of_ble_eq_true rfl), (Nat.le_of_ble_eq_true rfl)⟩ dX7_window_62 rfl rfl (Nat.le_of_ble_eq_true rfl) ⟨(Nat.le_of_ble_eq_true rfl), (Nat.le_of_ble_eq_true rfl)⟩ (kP fun r62 hr62 hp62 => ?_)
      
      refine v_istore dX7_window_65 (Nat.le_of_ble_eq_true rfl) ?_
      refine v_aloadn dX7_window_67 rfl ?_
      refine v_iloadn dX7_window_68 rfl ?_
      refine v_iloadn dX7_window_69 rfl ?_
      refine v_iload dX7_window_70 rfl ?_
      refine v_callV (tX7_at hY (by omega) (by omega) (by omega)) lc_X7_83 ⟨(Nat.le_of_ble_eq_true rfl), (Nat.le_of_ble_eq_true rfl)⟩ dX7_window_72 rfl rfl (Nat.le_of_ble_eq_true rfl) ⟨(Nat.le_of_ble_eq_true rfl), (Nat.le_of_ble_eq_true rfl)⟩ ⟨_, _, _, _, hY.2.1 0 0 (by decide), rfl⟩ (kP fun r72 hr72 hp72 => ?_)
      have hv72 := vY_atP (by omega) (hsY _ (by omega)) hp72.2
      have hlx : c ≤ t ∧ t < r62 ∧ ∀ u, t ≤ u → u < r62 → (vY s (12 * a + b).toNat) u = (vY s (12 * a + b).toNat) t := ⟨by omega, by omega, fun u u1 u2 => hp57.2 u u1 (by omega)⟩
      have hst := wF_step (e := e) hlx.1 hlx.2.1 he hlx.2.2
      refine v_istore dX7_window_75 (Nat.le_of_ble_eq_true rfl) ?_
      refine v_iload dX7_window_77 rfl ?_
      refine v_if_ne 125 dX7_window_79 (by decide) (by omega) (fun h79 => ?_) (fun h79 => ?_)
      · refine v_iload dX7_window_125 rfl ?_
        refine v_iconst dX7_window_127 ?_
        refine v_icmp_ne 156 dX7_window_128 (by decide) (by omega) (by omega) (fun h128 => ?_) (fun h128 => ?_)
        · refine v_iload dX7_window_156 rfl ?_
          refine v_iload dX7_window_158 rfl ?_
          refine v_sipush dX7_window_160 (by decide) ?_
          refine v_icmp_ne 170 dX7_window_163 (by decide) (by omega) (by omega) (fun h163 => ?_) (fun h163 => ?_)
          · refine v_iload dX7_window_170 rfl ?_
            refine v_iload dX7_window_172 rfl ?_
            refine v_iload dX7_window_174 rfl ?_
            refine v_isub dX7_window_176 ?_
            refine v_imul dX7_window_177 ?_
            refine v_iadd dX7_window_178 ?_
            refine v_istore dX7_window_179 (Nat.le_of_ble_eq_true rfl) ?_
            refine v_iload dX7_window_181 rfl ?_
            refine v_istore dX7_window_183 (Nat.le_of_ble_eq_true rfl) ?_
            refine v_goto 45 dX7_window_185 (by decide) ?_
            refine wV.locs (lv' := [(0, .ref (fw 0 0)), (1, .int (gI a)), (2, .int (gI b)), (3, .int (gI c)), (4, .int (gI d)), (5, .int (gI e)), (6, .int (gI _)), (7, .int (gI _))]) ⟨rfl, rfl, rfl, rfl, rfl, rfl, rfl, rfl, trivial⟩ (ih _ _ (by omega) (by omega) (by omega) (by rw [hst, ← h2]; (first
            | (rw [if_pos (by omega), if_pos (by first | (rw [← hv72, ← hv100]; omega) | (rw [← hv72, vY_neg hY.2.2 (by omega) (by omega)]; omega))])
            | (rw [if_pos (by omega), if_neg (by first | (rw [← hv72, ← hv100]; omega) | (rw [← hv72, vY_neg hY.2.2 (by omega) (by omega)]; omega))])
            | (rw [if_neg (by omega), if_pos (by omega), ← hv72]; split <;> omega)
            | (rw [if_neg (by omega), if_neg (by omega), ← hv72, if_pos (by omega)])
            | (rw [if_neg (by omega), if_neg (by omega), ← hv72, if_neg (by omega)]))))
          · refine v_iconst dX7_window_166 ?_
            refine v_goto 178 dX7_window_167 (by decide) ?_
            refine v_iadd dX7_window_178 ?_
            refine v_istore dX7_window_179 (Nat.le_of_ble_eq_true rfl) ?_
            refine v_iload dX7_window_181 rfl ?_
            refine v_istore dX7_window_183 (Nat.le_of_ble_eq_true rfl) ?_
            refine v_goto 45 dX7_window_185 (by decide) ?_
            refine wV.locs (lv' := [(0, .ref (fw 0 0)), (1, .int (gI a)), (2, .int (gI b)), (3, .int (gI c)), (4, .int (gI d)), (5, .int (gI e)), (6, .int (gI _)), (7, .int (gI _))]) ⟨rfl, rfl, rfl, rfl, rfl, rfl, rfl, rfl, trivial⟩ (ih _ _ (by omega) (by omega) (by omega) (by rw [hst, ← h2]; (first
            | (rw [if_pos (by omega), if_pos (by first | (rw [← hv72, ← hv100]; omega) | (rw [← hv72, vY_neg hY.2.2 (by omega) (by omega)]; omega))])
            | (rw [if_pos (by omega), if_neg (by first | (rw [← hv72, ← hv100]; omega) | (rw [← hv72, vY_neg hY.2.2 (by omega) (by omega)]; omega))])
            | (rw [if_neg (by omega), if_pos (by omega), ← hv72]; split <;> omega)
            | (rw [if_neg (by omega), if_neg (by omega), ← hv72, if_pos (by omega)])
            | (rw [if_neg (by omega), if_neg (by omega), ← hv72, if_neg (by omega)]))))
        · refine v_iload dX7_window_131 rfl ?_
          refine v_iload dX7_window_133 rfl ?_
          refine v_sipush dX7_window_135 (by decide) ?_
          refine v_icmp_ne 149 dX7_window_138 (by decide) (by omega) (by omega) (fun h138 => ?_) (fun h138 => ?_)
          · refine v_iconst dX7_window_149 ?_
            refine v_iadd dX7_window_150 ?_
            refine v_istore dX7_window_151 (Nat.le_of_ble_eq_true rfl) ?_
            refine v_goto 181 dX7_window_153 (by decide) ?_
            refine v_iload dX7_window_181 rfl ?_
            refine v_istore dX7_window_183 (Nat.le_of_ble_eq_true rfl) ?_
            refine v_goto 45 dX7_window_185 (by decide) ?_
            refine wV.locs (lv' := [(0, .ref (fw 0 0)), (1, .int (gI a)), (2, .int (gI b)), (3, .int (gI c)), (4, .int (gI d)), (5, .int (gI e)), (6, .int (gI _)), (7, .int (gI _))]) ⟨rfl, rfl, rfl, rfl, rfl, rfl, rfl, rfl, trivial⟩ (ih _ _ (by omega) (by omega) (by omega) (by rw [hst, ← h2]; (first
            | (rw [if_pos (by omega), if_pos (by first | (rw [← hv72, ← hv100]; omega) | (rw [← hv72, vY_neg hY.2.2 (by omega) (by omega)]; omega))])
            | (rw [if_pos (by omega), if_neg (by first | (rw [← hv72, ← hv100]; omega) | (rw [← hv72, vY_neg hY.2.2 (by omega) (by omega)]; omega))])
            | (rw [if_neg (by omega), if_pos (by omega), ← hv72]; split <;> omega)
            | (rw [if_neg (by omega), if_neg (by omega), ← hv72, if_pos (by omega)])
            | (rw [if_neg (by omega), if_neg (by omega), ← hv72, if_neg (by omega)]))))
          · refine v_iload dX7_window_141 rfl ?_
            refine v_iload dX7_window_143 rfl ?_
            refine v_isub dX7_window_145 ?_
            refine v_goto 150 dX7_window_146 (by decide) ?_
            refine v_iadd dX7_window_150 ?_
            refine v_istore dX7_window_151 (Nat.le_of_ble_eq_true rfl) ?_
            refine v_goto 181 dX7_window_153 (by decide) ?_
            refine v_iload dX7_window_181 rfl ?_
            refine v_istore dX7_window_183 (Nat.le_of_ble_eq_true rfl) ?_
            refine v_goto 45 dX7_window_185 (by decide) ?_
            refine wV.locs (lv' := [(0, .ref (fw 0 0)), (1, .int (gI a)), (2, .int (gI b)), (3, .int (gI c)), (4, .int (gI d)), (5, .int (gI e)), (6, .int (gI _)), (7, .int (gI _))]) ⟨rfl, rfl, rfl, rfl, rfl, rfl, rfl, rfl, trivial⟩ (ih _ _ (by omega) (by omega) (by omega) (by rw [hst, ← h2]; (first
            | (rw [if_pos (by omega), if_pos (by first | (rw [← hv72, ← hv100]; omega) | (rw [← hv72, vY_neg hY.2.2 (by omega) (by omega)]; omega))])
            | (rw [if_pos (by omega), if_neg (by first | (rw [← hv72, ← hv100]; omega) | (rw [← hv72, vY_neg hY.2.2 (by omega) (by omega)]; omega))])
            | (rw [if_neg (by omega), if_pos (by omega), ← hv72]; split <;> omega)
            | (rw [if_neg (by omega), if_neg (by omega), ← hv72, if_pos (by omega)])
            | (rw [if_neg (by omega), if_neg (by omega), ← hv72, if_neg (by omega)]))))
      · refine v_iload dX7_window_82 rfl ?_
        refine v_if_ne 93 dX7_window_84 (by decide) (by omega) (fun h84 => ?_) (fun h84 => ?_)
        · refine v_aloadn dX7_window_93 rfl ?_
          refine v_iloadn dX7_window_94 rfl ?_
          refine v_iloadn dX7_window_95 rfl ?_
          refine v_iload dX7_window_96 rfl ?_
          refine v_iconst dX7_window_98 ?_
          refine v_isub dX7_window_99 ?_
          refine v_callV (tX7_at hY (by omega) (by omega) (by omega)) lc_X7_83 ⟨(Nat.le_of_ble_eq_true rfl), (Nat.le_of_ble_eq_true rfl)⟩ dX7_window_100 rfl rfl (Nat.le_of_ble_eq_true rfl) ⟨(Nat.le_of_ble_eq_true rfl), (Nat.le_of_ble_eq_true rfl)⟩ ⟨_, _, _, _, hY.2.1 0 0 (by decide), rfl⟩ (kP fun r100 hr100 hp100 => ?_)
          have hv100 := vY_atP (by omega) (hsY _ (by omega)) hp100.2
          refine v_istore dX7_window_103 (Nat.le_of_ble_eq_true rfl) ?_
          refine v_iload dX7_window_105 rfl ?_
          refine v_iload dX7_window_107 rfl ?_
          refine v_iload dX7_window_109 rfl ?_
          refine v_icmp_eq 118 dX7_window_111 (by decide) (by omega) (by omega) (fun h111 => ?_) (fun h111 => ?_)
          · refine v_iconst dX7_window_118 ?_
            refine v_iadd dX7_window_119 ?_
            refine v_istore dX7_window_120 (Nat.le_of_ble_eq_true rfl) ?_
            refine v_goto 181 dX7_window_122 (by decide) ?_
            refine v_iload dX7_window_181 rfl ?_
            refine v_istore dX7_window_183 (Nat.le_of_ble_eq_true rfl) ?_
            refine v_goto 45 dX7_window_185 (by decide) ?_
            refine wV.locs (lv' := [(0, .ref (fw 0 0)), (1, .int (gI a)), (2, .int (gI b)), (3, .int (gI c)), (4, .int (gI d)), (5, .int (gI e)), (6, .int (gI _)), (7, .int (gI _))]) ⟨rfl, rfl, rfl, rfl, rfl, rfl, rfl, rfl, trivial⟩ (ih _ _ (by omega) (by omega) (by omega) (by rw [hst, ← h2]; (first
            | (rw [if_pos (by omega), if_pos (by first | (rw [← hv72, ← hv100]; omega) | (rw [← hv72, vY_neg hY.2.2 (by omega) (by omega)]; omega))])
            | (rw [if_pos (by omega), if_neg (by first | (rw [← hv72, ← hv100]; omega) | (rw [← hv72, vY_neg hY.2.2 (by omega) (by omega)]; omega))])
            | (rw [if_neg (by omega), if_pos (by omega), ← hv72]; split <;> omega)
            | (rw [if_neg (by omega), if_neg (by omega), ← hv72, if_pos (by omega)])
            | (rw [if_neg (by omega), if_neg (by omega), ← hv72, if_neg (by omega)]))))
          · refine v_iconst dX7_window_114 ?_
            refine v_goto 119 dX7_window_115 (by decide) ?_
            refine v_iadd dX7_window_119 ?_
            refine v_istore dX7_window_120 (Nat.le_of_ble_eq_true rfl) ?_
            refine v_goto 181 dX7_window_122 (by decide) ?_
            refine v_iload dX7_window_181 rfl ?_
            refine v_istore dX7_window_183 (Nat.le_of_ble_eq_true rfl) ?_
            refine v_goto 45 dX7_window_185 (by decide) ?_
            refine wV.locs (lv' := [(0, .ref (fw 0 0)), (1, .int (gI a)), (2, .int (gI b)), (3, .int (gI c)), (4, .int (gI d)), (5, .int (gI e)), (6, .int (gI _)), (7, .int (gI _))]) ⟨rfl, rfl, rfl, rfl, rfl, rfl, rfl, rfl, trivial⟩ (ih _ _ (by omega) (by omega) (by omega) (by rw [hst, ← h2]; (first
            | (rw [if_pos (by omega), if_pos (by first | (rw [← hv72, ← hv100]; omega) | (rw [← hv72, vY_neg hY.2.2 (by omega) (by omega)]; omega))])
            | (rw [if_pos (by omega), if_neg (by first | (rw [← hv72, ← hv100]; omega) | (rw [← hv72, vY_neg hY.2.2 (by omega) (by omega)]; omega))])
            | (rw [if_neg (by omega), if_pos (by omega), ← hv72]; split <;> omega)
            | (rw [if_neg (by omega), if_neg (by omega), ← hv72, if_pos (by omega)])
            | (rw [if_neg (by omega), if_neg (by omega), ← hv72, if_neg (by omega)]))))
        · refine v_sipush dX7_window_87 (by decide) ?_
          refine v_goto 103 dX7_window_90 (by decide) ?_
          refine v_istore dX7_window_103 (Nat.le_of_ble_eq_true rfl) ?_
          refine v_iload dX7_window_105 rfl ?_
          refine v_iload dX7_window_107 rfl ?_
          refine v_iload dX7_window_109 rfl ?_
          refine v_icmp_eq 118 dX7_window_111 (by decide) (by omega) (by omega) (fun h111 => ?_) (fun h111 => ?_)
          · refine v_iconst dX7_window_118 ?_
            refine v_iadd dX7_window_119 ?_
            refine v_istore dX7_window_120 (Nat.le_of_ble_eq_true rfl) ?_
            refine v_goto 181 dX7_window_122 (by decide) ?_
            refine v_iload dX7_window_181 rfl ?_
            refine v_istore dX7_window_183 (Nat.le_of_ble_eq_true rfl) ?_
            refine v_goto 45 dX7_window_185 (by decide) ?_
            refine wV.locs (lv' := [(0, .ref (fw 0 0)), (1, .int (gI a)), (2, .int (gI b)), (3, .int (gI c)), (4, .int (gI d)), (5, .int (gI e)), (6, .int (gI _)), (7, .int (gI _))]) ⟨rfl, rfl, rfl, rfl, rfl, rfl, rfl, rfl, trivial⟩ (ih _ _ (by omega) (by omega) (by omega) (by rw [hst, ← h2]; (first
            | (rw [if_pos (by omega), if_pos (by first | (rw [← hv72, ← hv100]; omega) | (rw [← hv72, vY_neg hY.2.2 (by omega) (by omega)]; omega))])
            | (rw [if_pos (by omega), if_neg (by first | (rw [← hv72, ← hv100]; omega) | (rw [← hv72, vY_neg hY.2.2 (by omega) (by omega)]; omega))])
            | (rw [if_neg (by omega), if_pos (by omega), ← hv72]; split <;> omega)
            | (rw [if_neg (by omega), if_neg (by omega), ← hv72, if_pos (by omega)])
            | (rw [if_neg (by omega), if_neg (by omega), ← hv72, if_neg (by omega)]))))
          · refine v_iconst dX7_window_114 ?_
            refine v_goto 119 dX7_window_115 (by decide) ?_
            refine v_iadd dX7_window_119 ?_
            refine v_istore dX7_window_120 (Nat.le_of_ble_eq_true rfl) ?_
            refine v_goto 181 dX7_window_122 (by decide) ?_
            refine v_iload dX7_window_181 rfl ?_
            refine v_istore dX7_window_183 (Nat.le_of_ble_eq_true rfl) ?_
            refine v_goto 45 dX7_window_185 (by decide) ?_
            refine wV.locs (lv' := [(0, .ref (fw 0 0)), (1, .int (gI a)), (2, .int (gI b)), (3, .int (gI c)), (4, .int (gI d)), (5, .int (gI e)), (6, .int (gI _)), (7, .int (gI _))]) ⟨rfl, rfl, rfl, rfl, rfl, rfl, rfl, rfl, trivial⟩ (ih _ _ (by omega) (by omega) (by omega) (by rw [hst, ← h2]; (first
            | (rw [if_pos (by omega), if_pos (by first | (rw [← hv72, ← hv100]; omega) | (rw [← hv72, vY_neg hY.2.2 (by omega) (by omega)]; omega))])
            | (rw [if_pos (by omega), if_neg (by first | (rw [← hv72, ← hv100]; omega) | (rw [← hv72, vY_neg hY.2.2 (by omega) (by omega)]; omega))])
            | (rw [if_neg (by omega), if_pos (by omega), ← hv72]; split <;> omega)
            | (rw [if_neg (by omega), if_neg (by omega), ← hv72, if_pos (by omega)])
            | (rw [if_neg (by omega), if_neg (by omega), ← hv72, if_neg (by omega)]))))
set_option maxHeartbeats 4000000 in
set_option maxRecDepth 100000 in
theorem fX7_window {G : gG} {fw : Nat → Nat → Nat} {s : sG} {M : wM} (hsY : srY s) (hY : wY G fw s M) {a b c d e : Int} (ha : rng a) (hb : rng b) (hc : rng c) (hd : rng d) (he : rng e) : wT G qX7_window 0 0 [.ref (fw 0 0), .int (gI a), .int (gI b), .int (gI c), .int (gI d), .int (gI e)] M (iP fun x M' => M' = M ∧ ((¬ (bt 0 a 1 ∧ bt 0 b 11 ∧ 0 ≤ c ∧ c < d ∧ d ≤ s 0 0 0 ∧ bt 0 e 2) ∧ x = -1) ∨ ((bt 0 a 1 ∧ bt 0 b 11 ∧ 0 ≤ c ∧ c < d ∧ d ≤ s 0 0 0 ∧ bt 0 e 2) ∧ x = (gI (Sm (wF e (vY s (12 * a + b).toNat)) c d)).toInt))) := by
  refine wT.intro (by decide) (Nat.le_of_ble_eq_true rfl) (fun sz => ?_)
  have h0 := hY.2.2.1
  have hrw := hY.2.2.2.1
  have hnm := hY.2.2.2.2.1
  have hsh := hY.2.2.2.2.2.1
  have hmk := hY.2.2.2.2.2.2.1
  have hic := hY.2.2.2.2.2.2.2.1
  have hcn := hY.2.2.2.2.2.2.2.2.1
  have hgt := hY.2.2.2.2.2.2.2.2.2
  refine v_iloadn dX7_window_0 rfl ?_
  refine v_iloadn dX7_window_1 rfl ?_
  refine v_callS (tX7_isRow (by omega) (by omega)) lc_X7_68 ⟨(Nat.le_of_ble_eq_true rfl), (Nat.le_of_ble_eq_true rfl)⟩ dX7_window_2 rfl rfl (Nat.le_of_ble_eq_true rfl) ⟨(Nat.le_of_ble_eq_true rfl), (Nat.le_of_ble_eq_true rfl)⟩ (kP fun r2 hr2 hp2 => ?_)
  refine v_if_eq 37 dX7_window_5 (by decide) (by omega) (fun h5 => ?_) (fun h5 => ?_)
  · refine v_iconst dX7_window_37 ?_
    exact v_iret dX7_window_38 rfl ⟨(Nat.le_of_ble_eq_true rfl), (Nat.le_of_ble_eq_true rfl)⟩ (by omega) ⟨rfl, Or.inl ⟨by omega, by omega⟩⟩
  · refine v_iloadn dX7_window_8 rfl ?_
    refine v_if_lt 37 dX7_window_9 (by decide) (by omega) (fun h9 => ?_) (fun h9 => ?_)
    · refine v_iconst dX7_window_37 ?_
      exact v_iret dX7_window_38 rfl ⟨(Nat.le_of_ble_eq_true rfl), (Nat.le_of_ble_eq_true rfl)⟩ (by omega) ⟨rfl, Or.inl ⟨by omega, by omega⟩⟩
    · refine v_iloadn dX7_window_12 rfl ?_
      refine v_iload dX7_window_13 rfl ?_
      refine v_icmp_ge 37 dX7_window_15 (by decide) (by omega) (by omega) (fun h15 => ?_) (fun h15 => ?_)
      · refine v_iconst dX7_window_37 ?_
        exact v_iret dX7_window_38 rfl ⟨(Nat.le_of_ble_eq_true rfl), (Nat.le_of_ble_eq_true rfl)⟩ (by omega) ⟨rfl, Or.inl ⟨by omega, by omega⟩⟩
      · refine v_iload dX7_window_18 rfl ?_
        refine v_aloadn dX7_window_20 rfl ?_
        refine v_get dX7_window_21 gf_X7_7 (hY.2.1 0 0 (by decide)) rfl ?_
        refine v_icmp_gt 37 dX7_window_24 (by decide) (by omega) (by omega) (fun h24 => ?_) (fun h24 => ?_)
        · refine v_iconst dX7_window_37 ?_
          exact v_iret dX7_window_38 rfl ⟨(Nat.le_of_ble_eq_true rfl), (Nat.le_of_ble_eq_true rfl)⟩ (by omega) ⟨rfl, Or.inl ⟨by omega, by omega⟩⟩
        · refine v_iload dX7_window_27 rfl ?_
          refine v_iconst dX7_window_29 ?_
          refine v_iconst dX7_window_30 ?_
          refine v_callS (tX7_in (by omega) (by omega) (by omega)) lc_X7_60 ⟨(Nat.le_of_ble_eq_true rfl), (Nat.le_of_ble_eq_true rfl)⟩ dX7_window_31 rfl rfl (Nat.le_of_ble_eq_true rfl) ⟨(Nat.le_of_ble_eq_true rfl), (Nat.le_of_ble_eq_true rfl)⟩ (kP fun r31 hr31 hp31 => ?_)
          refine v_if_ne 39 dX7_window_34 (by decide) (by omega) (fun h34 => ?_) (fun h34 => ?_)
          · refine v_iconst dX7_window_39 ?_
            refine v_istore dX7_window_40 (Nat.le_of_ble_eq_true rfl) ?_
            refine v_iloadn dX7_window_42 rfl ?_
            refine v_istore dX7_window_43 (Nat.le_of_ble_eq_true rfl) ?_
            refine wV.locs (lv' := [(0, .ref (fw 0 0)), (1, .int (gI a)), (2, .int (gI b)), (3, .int (gI c)), (4, .int (gI d)), (5, .int (gI e)), (6, .int (gI (0))), (7, .int (gI (c)))]) ⟨rfl, rfl, rfl, rfl, rfl, rfl, rfl, rfl, trivial⟩ (fX7_window_loop hsY hY (by omega) (by omega) (by omega) (by omega) (by omega) (by omega) 4010 _ _ (by omega) (by omega) (by omega) (Sm_self _ _).symm)
          · refine v_iconst dX7_window_37 ?_
            exact v_iret dX7_window_38 rfl ⟨(Nat.le_of_ble_eq_true rfl), (Nat.le_of_ble_eq_true rfl)⟩ (by omega) ⟨rfl, Or.inl ⟨by omega, by omega⟩⟩
