set_option maxHeartbeats 4000000 in
set_option maxRecDepth 100000 in
theorem fX6_hasSignals_loop {sz : Nat} {M0 : wM} {G : gG} {fw : Nat → Nat → Nat} {s : sG} {M : wM} (hX : wX G fw s M) {a : Int} (ha : rng a) : ∀ (k : Nat) (i : Int), 0 ≤ 13 - i → 13 - i < (k : Int) → (bt 0 i 12) → (∀ o : Nat, (o : Int) < i → s 3 0 o ≠ a) → wV G qX6_hasSignals 0 0 sz M0 0 0 2 [(0, .ref (fw 0 0)), (1, .int (gI a)), (2, .int (gI i))] [] M (iP fun x M' => M' = M ∧ ((x = 1 ∧ (∃ o : Nat, o < 12 ∧ s 3 0 o = a)) ∨ (x = 0 ∧ ¬ (∃ o : Nat, o < 12 ∧ s 3 0 o = a)))) := by
  intro k
  induction k with
  | zero =>
    intros
    omega
  | succ k ih =>
    intro i hmz hml h1 h2
    have h0 := hX.2.2.1
    have hnm := hX.2.2.2.1
    have hsh := hX.2.2.2.2.1
    have h8 := hX.2.2.2.2.2.1
    refine v_iloadn dX6_hasSignals_2 rfl ?_
    refine v_bipush dX6_hasSignals_3 (by decide) ?_
    refine v_icmp_ge 26 dX6_hasSignals_5 (by decide) (by omega) (by omega) (fun h5 => ?_) (fun h5 => ?_)
    · refine v_iconst dX6_hasSignals_26 ?_
      exact v_zret dX6_hasSignals_27 rfl ⟨(Nat.le_of_ble_eq_true rfl), (Nat.le_of_ble_eq_true rfl)⟩ (by omega) ⟨rfl, Or.inr ⟨rfl, fun ⟨o, o1, o2⟩ => h2 o (by omega) o2⟩⟩
    · refine v_aloadn dX6_hasSignals_8 rfl ?_
      refine v_get dX6_hasSignals_9 gf_X6_19 (hX.2.1 0 0 (by decide)) rfl ?_
      refine v_iloadn dX6_hasSignals_12 rfl ?_
      refine v_iald dX6_hasSignals_13 (hX.2.1 3 0 (by decide)) (by omega) (by omega) (by decide) ?_
      have hgi := hnm (i).toNat (by omega)
      refine v_iloadn dX6_hasSignals_14 rfl ?_
      refine v_icmp_ne 20 dX6_hasSignals_15 (by decide) (by omega) (by omega) (fun h15 => ?_) (fun h15 => ?_)
      · refine v_iinc dX6_hasSignals_20 rfl (Nat.le_of_ble_eq_true rfl) ?_
        refine v_goto 2 dX6_hasSignals_23 (by decide) ?_
        refine wV.locs (lv' := [(0, .ref (fw 0 0)), (1, .int (gI a)), (2, .int (gI _))]) ⟨rfl, rfl, rfl, trivial⟩ (ih _ (by omega) (by omega) (by omega) (fun o ho => (show (o : Int) < i ∨ o = i.toNat by omega).elim (fun c => h2 o c) (fun c => by rw [c]; omega)))
      · refine v_iconst dX6_hasSignals_18 ?_
        exact v_zret dX6_hasSignals_19 rfl ⟨(Nat.le_of_ble_eq_true rfl), (Nat.le_of_ble_eq_true rfl)⟩ (by omega) ⟨rfl, Or.inl ⟨rfl, i.toNat, by omega, by omega⟩⟩
set_option maxHeartbeats 4000000 in
set_option maxRecDepth 100000 in
theorem fX6_hasSignals {G : gG} {fw : Nat → Nat → Nat} {s : sG} {M : wM} (hX : wX G fw s M) {a : Int} (ha : rng a) : wT G qX6_hasSignals 0 0 [.ref (fw 0 0), .int (gI a)] M (iP fun x M' => M' = M ∧ ((x = 1 ∧ (∃ o : Nat, o < 12 ∧ s 3 0 o = a)) ∨ (x = 0 ∧ ¬ (∃ o : Nat, o < 12 ∧ s 3 0 o = a)))) := by
  refine wT.intro (by decide) (Nat.le_of_ble_eq_true rfl) (fun sz => ?_)
  refine v_iconst dX6_hasSignals_0 ?_
  refine v_istoren dX6_hasSignals_1 (Nat.le_of_ble_eq_true rfl) ?_
  refine wV.locs (lv' := [(0, .ref (fw 0 0)), (1, .int (gI a)), (2, .int (gI (0)))]) ⟨rfl, rfl, rfl, trivial⟩ (fX6_hasSignals_loop hX ha 20 _ (by omega) (by omega) (by omega) (fun o ho => by omega))
set_option maxHeartbeats 4000000 in
set_option maxRecDepth 100000 in
theorem fX6_fitsBy_loop {sz : Nat} {M0 : wM} {G : gG} {fw : Nat → Nat → Nat} {si : sG} {Mi : wM} (hsO : sOK si) (hIi : invX si) {a b : Int} (ha : rng a) (hb : bt (-50) b 50) (hf : bt 0 (frm b) 50) (hu : bt (-60) (upt (si 0 0 9) b) 4000) (hfu : frm b < upt (si 0 0 9) b) : ∀ (k : Nat) (s : sG) (M : wM) (i : Int), 0 ≤ 13 - i → 13 - i < (k : Int) → (wX G fw s M) → (wO cntX fw Mi M) → (keepX si s) → (bt 0 i 12) → (∀ o : Nat, (o : Int) < i → si 3 0 o = a → ∀ t, frm b ≤ t → t < upt (si 0 0 9) b → ¬ dX si (o : Int) b t) → wV G qX6_fitsBy 0 0 sz M0 0 0 33 [(0, .ref (fw 0 0)), (1, .int (gI a)), (2, .int (gI b)), (3, .int (gI (frm b))), (4, .int (gI (upt (si 0 0 9) b))), (5, .int (gI i))] [] M (PX G fw Mi (fun x s' => keepX si s' ∧ ((x = 1 ∧ ftP (fun o k t => dX si (o : Int) k t) (fun o => si 3 0 o) (si 0 0 9) a b) ∨ (x = 0 ∧ ¬ ftP (fun o k t => dX si (o : Int) k t) (fun o => si 3 0 o) (si 0 0 9) a b)))) := by
  intro k
  induction k with
  | zero =>
    intros
    omega
  | succ k ih =>
    intro s M i hmz hml hX hO hK h1 h2
    have h0 := hX.2.2.1
    have hnm := hX.2.2.2.1
    have hsh := hX.2.2.2.2.1
    have h8 := hX.2.2.2.2.2.1
    have hsOs : sOK s := sOK_k hsO hK
    have p0 : s 0 0 = si 0 0 := hK 0 0 (by unfold scrX; omega)
    have p9 : s 0 0 9 = si 0 0 9 := by rw [p0]
    have p3 : s 3 0 = si 3 0 := hK 3 0 (by unfold scrX; omega)
    have p4 : s 4 0 = si 4 0 := hK 4 0 (by unfold scrX; omega)
    have p3i : s 3 0 i.toNat = si 3 0 i.toNat := by rw [p3]
    refine v_iload dX6_fitsBy_33 rfl ?_
    refine v_bipush dX6_fitsBy_35 (by decide) ?_
    refine v_icmp_ge 81 dX6_fitsBy_37 (by decide) (by omega) (by omega) (fun h37 => ?_) (fun h37 => ?_)
    · refine v_iconst dX6_fitsBy_81 ?_
      exact v_zret dX6_fitsBy_82 rfl ⟨(Nat.le_of_ble_eq_true rfl), (Nat.le_of_ble_eq_true rfl)⟩ (by omega) ⟨_, hX, hO, hK, Or.inl ⟨rfl, hfu, fun o o1 => h2 o (by omega)⟩⟩
    · refine v_aloadn dX6_fitsBy_40 rfl ?_
      refine v_get dX6_fitsBy_41 gf_X6_19 (hX.2.1 0 0 (by decide)) rfl ?_
      refine v_iload dX6_fitsBy_44 rfl ?_
      refine v_iald dX6_fitsBy_46 (hX.2.1 3 0 (by decide)) (by omega) (by omega) (by decide) ?_
      have hgi := hnm (i).toNat (by omega)
      refine v_iloadn dX6_fitsBy_47 rfl ?_
      refine v_icmp_ne 75 dX6_fitsBy_48 (by decide) (by omega) (by omega) (fun h48 => ?_) (fun h48 => ?_)
      · refine v_iinc dX6_fitsBy_75 rfl (Nat.le_of_ble_eq_true rfl) ?_
        refine v_goto 33 dX6_fitsBy_78 (by decide) ?_
        refine wV.locs (lv' := [(0, .ref (fw 0 0)), (1, .int (gI a)), (2, .int (gI b)), (3, .int (gI (frm b))), (4, .int (gI (upt (si 0 0 9) b))), (5, .int (gI _))]) ⟨rfl, rfl, rfl, rfl, rfl, rfl, trivial⟩ (ih _ _ _ (by omega) (by omega) hX hO hK (by omega) (fun o ho => (show (o : Int) < i ∨ o = i.toNat by omega).elim (fun c => h2 o c) (fun c => by
                    subst c
                    first
                      | exact fun z => absurd z (by omega)
                      | exact fun _ t t1 t2 y => hff.mp (by omega) t t1 t2 (by rw [show i = ((i.toNat : Nat) : Int) by omega]; exact y))))
      · refine v_aloadn dX6_fitsBy_51 rfl ?_
        refine v_iload dX6_fitsBy_52 rfl ?_
        refine v_iloadn dX6_fitsBy_54 rfl ?_
        refine v_callV (fX6_seekDifferences hsOs.1 hsOs.2 hX (by omega) (by omega)) lc_X6_128 ⟨(Nat.le_of_ble_eq_true rfl), (Nat.le_of_ble_eq_true rfl)⟩ dX6_fitsBy_55 rfl rfl (Nat.le_of_ble_eq_true rfl) ⟨(Nat.le_of_ble_eq_true rfl), (Nat.le_of_ble_eq_true rfl)⟩ ⟨_, _, _, _, (hX.2.1 0 0 (by decide)), rfl⟩ (kV fun M55 hp55 => ?_)
        obtain ⟨s55, hX, hO55, hK55, hSD55⟩ := hp55
        have hO := hO.tr hO55
        have hKp := hK
        have hK := hK.tr hK55
        have h0 := hX.2.2.1
        have hnm := hX.2.2.2.1
        have hsh := hX.2.2.2.2.1
        have h8 := hX.2.2.2.2.2.1
        have q0 : s55 0 0 = si 0 0 := hK 0 0 (by unfold scrX; omega)
        have q9 : s55 0 0 9 = si 0 0 9 := by rw [q0]
        refine v_aloadn dX6_fitsBy_58 rfl ?_
        refine v_get dX6_fitsBy_59 gf_X6_46 (hX.2.1 0 0 (by decide)) rfl ?_
        refine v_iloadn dX6_fitsBy_62 rfl ?_
        refine v_iload dX6_fitsBy_63 rfl ?_
        refine v_callV (fX5_start hX hSD55.1 (by omega) (by omega)) lc_X6_144 ⟨(Nat.le_of_ble_eq_true rfl), (Nat.le_of_ble_eq_true rfl)⟩ dX6_fitsBy_65 rfl rfl (Nat.le_of_ble_eq_true rfl) ⟨(Nat.le_of_ble_eq_true rfl), (Nat.le_of_ble_eq_true rfl)⟩ ⟨_, _, _, _, hX.2.1 8 0 (by decide), rfl⟩ (kP fun r65 hr65 hp65 => ?_)
        have hff := fst_from ((hSD55.fst (by omega) hp65).congr (fun t _ _ => dX_k hsO hIi hKp (by omega)))
        refine v_iload dX6_fitsBy_68 rfl ?_
        refine v_icmp_ge 75 dX6_fitsBy_70 (by decide) (by omega) (by omega) (fun h70 => ?_) (fun h70 => ?_)
        · refine v_iinc dX6_fitsBy_75 rfl (Nat.le_of_ble_eq_true rfl) ?_
          refine v_goto 33 dX6_fitsBy_78 (by decide) ?_
          refine wV.locs (lv' := [(0, .ref (fw 0 0)), (1, .int (gI a)), (2, .int (gI b)), (3, .int (gI (frm b))), (4, .int (gI (upt (si 0 0 9) b))), (5, .int (gI _))]) ⟨rfl, rfl, rfl, rfl, rfl, rfl, trivial⟩ (ih _ _ _ (by omega) (by omega) hX hO hK (by omega) (fun o ho => (show (o : Int) < i ∨ o = i.toNat by omega).elim (fun c => h2 o c) (fun c => by
                      subst c
                      first
                        | exact fun z => absurd z (by omega)
                        | exact fun _ t t1 t2 y => hff.mp (by omega) t t1 t2 (by rw [show i = ((i.toNat : Nat) : Int) by omega]; exact y))))
        · refine v_iconst dX6_fitsBy_73 ?_
          exact v_zret dX6_fitsBy_74 rfl ⟨(Nat.le_of_ble_eq_true rfl), (Nat.le_of_ble_eq_true rfl)⟩ (by omega) ⟨_, hX, hO, hK, Or.inr ⟨rfl, fun z => absurd (hff.mpr (fun t t1 t2 y => z.2 i.toNat (by omega) (by show si 3 0 i.toNat = a; omega) t t1 t2 (by show dX si ((i.toNat : Nat) : Int) b t; rw [show ((i.toNat : Nat) : Int) = i by omega]; exact y))) (by omega)⟩⟩
set_option maxHeartbeats 4000000 in
set_option maxRecDepth 100000 in
theorem fX6_fitsBy {G : gG} {fw : Nat → Nat → Nat} {si : sG} {Mi : wM} (hsO : sOK si) (hX : wX G fw si Mi) {a b : Int} (ha : rng a) (hb : bt (-50) b 50) : wT G qX6_fitsBy 0 0 [.ref (fw 0 0), .int (gI a), .int (gI b)] Mi (PX G fw Mi (fun x s' => keepX si s' ∧ ((x = 1 ∧ ftP (fun o k t => dX si (o : Int) k t) (fun o => si 3 0 o) (si 0 0 9) a b) ∨ (x = 0 ∧ ¬ ftP (fun o k t => dX si (o : Int) k t) (fun o => si 3 0 o) (si 0 0 9) a b)))) := by
  refine wT.intro (by decide) (Nat.le_of_ble_eq_true rfl) (fun sz => ?_)
  have hO : wO cntX fw Mi Mi := wO.rf
  have hK : keepX si si := keepX.rf
  have h0 := hX.2.2.1
  have hnm := hX.2.2.2.1
  have hsh := hX.2.2.2.2.1
  have h8 := hX.2.2.2.2.2.1
  have hf : bt 0 (frm b) 50 := by unfold frm; split <;> omega
  have hu : bt (-60) (upt (si 0 0 9) b) 4000 := by unfold upt; split <;> omega
  refine v_iconst dX6_fitsBy_0 ?_
  refine v_iloadn dX6_fitsBy_1 rfl ?_
  refine v_ineg dX6_fitsBy_2 ?_
  refine v_max dX6_fitsBy_3 lc_X6_219 (Nat.le_of_ble_eq_true rfl) (Nat.le_of_ble_eq_true rfl) ⟨(Nat.le_of_ble_eq_true rfl), (Nat.le_of_ble_eq_true rfl)⟩ (by omega) (by omega) ?_
  rw [show (if 0 < -b then -b else 0) = frm b by unfold frm; split <;> split <;> omega]
  refine v_istoren dX6_fitsBy_6 (Nat.le_of_ble_eq_true rfl) ?_
  refine v_aloadn dX6_fitsBy_7 rfl ?_
  refine v_get dX6_fitsBy_8 gf_X6_54 (hX.2.1 0 0 (by decide)) rfl ?_
  refine v_aloadn dX6_fitsBy_11 rfl ?_
  refine v_get dX6_fitsBy_12 gf_X6_54 (hX.2.1 0 0 (by decide)) rfl ?_
  refine v_iloadn dX6_fitsBy_15 rfl ?_
  refine v_isub dX6_fitsBy_16 ?_
  refine v_min dX6_fitsBy_17 lc_X6_224 (Nat.le_of_ble_eq_true rfl) (Nat.le_of_ble_eq_true rfl) ⟨(Nat.le_of_ble_eq_true rfl), (Nat.le_of_ble_eq_true rfl)⟩ (by omega) (by omega) ?_
  rw [show (if si 0 0 9 - b < si 0 0 9 then si 0 0 9 - b else si 0 0 9) = upt (si 0 0 9) b by unfold upt; split <;> split <;> omega]
  refine v_istore dX6_fitsBy_20 (Nat.le_of_ble_eq_true rfl) ?_
  refine v_iloadn dX6_fitsBy_22 rfl ?_
  refine v_iload dX6_fitsBy_23 rfl ?_
  refine v_icmp_lt 30 dX6_fitsBy_25 (by decide) (by omega) (by omega) (fun h25 => ?_) (fun h25 => ?_)
  · refine v_iconst dX6_fitsBy_30 ?_
    refine v_istore dX6_fitsBy_31 (Nat.le_of_ble_eq_true rfl) ?_
    refine wV.locs (lv' := [(0, .ref (fw 0 0)), (1, .int (gI a)), (2, .int (gI b)), (3, .int (gI (frm b))), (4, .int (gI (upt (si 0 0 9) b))), (5, .int (gI (0)))]) ⟨rfl, rfl, rfl, rfl, rfl, rfl, trivial⟩ (fX6_fitsBy_loop hsO hX.2.2 ha hb hf hu (by omega) 20 _ _ _ (by omega) (by omega) hX hO hK (by omega) (fun o ho => by omega))
  · refine v_iconst dX6_fitsBy_28 ?_
    exact v_zret dX6_fitsBy_29 rfl ⟨(Nat.le_of_ble_eq_true rfl), (Nat.le_of_ble_eq_true rfl)⟩ (by omega) ⟨si, hX, hO, hK, Or.inr ⟨rfl, fun z => absurd z.1 (by omega)⟩⟩
theorem ftP_k {s s' : sG} (h : sOK s) (hI : invX s) (k : keepX s s') {g b : Int} : ftP (fun o k t => dX s' (o : Int) k t) (fun o => s' 3 0 o) (s' 0 0 9) g b ↔ ftP (fun o k t => dX s (o : Int) k t) (fun o => s 3 0 o) (s 0 0 9) g b := by
  unfold ftP
  rw [k 0 0 (by unfold scrX; omega), k 3 0 (by unfold scrX; omega)]
  exact and_congr Iff.rfl ⟨fun z o o1 o2 t t1 t2 y => z o o1 o2 t t1 t2 ((dX_k h hI k (by omega)).mpr y), fun z o o1 o2 t t1 t2 y => z o o1 o2 t t1 t2 ((dX_k h hI k (by omega)).mp y)⟩
set_option maxHeartbeats 4000000 in
set_option maxRecDepth 100000 in
theorem fX6_fit_loop {sz : Nat} {M0 : wM} {G : gG} {fw : Nat → Nat → Nat} {si : sG} {Mi : wM} (hsO : sOK si) (hIi : invX si) {a : Int} (ha : bt 0 a 3) (hH : ∃ o : Nat, o < 12 ∧ si 3 0 o = a) : ∀ (k : Nat) (s : sG) (M : wM) (i : Int), 0 ≤ 52 - i → 52 - i < (k : Int) → (wX G fw s M) → (wO cntX fw Mi M) → (keepX si s) → (bt 0 i 51) → (∀ y, 0 ≤ y → y < i → ¬ (fun k => ftP (fun o k t => dX si (o : Int) k t) (fun o => si 3 0 o) (si 0 0 9) a k) (-y) ∧ ¬ (fun k => ftP (fun o k t => dX si (o : Int) k t) (fun o => si 3 0 o) (si 0 0 9) a k) y) → wV G qX6_fit 0 0 sz M0 0 0 27 [(0, .ref (fw 0 0)), (1, .int (gI a)), (2, .int (gI i))] [] M (PX G fw Mi (fun x s' => keepX si s' ∧ ((¬ bt 0 a 3 ∧ x = -1001) ∨ (bt 0 a 3 ∧ ((¬ (∃ o : Nat, o < 12 ∧ si 3 0 o = a) ∧ x = -1002) ∨ ((∃ o : Nat, o < 12 ∧ si 3 0 o = a) ∧ frP (fun k => ftP (fun o k t => dX si (o : Int) k t) (fun o => si 3 0 o) (si 0 0 9) a k) x)))))) := by
  intro k
  induction k with
  | zero =>
    intros
    omega
  | succ k ih =>
    intro s M i hmz hml hX hO hK h1 h2
    have h0 := hX.2.2.1
    have hnm := hX.2.2.2.1
    have hsh := hX.2.2.2.2.1
    have h8 := hX.2.2.2.2.2.1
    have hsOs : sOK s := sOK_k hsO hK
    have p0 : s 0 0 = si 0 0 := hK 0 0 (by unfold scrX; omega)
    have p9 : s 0 0 9 = si 0 0 9 := by rw [p0]
    have p3 : s 3 0 = si 3 0 := hK 3 0 (by unfold scrX; omega)
    have p4 : s 4 0 = si 4 0 := hK 4 0 (by unfold scrX; omega)
    refine v_iloadn dX6_fit_27 rfl ?_
    refine v_bipush dX6_fit_28 (by decide) ?_
    refine v_icmp_gt 63 dX6_fit_30 (by decide) (by omega) (by omega) (fun h30 => ?_) (fun h30 => ?_)
    · refine v_sipush dX6_fit_63 (by decide) ?_
      exact v_iret dX6_fit_66 rfl ⟨(Nat.le_of_ble_eq_true rfl), (Nat.le_of_ble_eq_true rfl)⟩ (by omega) ⟨_, hX, hO, hK, Or.inr ⟨ha, Or.inr ⟨hH, Or.inr ⟨fun y y1 y2 => h2 y y1 (by omega), rfl⟩⟩⟩⟩
    · refine v_aloadn dX6_fit_33 rfl ?_
      refine v_iloadn dX6_fit_34 rfl ?_
      refine v_iloadn dX6_fit_35 rfl ?_
      refine v_ineg dX6_fit_36 ?_
      refine v_callV (fX6_fitsBy hsOs hX (by omega) (by omega)) lc_X6_216 ⟨(Nat.le_of_ble_eq_true rfl), (Nat.le_of_ble_eq_true rfl)⟩ dX6_fit_37 rfl rfl (Nat.le_of_ble_eq_true rfl) ⟨(Nat.le_of_ble_eq_true rfl), (Nat.le_of_ble_eq_true rfl)⟩ ⟨_, _, _, _, (hX.2.1 0 0 (by decide)), rfl⟩ (kI fun r37 M37 hr37 hp37 => ?_)
      obtain ⟨s37, hX, hO37, hK37, hz37⟩ := hp37
      rw [ftP_k hsO hIi hK] at hz37
      have hO := hO.tr hO37
      have hK := hK.tr hK37
      have hsOs : sOK s37 := sOK_k hsO hK
      have h0 := hX.2.2.1
      have hnm := hX.2.2.2.1
      have hsh := hX.2.2.2.2.1
      have h8 := hX.2.2.2.2.2.1
      refine v_if_eq 46 dX6_fit_40 (by decide) (by omega) (fun h40 => ?_) (fun h40 => ?_)
      · refine v_aloadn dX6_fit_46 rfl ?_
        refine v_iloadn dX6_fit_47 rfl ?_
        refine v_iloadn dX6_fit_48 rfl ?_
        refine v_callV (fX6_fitsBy hsOs hX (by omega) (by omega)) lc_X6_216 ⟨(Nat.le_of_ble_eq_true rfl), (Nat.le_of_ble_eq_true rfl)⟩ dX6_fit_49 rfl rfl (Nat.le_of_ble_eq_true rfl) ⟨(Nat.le_of_ble_eq_true rfl), (Nat.le_of_ble_eq_true rfl)⟩ ⟨_, _, _, _, (hX.2.1 0 0 (by decide)), rfl⟩ (kI fun r49 M49 hr49 hp49 => ?_)
        obtain ⟨s49, hX, hO49, hK49, hz49⟩ := hp49
        rw [ftP_k hsO hIi hK] at hz49
        have hO := hO.tr hO49
        have hK := hK.tr hK49
        have hsOs : sOK s49 := sOK_k hsO hK
        have h0 := hX.2.2.1
        have hnm := hX.2.2.2.1
        have hsh := hX.2.2.2.2.1
        have h8 := hX.2.2.2.2.2.1
        refine v_if_eq 57 dX6_fit_52 (by decide) (by omega) (fun h52 => ?_) (fun h52 => ?_)
        · refine v_iinc dX6_fit_57 rfl (Nat.le_of_ble_eq_true rfl) ?_
          refine v_goto 27 dX6_fit_60 (by decide) ?_
          refine wV.locs (lv' := [(0, .ref (fw 0 0)), (1, .int (gI a)), (2, .int (gI _))]) ⟨rfl, rfl, rfl, trivial⟩ (ih _ _ _ (by omega) (by omega) hX hO hK (by omega) (fun y y1 y2 => (show y < i ∨ y = i by omega).elim (fun c => h2 y y1 c) (fun c => by rw [c]; exact ⟨hz37.elim (fun z => absurd z.1 (by omega)) (fun z => z.2), hz49.elim (fun z => absurd z.1 (by omega)) (fun z => z.2)⟩)))
        · refine v_iloadn dX6_fit_55 rfl ?_
          exact v_iret dX6_fit_56 rfl ⟨(Nat.le_of_ble_eq_true rfl), (Nat.le_of_ble_eq_true rfl)⟩ (by clear hz37; omega) ⟨_, hX, hO, hK, Or.inr ⟨ha, Or.inr ⟨hH, Or.inl ⟨i, by clear hz37 hz49; omega, h2, Or.inr ⟨hz37.elim (fun z => absurd z.1 (by omega)) (fun z => z.2), hz49.elim (fun z => z.2) (fun z => absurd z.1 (by omega)), rfl⟩⟩⟩⟩⟩
      · refine v_iloadn dX6_fit_43 rfl ?_
        refine v_ineg dX6_fit_44 ?_
        exact v_iret dX6_fit_45 rfl ⟨(Nat.le_of_ble_eq_true rfl), (Nat.le_of_ble_eq_true rfl)⟩ (by clear hz37; omega) ⟨_, hX, hO, hK, Or.inr ⟨ha, Or.inr ⟨hH, Or.inl ⟨i, by clear hz37; omega, h2, Or.inl ⟨hz37.elim (fun z => z.2) (fun z => absurd z.1 (by omega)), rfl⟩⟩⟩⟩⟩
set_option maxHeartbeats 4000000 in
set_option maxRecDepth 100000 in
theorem fX6_fit {G : gG} {fw : Nat → Nat → Nat} {si : sG} {Mi : wM} (hsO : sOK si) (hX : wX G fw si Mi) {a : Int} (ha : rng a) : wT G qX6_fit 0 0 [.ref (fw 0 0), .int (gI a)] Mi (PX G fw Mi (fun x s' => keepX si s' ∧ ((¬ bt 0 a 3 ∧ x = -1001) ∨ (bt 0 a 3 ∧ ((¬ (∃ o : Nat, o < 12 ∧ si 3 0 o = a) ∧ x = -1002) ∨ ((∃ o : Nat, o < 12 ∧ si 3 0 o = a) ∧ frP (fun k => ftP (fun o k t => dX si (o : Int) k t) (fun o => si 3 0 o) (si 0 0 9) a k) x)))))) := by
  refine wT.intro (by decide) (Nat.le_of_ble_eq_true rfl) (fun sz => ?_)
  have hO : wO cntX fw Mi Mi := wO.rf
  have hK : keepX si si := keepX.rf
  refine v_iloadn dX6_fit_0 rfl ?_
  refine v_iconst dX6_fit_1 ?_
  refine v_iconst dX6_fit_2 ?_
  refine v_callS (tX6_outside (by omega) (by omega) (by omega)) lc_X6_69 ⟨(Nat.le_of_ble_eq_true rfl), (Nat.le_of_ble_eq_true rfl)⟩ dX6_fit_3 rfl rfl (Nat.le_of_ble_eq_true rfl) ⟨(Nat.le_of_ble_eq_true rfl), (Nat.le_of_ble_eq_true rfl)⟩ (kP fun r3 hr3 hp3 => ?_)
  refine v_if_eq 13 dX6_fit_6 (by decide) (by omega) (fun h6 => ?_) (fun h6 => ?_)
  · refine v_aloadn dX6_fit_13 rfl ?_
    refine v_iloadn dX6_fit_14 rfl ?_
    refine v_callV (fX6_hasSignals hX (by omega)) lc_X6_213 ⟨(Nat.le_of_ble_eq_true rfl), (Nat.le_of_ble_eq_true rfl)⟩ dX6_fit_15 rfl rfl (Nat.le_of_ble_eq_true rfl) ⟨(Nat.le_of_ble_eq_true rfl), (Nat.le_of_ble_eq_true rfl)⟩ ⟨_, _, _, _, (hX.2.1 0 0 (by decide)), rfl⟩ (kP fun r15 hr15 hp15 => ?_)
    refine v_if_ne 25 dX6_fit_18 (by decide) (by omega) (fun h18 => ?_) (fun h18 => ?_)
    · refine v_iconst dX6_fit_25 ?_
      refine v_istoren dX6_fit_26 (Nat.le_of_ble_eq_true rfl) ?_
      refine wV.locs (lv' := [(0, .ref (fw 0 0)), (1, .int (gI a)), (2, .int (gI (0)))]) ⟨rfl, rfl, rfl, trivial⟩ (fX6_fit_loop hsO hX.2.2 (by clear hp15; omega) (hp15.elim (fun z => z.2) (fun z => absurd z.1 (by omega))) 60 _ _ _ (by omega) (by omega) hX hO hK (by omega) (fun y y1 y2 => by omega))
    · refine v_sipush dX6_fit_21 (by decide) ?_
      exact v_iret dX6_fit_24 rfl ⟨(Nat.le_of_ble_eq_true rfl), (Nat.le_of_ble_eq_true rfl)⟩ (by omega) ⟨si, hX, hO, hK, Or.inr ⟨by clear hp15; omega, Or.inl ⟨hp15.elim (fun z => absurd z.1 (by omega)) (fun z => z.2), rfl⟩⟩⟩
  · refine v_sipush dX6_fit_9 (by decide) ?_
    exact v_iret dX6_fit_12 rfl ⟨(Nat.le_of_ble_eq_true rfl), (Nat.le_of_ble_eq_true rfl)⟩ (by omega) ⟨si, hX, hO, hK, Or.inl ⟨by omega, rfl⟩⟩
