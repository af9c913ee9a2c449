set_option maxHeartbeats 4000000 in
set_option maxRecDepth 100000 in
theorem fX3_wantValue {G : gG} {fw : Nat → Nat → Nat} {s : sG} {M : wM} (hX : wX G fw s M) {i j : Nat} (hi : i < 11) (hj : j < 45) {v : Int} (hv : bt 0 v 256) : wT G qX3_wantValue 0 0 [.ref (fw 16 i), .ref (fw 10 j), .int (gI v)] M (vP fun M' => ∃ s', wX G fw s' M' ∧ wO cntX fw M M' ∧ s' = wvS s i j v 1) := by
  refine wT.intro (by decide) (Nat.le_of_ble_eq_true rfl) (fun sz => ?_)
  refine v_aloadn dX3_wantValue_0 rfl ?_
  refine v_get dX3_wantValue_1 gf_X3_12 (hX.2.1 16 i hi) rfl ?_
  refine v_callV (tX4_clear hX (i := 34 + i) (by omega)) lc_X3_35 ⟨(Nat.le_of_ble_eq_true rfl), (Nat.le_of_ble_eq_true rfl)⟩ dX3_wantValue_4 rfl rfl (Nat.le_of_ble_eq_true rfl) ⟨(Nat.le_of_ble_eq_true rfl), (Nat.le_of_ble_eq_true rfl)⟩ ⟨_, _, _, _, hX.2.1 10 (34 + i) (by simp [cntX]; omega), rfl⟩ (kV fun M4 hp4 => ?_)
  obtain ⟨sa, hXa, hOa, hsa⟩ := hp4
  have ea : sa 10 (34 + i) 2 = 0 := by rw [hsa, ups_at]; rfl
  refine v_aloadn dX3_wantValue_7 rfl ?_
  refine v_get dX3_wantValue_8 gf_X3_12 (hXa.2.1 16 i hi) rfl ?_
  refine v_iconst dX3_wantValue_11 ?_
  refine v_iloadn dX3_wantValue_12 rfl ?_
  refine v_callV (tX4_put hXa (i := 34 + i) (by omega) (by omega) (by omega)) lc_X3_38 ⟨(Nat.le_of_ble_eq_true rfl), (Nat.le_of_ble_eq_true rfl)⟩ dX3_wantValue_13 rfl rfl (Nat.le_of_ble_eq_true rfl) ⟨(Nat.le_of_ble_eq_true rfl), (Nat.le_of_ble_eq_true rfl)⟩ ⟨_, _, _, _, hXa.2.1 10 (34 + i) (by simp [cntX]; omega), rfl⟩ (kV fun M13 hp13 => ?_)
  obtain ⟨sb, hXb, hOb, hsb⟩ := hp13
  obtain ⟨hJ, hH, hI⟩ := id hXb
  have hO : wO cntX fw M M13 := hOa.tr hOb
  have hsb : sb = putS sa (34 + i) 0 v := hsb.elim (fun h => h.2) (fun h => absurd h.1 (by omega))
  refine v_aloadn dX3_wantValue_16 rfl ?_
  refine v_aloadn dX3_wantValue_17 rfl ?_
  refine v_put dX3_wantValue_18 pf_X3_18 (hH 16 i hi) rfl rfl (Nat.le_of_ble_eq_true rfl) ?_
  generalize hMe18 : wup _ _ _ = M18
  have hO : wO cntX fw M M18 := by rw [← hMe18]; exact hO.up (k := 16) (i := i) hi
  obtain ⟨s18, hs18⟩ : ∃ z, z = ups sb 16 i (1) ((j : Int)) := ⟨_, rfl⟩
  have hH : wH cntX (cellX G fw) fw s18 M18 := by rw [← hMe18, hs18]; exact wH.up hJ hH (k := 16) (i := i) (1) ((j : Int)) hi rfl
  refine v_aloadn dX3_wantValue_21 rfl ?_
  refine v_aloadn dX3_wantValue_22 rfl ?_
  refine v_get dX3_wantValue_23 gf_X3_12 (hH 16 i hi) rfl ?_
  refine v_put dX3_wantValue_26 pf_X3_21 (hH 16 i hi) rfl rfl (Nat.le_of_ble_eq_true rfl) ?_
  generalize hMe26 : wup _ _ _ = M26
  have hO : wO cntX fw M M26 := by rw [← hMe26]; exact hO.up (k := 16) (i := i) hi
  obtain ⟨s26, hs26⟩ : ∃ z, z = ups s18 16 i (2) (((34 + i : Nat) : Int)) := ⟨_, rfl⟩
  have hH : wH cntX (cellX G fw) fw s26 M26 := by rw [← hMe26, hs26]; exact wH.up hJ hH (k := 16) (i := i) (2) (((34 + i : Nat) : Int)) hi rfl
  refine v_aloadn dX3_wantValue_29 rfl ?_
  refine v_iconst dX3_wantValue_30 ?_
  refine v_put dX3_wantValue_31 pf_X3_24 (hH 16 i hi) rfl rfl (Nat.le_of_ble_eq_true rfl) ?_
  generalize hMe31 : wup _ _ _ = M31
  have hO : wO cntX fw M M31 := by rw [← hMe31]; exact hO.up (k := 16) (i := i) hi
  obtain ⟨s31, hs31⟩ : ∃ z, z = ups s26 16 i (3) (0) := ⟨_, rfl⟩
  have hH : wH cntX (cellX G fw) fw s31 M31 := by rw [← hMe31, hs31]; exact wH.up hJ hH (k := 16) (i := i) (3) (0) hi rfl
  refine v_aloadn dX3_wantValue_34 rfl ?_
  refine v_iconst dX3_wantValue_35 ?_
  refine v_put dX3_wantValue_36 pf_X3_28 (hH 16 i hi) rfl rfl (Nat.le_of_ble_eq_true rfl) ?_
  generalize hMe36 : wup _ _ _ = M36
  have hO : wO cntX fw M M36 := by rw [← hMe36]; exact hO.up (k := 16) (i := i) hi
  obtain ⟨s36, hs36⟩ : ∃ z, z = ups s31 16 i (4) (0) := ⟨_, rfl⟩
  have hH : wH cntX (cellX G fw) fw s36 M36 := by rw [← hMe36, hs36]; exact wH.up hJ hH (k := 16) (i := i) (4) (0) hi rfl
  refine v_aloadn dX3_wantValue_39 rfl ?_
  refine v_iconst dX3_wantValue_40 ?_
  refine v_put dX3_wantValue_41 pf_X3_32 (hH 16 i hi) rfl rfl (Nat.le_of_ble_eq_true rfl) ?_
  generalize hMe41 : wup _ _ _ = M41
  have hO : wO cntX fw M M41 := by rw [← hMe41]; exact hO.up (k := 16) (i := i) hi
  obtain ⟨s41, hs41⟩ : ∃ z, z = ups s36 16 i (5) (1) := ⟨_, rfl⟩
  have hH : wH cntX (cellX G fw) fw s41 M41 := by rw [← hMe41, hs41]; exact wH.up hJ hH (k := 16) (i := i) (5) (1) hi rfl
  exact v_vret dX3_wantValue_44 rfl ⟨(Nat.le_of_ble_eq_true rfl), (Nat.le_of_ble_eq_true rfl)⟩ ⟨s41, ⟨hJ, hH, invX_pair hI i (fun k i' hq => by rw [hs41, hs36, hs31, hs26, hs18]; simp only [ups]; rw [if_neg hq, if_neg hq, if_neg hq, if_neg hq, if_neg hq]) (by rw [hs41, hs36, hs31, hs26, hs18]; simp [ups_at, upz] <;> omega)⟩, hO, by rw [hs41, hs36, hs31, hs26, hs18, hsb, hsa]; rfl⟩
set_option maxHeartbeats 4000000 in
set_option maxRecDepth 100000 in
theorem fX3_wantValueNot {G : gG} {fw : Nat → Nat → Nat} {s : sG} {M : wM} (hX : wX G fw s M) {i j : Nat} (hi : i < 11) (hj : j < 45) {v : Int} (hv : bt 0 v 256) : wT G qX3_wantValueNot 0 0 [.ref (fw 16 i), .ref (fw 10 j), .int (gI v)] M (vP fun M' => ∃ s', wX G fw s' M' ∧ wO cntX fw M M' ∧ s' = wvS s i j v 0) := by
  refine wT.intro (by decide) (Nat.le_of_ble_eq_true rfl) (fun sz => ?_)
  refine v_aloadn dX3_wantValueNot_0 rfl ?_
  refine v_aloadn dX3_wantValueNot_1 rfl ?_
  refine v_iloadn dX3_wantValueNot_2 rfl ?_
  refine v_callV (fX3_wantValue hX hi hj hv) lc_X3_42 ⟨(Nat.le_of_ble_eq_true rfl), (Nat.le_of_ble_eq_true rfl)⟩ dX3_wantValueNot_3 rfl rfl (Nat.le_of_ble_eq_true rfl) ⟨(Nat.le_of_ble_eq_true rfl), (Nat.le_of_ble_eq_true rfl)⟩ ⟨_, _, _, _, hX.2.1 16 i hi, rfl⟩ (kV fun M3 hp3 => ?_)
  obtain ⟨sa, hXa, hOa, hsa⟩ := hp3
  obtain ⟨hJ, hH, hI⟩ := id hXa
  have hO : wO cntX fw M M3 := hOa
  refine v_aloadn dX3_wantValueNot_6 rfl ?_
  refine v_iconst dX3_wantValueNot_7 ?_
  refine v_put dX3_wantValueNot_8 pf_X3_32 (hH 16 i hi) rfl rfl (Nat.le_of_ble_eq_true rfl) ?_
  generalize hMe8 : wup _ _ _ = M8
  have hO : wO cntX fw M M8 := by rw [← hMe8]; exact hO.up (k := 16) (i := i) hi
  obtain ⟨s8, hs8⟩ : ∃ z, z = ups sa 16 i (5) (0) := ⟨_, rfl⟩
  have hH : wH cntX (cellX G fw) fw s8 M8 := by rw [← hMe8, hs8]; exact wH.up hJ hH (k := 16) (i := i) (5) (0) hi rfl
  exact v_vret dX3_wantValueNot_11 rfl ⟨(Nat.le_of_ble_eq_true rfl), (Nat.le_of_ble_eq_true rfl)⟩ ⟨s8, ⟨hJ, hH, invX_pair hI i (fun k i' hq => by rw [hs8]; simp only [ups]; rw [if_neg hq]) (by have := hI.2.2.2.2.2.2.2.2 i hi; rw [hs8]; simp [ups_at, upz] <;> omega)⟩, hO, by rw [hs8, hsa, wvS_q]⟩
theorem keepX_wv {s : sG} {i : Nat} {j v q : Int} : keepX s (wvS s i j v q) := fun k i' hq => by unfold scrX at hq; exact wvS_o _ _ _ _ (by omega) (by omega)
theorem keepX_un {s : sG} {i : Nat} {l r a b : Int} : keepX s (unS s i l r a b) := fun k i' hq => by unfold scrX at hq; exact unS_o _ _ _ _ _ (by omega)
theorem keepX_8 {s : sG} {j : Nat} {v : Int} : keepX s (ups s 8 0 j v) := fun k i' hq => by unfold scrX at hq; rw [ups_kf _ (by omega)]
theorem keepX.v {s s' : sG} (h : keepX s s') {r : Nat} (hr : r < 34) (t : Int) : vX s' r t = vX s r t := vX_k (h 10 r (by unfold scrX; omega)) (h 11 r (by unfold scrX; omega)) (h 12 r (by unfold scrX; omega)) t
theorem keepX.s {s s' : sG} (h : keepX s s') {r : Nat} (hr : r < 34) (q : srt (s 10 r 2) (s 11 r)) : srt (s' 10 r 2) (s' 11 r) := by rw [h 10 r (by unfold scrX; omega), h 11 r (by unfold scrX; omega)]; exact q
theorem take_j {s : sG} {j : Nat} (h : (j : Int) = if 10 < s 8 0 1 then 10 else s 8 0 1) (h2 : s 8 0 1 ≤ 10) : (j : Int) = s 8 0 1 := by rw [h, if_neg (by omega)]
set_option maxHeartbeats 4000000 in
set_option maxRecDepth 100000 in
theorem fX6_seek_loop {sz : Nat} {M0 : wM} {G : gG} {fw : Nat → Nat → Nat} {si : sG} {Mi : wM} (hsM : srM si) {a b : Int} (ha : bt 0 a 11) : ∀ (k : Nat) (s : sG) (M : wM) (i : Int), 0 ≤ 11 - i → 11 - i < (k : Int) → (wX G fw s M) → (wO cntX fw Mi M) → (keepX si s) → (bt 0 i 10 ∧ i ≤ si 0 0 8 ∧ bt 1 (s 8 0 1) (i + 1)) → (SD s (fun t => agF (vX si a.toNat t) (vX si (12 + si 2 0 a.toNat).toNat (t + b)) (si 0 0 10) = 0 ∧ ∀ k : Nat, (k : Int) < i → si 13 k 1 = a → vX si (si 13 k 2).toNat t ≠ si 13 k 3)) → wV G qX6_seekDifferences 0 0 sz M0 0 0 36 [(0, .ref (fw 0 0)), (1, .int (gI a)), (2, .int (gI b)), (3, .int (gI i))] [] M (vP fun M' => ∃ s', wX G fw s' M' ∧ wO cntX fw Mi M' ∧ keepX si s' ∧ SD s' (dX si a b)) := by
  intro k
  induction k with
  | zero =>
    intros
    omega
  | succ k ih =>
    intro s M i hmz hml hX hO hK h1 h3
    have h0 := hX.2.2.1
    have hnm := hX.2.2.2.1
    have hsh := hX.2.2.2.2.1
    have h8 := hX.2.2.2.2.2.1
    have e0 : s 0 0 = si 0 0 := hK 0 0 (by unfold scrX; omega)
    have e8 : s 0 0 8 = si 0 0 8 := by rw [e0]
    have hKo := hK
    refine v_iloadn dX6_seekDifferences_36 rfl ?_
    refine v_aloadn dX6_seekDifferences_37 rfl ?_
    refine v_get dX6_seekDifferences_38 gf_X6_50 (hX.2.1 0 0 (by decide)) rfl ?_
    refine v_icmp_ge 87 dX6_seekDifferences_41 (by decide) (by omega) (by omega) (fun h41 => ?_) (fun h41 => ?_)
    · exact v_vret dX6_seekDifferences_87 rfl ⟨(Nat.le_of_ble_eq_true rfl), (Nat.le_of_ble_eq_true rfl)⟩ ⟨s, hX, hO, hK, h3.iff (fun t ht => and_congr Iff.rfl ⟨fun z k hk => z k (by omega), fun z k hk => z k (by omega)⟩)⟩
    · refine v_aloadn dX6_seekDifferences_44 rfl ?_
      refine v_get dX6_seekDifferences_45 gf_X6_27 (hX.2.1 0 0 (by decide)) rfl ?_
      refine v_iloadn dX6_seekDifferences_48 rfl ?_
      refine v_aald2 (Cn := "WavePairs$Mask") dX6_seekDifferences_49 (hX.2.1 5 0 (by decide)) (by simp) (by omega) (by omega) (by decide) ?_
      have hmk := hX.2.2.2.2.2.2.2.1 i.toNat (by omega)
      have e13 : s 13 i.toNat = si 13 i.toNat := hK 13 i.toNat (by unfold scrX; omega)
      have e131 : s 13 i.toNat 1 = si 13 i.toNat 1 := by rw [e13]
      refine v_astore dX6_seekDifferences_50 (Nat.le_of_ble_eq_true rfl) ?_
      refine v_aload dX6_seekDifferences_52 rfl ?_
      refine v_getN dX6_seekDifferences_54 gf_X6_163 (hX.2.1 13 _ (by simp [cntX]; omega)) rfl ?_
      refine v_iloadn dX6_seekDifferences_57 rfl ?_
      refine v_icmp_ne 81 dX6_seekDifferences_58 (by decide) (by omega) (by omega) (fun h58 => ?_) (fun h58 => ?_)
      · refine v_iinc dX6_seekDifferences_81 rfl (Nat.le_of_ble_eq_true rfl) ?_
        refine v_goto 36 dX6_seekDifferences_84 (by decide) ?_
        refine wV.locs (lv' := [(0, .ref (fw 0 0)), (1, .int (gI a)), (2, .int (gI b)), (3, .int (gI _))]) ⟨rfl, rfl, rfl, rfl, trivial⟩ (ih _ _ _ (by omega) (by omega) hX hO hK (by omega) (by first | exact (h3.iff (fun t ht => and_congr Iff.rfl ⟨fun z k hk => (show (k : Int) < i ∨ k = i.toNat by omega).elim (fun c => z k c) (fun c e => absurd e (by rw [c]; omega)), fun z k hk => z k (by omega)⟩)) | exact (hSD.iff (fun t ht => by
                    rw [hKo.v (hsM i.toNat (by omega)).1]
                    exact ⟨fun z => ⟨z.1.1, fun k hk => (show (k : Int) < i ∨ k = i.toNat by omega).elim (fun c => z.1.2 k c) (fun c e y => absurd (z.2.mp (c ▸ y)) (by decide))⟩, fun z => ⟨⟨z.1, fun k hk => z.2 k (by omega)⟩, fun y => absurd y (z.2 i.toNat (by omega) (by omega)), fun y => absurd y (by decide)⟩⟩))))
      · refine v_aloadn dX6_seekDifferences_61 rfl ?_
        refine v_get dX6_seekDifferences_62 gf_X6_46 (hX.2.1 0 0 (by decide)) rfl ?_
        refine v_callV (tX5_take hX) lc_X6_150 ⟨(Nat.le_of_ble_eq_true rfl), (Nat.le_of_ble_eq_true rfl)⟩ dX6_seekDifferences_65 rfl rfl (Nat.le_of_ble_eq_true rfl) ⟨(Nat.le_of_ble_eq_true rfl), (Nat.le_of_ble_eq_true rfl)⟩ ⟨_, _, _, _, hX.2.1 8 0 (by decide), rfl⟩ (kR fun r65 M65 hp65 => ?_)
        obtain ⟨s65, j65, hj65, rfl, hX, hO65, hjv, hs65⟩ := hp65
        have hO := hO.tr hO65
        have hjv := take_j hjv (by omega)
        have hK65 : keepX si s65 := hK.tr (by rw [hs65]; exact keepX_8)
        have h0 := hX.2.2.1
        have hnm := hX.2.2.2.1
        have hsh := hX.2.2.2.2.1
        have h8 := hX.2.2.2.2.2.1
        have hmk := hX.2.2.2.2.2.2.2.1 i.toNat (by omega)
        have f13 : s65 13 i.toNat = si 13 i.toNat := hK65 13 i.toNat (by unfold scrX; omega)
        refine v_aload dX6_seekDifferences_68 rfl ?_
        refine v_getN dX6_seekDifferences_70 gf_X6_166 (hX.2.1 13 _ (by simp [cntX]; omega)) rfl ?_
        refine v_aload dX6_seekDifferences_73 rfl ?_
        refine v_getN dX6_seekDifferences_75 gf_X6_170 (hX.2.1 13 _ (by simp [cntX]; omega)) rfl ?_
        refine v_callV (fX3_wantValueNot hX (by omega) (by omega) (by omega)) lc_X6_173 ⟨(Nat.le_of_ble_eq_true rfl), (Nat.le_of_ble_eq_true rfl)⟩ dX6_seekDifferences_78 rfl rfl (Nat.le_of_ble_eq_true rfl) ⟨(Nat.le_of_ble_eq_true rfl), (Nat.le_of_ble_eq_true rfl)⟩ ⟨_, _, _, _, hX.2.1 16 _ (by simp [cntX]; omega), rfl⟩ (kV fun M78 hp78 => ?_)
        obtain ⟨s78, hX, hO78, hs78⟩ := hp78
        have hO := hO.tr hO78
        have hSD := SD_val (m := j65) (j := (si 13 i.toNat 2).toNat) (v := si 13 i.toNat 3) (q := 0) h3 hjv (hsM i.toNat (by omega)).1 (hK.s (hsM i.toNat (by omega)).1 (hsM i.toNat (by omega)).2) (by omega)
        rw [f13, hs65] at hs78
        rw [← hs78] at hSD
        have e78 : s78 8 0 1 = s 8 0 1 + 1 := by rw [hs78, wvS_o _ _ _ _ (by omega) (by omega), ups_at, ← hjv]; rfl
        have hK : keepX si s78 := hK.tr (by rw [hs78]; exact keepX_8.tr keepX_wv)
        clear hs78 hs65
        have h0 := hX.2.2.1
        have hnm := hX.2.2.2.1
        have hsh := hX.2.2.2.2.1
        have h8 := hX.2.2.2.2.2.1
        refine v_iinc dX6_seekDifferences_81 rfl (Nat.le_of_ble_eq_true rfl) ?_
        refine v_goto 36 dX6_seekDifferences_84 (by decide) ?_
        refine wV.locs (lv' := [(0, .ref (fw 0 0)), (1, .int (gI a)), (2, .int (gI b)), (3, .int (gI _))]) ⟨rfl, rfl, rfl, rfl, trivial⟩ (ih _ _ _ (by omega) (by omega) hX hO hK (by omega) (by first | exact (h3.iff (fun t ht => and_congr Iff.rfl ⟨fun z k hk => (show (k : Int) < i ∨ k = i.toNat by omega).elim (fun c => z k c) (fun c e => absurd e (by rw [c]; omega)), fun z k hk => z k (by omega)⟩)) | exact (hSD.iff (fun t ht => by
                    rw [hKo.v (hsM i.toNat (by omega)).1]
                    exact ⟨fun z => ⟨z.1.1, fun k hk => (show (k : Int) < i ∨ k = i.toNat by omega).elim (fun c => z.1.2 k c) (fun c e y => absurd (z.2.mp (c ▸ y)) (by decide))⟩, fun z => ⟨⟨z.1, fun k hk => z.2 k (by omega)⟩, fun y => absurd y (z.2 i.toNat (by omega) (by omega)), fun y => absurd y (by decide)⟩⟩))))
set_option maxHeartbeats 4000000 in
set_option maxRecDepth 100000 in
theorem fX6_seekDifferences {G : gG} {fw : Nat → Nat → Nat} {si : sG} {Mi : wM} (hsX : srX si) (hsM : srM si) (hX : wX G fw si Mi) {a b : Int} (ha : bt 0 a 11) (hb : bt (-50) b 50) : wT G qX6_seekDifferences 0 0 [.ref (fw 0 0), .int (gI a), .int (gI b)] Mi (vP fun M' => ∃ s', wX G fw s' M' ∧ wO cntX fw Mi M' ∧ keepX si s' ∧ SD s' (dX si a b)) := by
  refine wT.intro (by decide) (Nat.le_of_ble_eq_true rfl) (fun sz => ?_)
  have hO : wO cntX fw Mi Mi := wO.rf
  have hnm0 := hX.2.2.2.1 a.toNat (by omega)
  have h00 := hX.2.2.1
  refine v_aloadn dX6_seekDifferences_0 rfl ?_
  refine v_get dX6_seekDifferences_1 gf_X6_46 (hX.2.1 0 0 (by decide)) rfl ?_
  refine v_callV (tX5_clear hX) lc_X6_147 ⟨(Nat.le_of_ble_eq_true rfl), (Nat.le_of_ble_eq_true rfl)⟩ dX6_seekDifferences_4 rfl rfl (Nat.le_of_ble_eq_true rfl) ⟨(Nat.le_of_ble_eq_true rfl), (Nat.le_of_ble_eq_true rfl)⟩ ⟨_, _, _, _, hX.2.1 8 0 (by decide), rfl⟩ (kV fun M4 hp4 => ?_)
  obtain ⟨s4, hX, hO4, hs4⟩ := hp4
  have hO := hO.tr hO4
  have hSD4 : SD s4 (fun _ => True) := by rw [hs4]; exact SD_clear
  have hK4 : keepX si s4 := by rw [hs4]; exact keepX_8
  have e4 : s4 8 0 1 = 0 := by rw [hs4, ups_at]; rfl
  have h0 := hX.2.2.1
  have hnm := hX.2.2.2.1
  have hsh := hX.2.2.2.2.1
  have h8 := hX.2.2.2.2.2.1
  refine v_aloadn dX6_seekDifferences_7 rfl ?_
  refine v_get dX6_seekDifferences_8 gf_X6_46 (hX.2.1 0 0 (by decide)) rfl ?_
  refine v_callV (tX5_take hX) lc_X6_150 ⟨(Nat.le_of_ble_eq_true rfl), (Nat.le_of_ble_eq_true rfl)⟩ dX6_seekDifferences_11 rfl rfl (Nat.le_of_ble_eq_true rfl) ⟨(Nat.le_of_ble_eq_true rfl), (Nat.le_of_ble_eq_true rfl)⟩ ⟨_, _, _, _, hX.2.1 8 0 (by decide), rfl⟩ (kR fun r11 M11 hp11 => ?_)
  obtain ⟨s11, j11, hj11, rfl, hX, hO11, hjv, hs11⟩ := hp11
  have hO := hO.tr hO11
  have hjv := take_j hjv (by omega)
  have hK11 : keepX si s11 := hK4.tr (by rw [hs11]; exact keepX_8)
  have q2 : s11 2 0 a.toNat = si 2 0 a.toNat := by rw [hK11 2 0 (by unfold scrX; omega)]
  have q0 : s11 0 0 10 = si 0 0 10 := by rw [hK11 0 0 (by unfold scrX; omega)]
  have h0 := hX.2.2.1
  have hnm := hX.2.2.2.1
  have hsh := hX.2.2.2.2.1
  have h8 := hX.2.2.2.2.2.1
  refine v_aloadn dX6_seekDifferences_14 rfl ?_
  refine v_iconst dX6_seekDifferences_15 ?_
  refine v_iloadn dX6_seekDifferences_16 rfl ?_
  refine v_callV (tX6_rowOf hX (by omega) (by omega)) lc_X6_77 ⟨(Nat.le_of_ble_eq_true rfl), (Nat.le_of_ble_eq_true rfl)⟩ dX6_seekDifferences_17 rfl rfl (Nat.le_of_ble_eq_true rfl) ⟨(Nat.le_of_ble_eq_true rfl), (Nat.le_of_ble_eq_true rfl)⟩ ⟨_, _, _, _, (hX.2.1 0 0 (by decide)), rfl⟩ (kRp fun r17 hp17 => ?_)
  subst hp17
  refine v_aloadn dX6_seekDifferences_20 rfl ?_
  refine v_iconst dX6_seekDifferences_21 ?_
  refine v_iloadn dX6_seekDifferences_22 rfl ?_
  refine v_callV (tX6_namedRow hX (by omega) (by omega)) lc_X6_154 ⟨(Nat.le_of_ble_eq_true rfl), (Nat.le_of_ble_eq_true rfl)⟩ dX6_seekDifferences_23 rfl rfl (Nat.le_of_ble_eq_true rfl) ⟨(Nat.le_of_ble_eq_true rfl), (Nat.le_of_ble_eq_true rfl)⟩ ⟨_, _, _, _, (hX.2.1 0 0 (by decide)), rfl⟩ (kRp fun r23 hp23 => ?_)
  subst hp23
  refine v_iloadn dX6_seekDifferences_26 rfl ?_
  refine v_aloadn dX6_seekDifferences_27 rfl ?_
  refine v_get dX6_seekDifferences_28 gf_X6_57 (hX.2.1 0 0 (by decide)) rfl ?_
  refine v_callV (tX3_wantUnlike hX (by omega) (by omega) (nmd_lt hX.2.2 (by omega) (by omega)) (by omega) (by omega)) lc_X6_157 ⟨(Nat.le_of_ble_eq_true rfl), (Nat.le_of_ble_eq_true rfl)⟩ dX6_seekDifferences_31 rfl rfl (Nat.le_of_ble_eq_true rfl) ⟨(Nat.le_of_ble_eq_true rfl), (Nat.le_of_ble_eq_true rfl)⟩ ⟨_, _, _, _, hX.2.1 16 _ (by simp [cntX]; omega), rfl⟩ (kV fun M31 hp31 => ?_)
  obtain ⟨s31, hX, hO31, hs31⟩ := hp31
  have hO := hO.tr hO31
  have hSD := SD_unl (m := j11) (l := (0 * 12 + a).toNat) (r := (if (1 : Int) = 0 then a else 12 + s11 2 0 a.toNat).toNat) (a := b) (b := s11 0 0 10) hSD4 hjv (by omega) (by rw [if_neg (by decide), q2]; omega) (hK4.s (by omega) (hsX _ (by omega))) (by rw [if_neg (by decide), q2]; exact hK4.s (by omega) (hsX _ (by omega)))
  rw [← hs11] at hSD
  have hs31 : s31 = unS s11 j11 _ _ _ _ := hs31
  rw [← hs31] at hSD
  have e31 : s31 8 0 1 = 1 := by rw [hs31, unS_o _ _ _ _ _ (by omega), hs11, ups_at]; show (j11 : Int) + 1 = 1; omega
  have hK : keepX si s31 := hK11.tr (by rw [hs31]; exact keepX_un)
  have hSD : SD s31 (fun t => agF (vX si a.toNat t) (vX si (12 + si 2 0 a.toNat).toNat (t + b)) (si 0 0 10) = 0 ∧ ∀ k : Nat, (k : Int) < (0 : Int) → si 13 k 1 = a → vX si (si 13 k 2).toNat t ≠ si 13 k 3) := hSD.iff (fun t ht => by
    rw [if_neg (by decide), q2, q0, hK4.v (by omega), hK4.v (by omega), show (0 * 12 + a).toNat = a.toNat by omega]
    exact ⟨fun z => ⟨z.2, fun k hk => by omega⟩, fun z => ⟨trivial, z.1⟩⟩)
  clear hs31 hs11
  have h0 := hX.2.2.1
  have hnm := hX.2.2.2.1
  have hsh := hX.2.2.2.2.1
  have h8 := hX.2.2.2.2.2.1
  refine v_iconst dX6_seekDifferences_34 ?_
  refine v_istoren dX6_seekDifferences_35 (Nat.le_of_ble_eq_true rfl) ?_
  refine wV.locs (lv' := [(0, .ref (fw 0 0)), (1, .int (gI a)), (2, .int (gI b)), (3, .int (gI (0)))]) ⟨rfl, rfl, rfl, rfl, trivial⟩ (fX6_seek_loop hsM ha 20 _ _ _ (by omega) (by omega) hX hO hK (by omega) hSD)
