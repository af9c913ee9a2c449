def PY (G : gG) (fw : Nat → Nat → Nat) (M : wM) (R : Int → sG → Prop) : Option Value → wM → Prop := iP fun x M' => ∃ s', wY G fw s' M' ∧ wO cntY fw M M' ∧ R x s'
set_option maxHeartbeats 4000000 in
set_option maxRecDepth 100000 in
theorem tX7_in {G : gG} {M : wM} {a b c : Int} (ha : rng a) (hb : rng b) (hc : rng c) : wT G qX7_in 0 0 [.int (gI a), .int (gI b), .int (gI c)] M (iP fun x M' => M' = M ∧ ((x = 1 ∧ b ≤ a ∧ a ≤ c) ∨ (x = 0 ∧ ¬ (b ≤ a ∧ a ≤ c)))) := by
  refine wT.intro (by decide) (Nat.le_of_ble_eq_true rfl) (fun sz => ?_)
  refine v_iloadn dX7_in_0 rfl ?_
  refine v_iloadn dX7_in_1 rfl ?_
  refine v_icmp_lt 14 dX7_in_2 (by decide) (by omega) (by omega) (fun h2 => ?_) (fun h2 => ?_)
  · refine v_iconst dX7_in_14 ?_
    exact v_zret dX7_in_15 rfl ⟨(Nat.le_of_ble_eq_true rfl), (Nat.le_of_ble_eq_true rfl)⟩ (by omega) ⟨rfl, by omega⟩
  · refine v_iloadn dX7_in_5 rfl ?_
    refine v_iloadn dX7_in_6 rfl ?_
    refine v_icmp_gt 14 dX7_in_7 (by decide) (by omega) (by omega) (fun h7 => ?_) (fun h7 => ?_)
    · refine v_iconst dX7_in_14 ?_
      exact v_zret dX7_in_15 rfl ⟨(Nat.le_of_ble_eq_true rfl), (Nat.le_of_ble_eq_true rfl)⟩ (by omega) ⟨rfl, by omega⟩
    · refine v_iconst dX7_in_10 ?_
      refine v_goto 15 dX7_in_11 (by decide) ?_
      exact v_zret dX7_in_15 rfl ⟨(Nat.le_of_ble_eq_true rfl), (Nat.le_of_ble_eq_true rfl)⟩ (by omega) ⟨rfl, by omega⟩
set_option maxHeartbeats 4000000 in
set_option maxRecDepth 100000 in
theorem tX7_isSignal {G : gG} {M : wM} {a : Int} (ha : rng a) : wT G qX7_isSignal 0 0 [.int (gI a)] M (iP fun x M' => M' = M ∧ ((x = 1 ∧ 0 ≤ a ∧ a ≤ 11) ∨ (x = 0 ∧ ¬ (0 ≤ a ∧ a ≤ 11)))) := by
  refine wT.intro (by decide) (Nat.le_of_ble_eq_true rfl) (fun sz => ?_)
  refine v_iloadn dX7_isSignal_0 rfl ?_
  refine v_iconst dX7_isSignal_1 ?_
  refine v_bipush dX7_isSignal_2 (by decide) ?_
  refine v_callS (tX7_in (by omega) (by omega) (by omega)) lc_X7_60 ⟨(Nat.le_of_ble_eq_true rfl), (Nat.le_of_ble_eq_true rfl)⟩ dX7_isSignal_4 rfl rfl (Nat.le_of_ble_eq_true rfl) ⟨(Nat.le_of_ble_eq_true rfl), (Nat.le_of_ble_eq_true rfl)⟩ (kP fun r4 hr4 hp4 => ?_)
  exact v_zret dX7_isSignal_7 rfl ⟨(Nat.le_of_ble_eq_true rfl), (Nat.le_of_ble_eq_true rfl)⟩ (by omega) ⟨rfl, by omega⟩
set_option maxHeartbeats 4000000 in
set_option maxRecDepth 100000 in
theorem tX7_isRow {G : gG} {M : wM} {a b : Int} (ha : rng a) (hb : rng b) : wT G qX7_isRow 0 0 [.int (gI a), .int (gI b)] M (iP fun x M' => M' = M ∧ ((x = 1 ∧ 0 ≤ a ∧ a ≤ 1 ∧ 0 ≤ b ∧ b ≤ 11) ∨ (x = 0 ∧ ¬ (0 ≤ a ∧ a ≤ 1 ∧ 0 ≤ b ∧ b ≤ 11)))) := by
  refine wT.intro (by decide) (Nat.le_of_ble_eq_true rfl) (fun sz => ?_)
  refine v_iloadn dX7_isRow_0 rfl ?_
  refine v_iconst dX7_isRow_1 ?_
  refine v_iconst dX7_isRow_2 ?_
  refine v_callS (tX7_in (by omega) (by omega) (by omega)) lc_X7_60 ⟨(Nat.le_of_ble_eq_true rfl), (Nat.le_of_ble_eq_true rfl)⟩ dX7_isRow_3 rfl rfl (Nat.le_of_ble_eq_true rfl) ⟨(Nat.le_of_ble_eq_true rfl), (Nat.le_of_ble_eq_true rfl)⟩ (kP fun r3 hr3 hp3 => ?_)
  refine v_if_eq 20 dX7_isRow_6 (by decide) (by omega) (fun h6 => ?_) (fun h6 => ?_)
  · refine v_iconst dX7_isRow_20 ?_
    exact v_zret dX7_isRow_21 rfl ⟨(Nat.le_of_ble_eq_true rfl), (Nat.le_of_ble_eq_true rfl)⟩ (by omega) ⟨rfl, by omega⟩
  · refine v_iloadn dX7_isRow_9 rfl ?_
    refine v_callS (tX7_isSignal (by omega)) lc_X7_64 ⟨(Nat.le_of_ble_eq_true rfl), (Nat.le_of_ble_eq_true rfl)⟩ dX7_isRow_10 rfl rfl (Nat.le_of_ble_eq_true rfl) ⟨(Nat.le_of_ble_eq_true rfl), (Nat.le_of_ble_eq_true rfl)⟩ (kP fun r10 hr10 hp10 => ?_)
    refine v_if_eq 20 dX7_isRow_13 (by decide) (by omega) (fun h13 => ?_) (fun h13 => ?_)
    · refine v_iconst dX7_isRow_20 ?_
      exact v_zret dX7_isRow_21 rfl ⟨(Nat.le_of_ble_eq_true rfl), (Nat.le_of_ble_eq_true rfl)⟩ (by omega) ⟨rfl, by omega⟩
    · refine v_iconst dX7_isRow_16 ?_
      refine v_goto 21 dX7_isRow_17 (by decide) ?_
      exact v_zret dX7_isRow_21 rfl ⟨(Nat.le_of_ble_eq_true rfl), (Nat.le_of_ble_eq_true rfl)⟩ (by omega) ⟨rfl, by omega⟩
set_option maxHeartbeats 4000000 in
set_option maxRecDepth 100000 in
theorem tX7_least {G : gG} {M : wM} {a b : Int} (ha : rng a) (hb : rng b) : wT G qX7_least 0 0 [.int (gI a), .int (gI b)] M (iP fun x M' => M' = M ∧ ((x = a ∧ a < b) ∨ (x = b ∧ b ≤ a))) := by
  refine wT.intro (by decide) (Nat.le_of_ble_eq_true rfl) (fun sz => ?_)
  refine v_iloadn dX7_least_0 rfl ?_
  refine v_iloadn dX7_least_1 rfl ?_
  refine v_icmp_ge 9 dX7_least_2 (by decide) (by omega) (by omega) (fun h2 => ?_) (fun h2 => ?_)
  · refine v_iloadn dX7_least_9 rfl ?_
    exact v_iret dX7_least_10 rfl ⟨(Nat.le_of_ble_eq_true rfl), (Nat.le_of_ble_eq_true rfl)⟩ (by omega) ⟨rfl, by omega⟩
  · refine v_iloadn dX7_least_5 rfl ?_
    refine v_goto 10 dX7_least_6 (by decide) ?_
    exact v_iret dX7_least_10 rfl ⟨(Nat.le_of_ble_eq_true rfl), (Nat.le_of_ble_eq_true rfl)⟩ (by omega) ⟨rfl, by omega⟩
def lastY (s : sG) (r : Int) : Int := if s 1 0 r.toNat = 0 then -1 else s 2 0 (50 * r + s 1 0 r.toNat - 1).toNat
set_option maxHeartbeats 4000000 in
set_option maxRecDepth 100000 in
theorem tX7_last {G : gG} {fw : Nat → Nat → Nat} {s : sG} {M : wM} (hY : wY G fw s M) {r : Int} (hr : bt 0 r 23) : wT G qX7_last 0 0 [.ref (fw 0 0), .int (gI r)] M (iP fun x M' => M' = M ∧ (x = lastY s r ∧ bt (-1) x 3999)) := by
  refine wT.intro (by decide) (Nat.le_of_ble_eq_true rfl) (fun sz => ?_)
  have h0 := hY.2.2.1
  have hrw := hY.2.2.2.1
  have hnm := hY.2.2.2.2.1
  have hsh := hY.2.2.2.2.2.1
  have hmk := hY.2.2.2.2.2.2.1
  have hic := hY.2.2.2.2.2.2.2.1
  have hcn := hY.2.2.2.2.2.2.2.2.1
  have hgt := hY.2.2.2.2.2.2.2.2.2
  have hr1 := hrw r.toNat (by omega)
  refine v_aloadn dX7_last_0 rfl ?_
  refine v_get dX7_last_1 gf_X7_13 (hY.2.1 0 0 (by decide)) rfl ?_
  refine v_iloadn dX7_last_4 rfl ?_
  refine v_iald dX7_last_5 (hY.2.1 1 0 (by decide)) (by omega) (by omega) (by decide) ?_
  refine v_if_ne 13 dX7_last_6 (by decide) (by omega) (fun h6 => ?_) (fun h6 => ?_)
  · refine v_aloadn dX7_last_13 rfl ?_
    refine v_get dX7_last_14 gf_X7_17 (hY.2.1 0 0 (by decide)) rfl ?_
    refine v_bipush dX7_last_17 (by decide) ?_
    refine v_iloadn dX7_last_19 rfl ?_
    refine v_imul dX7_last_20 ?_
    refine v_aloadn dX7_last_21 rfl ?_
    refine v_get dX7_last_22 gf_X7_13 (hY.2.1 0 0 (by decide)) rfl ?_
    refine v_iloadn dX7_last_25 rfl ?_
    refine v_iald dX7_last_26 (hY.2.1 1 0 (by decide)) (by omega) (by omega) (by decide) ?_
    refine v_iadd dX7_last_27 ?_
    refine v_iconst dX7_last_28 ?_
    refine v_isub dX7_last_29 ?_
    refine v_iald dX7_last_30 (hY.2.1 2 0 (by decide)) (by omega) (by omega) (by decide) ?_
    have ht1 := hr1.2 (s 1 0 r.toNat - 1).toNat (by omega)
    rw [show 50 * r.toNat + (s 1 0 r.toNat - 1).toNat = (50 * r + s 1 0 r.toNat - 1).toNat by omega] at ht1
    exact v_iret dX7_last_31 rfl ⟨(Nat.le_of_ble_eq_true rfl), (Nat.le_of_ble_eq_true rfl)⟩ (by omega) ⟨rfl, by unfold lastY; split <;> first | rfl | omega, by omega⟩
  · refine v_iconst dX7_last_9 ?_
    refine v_goto 31 dX7_last_10 (by decide) ?_
    exact v_iret dX7_last_31 rfl ⟨(Nat.le_of_ble_eq_true rfl), (Nat.le_of_ble_eq_true rfl)⟩ (by omega) ⟨rfl, by unfold lastY; split <;> first | rfl | omega, by omega⟩
def layS (s : sG) (r : Int) (t v : Int) : sG := ups (ups (ups s 2 0 (50 * r + s 1 0 r.toNat).toNat t) 3 0 (50 * r + s 1 0 r.toNat).toNat v) 1 0 r.toNat (s 1 0 r.toNat + 1)
theorem invY_lay {s : sG} (hI : invY s) {r t v : Int} (hr : bt 0 r 23) (hn : s 1 0 r.toNat < 50) (ht : bt 0 t 3999) (hv : bt 0 v 256) : invY (layS s r t v) := by
  have hrw := hI.2.1
  have e1 : layS s r t v 1 0 = upz (s 1 0) r.toNat (s 1 0 r.toNat + 1) := by unfold layS; rw [ups_at, ups_kf _ (by decide), ups_kf _ (by decide)]
  have e2 : layS s r t v 2 0 = upz (s 2 0) (50 * r + s 1 0 r.toNat).toNat t := by unfold layS; rw [ups_kf _ (by decide), ups_kf _ (by decide), ups_at]
  have e3 : layS s r t v 3 0 = upz (s 3 0) (50 * r + s 1 0 r.toNat).toNat v := by unfold layS; rw [ups_kf _ (by decide), ups_at, ups_kf _ (by decide)]
  refine invY_r hI (fun k h1 h2 h3 => by unfold layS; rw [ups_kf _ h1, ups_kf _ h3, ups_kf _ h2]) (fun r' hr' => ?_)
  rw [e1, e2, e3]
  have hb := hrw r' hr'
  have hb0 := hrw r.toNat (by omega)
  unfold upz
  by_cases q : r' = r.toNat
  · subst q
    rw [if_pos rfl]
    refine ⟨by omega, fun j hj => ?_⟩
    by_cases z : 50 * r.toNat + j = (50 * r + s 1 0 r.toNat).toNat
    · rw [if_pos z, if_pos z]
      omega
    · rw [if_neg z, if_neg z]
      exact hb.2 j (by omega)
  · rw [if_neg q]
    refine ⟨hb.1, fun j hj => ?_⟩
    have := hb.2 j hj
    rw [if_neg (by omega), if_neg (by omega)]
    exact this
set_option maxHeartbeats 4000000 in
set_option maxRecDepth 100000 in
theorem tX7_lays {G : gG} {fw : Nat → Nat → Nat} {s : sG} {M : wM} (hY : wY G fw s M) {r t v : Int} (hr : bt 0 r 23) (hn : s 1 0 r.toNat < 50) (ht : bt 0 t 3999) (hv : bt 0 v 256) : wT G qX7_lays 0 0 [.ref (fw 0 0), .int (gI r), .int (gI t), .int (gI v)] M (vP fun M' => ∃ s', wY G fw s' M' ∧ wO cntY fw M M' ∧ s' = layS s r t v) := by
  refine wT.intro (by decide) (Nat.le_of_ble_eq_true rfl) (fun sz => ?_)
  obtain ⟨hJ, hH, hI⟩ := id hY
  have hO : wO cntY fw M M := wO.rf
  have h0 := hY.2.2.1
  have hrw := hY.2.2.2.1
  have hnm := hY.2.2.2.2.1
  have hsh := hY.2.2.2.2.2.1
  have hmk := hY.2.2.2.2.2.2.1
  have hic := hY.2.2.2.2.2.2.2.1
  have hcn := hY.2.2.2.2.2.2.2.2.1
  have hgt := hY.2.2.2.2.2.2.2.2.2
  have hr1 := hrw r.toNat (by omega)
  refine v_aloadn dX7_lays_0 rfl ?_
  refine v_get dX7_lays_1 gf_X7_17 (hH 0 0 (by decide)) rfl ?_
  refine v_bipush dX7_lays_4 (by decide) ?_
  refine v_iloadn dX7_lays_6 rfl ?_
  refine v_imul dX7_lays_7 ?_
  refine v_aloadn dX7_lays_8 rfl ?_
  refine v_get dX7_lays_9 gf_X7_13 (hH 0 0 (by decide)) rfl ?_
  refine v_iloadn dX7_lays_12 rfl ?_
  refine v_iald dX7_lays_13 (hH 1 0 (by decide)) (by omega) (by omega) (by decide) ?_
  refine v_iadd dX7_lays_14 ?_
  refine v_iloadn dX7_lays_15 rfl ?_
  refine v_iast dX7_lays_16 (hH 2 0 (by decide)) (by omega) (by omega) (by decide) ?_
  generalize hMe16 : wup _ _ _ = M16
  have hO : wO cntY fw M M16 := by rw [← hMe16]; exact hO.up (k := 2) (i := 0) (by decide)
  obtain ⟨s16, hs16⟩ : ∃ z, z = ups s 2 0 ((50 * r + s 1 0 r.toNat).toNat) (t) := ⟨_, rfl⟩
  have hH : wH cntY (cellY G fw) fw s16 M16 := by rw [← hMe16, hs16]; exact wH.up hJ hH (k := 2) (i := 0) ((50 * r + s 1 0 r.toNat).toNat) (t) (by decide) rfl
  have e16 : s16 1 0 r.toNat = s 1 0 r.toNat := by rw [hs16, ups_kf _ (by decide)]
  refine v_aloadn dX7_lays_17 rfl ?_
  refine v_get dX7_lays_18 gf_X7_20 (hH 0 0 (by decide)) rfl ?_
  refine v_bipush dX7_lays_21 (by decide) ?_
  refine v_iloadn dX7_lays_23 rfl ?_
  refine v_imul dX7_lays_24 ?_
  refine v_aloadn dX7_lays_25 rfl ?_
  refine v_get dX7_lays_26 gf_X7_13 (hH 0 0 (by decide)) rfl ?_
  refine v_iloadn dX7_lays_29 rfl ?_
  refine v_iald dX7_lays_30 (hH 1 0 (by decide)) (by omega) (by omega) (by decide) ?_
  refine v_iadd dX7_lays_31 ?_
  refine v_iloadn dX7_lays_32 rfl ?_
  refine v_iast dX7_lays_33 (hH 3 0 (by decide)) (by omega) (by omega) (by decide) ?_
  generalize hMe33 : wup _ _ _ = M33
  have hO : wO cntY fw M M33 := by rw [← hMe33]; exact hO.up (k := 3) (i := 0) (by decide)
  obtain ⟨s33, hs33⟩ : ∃ z, z = ups s16 3 0 ((50 * r + s16 1 0 r.toNat).toNat) (v) := ⟨_, rfl⟩
  have hH : wH cntY (cellY G fw) fw s33 M33 := by rw [← hMe33, hs33]; exact wH.up hJ hH (k := 3) (i := 0) ((50 * r + s16 1 0 r.toNat).toNat) (v) (by decide) rfl
  have e33 : s33 1 0 r.toNat = s 1 0 r.toNat := by rw [hs33, ups_kf _ (by decide), e16]
  refine v_aloadn dX7_lays_34 rfl ?_
  refine v_get dX7_lays_35 gf_X7_13 (hH 0 0 (by decide)) rfl ?_
  refine v_iloadn dX7_lays_38 rfl ?_
  refine v_dup2 dX7_lays_39 rfl rfl ?_
  refine v_iald dX7_lays_40 (hH 1 0 (by decide)) (by omega) (by omega) (by decide) ?_
  refine v_iconst dX7_lays_41 ?_
  refine v_iadd dX7_lays_42 ?_
  refine v_iast dX7_lays_43 (hH 1 0 (by decide)) (by omega) (by omega) (by decide) ?_
  generalize hMe43 : wup _ _ _ = M43
  have hO : wO cntY fw M M43 := by rw [← hMe43]; exact hO.up (k := 1) (i := 0) (by decide)
  obtain ⟨s43, hs43⟩ : ∃ z, z = ups s33 1 0 (r.toNat) (s33 1 0 r.toNat + 1) := ⟨_, rfl⟩
  have hH : wH cntY (cellY G fw) fw s43 M43 := by rw [← hMe43, hs43]; exact wH.up hJ hH (k := 1) (i := 0) (r.toNat) (s33 1 0 r.toNat + 1) (by decide) rfl
  have ef : s43 = layS s r t v := by rw [hs43, e33, hs33, e16, hs16]; rfl
  exact v_vret dX7_lays_44 rfl ⟨(Nat.le_of_ble_eq_true rfl), (Nat.le_of_ble_eq_true rfl)⟩ ⟨s43, ⟨hJ, hH, by rw [ef]; exact invY_lay hI hr hn ht hv⟩, hO, ef⟩
set_option maxHeartbeats 4000000 in
set_option maxRecDepth 100000 in
theorem tX7_change {G : gG} {fw : Nat → Nat → Nat} {s : sG} {M : wM} (hY : wY G fw s M) {a b t v : Int} (ha : rng a) (hb : rng b) (ht : rng t) (hv : rng v) : wT G qX7_change 0 0 [.ref (fw 0 0), .int (gI a), .int (gI b), .int (gI t), .int (gI v)] M (PY G fw M (fun x s' => (¬ (bt 0 a 1 ∧ bt 0 b 11 ∧ bt 0 t 3999 ∧ bt 0 v 256) ∧ x = -1 ∧ s' = s) ∨ ((bt 0 a 1 ∧ bt 0 b 11 ∧ bt 0 t 3999 ∧ bt 0 v 256) ∧ ((t ≤ lastY s (12 * a + b) ∧ x = -2 ∧ s' = s) ∨ (lastY s (12 * a + b) < t ∧ s 1 0 (12 * a + b).toNat = 50 ∧ x = -3 ∧ s' = s) ∨ (lastY s (12 * a + b) < t ∧ s 1 0 (12 * a + b).toNat < 50 ∧ x = s 1 0 (12 * a + b).toNat + 1 ∧ s' = layS s (12 * a + b) t v))))) := by
  refine wT.intro (by decide) (Nat.le_of_ble_eq_true rfl) (fun sz => ?_)
  have h0 := hY.2.2.1
  have hrw := hY.2.2.2.1
  have hnm := hY.2.2.2.2.1
  have hsh := hY.2.2.2.2.2.1
  have hmk := hY.2.2.2.2.2.2.1
  have hic := hY.2.2.2.2.2.2.2.1
  have hcn := hY.2.2.2.2.2.2.2.2.1
  have hgt := hY.2.2.2.2.2.2.2.2.2
  refine v_iloadn dX7_change_0 rfl ?_
  refine v_iloadn dX7_change_1 rfl ?_
  refine v_callS (tX7_isRow (by omega) (by omega)) lc_X7_68 ⟨(Nat.le_of_ble_eq_true rfl), (Nat.le_of_ble_eq_true rfl)⟩ dX7_change_2 rfl rfl (Nat.le_of_ble_eq_true rfl) ⟨(Nat.le_of_ble_eq_true rfl), (Nat.le_of_ble_eq_true rfl)⟩ (kP fun r2 hr2 hp2 => ?_)
  refine v_if_eq 31 dX7_change_5 (by decide) (by omega) (fun h5 => ?_) (fun h5 => ?_)
  · refine v_iconst dX7_change_31 ?_
    exact v_iret dX7_change_32 rfl ⟨(Nat.le_of_ble_eq_true rfl), (Nat.le_of_ble_eq_true rfl)⟩ (by omega) ⟨s, hY, wO.rf, Or.inl ⟨by omega, by omega, rfl⟩⟩
  · refine v_iloadn dX7_change_8 rfl ?_
    refine v_iconst dX7_change_9 ?_
    refine v_sipush dX7_change_10 (by decide) ?_
    refine v_callS (tX7_in (by omega) (by omega) (by omega)) lc_X7_60 ⟨(Nat.le_of_ble_eq_true rfl), (Nat.le_of_ble_eq_true rfl)⟩ dX7_change_13 rfl rfl (Nat.le_of_ble_eq_true rfl) ⟨(Nat.le_of_ble_eq_true rfl), (Nat.le_of_ble_eq_true rfl)⟩ (kP fun r13 hr13 hp13 => ?_)
    refine v_if_eq 31 dX7_change_16 (by decide) (by omega) (fun h16 => ?_) (fun h16 => ?_)
    · refine v_iconst dX7_change_31 ?_
      exact v_iret dX7_change_32 rfl ⟨(Nat.le_of_ble_eq_true rfl), (Nat.le_of_ble_eq_true rfl)⟩ (by omega) ⟨s, hY, wO.rf, Or.inl ⟨by omega, by omega, rfl⟩⟩
    · refine v_iload dX7_change_19 rfl ?_
      refine v_iconst dX7_change_21 ?_
      refine v_sipush dX7_change_22 (by decide) ?_
      refine v_callS (tX7_in (by omega) (by omega) (by omega)) lc_X7_60 ⟨(Nat.le_of_ble_eq_true rfl), (Nat.le_of_ble_eq_true rfl)⟩ dX7_change_25 rfl rfl (Nat.le_of_ble_eq_true rfl) ⟨(Nat.le_of_ble_eq_true rfl), (Nat.le_of_ble_eq_true rfl)⟩ (kP fun r25 hr25 hp25 => ?_)
      refine v_if_ne 33 dX7_change_28 (by decide) (by omega) (fun h28 => ?_) (fun h28 => ?_)
      · refine v_bipush dX7_change_33 (by decide) ?_
        refine v_iloadn dX7_change_35 rfl ?_
        refine v_imul dX7_change_36 ?_
        refine v_iloadn dX7_change_37 rfl ?_
        refine v_iadd dX7_change_38 ?_
        refine v_istore dX7_change_39 (Nat.le_of_ble_eq_true rfl) ?_
        have hr1 := hrw (12 * a + b).toNat (by omega)
        refine v_iloadn dX7_change_41 rfl ?_
        refine v_aloadn dX7_change_42 rfl ?_
        refine v_iload dX7_change_43 rfl ?_
        refine v_callV (tX7_last hY (by omega)) lc_X7_72 ⟨(Nat.le_of_ble_eq_true rfl), (Nat.le_of_ble_eq_true rfl)⟩ dX7_change_45 rfl rfl (Nat.le_of_ble_eq_true rfl) ⟨(Nat.le_of_ble_eq_true rfl), (Nat.le_of_ble_eq_true rfl)⟩ ⟨_, _, _, _, hY.2.1 0 0 (by decide), rfl⟩ (kP fun r45 hr45 hp45 => ?_)
        refine v_icmp_gt 54 dX7_change_48 (by decide) (by omega) (by omega) (fun h48 => ?_) (fun h48 => ?_)
        · refine v_aloadn dX7_change_54 rfl ?_
          refine v_get dX7_change_55 gf_X7_13 (hY.2.1 0 0 (by decide)) rfl ?_
          refine v_iload dX7_change_58 rfl ?_
          refine v_iald dX7_change_60 (hY.2.1 1 0 (by decide)) (by omega) (by omega) (by decide) ?_
          refine v_bipush dX7_change_61 (by decide) ?_
          refine v_icmp_ne 69 dX7_change_63 (by decide) (by omega) (by omega) (fun h63 => ?_) (fun h63 => ?_)
          · refine v_aloadn dX7_change_69 rfl ?_
            refine v_iload dX7_change_70 rfl ?_
            refine v_iloadn dX7_change_72 rfl ?_
            refine v_iload dX7_change_73 rfl ?_
            refine v_callV (tX7_lays hY (by omega) (by omega) (by omega) (by omega)) lc_X7_76 ⟨(Nat.le_of_ble_eq_true rfl), (Nat.le_of_ble_eq_true rfl)⟩ dX7_change_75 rfl rfl (Nat.le_of_ble_eq_true rfl) ⟨(Nat.le_of_ble_eq_true rfl), (Nat.le_of_ble_eq_true rfl)⟩ ⟨_, _, _, _, hY.2.1 0 0 (by decide), rfl⟩ (kV fun M75 hp75 => ?_)
            obtain ⟨s75, hY75, hO75, hs75⟩ := hp75
            have e75 : s75 1 0 (12 * a + b).toNat = s 1 0 (12 * a + b).toNat + 1 := by rw [hs75]; unfold layS; rw [ups_at]; unfold upz; rw [if_pos rfl]
            refine v_aloadn dX7_change_78 rfl ?_
            refine v_get dX7_change_79 gf_X7_13 (hY75.2.1 0 0 (by decide)) rfl ?_
            refine v_iload dX7_change_82 rfl ?_
            refine v_iald dX7_change_84 (hY75.2.1 1 0 (by decide)) (by omega) (by omega) (by decide) ?_
            exact v_iret dX7_change_85 rfl ⟨(Nat.le_of_ble_eq_true rfl), (Nat.le_of_ble_eq_true rfl)⟩ (by omega) ⟨s75, hY75, hO75, Or.inr ⟨by omega, Or.inr (Or.inr ⟨by omega, by omega, by omega, hs75⟩)⟩⟩
          · refine v_bipush dX7_change_66 (by decide) ?_
            exact v_iret dX7_change_68 rfl ⟨(Nat.le_of_ble_eq_true rfl), (Nat.le_of_ble_eq_true rfl)⟩ (by omega) ⟨s, hY, wO.rf, Or.inr ⟨by omega, Or.inr (Or.inl ⟨by omega, by omega, by omega, rfl⟩)⟩⟩
        · refine v_bipush dX7_change_51 (by decide) ?_
          exact v_iret dX7_change_53 rfl ⟨(Nat.le_of_ble_eq_true rfl), (Nat.le_of_ble_eq_true rfl)⟩ (by omega) ⟨s, hY, wO.rf, Or.inr ⟨by omega, Or.inl ⟨by omega, by omega, rfl⟩⟩⟩
      · refine v_iconst dX7_change_31 ?_
        exact v_iret dX7_change_32 rfl ⟨(Nat.le_of_ble_eq_true rfl), (Nat.le_of_ble_eq_true rfl)⟩ (by omega) ⟨s, hY, wO.rf, Or.inl ⟨by omega, by omega, rfl⟩⟩
def atP (s : sG) (r t x : Int) : Prop := ∃ j : Int, 0 ≤ j ∧ j ≤ s 1 0 r.toNat ∧ (∀ i : Nat, (i : Int) < j → s 2 0 (50 * r + i).toNat ≤ t) ∧ (j = s 1 0 r.toNat ∨ t < s 2 0 (50 * r + j).toNat) ∧ x = if j = 0 then 256 else s 3 0 (50 * r + j - 1).toNat
set_option maxHeartbeats 4000000 in
set_option maxRecDepth 100000 in
theorem tX7_at_loop {sz : Nat} {M0 : wM} {G : gG} {fw : Nat → Nat → Nat} {s : sG} {M : wM} (hY : wY G fw s M) {a b t : Int} (ha : bt 0 a 1) (hb : bt 0 b 11) (ht : rng t) : ∀ (k : Nat) (v p : Int), 0 ≤ 51 - (p - 50 * (12 * a + b)) → 51 - (p - 50 * (12 * a + b)) < (k : Int) → (bt (50 * (12 * a + b)) p (50 * (12 * a + b) + s 1 0 (12 * a + b).toNat)) → (bt 0 v 256) → (∀ i : Nat, (i : Int) < p - 50 * (12 * a + b) → s 2 0 (50 * (12 * a + b) + i).toNat ≤ t) → (v = if p - 50 * (12 * a + b) = 0 then 256 else s 3 0 (50 * (12 * a + b) + (p - 50 * (12 * a + b)) - 1).toNat) → wV G qX7_at 0 0 sz M0 0 0 20 [(0, .ref (fw 0 0)), (1, .int (gI a)), (2, .int (gI b)), (3, .int (gI t)), (4, .int (gI (12 * a + b))), (5, .int (gI v)), (6, .int (gI p))] [] M (iP fun x M' => M' = M ∧ (bt 0 x 256 ∧ atP s (12 * a + b) t x)) := by
  intro k
  induction k with
  | zero =>
    intros
    omega
  | succ k ih =>
    intro v p hmz hml h1 h2 h3 h4
    have h0 := hY.2.2.1
    have hrw := hY.2.2.2.1
    have hnm := hY.2.2.2.2.1
    have hsh := hY.2.2.2.2.2.1
    have hmk := hY.2.2.2.2.2.2.1
    have hic := hY.2.2.2.2.2.2.2.1
    have hcn := hY.2.2.2.2.2.2.2.2.1
    have hgt := hY.2.2.2.2.2.2.2.2.2
    have hr1 := hrw (12 * a + b).toNat (by omega)
    have hw : bt 0 (12 * a + b) 23 := by omega
    refine v_iload dX7_at_20 rfl ?_
    refine v_bipush dX7_at_22 (by decide) ?_
    refine v_iload dX7_at_24 rfl ?_
    refine v_imul dX7_at_26 ?_
    refine v_aloadn dX7_at_27 rfl ?_
    refine v_get dX7_at_28 gf_X7_13 (hY.2.1 0 0 (by decide)) rfl ?_
    refine v_iload dX7_at_31 rfl ?_
    refine v_iald dX7_at_33 (hY.2.1 1 0 (by decide)) (by omega) (by omega) (by decide) ?_
    refine v_iadd dX7_at_34 ?_
    refine v_icmp_ge 64 dX7_at_35 (by decide) (by omega) (by omega) (fun h35 => ?_) (fun h35 => ?_)
    · refine v_iload dX7_at_64 rfl ?_
      exact v_iret dX7_at_66 rfl ⟨(Nat.le_of_ble_eq_true rfl), (Nat.le_of_ble_eq_true rfl)⟩ (by omega) ⟨rfl, h2, p - 50 * (12 * a + b), by omega, by omega, h3, Or.inl (by omega), h4⟩
    · refine v_aloadn dX7_at_38 rfl ?_
      refine v_get dX7_at_39 gf_X7_17 (hY.2.1 0 0 (by decide)) rfl ?_
      refine v_iload dX7_at_42 rfl ?_
      refine v_iald dX7_at_44 (hY.2.1 2 0 (by decide)) (by omega) (by omega) (by decide) ?_
      have ht1 := hr1.2 (p - 50 * (12 * a + b)).toNat (by omega)
      rw [show 50 * (12 * a + b).toNat + (p - 50 * (12 * a + b)).toNat = (p).toNat by omega] at ht1
      refine v_iloadn dX7_at_45 rfl ?_
      refine v_icmp_gt 64 dX7_at_46 (by decide) (by omega) (by omega) (fun h46 => ?_) (fun h46 => ?_)
      · refine v_iload dX7_at_64 rfl ?_
        exact v_iret dX7_at_66 rfl ⟨(Nat.le_of_ble_eq_true rfl), (Nat.le_of_ble_eq_true rfl)⟩ (by omega) ⟨rfl, h2, p - 50 * (12 * a + b), by omega, by omega, h3, Or.inr (by rw [show 50 * (12 * a + b) + (p - 50 * (12 * a + b)) = p by omega]; exact h46), h4⟩
      · refine v_aloadn dX7_at_49 rfl ?_
        refine v_get dX7_at_50 gf_X7_20 (hY.2.1 0 0 (by decide)) rfl ?_
        refine v_iload dX7_at_53 rfl ?_
        refine v_iald dX7_at_55 (hY.2.1 3 0 (by decide)) (by omega) (by omega) (by decide) ?_
        refine v_istore dX7_at_56 (Nat.le_of_ble_eq_true rfl) ?_
        refine v_iinc dX7_at_58 rfl (Nat.le_of_ble_eq_true rfl) ?_
        refine v_goto 20 dX7_at_61 (by decide) ?_
        refine wV.locs (lv' := [(0, .ref (fw 0 0)), (1, .int (gI a)), (2, .int (gI b)), (3, .int (gI t)), (4, .int (gI (12 * a + b))), (5, .int (gI _)), (6, .int (gI _))]) ⟨rfl, rfl, rfl, rfl, rfl, rfl, rfl, trivial⟩ (ih _ _ (by omega) (by omega) (by omega) (by omega) (fun i hi => (show (i : Int) < p - 50 * (12 * a + b) ∨ (50 * (12 * a + b) + i).toNat = p.toNat by omega).elim (fun h => h3 i h) (fun h => by rw [h]; exact h46)) (by rw [if_neg (by omega)]; congr 1; omega))
set_option maxHeartbeats 4000000 in
set_option maxRecDepth 100000 in
theorem tX7_at {G : gG} {fw : Nat → Nat → Nat} {s : sG} {M : wM} (hY : wY G fw s M) {a b t : Int} (ha : bt 0 a 1) (hb : bt 0 b 11) (ht : rng t) : wT G qX7_at 0 0 [.ref (fw 0 0), .int (gI a), .int (gI b), .int (gI t)] M (iP fun x M' => M' = M ∧ (bt 0 x 256 ∧ atP s (12 * a + b) t x)) := by
  refine wT.intro (by decide) (Nat.le_of_ble_eq_true rfl) (fun sz => ?_)
  have h0 := hY.2.2.1
  have hrw := hY.2.2.2.1
  have hnm := hY.2.2.2.2.1
  have hsh := hY.2.2.2.2.2.1
  have hmk := hY.2.2.2.2.2.2.1
  have hic := hY.2.2.2.2.2.2.2.1
  have hcn := hY.2.2.2.2.2.2.2.2.1
  have hgt := hY.2.2.2.2.2.2.2.2.2
  have hr1 := hrw (12 * a + b).toNat (by omega)
  have hw : bt 0 (12 * a + b) 23 := by omega
  refine v_bipush dX7_at_0 (by decide) ?_
  refine v_iloadn dX7_at_2 rfl ?_
  refine v_imul dX7_at_3 ?_
  refine v_iloadn dX7_at_4 rfl ?_
  refine v_iadd dX7_at_5 ?_
  refine v_istore dX7_at_6 (Nat.le_of_ble_eq_true rfl) ?_
  refine v_sipush dX7_at_8 (by decide) ?_
  refine v_istore dX7_at_11 (Nat.le_of_ble_eq_true rfl) ?_
  refine v_bipush dX7_at_13 (by decide) ?_
  refine v_iload dX7_at_15 rfl ?_
  refine v_imul dX7_at_17 ?_
  refine v_istore dX7_at_18 (Nat.le_of_ble_eq_true rfl) ?_
  refine wV.locs (lv' := [(0, .ref (fw 0 0)), (1, .int (gI a)), (2, .int (gI b)), (3, .int (gI t)), (4, .int (gI (12 * a + b))), (5, .int (gI (256))), (6, .int (gI (50 * (12 * a + b))))]) ⟨rfl, rfl, rfl, rfl, rfl, rfl, rfl, trivial⟩ (tX7_at_loop hY ha hb ht 60 _ _ (by omega) (by omega) (by omega) (by omega) (fun i hi => by omega) (by rw [if_pos (by omega)]))
set_option maxHeartbeats 4000000 in
set_option maxRecDepth 100000 in
theorem tX7_nextChange_loop {sz : Nat} {M0 : wM} {G : gG} {fw : Nat → Nat → Nat} {s : sG} {M : wM} (hY : wY G fw s M) {a b t : Int} (ha : bt 0 a 1) (hb : bt 0 b 11) (ht : rng t) (ht2 : t < 100000) : ∀ (k : Nat) (p : Int), 0 ≤ 51 - (p - 50 * (12 * a + b)) → 51 - (p - 50 * (12 * a + b)) < (k : Int) → (bt (50 * (12 * a + b)) p (50 * (12 * a + b) + s 1 0 (12 * a + b).toNat)) → wV G qX7_nextChange 0 0 sz M0 0 0 15 [(0, .ref (fw 0 0)), (1, .int (gI a)), (2, .int (gI b)), (3, .int (gI t)), (4, .int (gI (12 * a + b))), (5, .int (gI p))] [] M (iP fun x M' => M' = M ∧ (t < x ∧ (x = 100000 ∨ bt 0 x 3999))) := by
  intro k
  induction k with
  | zero =>
    intros
    omega
  | succ k ih =>
    intro p hmz hml h1
    have h0 := hY.2.2.1
    have hrw := hY.2.2.2.1
    have hnm := hY.2.2.2.2.1
    have hsh := hY.2.2.2.2.2.1
    have hmk := hY.2.2.2.2.2.2.1
    have hic := hY.2.2.2.2.2.2.2.1
    have hcn := hY.2.2.2.2.2.2.2.2.1
    have hgt := hY.2.2.2.2.2.2.2.2.2
    have hr1 := hrw (12 * a + b).toNat (by omega)
    have hw : bt 0 (12 * a + b) 23 := by omega
    refine v_iload dX7_nextChange_15 rfl ?_
    refine v_bipush dX7_nextChange_17 (by decide) ?_
    refine v_iload dX7_nextChange_19 rfl ?_
    refine v_imul dX7_nextChange_21 ?_
    refine v_aloadn dX7_nextChange_22 rfl ?_
    refine v_get dX7_nextChange_23 gf_X7_13 (hY.2.1 0 0 (by decide)) rfl ?_
    refine v_iload dX7_nextChange_26 rfl ?_
    refine v_iald dX7_nextChange_28 (hY.2.1 1 0 (by decide)) (by omega) (by omega) (by decide) ?_
    refine v_iadd dX7_nextChange_29 ?_
    refine v_icmp_ge 58 dX7_nextChange_30 (by decide) (by omega) (by omega) (fun h30 => ?_) (fun h30 => ?_)
    · refine v_ldc (n := 100000) dX7_nextChange_58 (by decide +kernel) ?_
      exact v_iret dX7_nextChange_60 rfl ⟨(Nat.le_of_ble_eq_true rfl), (Nat.le_of_ble_eq_true rfl)⟩ (by omega) ⟨rfl, by omega⟩
    · refine v_aloadn dX7_nextChange_33 rfl ?_
      refine v_get dX7_nextChange_34 gf_X7_17 (hY.2.1 0 0 (by decide)) rfl ?_
      refine v_iload dX7_nextChange_37 rfl ?_
      refine v_iald dX7_nextChange_39 (hY.2.1 2 0 (by decide)) (by omega) (by omega) (by decide) ?_
      have ht1 := hr1.2 (p - 50 * (12 * a + b)).toNat (by omega)
      rw [show 50 * (12 * a + b).toNat + (p - 50 * (12 * a + b)).toNat = (p).toNat by omega] at ht1
      refine v_iloadn dX7_nextChange_40 rfl ?_
      refine v_icmp_le 52 dX7_nextChange_41 (by decide) (by omega) (by omega) (fun h41 => ?_) (fun h41 => ?_)
      · refine v_iinc dX7_nextChange_52 rfl (Nat.le_of_ble_eq_true rfl) ?_
        refine v_goto 15 dX7_nextChange_55 (by decide) ?_
        refine wV.locs (lv' := [(0, .ref (fw 0 0)), (1, .int (gI a)), (2, .int (gI b)), (3, .int (gI t)), (4, .int (gI (12 * a + b))), (5, .int (gI _))]) ⟨rfl, rfl, rfl, rfl, rfl, rfl, trivial⟩ (ih _ (by omega) (by omega) (by omega))
      · refine v_aloadn dX7_nextChange_44 rfl ?_
        refine v_get dX7_nextChange_45 gf_X7_17 (hY.2.1 0 0 (by decide)) rfl ?_
        refine v_iload dX7_nextChange_48 rfl ?_
        refine v_iald dX7_nextChange_50 (hY.2.1 2 0 (by decide)) (by omega) (by omega) (by decide) ?_
        exact v_iret dX7_nextChange_51 rfl ⟨(Nat.le_of_ble_eq_true rfl), (Nat.le_of_ble_eq_true rfl)⟩ (by omega) ⟨rfl, by omega⟩
set_option maxHeartbeats 4000000 in
set_option maxRecDepth 100000 in
theorem tX7_nextChange {G : gG} {fw : Nat → Nat → Nat} {s : sG} {M : wM} (hY : wY G fw s M) {a b t : Int} (ha : bt 0 a 1) (hb : bt 0 b 11) (ht : rng t) (ht2 : t < 100000) : wT G qX7_nextChange 0 0 [.ref (fw 0 0), .int (gI a), .int (gI b), .int (gI t)] M (iP fun x M' => M' = M ∧ (t < x ∧ (x = 100000 ∨ bt 0 x 3999))) := by
  refine wT.intro (by decide) (Nat.le_of_ble_eq_true rfl) (fun sz => ?_)
  have h0 := hY.2.2.1
  have hrw := hY.2.2.2.1
  have hnm := hY.2.2.2.2.1
  have hsh := hY.2.2.2.2.2.1
  have hmk := hY.2.2.2.2.2.2.1
  have hic := hY.2.2.2.2.2.2.2.1
  have hcn := hY.2.2.2.2.2.2.2.2.1
  have hgt := hY.2.2.2.2.2.2.2.2.2
  have hr1 := hrw (12 * a + b).toNat (by omega)
  have hw : bt 0 (12 * a + b) 23 := by omega
  refine v_bipush dX7_nextChange_0 (by decide) ?_
  refine v_iloadn dX7_nextChange_2 rfl ?_
  refine v_imul dX7_nextChange_3 ?_
  refine v_iloadn dX7_nextChange_4 rfl ?_
  refine v_iadd dX7_nextChange_5 ?_
  refine v_istore dX7_nextChange_6 (Nat.le_of_ble_eq_true rfl) ?_
  refine v_bipush dX7_nextChange_8 (by decide) ?_
  refine v_iload dX7_nextChange_10 rfl ?_
  refine v_imul dX7_nextChange_12 ?_
  refine v_istore dX7_nextChange_13 (Nat.le_of_ble_eq_true rfl) ?_
  refine wV.locs (lv' := [(0, .ref (fw 0 0)), (1, .int (gI a)), (2, .int (gI b)), (3, .int (gI t)), (4, .int (gI (12 * a + b))), (5, .int (gI (50 * (12 * a + b))))]) ⟨rfl, rfl, rfl, rfl, rfl, rfl, trivial⟩ (tX7_nextChange_loop hY ha hb ht ht2 60 _ (by omega) (by omega) (by omega))
set_option maxHeartbeats 4000000 in
set_option maxRecDepth 100000 in
theorem tX7_value {G : gG} {fw : Nat → Nat → Nat} {s : sG} {M : wM} (hY : wY G fw s M) {a b t : Int} (ha : rng a) (hb : rng b) (ht : rng t) : wT G qX7_value 0 0 [.ref (fw 0 0), .int (gI a), .int (gI b), .int (gI t)] M (iP fun x M' => M' = M ∧ ((¬ (bt 0 a 1 ∧ bt 0 b 11 ∧ bt 0 t 3999) ∧ x = -1) ∨ ((bt 0 a 1 ∧ bt 0 b 11 ∧ bt 0 t 3999) ∧ atP s (12 * a + b) t x))) := by
  refine wT.intro (by decide) (Nat.le_of_ble_eq_true rfl) (fun sz => ?_)
  have h0 := hY.2.2.1
  have hrw := hY.2.2.2.1
  have hnm := hY.2.2.2.2.1
  have hsh := hY.2.2.2.2.2.1
  have hmk := hY.2.2.2.2.2.2.1
  have hic := hY.2.2.2.2.2.2.2.1
  have hcn := hY.2.2.2.2.2.2.2.2.1
  have hgt := hY.2.2.2.2.2.2.2.2.2
  refine v_iloadn dX7_value_0 rfl ?_
  refine v_iloadn dX7_value_1 rfl ?_
  refine v_callS (tX7_isRow (by omega) (by omega)) lc_X7_68 ⟨(Nat.le_of_ble_eq_true rfl), (Nat.le_of_ble_eq_true rfl)⟩ dX7_value_2 rfl rfl (Nat.le_of_ble_eq_true rfl) ⟨(Nat.le_of_ble_eq_true rfl), (Nat.le_of_ble_eq_true rfl)⟩ (kP fun r2 hr2 hp2 => ?_)
  refine v_if_eq 29 dX7_value_5 (by decide) (by omega) (fun h5 => ?_) (fun h5 => ?_)
  · refine v_iconst dX7_value_29 ?_
    exact v_iret dX7_value_30 rfl ⟨(Nat.le_of_ble_eq_true rfl), (Nat.le_of_ble_eq_true rfl)⟩ (by first | omega | exact hr23) ⟨rfl, by first | exact Or.inl ⟨by omega, by omega⟩ | exact Or.inr ⟨by omega, hp23.2⟩⟩
  · refine v_iloadn dX7_value_8 rfl ?_
    refine v_iconst dX7_value_9 ?_
    refine v_sipush dX7_value_10 (by decide) ?_
    refine v_callS (tX7_in (by omega) (by omega) (by omega)) lc_X7_60 ⟨(Nat.le_of_ble_eq_true rfl), (Nat.le_of_ble_eq_true rfl)⟩ dX7_value_13 rfl rfl (Nat.le_of_ble_eq_true rfl) ⟨(Nat.le_of_ble_eq_true rfl), (Nat.le_of_ble_eq_true rfl)⟩ (kP fun r13 hr13 hp13 => ?_)
    refine v_if_eq 29 dX7_value_16 (by decide) (by omega) (fun h16 => ?_) (fun h16 => ?_)
    · refine v_iconst dX7_value_29 ?_
      exact v_iret dX7_value_30 rfl ⟨(Nat.le_of_ble_eq_true rfl), (Nat.le_of_ble_eq_true rfl)⟩ (by first | omega | exact hr23) ⟨rfl, by first | exact Or.inl ⟨by omega, by omega⟩ | exact Or.inr ⟨by omega, hp23.2⟩⟩
    · refine v_aloadn dX7_value_19 rfl ?_
      refine v_iloadn dX7_value_20 rfl ?_
      refine v_iloadn dX7_value_21 rfl ?_
      refine v_iloadn dX7_value_22 rfl ?_
      refine v_callV (tX7_at hY (by omega) (by omega) (by omega)) lc_X7_83 ⟨(Nat.le_of_ble_eq_true rfl), (Nat.le_of_ble_eq_true rfl)⟩ dX7_value_23 rfl rfl (Nat.le_of_ble_eq_true rfl) ⟨(Nat.le_of_ble_eq_true rfl), (Nat.le_of_ble_eq_true rfl)⟩ ⟨_, _, _, _, hY.2.1 0 0 (by decide), rfl⟩ (kP fun r23 hr23 hp23 => ?_)
      refine v_goto 30 dX7_value_26 (by decide) ?_
      exact v_iret dX7_value_30 rfl ⟨(Nat.le_of_ble_eq_true rfl), (Nat.le_of_ble_eq_true rfl)⟩ (by first | omega | exact hr23) ⟨rfl, by first | exact Or.inl ⟨by omega, by omega⟩ | exact Or.inr ⟨by omega, hp23.2⟩⟩
