theorem ups_ups (s : sG) (k i j : Nat) (v w : Int) : ups (ups s k i j v) k i j w = ups s k i j w := by
  funext k' i' j'
  unfold ups
  by_cases h : k' = k ∧ i' = i
  · rw [if_pos h, if_pos h, if_pos ⟨rfl, rfl⟩]
    unfold upz
    by_cases q : j' = j
    · rw [if_pos q, if_pos q]
    · rw [if_neg q, if_neg q, if_neg q]
  · rw [if_neg h, if_neg h, if_neg h]
theorem ups_id (s : sG) (k i j : Nat) : ups s k i j (s k i j) = s := by
  funext k' i' j'
  unfold ups
  by_cases h : k' = k ∧ i' = i
  · rw [if_pos h]
    unfold upz
    by_cases q : j' = j
    · rw [if_pos q, h.1, h.2, q]
    · rw [if_neg q, h.1, h.2]
  · rw [if_neg h]
theorem invY_cut {s : sG} (hI : invY s) {r m : Int} (hr : bt 0 r 23) (h0 : 0 ≤ m) (hm : m ≤ s 1 0 r.toNat) : invY (ups s 1 0 r.toNat m) := by
  have hrw := hI.2.1
  refine invY_r hI (fun k h1 _ _ => ups_kf _ h1) (fun r' hr' => ?_)
  have hb := hrw r' hr'
  rw [ups_at, ups_kf _ (show (2 : Nat) ≠ 1 by decide), ups_kf _ (show (3 : Nat) ≠ 1 by decide)]
  unfold upz
  by_cases q : r' = r.toNat
  · subst q
    rw [if_pos rfl]
    exact ⟨by omega, fun j hj => hb.2 j (by omega)⟩
  · rw [if_neg q]
    exact hb
set_option maxHeartbeats 4000000 in
set_option maxRecDepth 100000 in
theorem tX7_cut_loop {sz : Nat} {M0 : wM} {G : gG} {fw : Nat → Nat → Nat} {si : sG} {Mi : wM} {a b t : Int} (hv : (bt 0 a 1 ∧ bt 0 b 11 ∧ bt 0 t 3999)) (hn : bt 0 (si 1 0 (12 * a + b).toNat) 50) : ∀ (k : Nat) (s : sG) (M : wM) (m : Int) , 0 ≤ m → m < (k : Int) → (wY G fw s M) → (wO cntY fw Mi M) → (s = ups si 1 0 (12 * a + b).toNat m) → (bt 0 m (si 1 0 (12 * a + b).toNat)) → (∀ j : Int, m ≤ j → j < si 1 0 (12 * a + b).toNat → t ≤ si 2 0 (50 * (12 * a + b) + j).toNat) → wV G qX7_cut 0 0 sz M0 0 0 38 [(0, .ref (fw 0 0)), (1, .int (gI a)), (2, .int (gI b)), (3, .int (gI t)), (4, .int (gI (12 * a + b))), (5, .int (gI (si 1 0 (12 * a + b).toNat)))] [] M (PY G fw Mi (fun x s' => (¬ (bt 0 a 1 ∧ bt 0 b 11 ∧ bt 0 t 3999) ∧ x = -1 ∧ s' = si) ∨ ((bt 0 a 1 ∧ bt 0 b 11 ∧ bt 0 t 3999) ∧ (∃ m, bt 0 m (si 1 0 (12 * a + b).toNat) ∧ (m = 0 ∨ si 2 0 (50 * (12 * a + b) + m - 1).toNat < t) ∧ (∀ j : Int, m ≤ j → j < si 1 0 (12 * a + b).toNat → t ≤ si 2 0 (50 * (12 * a + b) + j).toNat) ∧ s' = ups si 1 0 (12 * a + b).toNat m ∧ x = si 1 0 (12 * a + b).toNat - m)))) := by
  intro k
  induction k with
  | zero =>
    intros
    omega
  | succ k ih =>
    intro s M m  hmz hml hY hO h1 h2 h3
    have h0 := hY.2.2.1
    have hrw := hY.2.2.2.1
    have hnm := hY.2.2.2.2.1
    have hsh := hY.2.2.2.2.2.1
    have hmk := hY.2.2.2.2.2.2.1
    have hic := hY.2.2.2.2.2.2.2.1
    have hcn := hY.2.2.2.2.2.2.2.2.1
    have hgt := hY.2.2.2.2.2.2.2.2.2
    obtain ⟨hJ, hH, hI⟩ := id hY
    have e1 : s 1 0 (12 * a + b).toNat = m := by rw [h1, ups_at]; unfold upz; rw [if_pos rfl]
    have e2 : s 2 = si 2 := by rw [h1, ups_kf _ (by decide)]
    have el : lastY s (12 * a + b) = if m = 0 then -1 else si 2 0 (50 * (12 * a + b) + m - 1).toNat := by unfold lastY; rw [e1, e2]
    refine v_aloadn dX7_cut_38 rfl ?_
    refine v_iload dX7_cut_39 rfl ?_
    refine v_callV (tX7_last hY (by omega)) lc_X7_72 ⟨(Nat.le_of_ble_eq_true rfl), (Nat.le_of_ble_eq_true rfl)⟩ dX7_cut_41 rfl rfl (Nat.le_of_ble_eq_true rfl) ⟨(Nat.le_of_ble_eq_true rfl), (Nat.le_of_ble_eq_true rfl)⟩ ⟨_, _, _, _, hH 0 0 (by decide), rfl⟩ (kP fun r41 hr41 hp41 => ?_)
    rw [el] at hp41
    have hm0 : m = 0 → r41 = -1 := fun h => by rw [hp41.1, if_pos h]
    have hm1 : m ≠ 0 → r41 = si 2 0 (50 * (12 * a + b) + m - 1).toNat := fun h => by rw [hp41.1, if_neg h]
    refine v_iloadn dX7_cut_44 rfl ?_
    refine v_icmp_lt 62 dX7_cut_45 (by decide) (by omega) (by omega) (fun h45 => ?_) (fun h45 => ?_)
    · refine v_iload dX7_cut_62 rfl ?_
      refine v_aloadn dX7_cut_64 rfl ?_
      refine v_get dX7_cut_65 gf_X7_13 (hH 0 0 (by decide)) rfl ?_
      refine v_iload dX7_cut_68 rfl ?_
      refine v_iald dX7_cut_70 (hH 1 0 (by decide)) (by omega) (by omega) (by decide) ?_
      refine v_isub dX7_cut_71 ?_
      exact v_iret dX7_cut_72 rfl ⟨(Nat.le_of_ble_eq_true rfl), (Nat.le_of_ble_eq_true rfl)⟩ (by omega) ⟨s, hY, hO, Or.inr ⟨hv, m, by omega, by omega, h3, h1, by omega⟩⟩
    · refine v_aloadn dX7_cut_48 rfl ?_
      refine v_get dX7_cut_49 gf_X7_13 (hH 0 0 (by decide)) rfl ?_
      refine v_iload dX7_cut_52 rfl ?_
      refine v_dup2 dX7_cut_54 rfl rfl ?_
      refine v_iald dX7_cut_55 (hH 1 0 (by decide)) (by omega) (by omega) (by decide) ?_
      refine v_iconst dX7_cut_56 ?_
      refine v_isub dX7_cut_57 ?_
      refine v_iast dX7_cut_58 (hH 1 0 (by decide)) (by omega) (by omega) (by decide) ?_
      generalize hMe58 : wup _ _ _ = M58
      have hO : wO cntY fw Mi M58 := by rw [← hMe58]; exact hO.up (k := 1) (i := 0) (by decide)
      obtain ⟨s58, hs58⟩ : ∃ z, z = ups s 1 0 ((12 * a + b).toNat) (s 1 0 (12 * a + b).toNat - 1) := ⟨_, rfl⟩
      have hH : wH cntY (cellY G fw) fw s58 M58 := by rw [← hMe58, hs58]; exact wH.up hJ hH (k := 1) (i := 0) ((12 * a + b).toNat) (s 1 0 (12 * a + b).toNat - 1) (by decide) rfl
      have hs58b : s58 = ups si 1 0 (12 * a + b).toNat (m - 1) := by rw [hs58, e1, h1, ups_ups]
      have hY : wY G fw s58 M58 := ⟨hJ, hH, by rw [hs58]; exact invY_cut hI (by omega) (by omega) (by omega)⟩
      refine v_goto 38 dX7_cut_59 (by decide) ?_
      refine wV.locs (lv' := [(0, .ref (fw 0 0)), (1, .int (gI a)), (2, .int (gI b)), (3, .int (gI t)), (4, .int (gI (12 * a + b))), (5, .int (gI (si 1 0 (12 * a + b).toNat)))]) ⟨rfl, rfl, rfl, rfl, rfl, rfl, trivial⟩ (ih s58 M58 (m - 1) (by omega) (by omega) hY hO hs58b (by omega) (fun j hj hj2 => (show m ≤ j ∨ 50 * (12 * a + b) + j = 50 * (12 * a + b) + m - 1 by omega).elim (fun h => h3 j h hj2) (fun h => by rw [h]; omega)))
set_option maxHeartbeats 4000000 in
set_option maxRecDepth 100000 in
theorem tX7_cut {G : gG} {fw : Nat → Nat → Nat} {si : sG} {Mi : wM} (hY : wY G fw si Mi) {a b t : Int} (ha : rng a) (hb : rng b) (ht : rng t) : wT G qX7_cut 0 0 [.ref (fw 0 0), .int (gI a), .int (gI b), .int (gI t)] Mi (PY G fw Mi (fun x s' => (¬ (bt 0 a 1 ∧ bt 0 b 11 ∧ bt 0 t 3999) ∧ x = -1 ∧ s' = si) ∨ ((bt 0 a 1 ∧ bt 0 b 11 ∧ bt 0 t 3999) ∧ (∃ m, bt 0 m (si 1 0 (12 * a + b).toNat) ∧ (m = 0 ∨ si 2 0 (50 * (12 * a + b) + m - 1).toNat < t) ∧ (∀ j : Int, m ≤ j → j < si 1 0 (12 * a + b).toNat → t ≤ si 2 0 (50 * (12 * a + b) + j).toNat) ∧ s' = ups si 1 0 (12 * a + b).toNat m ∧ x = si 1 0 (12 * a + b).toNat - m)))) := by
  refine wT.intro (by decide) (Nat.le_of_ble_eq_true rfl) (fun sz => ?_)
  have h0 := hY.2.2.1
  have hrw := hY.2.2.2.1
  have hnm := hY.2.2.2.2.1
  have hsh := hY.2.2.2.2.2.1
  have hmk := hY.2.2.2.2.2.2.1
  have hic := hY.2.2.2.2.2.2.2.1
  have hcn := hY.2.2.2.2.2.2.2.2.1
  have hgt := hY.2.2.2.2.2.2.2.2.2
  refine v_iloadn dX7_cut_0 rfl ?_
  refine v_iloadn dX7_cut_1 rfl ?_
  refine v_callS (tX7_isRow (by omega) (by omega)) lc_X7_68 ⟨(Nat.le_of_ble_eq_true rfl), (Nat.le_of_ble_eq_true rfl)⟩ dX7_cut_2 rfl rfl (Nat.le_of_ble_eq_true rfl) ⟨(Nat.le_of_ble_eq_true rfl), (Nat.le_of_ble_eq_true rfl)⟩ (kP fun r2 hr2 hp2 => ?_)
  refine v_if_eq 19 dX7_cut_5 (by decide) (by omega) (fun h5 => ?_) (fun h5 => ?_)
  · refine v_iconst dX7_cut_19 ?_
    exact v_iret dX7_cut_20 rfl ⟨(Nat.le_of_ble_eq_true rfl), (Nat.le_of_ble_eq_true rfl)⟩ (by omega) ⟨si, hY, wO.rf, Or.inl ⟨by omega, by omega, rfl⟩⟩
  · refine v_iloadn dX7_cut_8 rfl ?_
    refine v_iconst dX7_cut_9 ?_
    refine v_sipush dX7_cut_10 (by decide) ?_
    refine v_callS (tX7_in (by omega) (by omega) (by omega)) lc_X7_60 ⟨(Nat.le_of_ble_eq_true rfl), (Nat.le_of_ble_eq_true rfl)⟩ dX7_cut_13 rfl rfl (Nat.le_of_ble_eq_true rfl) ⟨(Nat.le_of_ble_eq_true rfl), (Nat.le_of_ble_eq_true rfl)⟩ (kP fun r13 hr13 hp13 => ?_)
    refine v_if_ne 21 dX7_cut_16 (by decide) (by omega) (fun h16 => ?_) (fun h16 => ?_)
    · refine v_bipush dX7_cut_21 (by decide) ?_
      refine v_iloadn dX7_cut_23 rfl ?_
      refine v_imul dX7_cut_24 ?_
      refine v_iloadn dX7_cut_25 rfl ?_
      refine v_iadd dX7_cut_26 ?_
      refine v_istore dX7_cut_27 (Nat.le_of_ble_eq_true rfl) ?_
      have hr1 := hrw (12 * a + b).toNat (by omega)
      refine v_aloadn dX7_cut_29 rfl ?_
      refine v_get dX7_cut_30 gf_X7_13 (hY.2.1 0 0 (by decide)) rfl ?_
      refine v_iload dX7_cut_33 rfl ?_
      refine v_iald dX7_cut_35 (hY.2.1 1 0 (by decide)) (by omega) (by omega) (by decide) ?_
      refine v_istore dX7_cut_36 (Nat.le_of_ble_eq_true rfl) ?_
      refine wV.locs (lv' := [(0, .ref (fw 0 0)), (1, .int (gI a)), (2, .int (gI b)), (3, .int (gI t)), (4, .int (gI (12 * a + b))), (5, .int (gI (si 1 0 (12 * a + b).toNat)))]) ⟨rfl, rfl, rfl, rfl, rfl, rfl, trivial⟩ (tX7_cut_loop (by omega) (by omega) 60 si Mi (si 1 0 (12 * a + b).toNat) (by omega) (by omega) hY wO.rf (ups_id _ _ _ _).symm (by omega) (fun j h1 h2 => by omega))
    · refine v_iconst dX7_cut_19 ?_
      exact v_iret dX7_cut_20 rfl ⟨(Nat.le_of_ble_eq_true rfl), (Nat.le_of_ble_eq_true rfl)⟩ (by omega) ⟨si, hY, wO.rf, Or.inl ⟨by omega, by omega, rfl⟩⟩
def ykF (p : Int) (v : Int64) : Int := (((v >>> ((gI (16 * p)).toInt64 &&& 63)) &&& 65535).toInt32).toInt
theorem ykF_e (p : Int) (v : Int64) : ((v >>> ((gI (16 * p)).toInt64 &&& 63)) &&& 65535).toInt32 = gI (ykF p v) := gI_of _
theorem and64 (x : Int64) : (x &&& 65535).toInt32.toBitVec.toNat = x.toBitVec.toNat % 65536 := by
  rw [Int64.toBitVec_toInt32, BitVec.signExtend_eq_setWidth_of_le _ (by decide), BitVec.toNat_setWidth, Int64.toBitVec_and, BitVec.toNat_and]
  have e : (65535 : Int64).toBitVec.toNat = 2 ^ 16 - 1 := by decide
  rw [e, Nat.and_two_pow_sub_one_eq_mod]
  omega
theorem ykF_rg (p : Int) (v : Int64) : bt 0 (ykF p v) 65535 := by
  have h := and64 (v >>> ((gI (16 * p)).toInt64 &&& 63))
  unfold ykF
  rw [Int32.toInt, BitVec.toInt_eq_toNat_of_lt (by omega), h]
  omega
theorem yk_shr {p : Int} (h : bt 0 p 65535) : gI p >>> (gI 9 &&& 31) = gI (p / 512) := by
  have e : gI p = nI p.toNat := by rw [gI_nI]; congr 1; omega
  rw [e, pk_shrN (by omega) (gI 9 &&& 31) 9 (by decide), gI_nI]
  congr 1
  omega
def ayF (n : Int) (v : Int64) (t : Int) : Nat → Int
  | 0 => t
  | k + 1 => ayF n v t k + ykF (n - 1 - (k : Int)) v / 512
def okY (n : Int) (v : Int64) (t : Int) (k : Nat) : Prop := ykF (n - 1 - (k : Int)) v / 512 ≠ 0 ∧ ayF n v t (k + 1) < 4000 ∧ ykF (n - 1 - (k : Int)) v % 512 ≤ 256
def chY (s : sG) (r : Int) (n : Int) (v : Int64) : Nat → sG
  | 0 => s
  | k + 1 => layS (chY s r n v k) r (lastY (chY s r n v k) r + ykF (n - 1 - (k : Int)) v / 512) (ykF (n - 1 - (k : Int)) v % 512)
theorem lastY_lay {s : sG} {r t v : Int} (hr : 0 ≤ r) (h0 : 0 ≤ s 1 0 r.toNat) : lastY (layS s r t v) r = t := by
  have e1 : layS s r t v 1 0 r.toNat = s 1 0 r.toNat + 1 := by unfold layS; rw [ups_at]; unfold upz; rw [if_pos rfl]
  have e2 : layS s r t v 2 0 = upz (s 2 0) (50 * r + s 1 0 r.toNat).toNat t := by unfold layS; rw [ups_kf _ (by decide), ups_kf _ (by decide), ups_at]
  unfold lastY
  rw [e1, e2, if_neg (by omega)]
  unfold upz
  rw [if_pos (by omega)]
set_option maxHeartbeats 4000000 in
set_option maxRecDepth 100000 in
theorem tX7_changes_b {sz : Nat} {M0 : wM} {G : gG} {fw : Nat → Nat → Nat} {si : sG} {Mi : wM} {a b n : Int} {v : Int64} (hv : (bt 0 a 1 ∧ bt 0 b 11 ∧ bt 1 n 4)) (hok : (∀ k : Nat, (k : Int) < n → okY n v (lastY si (12 * a + b)) k)) (hroom : si 1 0 (12 * a + b).toNat + n ≤ 50) (hn0 : 0 ≤ si 1 0 (12 * a + b).toNat) : ∀ (k : Nat) (s : sG) (M : wM) (p : Int), 0 ≤ p + 1 → p + 1 < (k : Int) → (wY G fw s M) → (wO cntY fw Mi M) → (bt (-1) p (n - 1)) → (s = chY si (12 * a + b) n v (n - 1 - p).toNat) → (lastY s (12 * a + b) = ayF n v (lastY si (12 * a + b)) (n - 1 - p).toNat) → (s 1 0 (12 * a + b).toNat = si 1 0 (12 * a + b).toNat + (n - 1 - p)) → wV G qX7_changes 0 0 sz M0 0 0 128 [(0, .ref (fw 0 0)), (1, .int (gI a)), (2, .int (gI b)), (3, .int (gI n)), (4, .long v), (6, .int (gI (12 * a + b))), (8, .int (gI p))] [] M (PY G fw Mi (fun x s' => (¬ (bt 0 a 1 ∧ bt 0 b 11 ∧ bt 1 n 4) ∧ x = -1 ∧ s' = si) ∨ ((bt 0 a 1 ∧ bt 0 b 11 ∧ bt 1 n 4) ∧ (((∃ k : Nat, (k : Int) < n ∧ ¬ okY n v (lastY si (12 * a + b)) k) ∧ x = -1 ∧ s' = si) ∨ ((∀ k : Nat, (k : Int) < n → okY n v (lastY si (12 * a + b)) k) ∧ 50 < si 1 0 (12 * a + b).toNat + n ∧ x = -3 ∧ s' = si) ∨ ((∀ k : Nat, (k : Int) < n → okY n v (lastY si (12 * a + b)) k) ∧ si 1 0 (12 * a + b).toNat + n ≤ 50 ∧ x = si 1 0 (12 * a + b).toNat + n ∧ s' = chY si (12 * a + b) n v n.toNat))))) := by
  intro k
  induction k with
  | zero =>
    intros
    omega
  | succ k ih =>
    intro s M p hmz hml hY hO h1 h2 h3 h4
    have h0 := hY.2.2.1
    have hrw := hY.2.2.2.1
    have hnm := hY.2.2.2.2.1
    have hsh := hY.2.2.2.2.2.1
    have hmk := hY.2.2.2.2.2.2.1
    have hic := hY.2.2.2.2.2.2.2.1
    have hcn := hY.2.2.2.2.2.2.2.2.1
    have hgt := hY.2.2.2.2.2.2.2.2.2
    have hw : bt 0 (12 * a + b) 23 := by omega
    have eI : ((n - 1 - p).toNat : Int) = n - 1 - p := by omega
    have hyk := ykF_rg p v
    have eA : ayF n v (lastY si (12 * a + b)) ((n - 1 - p).toNat + 1) = ayF n v (lastY si (12 * a + b)) (n - 1 - p).toNat + ykF p v / 512 := by show _ + ykF (n - 1 - ((n - 1 - p).toNat : Int)) v / 512 = _; rw [eI, show n - 1 - (n - 1 - p) = p by omega]
    have eP : n - 1 - ((n - 1 - p).toNat : Int) = p := by omega
    refine v_iload dX7_changes_128 rfl ?_
    refine v_if_lt 178 dX7_changes_130 (by decide) (by omega) (fun h130 => ?_) (fun h130 => ?_)
    · refine v_aloadn dX7_changes_178 rfl ?_
      refine v_get dX7_changes_179 gf_X7_13 (hY.2.1 0 0 (by decide)) rfl ?_
      refine v_iload dX7_changes_182 rfl ?_
      refine v_iald dX7_changes_184 (hY.2.1 1 0 (by decide)) (by omega) (by omega) (by decide) ?_
      exact v_iret dX7_changes_185 rfl ⟨(Nat.le_of_ble_eq_true rfl), (Nat.le_of_ble_eq_true rfl)⟩ (by have hr1 := hrw (12 * a + b).toNat (by omega); omega) ⟨s, hY, hO, Or.inr ⟨hv, Or.inr (Or.inr ⟨hok, hroom, by omega, by rw [h2]; congr 1; omega⟩)⟩⟩
    · refine v_lload dX7_changes_133 rfl ?_
      refine v_bipush dX7_changes_135 (by decide) ?_
      refine v_iload dX7_changes_137 rfl ?_
      refine v_imul dX7_changes_139 ?_
      refine v_lshr dX7_changes_140 ?_
      refine v_ldc2 (n := 65535) dX7_changes_141 (by decide +kernel) ?_
      refine v_land dX7_changes_144 ?_
      refine v_l2i dX7_changes_145 ?_
      rw [ykF_e p v]
      refine v_istore dX7_changes_146 (Nat.le_of_ble_eq_true rfl) ?_
      refine v_aloadn dX7_changes_148 rfl ?_
      refine v_iload dX7_changes_149 rfl ?_
      refine v_aloadn dX7_changes_151 rfl ?_
      refine v_iload dX7_changes_152 rfl ?_
      refine v_callV (tX7_last hY (by omega)) lc_X7_72 ⟨(Nat.le_of_ble_eq_true rfl), (Nat.le_of_ble_eq_true rfl)⟩ dX7_changes_154 rfl rfl (Nat.le_of_ble_eq_true rfl) ⟨(Nat.le_of_ble_eq_true rfl), (Nat.le_of_ble_eq_true rfl)⟩ ⟨_, _, _, _, hY.2.1 0 0 (by decide), rfl⟩ (kP fun r154 hr154 hp154 => ?_)
      have e154 : r154 = ayF n v (lastY si (12 * a + b)) (n - 1 - p).toNat := by rw [hp154.1]; exact h3
      have hk := hok (n - 1 - p).toNat (by omega)
      unfold okY at hk
      rw [eA, eP] at hk
      refine v_iload dX7_changes_157 rfl ?_
      refine v_bipush dX7_changes_159 (by decide) ?_
      refine v_ishr dX7_changes_161 ?_
      rw [yk_shr (by omega)]
      refine v_iadd dX7_changes_162 ?_
      refine v_iload dX7_changes_163 rfl ?_
      refine v_sipush dX7_changes_165 (by decide) ?_
      refine v_iand dX7_changes_168 ?_
      rw [pk_and511 (by omega)]
      refine v_callV (tX7_lays hY (by omega) (by omega) (by omega) (by omega)) lc_X7_76 ⟨(Nat.le_of_ble_eq_true rfl), (Nat.le_of_ble_eq_true rfl)⟩ dX7_changes_169 rfl rfl (Nat.le_of_ble_eq_true rfl) ⟨(Nat.le_of_ble_eq_true rfl), (Nat.le_of_ble_eq_true rfl)⟩ ⟨_, _, _, _, hY.2.1 0 0 (by decide), rfl⟩ (kV fun M169 hp169 => ?_)
      obtain ⟨s169, hY, hO169, hs169⟩ := hp169
      have hO := hO.tr hO169
      have el : lastY s169 (12 * a + b) = ayF n v (lastY si (12 * a + b)) (n - 1 - p).toNat + ykF p v / 512 := by rw [hs169, lastY_lay (by omega) (by omega)]; omega
      have es : s169 = chY si (12 * a + b) n v ((n - 1 - p).toNat + 1) := by
        show s169 = layS (chY si (12 * a + b) n v (n - 1 - p).toNat) (12 * a + b) (lastY (chY si (12 * a + b) n v (n - 1 - p).toNat) (12 * a + b) + ykF (n - 1 - ((n - 1 - p).toNat : Int)) v / 512) (ykF (n - 1 - ((n - 1 - p).toNat : Int)) v % 512)
        rw [hs169, ← h2, eP, h3, e154]
      have e169 : s169 1 0 (12 * a + b).toNat = s 1 0 (12 * a + b).toNat + 1 := by rw [hs169]; unfold layS; rw [ups_at]; unfold upz; rw [if_pos rfl]
      refine v_iinc dX7_changes_172 rfl (Nat.le_of_ble_eq_true rfl) ?_
      refine v_goto 128 dX7_changes_175 (by decide) ?_
      refine wV.locs (lv' := [(0, .ref (fw 0 0)), (1, .int (gI a)), (2, .int (gI b)), (3, .int (gI n)), (4, .long v), (6, .int (gI (12 * a + b))), (8, .int (gI _))]) ⟨rfl, rfl, rfl, rfl, rfl, rfl, rfl, trivial⟩ (ih _ _ _ (by omega) (by omega) hY hO (by omega) (by rw [show (n - 1 - (p + -1)).toNat = (n - 1 - p).toNat + 1 by omega]; exact es) (by rw [show (n - 1 - (p + -1)).toNat = (n - 1 - p).toNat + 1 by omega, eA]; exact el) (by omega))
set_option maxHeartbeats 4000000 in
set_option maxRecDepth 100000 in
theorem tX7_changes_a {sz : Nat} {M0 : wM} {G : gG} {fw : Nat → Nat → Nat} {si : sG} {Mi : wM} (hY : wY G fw si Mi) {a b n : Int} {v : Int64} (hv : (bt 0 a 1 ∧ bt 0 b 11 ∧ bt 1 n 4)) (hn0 : 0 ≤ si 1 0 (12 * a + b).toNat) (hn1 : si 1 0 (12 * a + b).toNat ≤ 50) : ∀ (k : Nat) (t p : Int), 0 ≤ p + 1 → p + 1 < (k : Int) → (bt (-1) p (n - 1)) → (t = ayF n v (lastY si (12 * a + b)) (n - 1 - p).toNat) → (bt (-1) t 3999) → (∀ k : Nat, (k : Int) < n - 1 - p → okY n v (lastY si (12 * a + b)) k) → wV G qX7_changes 0 0 sz M0 0 0 40 [(0, .ref (fw 0 0)), (1, .int (gI a)), (2, .int (gI b)), (3, .int (gI n)), (4, .long v), (6, .int (gI (12 * a + b))), (7, .int (gI t)), (8, .int (gI p))] [] Mi (PY G fw Mi (fun x s' => (¬ (bt 0 a 1 ∧ bt 0 b 11 ∧ bt 1 n 4) ∧ x = -1 ∧ s' = si) ∨ ((bt 0 a 1 ∧ bt 0 b 11 ∧ bt 1 n 4) ∧ (((∃ k : Nat, (k : Int) < n ∧ ¬ okY n v (lastY si (12 * a + b)) k) ∧ x = -1 ∧ s' = si) ∨ ((∀ k : Nat, (k : Int) < n → okY n v (lastY si (12 * a + b)) k) ∧ 50 < si 1 0 (12 * a + b).toNat + n ∧ x = -3 ∧ s' = si) ∨ ((∀ k : Nat, (k : Int) < n → okY n v (lastY si (12 * a + b)) k) ∧ si 1 0 (12 * a + b).toNat + n ≤ 50 ∧ x = si 1 0 (12 * a + b).toNat + n ∧ s' = chY si (12 * a + b) n v n.toNat))))) := by
  intro k
  induction k with
  | zero =>
    intros
    omega
  | succ k ih =>
    intro t p hmz hml h1 h2 h3 h4
    have h0 := hY.2.2.1
    have hrw := hY.2.2.2.1
    have hnm := hY.2.2.2.2.1
    have hsh := hY.2.2.2.2.2.1
    have hmk := hY.2.2.2.2.2.2.1
    have hic := hY.2.2.2.2.2.2.2.1
    have hcn := hY.2.2.2.2.2.2.2.2.1
    have hgt := hY.2.2.2.2.2.2.2.2.2
    have hw : bt 0 (12 * a + b) 23 := by omega
    have eI : ((n - 1 - p).toNat : Int) = n - 1 - p := by omega
    have hyk := ykF_rg p v
    have eA : ayF n v (lastY si (12 * a + b)) ((n - 1 - p).toNat + 1) = ayF n v (lastY si (12 * a + b)) (n - 1 - p).toNat + ykF p v / 512 := by show _ + ykF (n - 1 - ((n - 1 - p).toNat : Int)) v / 512 = _; rw [eI, show n - 1 - (n - 1 - p) = p by omega]
    have eP : n - 1 - ((n - 1 - p).toNat : Int) = p := by omega
    refine v_iload dX7_changes_40 rfl ?_
    refine v_if_lt 106 dX7_changes_42 (by decide) (by omega) (fun h42 => ?_) (fun h42 => ?_)
    · refine v_aloadn dX7_changes_106 rfl ?_
      refine v_get dX7_changes_107 gf_X7_13 (hY.2.1 0 0 (by decide)) rfl ?_
      refine v_iload dX7_changes_110 rfl ?_
      refine v_iald dX7_changes_112 (hY.2.1 1 0 (by decide)) (by omega) (by omega) (by decide) ?_
      refine v_iloadn dX7_changes_113 rfl ?_
      refine v_iadd dX7_changes_114 ?_
      refine v_bipush dX7_changes_115 (by decide) ?_
      refine v_icmp_le 123 dX7_changes_117 (by decide) (by omega) (by omega) (fun h117 => ?_) (fun h117 => ?_)
      · refine v_iloadn dX7_changes_123 rfl ?_
        refine v_iconst dX7_changes_124 ?_
        refine v_isub dX7_changes_125 ?_
        refine v_istore dX7_changes_126 (Nat.le_of_ble_eq_true rfl) ?_
        refine wV.locs (lv' := [(0, .ref (fw 0 0)), (1, .int (gI a)), (2, .int (gI b)), (3, .int (gI n)), (4, .long v), (6, .int (gI (12 * a + b))), (8, .int (gI (n - 1)))]) ⟨rfl, rfl, rfl, rfl, rfl, rfl, rfl, trivial⟩ (tX7_changes_b hv (fun k hk => h4 k (by omega)) (by omega) hn0 10 si Mi _ (by omega) (by omega) hY wO.rf (by omega) (by rw [show (n - 1 - (n - 1)).toNat = 0 by omega]; rfl) (by rw [show (n - 1 - (n - 1)).toNat = 0 by omega]; rfl) (by omega))
      · refine v_bipush dX7_changes_120 (by decide) ?_
        exact v_iret dX7_changes_122 rfl ⟨(Nat.le_of_ble_eq_true rfl), (Nat.le_of_ble_eq_true rfl)⟩ (by omega) ⟨si, hY, wO.rf, Or.inr ⟨hv, Or.inr (Or.inl ⟨fun k hk => h4 k (by omega), by omega, by omega, rfl⟩)⟩⟩
    · refine v_lload dX7_changes_45 rfl ?_
      refine v_bipush dX7_changes_47 (by decide) ?_
      refine v_iload dX7_changes_49 rfl ?_
      refine v_imul dX7_changes_51 ?_
      refine v_lshr dX7_changes_52 ?_
      refine v_ldc2 (n := 65535) dX7_changes_53 (by decide +kernel) ?_
      refine v_land dX7_changes_56 ?_
      refine v_l2i dX7_changes_57 ?_
      rw [ykF_e p v]
      refine v_istore dX7_changes_58 (Nat.le_of_ble_eq_true rfl) ?_
      refine v_iload dX7_changes_60 rfl ?_
      refine v_iload dX7_changes_62 rfl ?_
      refine v_bipush dX7_changes_64 (by decide) ?_
      refine v_ishr dX7_changes_66 ?_
      rw [yk_shr (by omega)]
      refine v_iadd dX7_changes_67 ?_
      refine v_istore dX7_changes_68 (Nat.le_of_ble_eq_true rfl) ?_
      refine v_iload dX7_changes_70 rfl ?_
      refine v_bipush dX7_changes_72 (by decide) ?_
      refine v_ishr dX7_changes_74 ?_
      rw [yk_shr (by omega)]
      refine v_if_eq 98 dX7_changes_75 (by decide) (by omega) (fun h75 => ?_) (fun h75 => ?_)
      · refine v_iconst dX7_changes_98 ?_
        exact v_iret dX7_changes_99 rfl ⟨(Nat.le_of_ble_eq_true rfl), (Nat.le_of_ble_eq_true rfl)⟩ (by omega) ⟨si, hY, wO.rf, Or.inr ⟨hv, Or.inl ⟨⟨(n - 1 - p).toNat, by omega, fun hok => by unfold okY at hok; rw [eA, eP] at hok; omega⟩, rfl, rfl⟩⟩⟩
      · refine v_iload dX7_changes_78 rfl ?_
        refine v_sipush dX7_changes_80 (by decide) ?_
        refine v_iand dX7_changes_83 ?_
        rw [pk_and511 (by omega)]
        refine v_sipush dX7_changes_84 (by decide) ?_
        refine v_icmp_gt 98 dX7_changes_87 (by decide) (by omega) (by omega) (fun h87 => ?_) (fun h87 => ?_)
        · refine v_iconst dX7_changes_98 ?_
          exact v_iret dX7_changes_99 rfl ⟨(Nat.le_of_ble_eq_true rfl), (Nat.le_of_ble_eq_true rfl)⟩ (by omega) ⟨si, hY, wO.rf, Or.inr ⟨hv, Or.inl ⟨⟨(n - 1 - p).toNat, by omega, fun hok => by unfold okY at hok; rw [eA, eP] at hok; omega⟩, rfl, rfl⟩⟩⟩
        · refine v_iload dX7_changes_90 rfl ?_
          refine v_sipush dX7_changes_92 (by decide) ?_
          refine v_icmp_le 100 dX7_changes_95 (by decide) (by omega) (by omega) (fun h95 => ?_) (fun h95 => ?_)
          · have hokk : okY n v (lastY si (12 * a + b)) (n - 1 - p).toNat := by unfold okY; rw [eA, eP]; omega
            refine v_iinc dX7_changes_100 rfl (Nat.le_of_ble_eq_true rfl) ?_
            refine v_goto 40 dX7_changes_103 (by decide) ?_
            refine wV.locs (lv' := [(0, .ref (fw 0 0)), (1, .int (gI a)), (2, .int (gI b)), (3, .int (gI n)), (4, .long v), (6, .int (gI (12 * a + b))), (7, .int (gI (_))), (8, .int (gI (_)))]) ⟨rfl, rfl, rfl, rfl, rfl, rfl, rfl, rfl, trivial⟩ (ih _ _ (by omega) (by omega) (by omega) (by rw [show (n - 1 - (p + -1)).toNat = (n - 1 - p).toNat + 1 by omega, eA]; omega) (by omega) (fun k hk => (show (k : Int) < n - 1 - p ∨ k = (n - 1 - p).toNat by omega).elim (fun h => h4 k h) (fun h => by rw [h]; exact hokk)))
          · refine v_iconst dX7_changes_98 ?_
            exact v_iret dX7_changes_99 rfl ⟨(Nat.le_of_ble_eq_true rfl), (Nat.le_of_ble_eq_true rfl)⟩ (by omega) ⟨si, hY, wO.rf, Or.inr ⟨hv, Or.inl ⟨⟨(n - 1 - p).toNat, by omega, fun hok => by unfold okY at hok; rw [eA, eP] at hok; omega⟩, rfl, rfl⟩⟩⟩
set_option maxHeartbeats 4000000 in
set_option maxRecDepth 100000 in
theorem tX7_changes {G : gG} {fw : Nat → Nat → Nat} {si : sG} {Mi : wM} (hY : wY G fw si Mi) {a b n : Int} {v : Int64} (ha : rng a) (hb : rng b) (hn : rng n) : wT G qX7_changes 0 0 [.ref (fw 0 0), .int (gI a), .int (gI b), .int (gI n), .long v] Mi (PY G fw Mi (fun x s' => (¬ (bt 0 a 1 ∧ bt 0 b 11 ∧ bt 1 n 4) ∧ x = -1 ∧ s' = si) ∨ ((bt 0 a 1 ∧ bt 0 b 11 ∧ bt 1 n 4) ∧ (((∃ k : Nat, (k : Int) < n ∧ ¬ okY n v (lastY si (12 * a + b)) k) ∧ x = -1 ∧ s' = si) ∨ ((∀ k : Nat, (k : Int) < n → okY n v (lastY si (12 * a + b)) k) ∧ 50 < si 1 0 (12 * a + b).toNat + n ∧ x = -3 ∧ s' = si) ∨ ((∀ k : Nat, (k : Int) < n → okY n v (lastY si (12 * a + b)) k) ∧ si 1 0 (12 * a + b).toNat + n ≤ 50 ∧ x = si 1 0 (12 * a + b).toNat + n ∧ s' = chY si (12 * a + b) n v n.toNat))))) := by
  refine wT.intro (by decide) (Nat.le_of_ble_eq_true rfl) (fun sz => ?_)
  have h0 := hY.2.2.1
  have hrw := hY.2.2.2.1
  have hnm := hY.2.2.2.2.1
  have hsh := hY.2.2.2.2.2.1
  have hmk := hY.2.2.2.2.2.2.1
  have hic := hY.2.2.2.2.2.2.2.1
  have hcn := hY.2.2.2.2.2.2.2.2.1
  have hgt := hY.2.2.2.2.2.2.2.2.2
  refine v_iloadn dX7_changes_0 rfl ?_
  refine v_iloadn dX7_changes_1 rfl ?_
  refine v_callS (tX7_isRow (by omega) (by omega)) lc_X7_68 ⟨(Nat.le_of_ble_eq_true rfl), (Nat.le_of_ble_eq_true rfl)⟩ dX7_changes_2 rfl rfl (Nat.le_of_ble_eq_true rfl) ⟨(Nat.le_of_ble_eq_true rfl), (Nat.le_of_ble_eq_true rfl)⟩ (kP fun r2 hr2 hp2 => ?_)
  refine v_if_eq 17 dX7_changes_5 (by decide) (by omega) (fun h5 => ?_) (fun h5 => ?_)
  · refine v_iconst dX7_changes_17 ?_
    exact v_iret dX7_changes_18 rfl ⟨(Nat.le_of_ble_eq_true rfl), (Nat.le_of_ble_eq_true rfl)⟩ (by omega) ⟨si, hY, wO.rf, Or.inl ⟨by omega, by omega, rfl⟩⟩
  · refine v_iloadn dX7_changes_8 rfl ?_
    refine v_iconst dX7_changes_9 ?_
    refine v_iconst dX7_changes_10 ?_
    refine v_callS (tX7_in (by omega) (by omega) (by omega)) lc_X7_60 ⟨(Nat.le_of_ble_eq_true rfl), (Nat.le_of_ble_eq_true rfl)⟩ dX7_changes_11 rfl rfl (Nat.le_of_ble_eq_true rfl) ⟨(Nat.le_of_ble_eq_true rfl), (Nat.le_of_ble_eq_true rfl)⟩ (kP fun r11 hr11 hp11 => ?_)
    refine v_if_ne 19 dX7_changes_14 (by decide) (by omega) (fun h14 => ?_) (fun h14 => ?_)
    · refine v_bipush dX7_changes_19 (by decide) ?_
      refine v_iloadn dX7_changes_21 rfl ?_
      refine v_imul dX7_changes_22 ?_
      refine v_iloadn dX7_changes_23 rfl ?_
      refine v_iadd dX7_changes_24 ?_
      refine v_istore dX7_changes_25 (Nat.le_of_ble_eq_true rfl) ?_
      have hr1 := hrw (12 * a + b).toNat (by omega)
      refine v_aloadn dX7_changes_27 rfl ?_
      refine v_iload dX7_changes_28 rfl ?_
      refine v_callV (tX7_last hY (by omega)) lc_X7_72 ⟨(Nat.le_of_ble_eq_true rfl), (Nat.le_of_ble_eq_true rfl)⟩ dX7_changes_30 rfl rfl (Nat.le_of_ble_eq_true rfl) ⟨(Nat.le_of_ble_eq_true rfl), (Nat.le_of_ble_eq_true rfl)⟩ ⟨_, _, _, _, hY.2.1 0 0 (by decide), rfl⟩ (kP fun r30 hr30 hp30 => ?_)
      refine v_istore dX7_changes_33 (Nat.le_of_ble_eq_true rfl) ?_
      refine v_iloadn dX7_changes_35 rfl ?_
      refine v_iconst dX7_changes_36 ?_
      refine v_isub dX7_changes_37 ?_
      refine v_istore dX7_changes_38 (Nat.le_of_ble_eq_true rfl) ?_
      refine wV.locs (lv' := [(0, .ref (fw 0 0)), (1, .int (gI a)), (2, .int (gI b)), (3, .int (gI n)), (4, .long v), (6, .int (gI (12 * a + b))), (7, .int (gI (_))), (8, .int (gI (n - 1)))]) ⟨rfl, rfl, rfl, rfl, rfl, rfl, rfl, rfl, trivial⟩ (tX7_changes_a hY (by omega) (by omega) (by omega) 10 _ _ (by omega) (by omega) (by omega) (by rw [show (n - 1 - (n - 1)).toNat = 0 by omega]; exact hp30.1) (by omega) (fun k hk => by omega))
    · refine v_iconst dX7_changes_17 ?_
      exact v_iret dX7_changes_18 rfl ⟨(Nat.le_of_ble_eq_true rfl), (Nat.le_of_ble_eq_true rfl)⟩ (by omega) ⟨si, hY, wO.rf, Or.inl ⟨by omega, by omega, rfl⟩⟩
