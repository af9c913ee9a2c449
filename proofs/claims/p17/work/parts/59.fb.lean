/-! rows of changes, side by side -/
theorem putS_n (x : sG) (r : Nat) (t v : Int) : putS x r t v 10 r = upz (x 10 r) 2 (x 10 r 2 + 1) := by
  unfold putS
  rw [ups_at, ups_kf _ (by decide), ups_kf _ (by decide)]
theorem putS_t (x : sG) (r : Nat) (t v : Int) : putS x r t v 11 r = upz (x 11 r) (x 10 r 2).toNat t := by
  unfold putS
  rw [ups_kf _ (by decide), ups_kf _ (by decide), ups_at]
theorem putS_v (x : sG) (r : Nat) (t v : Int) : putS x r t v 12 r = upz (x 12 r) (x 10 r 2).toNat v := by
  unfold putS
  rw [ups_kf _ (by decide), ups_at, ups_kf _ (by decide)]
theorem putS_o (x : sG) {r r' : Nat} (t v : Int) (h : r' ≠ r) (k : Nat) : putS x r t v k r' = x k r' := by
  unfold putS
  rw [ups_i _ h, ups_i _ h, ups_i _ h]
theorem putS_k (x : sG) {r k : Nat} (t v : Int) (h : k ≠ 10 ∧ k ≠ 11 ∧ k ≠ 12) : putS x r t v k = x k := by
  unfold putS
  rw [ups_kf _ h.1, ups_kf _ h.2.2, ups_kf _ h.2.1]
theorem layS_n (y : sG) (q t v : Int) : layS y q t v 1 0 = upz (y 1 0) q.toNat (y 1 0 q.toNat + 1) := by
  unfold layS
  rw [ups_at, ups_kf _ (by decide), ups_kf _ (by decide)]
theorem layS_t (y : sG) (q t v : Int) : layS y q t v 2 0 = upz (y 2 0) (50 * q + y 1 0 q.toNat).toNat t := by
  unfold layS
  rw [ups_kf _ (by decide), ups_kf _ (by decide), ups_at]
theorem layS_v (y : sG) (q t v : Int) : layS y q t v 3 0 = upz (y 3 0) (50 * q + y 1 0 q.toNat).toNat v := by
  unfold layS
  rw [ups_kf _ (by decide), ups_at, ups_kf _ (by decide)]
theorem layS_k (y : sG) {q t v : Int} {k : Nat} (h : k ≠ 1 ∧ k ≠ 2 ∧ k ≠ 3) : layS y q t v k = y k := by
  unfold layS
  rw [ups_kf _ h.1, ups_kf _ h.2.2, ups_kf _ h.2.1]
theorem lastS_lt {x : sG} {r : Nat} {t : Int} (hs : srt (x 10 r 2) (x 11 r)) (h0 : 0 ≤ x 10 r 2) (hl : lastS x r < t) (i : Nat) (hi : (i : Int) < x 10 r 2) : x 11 r i < t := by
  unfold lastS tickF at hl
  rw [if_neg (by omega), if_pos (by omega)] at hl
  rcases Nat.lt_or_ge i (x 10 r 2 - 1).toNat with q | q
  · have := hs i (x 10 r 2 - 1).toNat q (by omega)
    omega
  · have : i = (x 10 r 2 - 1).toNat := by omega
    rw [this]
    exact hl
def szR (x : sG) : Prop := ∀ r, r < 24 → 0 ≤ x 10 r 2 ∧ x 10 r 2 ≤ 50
theorem szR_of {x : sG} (h : invX x) : szR x := fun r hr => ⟨(h.2.2.2.2.1 r (by omega)).1, (h.2.2.2.2.1 r (by omega)).2.1⟩
theorem rowR.put {x y : sG} {r : Nat} {q t v : Int} (h : rowR x y) (hz : szR x) (hr : r < 24) (hq : q = (r : Int)) (hn : x 10 r 2 < 50) (hl : lastS x r < t) : rowR (putS x r t v) (layS y q t v) := by
  subst hq
  have hn0 := (hz r hr).1
  have er : ((r : Int)).toNat = r := by omega
  intro r' hr'
  obtain ⟨g1, g2, g3⟩ := h r' hr'
  by_cases e : r' = r
  · subst e
    rw [putS_n, putS_t, putS_v, layS_n, er]
    have e1 : upz (x 10 r') 2 (x 10 r' 2 + 1) 2 = x 10 r' 2 + 1 := rfl
    rw [e1]
    refine ⟨by unfold upz; rw [if_pos rfl, g1], fun j hj => ?_, fun i j hij hj => ?_⟩
    · unfold yT yV
      rw [layS_t, layS_v, er, ← g1]
      unfold upz
      by_cases z : j = (x 10 r' 2).toNat
      · rw [if_pos z, if_pos z, if_pos (by omega), if_pos (by omega)]
        exact ⟨rfl, rfl⟩
      · rw [if_neg z, if_neg z, if_neg (by omega), if_neg (by omega)]
        exact g2 j (by omega)
    · unfold upz
      by_cases z : j = (x 10 r' 2).toNat
      · rw [if_pos z, if_neg (by omega)]
        exact lastS_lt g3 hn0 hl i (by omega)
      · rw [if_neg z, if_neg (by omega)]
        exact g3 i j hij (by omega)
  · rw [putS_o x t v e, putS_o x t v e, putS_o x t v e, layS_n, er]
    refine ⟨by unfold upz; rw [if_neg e, g1], fun j hj => ?_, g3⟩
    have hb := (hz r' hr').2
    have hb2 := (h r hr).1
    unfold yT yV
    rw [layS_t, layS_v, er]
    unfold upz
    rw [if_neg (by omega), if_neg (by omega)]
    exact g2 j hj
theorem last_eq {x y : sG} {r : Nat} {q : Int} (h : rowR x y) (hz : szR x) (hr : r < 24) (hq : q = (r : Int)) : lastS x r = lastY y q := by
  subst hq
  obtain ⟨g1, g2, -⟩ := h r hr
  have hn0 := (hz r hr).1
  have er : ((r : Int)).toNat = r := by omega
  unfold lastS lastY tickF
  rw [er, ← g1]
  by_cases z : x 10 r 2 = 0
  · rw [if_pos (by omega), if_pos z]
  · rw [if_neg (by omega), if_pos (by omega), if_neg z, (g2 _ (by omega)).1]
    unfold yT
    congr 1
    omega
theorem rowR.cut {x y : sG} {r : Nat} {q t z m : Int} (h : rowR x y) (hr : r < 24) (hq : q = (r : Int)) (h1 : lateP (x 10 r 2) (x 11 r) (t - 1) z) (h2 : bt 0 m (y 1 0 q.toNat)) (h3 : m = 0 ∨ y 2 0 (50 * q + m - 1).toNat < t) (h4 : ∀ j : Int, m ≤ j → j < y 1 0 q.toNat → t ≤ y 2 0 (50 * q + j).toNat) : z + 1 = m ∧ rowR (ups x 10 r 2 (z + 1)) (ups y 1 0 q.toNat m) := by
  subst hq
  have er : ((r : Int)).toNat = r := by omega
  rw [er] at h2 h4 ⊢
  obtain ⟨g1, g2, g3⟩ := h r hr
  obtain ⟨a1, a2, a3⟩ := h1
  obtain ⟨a3, a4⟩ := a3 g3
  have eT : ∀ j : Nat, (j : Int) < x 10 r 2 → x 11 r j = y 2 0 (50 * (r : Int) + j).toNat := fun j hj => by
    rw [(g2 j hj).1]
    unfold yT
    congr 1 <;> omega
  have em : z + 1 = m := by
    rcases Int.lt_trichotomy (z + 1) m with c | c | c
    · have d1 := a4 (m - 1).toNat (by omega) (by omega)
      rw [eT _ (by omega), show 50 * (r : Int) + ((m - 1).toNat : Int) = 50 * r + m - 1 by omega] at d1
      omega
    · exact c
    · have d1 := a3 m.toNat (by omega)
      have d2 := h4 m (by omega) (by omega)
      rw [eT _ (by omega), show ((m.toNat : Nat) : Int) = m by omega] at d1
      omega
  refine ⟨em, fun r' hr' => ?_⟩
  rw [ups_kf _ (show (11 : Nat) ≠ 10 by decide), ups_kf _ (show (12 : Nat) ≠ 10 by decide), ups_at]
  have eyT : yT (ups y 1 0 r m) = yT y := by funext a b; unfold yT; rw [ups_kf _ (by decide)]
  have eyV : yV (ups y 1 0 r m) = yV y := by funext a b; unfold yV; rw [ups_kf _ (by decide)]
  rw [eyT, eyV]
  by_cases e : r' = r
  · subst e
    rw [ups_at]
    have e1 : upz (x 10 r') 2 (z + 1) 2 = z + 1 := rfl
    rw [e1]
    exact ⟨by unfold upz; rw [if_pos rfl]; exact em, fun j hj => g2 j (by omega), fun i j hij hj => g3 i j hij (by omega)⟩
  · rw [ups_i _ e]
    obtain ⟨k1, k2, k3⟩ := h r' hr'
    exact ⟨by unfold upz; rw [if_neg e]; exact k1, k2, k3⟩
/-! bits of changes -/
theorem shr_lo (b : BitVec 64) (s : Nat) (hs : s ≤ 48) : (b.sshiftRight s).toNat % 65536 = (b >>> s).toNat % 65536 := by
  have h : (b.sshiftRight s).setWidth 16 = (b >>> s).setWidth 16 := by
    apply BitVec.eq_of_getLsbD_eq
    intro i hi
    rw [BitVec.getLsbD_setWidth, BitVec.getLsbD_setWidth, BitVec.getLsbD_sshiftRight, BitVec.getLsbD_ushiftRight]
    have h1 : ¬ (64 ≤ i) := by omega
    have h2 : s + i < 64 := by omega
    simp [h1, h2]
  have := congrArg BitVec.toNat h
  rw [BitVec.toNat_setWidth, BitVec.toNat_setWidth] at this
  exact this
theorem and32 (x : Int64) : (x.toInt32 &&& gI 65535).toBitVec.toNat = x.toBitVec.toNat % 65536 := by
  rw [Int32.toBitVec_and, BitVec.toNat_and, Int64.toBitVec_toInt32, BitVec.signExtend_eq_setWidth_of_le _ (by decide), BitVec.toNat_setWidth]
  have e : (gI 65535).toBitVec.toNat = 2 ^ 16 - 1 := by decide
  rw [e, Nat.and_two_pow_sub_one_eq_mod]
  omega
theorem pk_yk_s (v : Int64) (p : Int) (s : Nat) (hs : s ≤ 48) (e1 : ((gI (16 * p)).toInt64.toUInt64 &&& Int64.toUInt64 63).toNat = s) (e2 : ((gI (16 * p)).toInt64 &&& 63).toBitVec = BitVec.ofNat 64 s) : ((((v.toUInt64 >>> ((gI (16 * p)).toInt64.toUInt64 &&& Int64.toUInt64 63)).toInt64).toInt32 &&& gI 65535)).toInt = ykF p v := by
  have h1 := and32 ((v.toUInt64 >>> ((gI (16 * p)).toInt64.toUInt64 &&& Int64.toUInt64 63)).toInt64)
  have h2 := and64 (v >>> ((gI (16 * p)).toInt64 &&& 63))
  have h3 : ((v.toUInt64 >>> ((gI (16 * p)).toInt64.toUInt64 &&& Int64.toUInt64 63)).toInt64).toBitVec.toNat % 65536 = (v >>> ((gI (16 * p)).toInt64 &&& 63)).toBitVec.toNat % 65536 := by
    have a1 : ((v.toUInt64 >>> ((gI (16 * p)).toInt64.toUInt64 &&& Int64.toUInt64 63)).toInt64).toBitVec.toNat = (v.toBitVec >>> s).toNat := by
      show (v.toUInt64 >>> ((gI (16 * p)).toInt64.toUInt64 &&& Int64.toUInt64 63)).toNat = _
      rw [UInt64.toNat_shiftRight, e1, BitVec.toNat_ushiftRight, Nat.mod_eq_of_lt (by omega)]
      rfl
    have a2 : (v >>> ((gI (16 * p)).toInt64 &&& 63)).toBitVec = v.toBitVec.sshiftRight s := by
      rw [Int64.toBitVec_shiftRight, e2]
      have : (BitVec.ofNat 64 s).smod 64 = BitVec.ofNat 64 s := by
        have : s ≤ 48 := hs
        rcases (show s < 49 by omega) with h
        exact (by decide : ∀ s : Fin 49, (BitVec.ofNat 64 s.val).smod 64 = BitVec.ofNat 64 s.val) ⟨s, h⟩
      rw [this, BitVec.sshiftRight_eq']
      congr 1
      rw [BitVec.toNat_ofNat]
      omega
    rw [a1, a2, shr_lo _ _ hs]
  unfold ykF
  rw [Int32.toInt, Int32.toInt]
  congr 1
  apply BitVec.eq_of_toNat_eq
  omega
theorem pk_yk {n i : Int} (hn : bt 1 n 4) (hi : bt 0 i 3) (h : i < n) (v : Int64) : pkF n i v = ykF (n - 1 - i) v := by
  unfold pkF pkR
  rcases (show n - 1 - i = 0 ∨ n - 1 - i = 1 ∨ n - 1 - i = 2 ∨ n - 1 - i = 3 by omega) with e | e | e | e <;> rw [e]
  · exact pk_yk_s v 0 0 (by decide) (by decide) (by decide)
  · exact pk_yk_s v 1 16 (by decide) (by decide) (by decide)
  · exact pk_yk_s v 2 32 (by decide) (by decide) (by decide)
  · exact pk_yk_s v 3 48 (by decide) (by decide) (by decide)
theorem acc_eq {n t : Int} {v : Int64} (hn : bt 1 n 4) : ∀ k : Nat, (k : Int) ≤ n → accF n v t k = ayF n v t k
  | 0, _ => rfl
  | k + 1, h => by
    show accF n v t k + pkF n (k : Int) v / 512 = ayF n v t k + ykF (n - 1 - (k : Int)) v / 512
    rw [acc_eq hn k (by omega), pk_yk hn (by omega) (by omega)]
theorem ok_eq {n t : Int} {v : Int64} (hn : bt 1 n 4) {k : Nat} (hk : (k : Int) < n) : okC n v t k ↔ okY n v t k := by
  unfold okC okY
  rw [acc_eq hn (k + 1) (by omega), pk_yk hn (by omega) (by omega)]
theorem rowR.ch {x y : sG} {r : Nat} {q n : Int} {v : Int64} (h : rowR x y) (hz : szR x) (hr : r < 24) (hq : q = (r : Int)) (hn : bt 1 n 4) (hroom : x 10 r 2 + n ≤ 50) (hok : ∀ k : Nat, (k : Int) < n → okC n v (lastS x r) k) : ∀ k : Nat, (k : Int) ≤ n → rowR (chS x r n v k) (chY y q n v k) ∧ szR (chS x r n v k) ∧ chS x r n v k 10 r 2 = x 10 r 2 + k ∧ lastS (chS x r n v k) r = accF n v (lastS x r) k
  | 0, _ => ⟨h, hz, (Int.add_zero _).symm, rfl⟩
  | k + 1, hk => by
    obtain ⟨i1, i2, i3, i4⟩ := rowR.ch h hz hr hq hn hroom hok k (by omega)
    have hz0 := (hz r hr).1
    have ho := hok k (by omega)
    unfold okC at ho
    have hp := pkF_rg n (k : Int) v
    show rowR (putS (chS x r n v k) r (lastS (chS x r n v k) r + pkF n (k : Int) v / 512) (pkF n (k : Int) v % 512)) (layS (chY y q n v k) q (lastY (chY y q n v k) q + ykF (n - 1 - (k : Int)) v / 512) (ykF (n - 1 - (k : Int)) v % 512)) ∧ szR (putS (chS x r n v k) r (lastS (chS x r n v k) r + pkF n (k : Int) v / 512) (pkF n (k : Int) v % 512)) ∧ (putS (chS x r n v k) r (lastS (chS x r n v k) r + pkF n (k : Int) v / 512) (pkF n (k : Int) v % 512)) 10 r 2 = x 10 r 2 + ((k + 1 : Nat) : Int) ∧ lastS (putS (chS x r n v k) r (lastS (chS x r n v k) r + pkF n (k : Int) v / 512) (pkF n (k : Int) v % 512)) r = accF n v (lastS x r) k + pkF n (k : Int) v / 512
    rw [← last_eq i1 i2 hr hq, ← pk_yk hn (by omega) (by omega)]
    refine ⟨i1.put i2 hr hq (by omega) (by omega), fun r' hr' => ?_, ?_, ?_⟩
    · by_cases e : r' = r
      · subst e
        rw [putS_n]
        have e1 : ∀ f : Nat → Int, ∀ a, upz f 2 a 2 = a := fun _ _ => rfl
        rw [e1]
        omega
      · rw [putS_o _ _ _ e]
        exact i2 r' hr'
    · rw [putS_n]
      have e1 : ∀ f : Nat → Int, ∀ a, upz f 2 a 2 = a := fun _ _ => rfl
      rw [e1]
      omega
    · rw [lastS_put (by omega), i4]
theorem chS_o (x : sG) {r r' : Nat} (n : Int) (v : Int64) (h : r' ≠ r) (k : Nat) : ∀ m, chS x r n v m k r' = x k r'
  | 0 => rfl
  | m + 1 => (putS_o _ _ _ h k).trans (chS_o x n v h k m)
theorem chS_k (x : sG) {r k : Nat} (n : Int) (v : Int64) (h : k ≠ 10 ∧ k ≠ 11 ∧ k ≠ 12) : ∀ m, chS x r n v m k = x k
  | 0 => rfl
  | m + 1 => (putS_k _ _ _ h).trans (chS_k x n v h m)
theorem chY_k (y : sG) {q n : Int} {v : Int64} {k : Nat} (h : k ≠ 1 ∧ k ≠ 2 ∧ k ≠ 3) : ∀ m, chY y q n v m k = y k
  | 0 => rfl
  | m + 1 => (layS_k _ h).trans (chY_k y h m)
