def shY (s : sG) (o : Nat) : Int := s 6 0 (s 5 0 o).toNat
def dfY (s : sG) (o : Nat) (t : Int) : Prop := dY s (o : Int) (shY s o) t
theorem fst_min {D : Nat → Int → Prop} {e i m t : Int} (h : mP D e i m) (ht : 0 ≤ t) (h1 : t < e → D i.toNat t) (h2 : ∀ u, 0 ≤ u → u < t → u < e → ¬ D i.toNat u) : fstP (D i.toNat) 0 m (min t m) := by
  have hm := h.1
  rcases (show m ≤ 0 ∨ 0 < m by omega) with c | c
  · exact Or.inl ⟨c, by omega⟩
  · refine Or.inr ⟨c, by omega, by omega, fun q => ?_, fun u u1 u2 => h2 u u1 (by omega) (by omega)⟩
    rw [show min t m = t by omega]
    exact h1 (by omega)
set_option maxHeartbeats 4000000 in
set_option maxRecDepth 100000 in
theorem fX7_first_in {sz : Nat} {M0 : wM} {G : gG} {fw : Nat → Nat → Nat} {s : sG} {M : wM} (hsY : srY s) (hY : wY G fw s M) {u a w : Int} (ha : bt 0 a 11) (hw : bt (-50) w 50) {Post : Option Value → wM → Prop} (hk : ∀ t, bt 0 t 100050 → (t < s 0 0 0 → dY s a w t) → (∀ v, 0 ≤ v → v < t → v < s 0 0 0 → ¬ dY s a w v) → wV G qX7_first 0 0 sz M0 0 0 59 [(0, .ref (fw 0 0)), (1, .int (gI u)), (2, .int (gI a)), (3, .int (gI w)), (4, .int (gI t))] [] M Post) : ∀ (k : Nat) (t : Int), 0 ≤ 100050 - t → 100050 - t < (k : Int) → (bt 0 t 100050) → (∀ v, 0 ≤ v → v < t → v < s 0 0 0 → ¬ dY s a w v) → wV G qX7_first 0 0 sz M0 0 0 26 [(0, .ref (fw 0 0)), (1, .int (gI u)), (2, .int (gI a)), (3, .int (gI w)), (4, .int (gI t))] [] M (Post) := by
  intro k
  induction k with
  | zero =>
    intros
    omega
  | succ k ih =>
    intro t hmz hml h1 h2
    have h0 := hY.2.2.1
    have hrw := hY.2.2.2.1
    have hnm := hY.2.2.2.2.1
    have hsh := hY.2.2.2.2.2.1
    have hmk := hY.2.2.2.2.2.2.1
    have hic := hY.2.2.2.2.2.2.2.1
    have hcn := hY.2.2.2.2.2.2.2.2.1
    have hgt := hY.2.2.2.2.2.2.2.2.2
    refine v_iload dX7_first_26 rfl ?_
    refine v_aloadn dX7_first_28 rfl ?_
    refine v_get dX7_first_29 gf_X7_7 (hY.2.1 0 0 (by decide)) rfl ?_
    refine v_icmp_ge 59 dX7_first_32 (by decide) (by omega) (by omega) (fun h32 => ?_) (fun h32 => ?_)
    · refine wV.locs (lv' := [(0, .ref (fw 0 0)), (1, .int (gI u)), (2, .int (gI a)), (3, .int (gI w)), (4, .int (gI t))]) ⟨rfl, rfl, rfl, rfl, rfl, trivial⟩ (hk _ (by omega) (fun q => by first | (exact absurd q (by omega)) | exact hp40.elim (fun z => z.2) (fun z => absurd z.1 (by omega))) h2)
    · refine v_aloadn dX7_first_35 rfl ?_
      refine v_iloadn dX7_first_36 rfl ?_
      refine v_iload dX7_first_37 rfl ?_
      refine v_iloadn dX7_first_39 rfl ?_
      refine v_callV (fX7_differs hsY hY (by omega) (by omega) (by omega)) lc_X7_110 ⟨(Nat.le_of_ble_eq_true rfl), (Nat.le_of_ble_eq_true rfl)⟩ dX7_first_40 rfl rfl (Nat.le_of_ble_eq_true rfl) ⟨(Nat.le_of_ble_eq_true rfl), (Nat.le_of_ble_eq_true rfl)⟩ ⟨_, _, _, _, hY.2.1 0 0 (by decide), rfl⟩ (kP fun r40 hr40 hp40 => ?_)
      have hb40 : r40 = 0 ∨ r40 = 1 := hp40.elim (fun z => Or.inr z.1) (fun z => Or.inl z.1)
      refine v_if_ne 59 dX7_first_43 (by decide) (by omega) (fun h43 => ?_) (fun h43 => ?_)
      · refine wV.locs (lv' := [(0, .ref (fw 0 0)), (1, .int (gI u)), (2, .int (gI a)), (3, .int (gI w)), (4, .int (gI t))]) ⟨rfl, rfl, rfl, rfl, rfl, trivial⟩ (hk _ (by omega) (fun q => by first | (exact absurd q (by omega)) | exact hp40.elim (fun z => z.2) (fun z => absurd z.1 (by omega))) h2)
      · refine v_aloadn dX7_first_46 rfl ?_
        refine v_iloadn dX7_first_47 rfl ?_
        refine v_iload dX7_first_48 rfl ?_
        refine v_iloadn dX7_first_50 rfl ?_
        refine v_callV (fX7_next hsY hY (by omega) (by omega) (by omega)) lc_X7_117 ⟨(Nat.le_of_ble_eq_true rfl), (Nat.le_of_ble_eq_true rfl)⟩ dX7_first_51 rfl rfl (Nat.le_of_ble_eq_true rfl) ⟨(Nat.le_of_ble_eq_true rfl), (Nat.le_of_ble_eq_true rfl)⟩ ⟨_, _, _, _, hY.2.1 0 0 (by decide), rfl⟩ (kP fun r51 hr51 hp51 => ?_)
        refine v_istore dX7_first_54 (Nat.le_of_ble_eq_true rfl) ?_
        refine v_goto 26 dX7_first_56 (by decide) ?_
        refine wV.locs (lv' := [(0, .ref (fw 0 0)), (1, .int (gI u)), (2, .int (gI a)), (3, .int (gI w)), (4, .int (gI _))]) ⟨rfl, rfl, rfl, rfl, rfl, trivial⟩ (ih _ (by omega) (by omega) (by omega) (fun v v1 v2 v3 => by
                    rcases (show v < t ∨ t ≤ v by omega) with c | c
                    · exact h2 v v1 c v3
                    · rw [hp51.2 v c v2]; exact hp40.elim (fun z => absurd z.1 (by omega)) (fun z => z.2)))
set_option maxHeartbeats 4000000 in
set_option maxRecDepth 100000 in
theorem fX7_first_out {sz : Nat} {M0 : wM} {G : gG} {fw : Nat → Nat → Nat} {s : sG} {M : wM} (hsY : srY s) (hY : wY G fw s M) : ∀ (k : Nat) (u a : Int), 0 ≤ 12 - a → 12 - a < (k : Int) → (bt 0 a 12) → (∃ m, mP (dfY s) (s 0 0 0) a m ∧ u = (if m < s 0 0 0 then m else -4)) → wV G qX7_first 0 0 sz M0 0 0 5 [(0, .ref (fw 0 0)), (1, .int (gI u)), (2, .int (gI a))] [] M (iP fun x M' => M' = M ∧ ∃ m, mP (dfY s) (s 0 0 0) 12 m ∧ x = (if m < s 0 0 0 then m else -4)) := by
  intro k
  induction k with
  | zero =>
    intros
    omega
  | succ k ih =>
    intro u a hmz hml h1 h2
    have h0 := hY.2.2.1
    have hrw := hY.2.2.2.1
    have hnm := hY.2.2.2.2.1
    have hsh := hY.2.2.2.2.2.1
    have hmk := hY.2.2.2.2.2.2.1
    have hic := hY.2.2.2.2.2.2.2.1
    have hcn := hY.2.2.2.2.2.2.2.2.1
    have hgt := hY.2.2.2.2.2.2.2.2.2
    obtain ⟨m, hm, hum⟩ := id h2
    have hmb := hm.1
    have hub : bt (-4) u 4000 := by rw [hum]; split <;> omega
    refine v_iloadn dX7_first_5 rfl ?_
    refine v_bipush dX7_first_6 (by decide) ?_
    refine v_icmp_ge 91 dX7_first_8 (by decide) (by omega) (by omega) (fun h8 => ?_) (fun h8 => ?_)
    · refine v_iloadn dX7_first_91 rfl ?_
      exact v_iret dX7_first_92 rfl ⟨(Nat.le_of_ble_eq_true rfl), (Nat.le_of_ble_eq_true rfl)⟩ (by omega) ⟨rfl, m, by rw [show (12 : Int) = a by omega]; exact hm, hum⟩
    · refine v_aloadn dX7_first_11 rfl ?_
      refine v_get dX7_first_12 gf_X7_29 (hY.2.1 0 0 (by decide)) rfl ?_
      refine v_aloadn dX7_first_15 rfl ?_
      refine v_get dX7_first_16 gf_X7_26 (hY.2.1 0 0 (by decide)) rfl ?_
      refine v_iloadn dX7_first_19 rfl ?_
      refine v_iald dX7_first_20 (hY.2.1 5 0 (by decide)) (by omega) (by omega) (by decide) ?_
      have hga := hnm a.toNat (by omega)
      refine v_iald dX7_first_21 (hY.2.1 6 0 (by decide)) (by omega) (by omega) (by decide) ?_
      have hsa := hsh (s 5 0 a.toNat).toNat (by omega)
      refine v_istoren dX7_first_22 (Nat.le_of_ble_eq_true rfl) ?_
      refine v_iconst dX7_first_23 ?_
      refine v_istore dX7_first_24 (Nat.le_of_ble_eq_true rfl) ?_
      refine wV.locs (lv' := [(0, .ref (fw 0 0)), (1, .int (gI u)), (2, .int (gI a)), (3, .int (gI (s 6 0 (s 5 0 a.toNat).toNat))), (4, .int (gI 0))]) ⟨rfl, rfl, rfl, rfl, rfl, trivial⟩ (fX7_first_in hsY hY (by omega) (by omega) (fun t ht t1 t2 => ?_) 100060 _ (by omega) (by omega) (by omega) (fun v v1 v2 => by omega))
      have hst := mP_step (by omega) hm (fst_min hm ht.1 (fun q => by unfold dfY shY; rw [show ((a.toNat : Nat) : Int) = a by omega]; exact t1 q) (fun v v1 v2 v3 => by unfold dfY shY; rw [show ((a.toNat : Nat) : Int) = a by omega]; exact t2 v v1 v2 v3))
      clear t1 t2 h2
      refine v_iload dX7_first_59 rfl ?_
      refine v_aloadn dX7_first_61 rfl ?_
      refine v_get dX7_first_62 gf_X7_7 (hY.2.1 0 0 (by decide)) rfl ?_
      refine v_icmp_ge 83 dX7_first_65 (by decide) (by omega) (by omega) (fun h65 => ?_) (fun h65 => ?_)
      · refine v_iloadn dX7_first_83 rfl ?_
        refine v_istoren dX7_first_84 (Nat.le_of_ble_eq_true rfl) ?_
        refine v_iinc dX7_first_85 rfl (Nat.le_of_ble_eq_true rfl) ?_
        refine v_goto 5 dX7_first_88 (by decide) ?_
        refine wV.locs (lv' := [(0, .ref (fw 0 0)), (1, .int (gI _)), (2, .int (gI _))]) ⟨rfl, rfl, rfl, trivial⟩ (ih _ _ (by omega) (by omega) (by omega) ⟨min t m, hst, by split at hum <;> split <;> omega⟩)
      · refine v_iloadn dX7_first_68 rfl ?_
        refine v_if_lt 78 dX7_first_69 (by decide) (by omega) (fun h69 => ?_) (fun h69 => ?_)
        · refine v_iload dX7_first_78 rfl ?_
          refine v_goto 84 dX7_first_80 (by decide) ?_
          refine v_istoren dX7_first_84 (Nat.le_of_ble_eq_true rfl) ?_
          refine v_iinc dX7_first_85 rfl (Nat.le_of_ble_eq_true rfl) ?_
          refine v_goto 5 dX7_first_88 (by decide) ?_
          refine wV.locs (lv' := [(0, .ref (fw 0 0)), (1, .int (gI _)), (2, .int (gI _))]) ⟨rfl, rfl, rfl, trivial⟩ (ih _ _ (by omega) (by omega) (by omega) ⟨min t m, hst, by split at hum <;> split <;> omega⟩)
        · refine v_iload dX7_first_72 rfl ?_
          refine v_iloadn dX7_first_74 rfl ?_
          refine v_icmp_ge 83 dX7_first_75 (by decide) (by omega) (by omega) (fun h75 => ?_) (fun h75 => ?_)
          · refine v_iloadn dX7_first_83 rfl ?_
            refine v_istoren dX7_first_84 (Nat.le_of_ble_eq_true rfl) ?_
            refine v_iinc dX7_first_85 rfl (Nat.le_of_ble_eq_true rfl) ?_
            refine v_goto 5 dX7_first_88 (by decide) ?_
            refine wV.locs (lv' := [(0, .ref (fw 0 0)), (1, .int (gI _)), (2, .int (gI _))]) ⟨rfl, rfl, rfl, trivial⟩ (ih _ _ (by omega) (by omega) (by omega) ⟨min t m, hst, by split at hum <;> split <;> omega⟩)
          · refine v_iload dX7_first_78 rfl ?_
            refine v_goto 84 dX7_first_80 (by decide) ?_
            refine v_istoren dX7_first_84 (Nat.le_of_ble_eq_true rfl) ?_
            refine v_iinc dX7_first_85 rfl (Nat.le_of_ble_eq_true rfl) ?_
            refine v_goto 5 dX7_first_88 (by decide) ?_
            refine wV.locs (lv' := [(0, .ref (fw 0 0)), (1, .int (gI _)), (2, .int (gI _))]) ⟨rfl, rfl, rfl, trivial⟩ (ih _ _ (by omega) (by omega) (by omega) ⟨min t m, hst, by split at hum <;> split <;> omega⟩)
set_option maxHeartbeats 4000000 in
set_option maxRecDepth 100000 in
theorem fX7_first {G : gG} {fw : Nat → Nat → Nat} {s : sG} {M : wM} (hsY : srY s) (hY : wY G fw s M) : wT G qX7_first 0 0 [.ref (fw 0 0)] M (iP fun x M' => M' = M ∧ ∃ m, mP (dfY s) (s 0 0 0) 12 m ∧ x = (if m < s 0 0 0 then m else -4)) := by
  refine wT.intro (by decide) (Nat.le_of_ble_eq_true rfl) (fun sz => ?_)
  have h0 := hY.2.2.1
  have hrw := hY.2.2.2.1
  have hnm := hY.2.2.2.2.1
  have hsh := hY.2.2.2.2.2.1
  have hmk := hY.2.2.2.2.2.2.1
  have hic := hY.2.2.2.2.2.2.2.1
  have hcn := hY.2.2.2.2.2.2.2.2.1
  have hgt := hY.2.2.2.2.2.2.2.2.2
  refine v_bipush dX7_first_0 (by decide) ?_
  refine v_istoren dX7_first_2 (Nat.le_of_ble_eq_true rfl) ?_
  refine v_iconst dX7_first_3 ?_
  refine v_istoren dX7_first_4 (Nat.le_of_ble_eq_true rfl) ?_
  refine wV.locs (lv' := [(0, .ref (fw 0 0)), (1, .int (gI (-4))), (2, .int (gI (0)))]) ⟨rfl, rfl, rfl, trivial⟩ (fX7_first_out hsY hY 20 _ _ (by omega) (by omega) (by omega) ⟨s 0 0 0, mP_0 (by omega), by rw [if_neg (by omega)]⟩)
