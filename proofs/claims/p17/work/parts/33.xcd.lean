def pkR (n i : Int) (v : Int64) : Int32 := ((v.toUInt64 >>> ((gI (16 * (n - 1 - i))).toInt64.toUInt64 &&& Int64.toUInt64 63)).toInt64).toInt32 &&& gI 65535
def pkF (n i : Int) (v : Int64) : Int := (pkR n i v).toInt
theorem gI_nI (j : Nat) : nI j = gI (j : Int) := rfl
theorem pkF_rg (n i : Int) (v : Int64) : bt 0 (pkF n i v) 65535 := by
  unfold pkF pkR
  obtain ⟨j, h1, h2⟩ := pk_andE (((v.toUInt64 >>> ((gI (16 * (n - 1 - i))).toInt64.toUInt64 &&& Int64.toUInt64 63)).toInt64).toInt32) (m := gI 65535) 16 (by decide)
  rw [h2, gI_nI, gI_toInt (by omega)]
  omega
theorem pk_ush9 {p : Int} (h : bt 0 p 65535) : ((gI p).toUInt32 >>> ((gI 9).toUInt32 &&& Int32.toUInt32 31)).toInt32 = gI (p / 512) := by
  have e : gI p = nI p.toNat := by rw [gI_nI]; congr 1; omega
  rw [e, pk_ushrN (by omega) (gI 9) 9 (by decide), gI_nI]
  congr 1
  omega
theorem pk_and511 {p : Int} (h : bt 0 p 65535) : gI p &&& gI 511 = gI (p % 512) := by
  have e : gI p = nI p.toNat := by rw [gI_nI]; congr 1; omega
  rw [e, pk_andN (by omega) (m := gI 511) 9 (by decide), gI_nI]
  congr 1
  omega
def accF (n : Int) (v : Int64) (t : Int) : Nat → Int
  | 0 => t
  | k + 1 => accF n v t k + pkF n (k : Int) v / 512
def okC (n : Int) (v : Int64) (t : Int) (k : Nat) : Prop := pkF n (k : Int) v / 512 ≠ 0 ∧ accF n v t (k + 1) < 4000 ∧ pkF n (k : Int) v % 512 ≤ 256
set_option maxHeartbeats 4000000 in
set_option maxRecDepth 100000 in
theorem tX6_packed {G : gG} {M : wM} {n i : Int} {v : Int64} (hn : bt 1 n 4) (hi : bt 0 i 3) : wT G qX6_packed 0 0 [.int (gI n), .long v, .int (gI i)] M (iP fun x M' => M' = M ∧ x = pkF n i v) := by
  refine wT.intro (by decide) (Nat.le_of_ble_eq_true rfl) (fun sz => ?_)
  refine v_lloadn dX6_packed_0 rfl ?_
  refine v_bipush dX6_packed_1 (by decide) ?_
  refine v_iloadn dX6_packed_3 rfl ?_
  refine v_iconst dX6_packed_4 ?_
  refine v_isub dX6_packed_5 ?_
  refine v_iloadn dX6_packed_6 rfl ?_
  refine v_isub dX6_packed_7 ?_
  refine v_imul dX6_packed_8 ?_
  refine v_lushr dX6_packed_9 ?_
  refine v_l2i dX6_packed_10 ?_
  refine v_ldc (n := 65535) dX6_packed_11 (by decide +kernel) ?_
  refine v_iand dX6_packed_13 ?_
  exact v_iretA dX6_packed_14 rfl ⟨(Nat.le_of_ble_eq_true rfl), (Nat.le_of_ble_eq_true rfl)⟩ ⟨rfl, rfl⟩
set_option maxHeartbeats 4000000 in
set_option maxRecDepth 100000 in
theorem tX6_packedTicks {G : gG} {M : wM} {n i : Int} {v : Int64} (hn : bt 1 n 4) (hi : bt 0 i 3) : wT G qX6_packedTicks 0 0 [.int (gI n), .long v, .int (gI i)] M (iP fun x M' => M' = M ∧ x = pkF n i v / 512) := by
  refine wT.intro (by decide) (Nat.le_of_ble_eq_true rfl) (fun sz => ?_)
  have hb := pkF_rg n i v
  refine v_iloadn dX6_packedTicks_0 rfl ?_
  refine v_lloadn dX6_packedTicks_1 rfl ?_
  refine v_iloadn dX6_packedTicks_2 rfl ?_
  refine v_callS (tX6_packed hn hi) lc_X6_113 ⟨(Nat.le_of_ble_eq_true rfl), (Nat.le_of_ble_eq_true rfl)⟩ dX6_packedTicks_3 rfl rfl (Nat.le_of_ble_eq_true rfl) ⟨(Nat.le_of_ble_eq_true rfl), (Nat.le_of_ble_eq_true rfl)⟩ (kP fun r3 hr3 hp3 => ?_)
  refine v_bipush dX6_packedTicks_6 (by decide) ?_
  refine v_iushr dX6_packedTicks_8 ?_
  rw [pk_ush9 (by omega)]
  exact v_iret dX6_packedTicks_9 rfl ⟨(Nat.le_of_ble_eq_true rfl), (Nat.le_of_ble_eq_true rfl)⟩ (by omega) ⟨rfl, by rw [hp3]⟩
set_option maxHeartbeats 4000000 in
set_option maxRecDepth 100000 in
theorem tX6_packedValue {G : gG} {M : wM} {n i : Int} {v : Int64} (hn : bt 1 n 4) (hi : bt 0 i 3) : wT G qX6_packedValue 0 0 [.int (gI n), .long v, .int (gI i)] M (iP fun x M' => M' = M ∧ x = pkF n i v % 512) := by
  refine wT.intro (by decide) (Nat.le_of_ble_eq_true rfl) (fun sz => ?_)
  have hb := pkF_rg n i v
  refine v_iloadn dX6_packedValue_0 rfl ?_
  refine v_lloadn dX6_packedValue_1 rfl ?_
  refine v_iloadn dX6_packedValue_2 rfl ?_
  refine v_callS (tX6_packed hn hi) lc_X6_113 ⟨(Nat.le_of_ble_eq_true rfl), (Nat.le_of_ble_eq_true rfl)⟩ dX6_packedValue_3 rfl rfl (Nat.le_of_ble_eq_true rfl) ⟨(Nat.le_of_ble_eq_true rfl), (Nat.le_of_ble_eq_true rfl)⟩ (kP fun r3 hr3 hp3 => ?_)
  refine v_sipush dX6_packedValue_6 (by decide) ?_
  refine v_iand dX6_packedValue_9 ?_
  rw [pk_and511 (by omega)]
  exact v_iret dX6_packedValue_10 rfl ⟨(Nat.le_of_ble_eq_true rfl), (Nat.le_of_ble_eq_true rfl)⟩ (by omega) ⟨rfl, by rw [hp3]⟩
set_option maxHeartbeats 4000000 in
set_option maxRecDepth 100000 in
theorem tX6_areChanges_loop {sz : Nat} {M0 : wM} {G : gG} {M : wM} {n t0 : Int} {v : Int64} (hn : bt 1 n 4) (ht : bt (-1) t0 1000000) : ∀ (k : Nat) (t i : Int), 0 ≤ 5 - i → 5 - i < (k : Int) → (bt 0 i n) → (t = accF n v t0 i.toNat) → (bt (-1) t 1000000) → (∀ k : Nat, (k : Int) < i → okC n v t0 k) → wV G qX6_areChanges 0 0 sz M0 0 0 6 [(0, .int (gI t0)), (1, .int (gI n)), (2, .long v), (4, .int (gI t)), (5, .int (gI i))] [] M (iP fun x M' => M' = M ∧ ((x = 1 ∧ ∀ k : Nat, (k : Int) < n → okC n v t0 k) ∨ (x = 0 ∧ ∃ k : Nat, (k : Int) < n ∧ ¬ okC n v t0 k))) := by
  intro k
  induction k with
  | zero =>
    intros
    omega
  | succ k ih =>
    intro t i hmz hml h1 h2 h3 h4
    have eI : (i.toNat : Int) = i := by omega
    have hbb := pkF_rg n i v
    have eA : accF n v t0 (i.toNat + 1) = accF n v t0 i.toNat + pkF n i v / 512 := by show accF n v t0 i.toNat + pkF n (i.toNat : Int) v / 512 = _; rw [eI]
    refine v_iload dX6_areChanges_6 rfl ?_
    refine v_iloadn dX6_areChanges_8 rfl ?_
    refine v_icmp_ge 62 dX6_areChanges_9 (by decide) (by omega) (by omega) (fun h9 => ?_) (fun h9 => ?_)
    · refine v_iconst dX6_areChanges_62 ?_
      exact v_zret dX6_areChanges_63 rfl ⟨(Nat.le_of_ble_eq_true rfl), (Nat.le_of_ble_eq_true rfl)⟩ (by omega) ⟨rfl, Or.inl ⟨by omega, fun k hk => h4 k (by omega)⟩⟩
    · refine v_iloadn dX6_areChanges_12 rfl ?_
      refine v_lloadn dX6_areChanges_13 rfl ?_
      refine v_iload dX6_areChanges_14 rfl ?_
      refine v_callS (tX6_packedTicks hn (by omega)) lc_X6_99 ⟨(Nat.le_of_ble_eq_true rfl), (Nat.le_of_ble_eq_true rfl)⟩ dX6_areChanges_16 rfl rfl (Nat.le_of_ble_eq_true rfl) ⟨(Nat.le_of_ble_eq_true rfl), (Nat.le_of_ble_eq_true rfl)⟩ (kP fun r16 hr16 hp16 => ?_)
      refine v_istore dX6_areChanges_19 (Nat.le_of_ble_eq_true rfl) ?_
      refine v_iload dX6_areChanges_21 rfl ?_
      refine v_iload dX6_areChanges_23 rfl ?_
      refine v_iadd dX6_areChanges_25 ?_
      refine v_istore dX6_areChanges_26 (Nat.le_of_ble_eq_true rfl) ?_
      refine v_iload dX6_areChanges_28 rfl ?_
      refine v_if_eq 54 dX6_areChanges_30 (by decide) (by omega) (fun h30 => ?_) (fun h30 => ?_)
      · refine v_iconst dX6_areChanges_54 ?_
        exact v_zret dX6_areChanges_55 rfl ⟨(Nat.le_of_ble_eq_true rfl), (Nat.le_of_ble_eq_true rfl)⟩ (by omega) ⟨rfl, Or.inr ⟨by omega, i.toNat, by omega, fun hok => by unfold okC at hok; rw [eA, eI] at hok; omega⟩⟩
      · refine v_iload dX6_areChanges_33 rfl ?_
        refine v_sipush dX6_areChanges_35 (by decide) ?_
        refine v_icmp_ge 54 dX6_areChanges_38 (by decide) (by omega) (by omega) (fun h38 => ?_) (fun h38 => ?_)
        · refine v_iconst dX6_areChanges_54 ?_
          exact v_zret dX6_areChanges_55 rfl ⟨(Nat.le_of_ble_eq_true rfl), (Nat.le_of_ble_eq_true rfl)⟩ (by omega) ⟨rfl, Or.inr ⟨by omega, i.toNat, by omega, fun hok => by unfold okC at hok; rw [eA, eI] at hok; omega⟩⟩
        · refine v_iloadn dX6_areChanges_41 rfl ?_
          refine v_lloadn dX6_areChanges_42 rfl ?_
          refine v_iload dX6_areChanges_43 rfl ?_
          refine v_callS (tX6_packedValue hn (by omega)) lc_X6_103 ⟨(Nat.le_of_ble_eq_true rfl), (Nat.le_of_ble_eq_true rfl)⟩ dX6_areChanges_45 rfl rfl (Nat.le_of_ble_eq_true rfl) ⟨(Nat.le_of_ble_eq_true rfl), (Nat.le_of_ble_eq_true rfl)⟩ (kP fun r45 hr45 hp45 => ?_)
          refine v_callS (tX6_isNoValue (by omega)) lc_X6_73 ⟨(Nat.le_of_ble_eq_true rfl), (Nat.le_of_ble_eq_true rfl)⟩ dX6_areChanges_48 rfl rfl (Nat.le_of_ble_eq_true rfl) ⟨(Nat.le_of_ble_eq_true rfl), (Nat.le_of_ble_eq_true rfl)⟩ (kP fun r48 hr48 hp48 => ?_)
          refine v_if_eq 56 dX6_areChanges_51 (by decide) (by omega) (fun h51 => ?_) (fun h51 => ?_)
          · have hokk : okC n v t0 i.toNat := by unfold okC; rw [eA, eI]; omega
            refine v_iinc dX6_areChanges_56 rfl (Nat.le_of_ble_eq_true rfl) ?_
            refine v_goto 6 dX6_areChanges_59 (by decide) ?_
            refine wV.locs (lv' := [(0, .int (gI t0)), (1, .int (gI n)), (2, .long v), (4, .int (gI _)), (5, .int (gI _))]) ⟨rfl, rfl, rfl, rfl, rfl, trivial⟩ (ih _ _ (by omega) (by omega) (by omega) (by rw [show (i + 1).toNat = i.toNat + 1 by omega, eA]; omega) (by omega) (fun k hk => ?_))
            rcases (show (k : Int) < i ∨ k = i.toNat by omega) with h | h
            · exact h4 k h
            · rw [h]; exact hokk
          · refine v_iconst dX6_areChanges_54 ?_
            exact v_zret dX6_areChanges_55 rfl ⟨(Nat.le_of_ble_eq_true rfl), (Nat.le_of_ble_eq_true rfl)⟩ (by omega) ⟨rfl, Or.inr ⟨by omega, i.toNat, by omega, fun hok => by unfold okC at hok; rw [eA, eI] at hok; omega⟩⟩
set_option maxHeartbeats 4000000 in
set_option maxRecDepth 100000 in
theorem tX6_areChanges {G : gG} {M : wM} {n t0 : Int} {v : Int64} (hn : bt 1 n 4) (ht : bt (-1) t0 1000000) : wT G qX6_areChanges 0 0 [.int (gI t0), .int (gI n), .long v] M (iP fun x M' => M' = M ∧ ((x = 1 ∧ ∀ k : Nat, (k : Int) < n → okC n v t0 k) ∨ (x = 0 ∧ ∃ k : Nat, (k : Int) < n ∧ ¬ okC n v t0 k))) := by
  refine wT.intro (by decide) (Nat.le_of_ble_eq_true rfl) (fun sz => ?_)
  refine v_iloadn dX6_areChanges_0 rfl ?_
  refine v_istore dX6_areChanges_1 (Nat.le_of_ble_eq_true rfl) ?_
  refine v_iconst dX6_areChanges_3 ?_
  refine v_istore dX6_areChanges_4 (Nat.le_of_ble_eq_true rfl) ?_
  refine wV.locs (lv' := [(0, .int (gI t0)), (1, .int (gI n)), (2, .long v), (4, .int (gI (t0))), (5, .int (gI (0)))]) ⟨rfl, rfl, rfl, rfl, rfl, trivial⟩ (tX6_areChanges_loop hn ht 10 _ _ (by omega) (by omega) (by omega) rfl (by omega) (fun k hk => by omega))
def chS (s : sG) (r : Nat) (n : Int) (v : Int64) : Nat → sG
  | 0 => s
  | k + 1 => putS (chS s r n v k) r (lastS (chS s r n v k) r + pkF n (k : Int) v / 512) (pkF n (k : Int) v % 512)
theorem lastS_put {s : sG} {r : Nat} {t v : Int} (h0 : 0 ≤ s 10 r 2) : lastS (putS s r t v) r = t := by
  unfold lastS putS tickF
  rw [ups_at, ups_kf _ (by decide), ups_kf _ (by decide)]
  show (if (s 10 r 2 + 1) - 1 < 0 then -1 else if (s 10 r 2 + 1) - 1 < s 10 r 2 + 1 then ups (ups (ups s 11 r (s 10 r 2).toNat t) 12 r (s 10 r 2).toNat v) 10 r 2 (s 10 r 2 + 1) 11 r ((s 10 r 2 + 1) - 1).toNat else 1000000) = t
  rw [if_neg (by omega), if_pos (by omega), ups_kf _ (by decide), ups_kf _ (by decide), ups_at, show s 10 r 2 + 1 - 1 = s 10 r 2 by omega]
  unfold upz
  rw [if_pos rfl]
set_option maxHeartbeats 4000000 in
set_option maxRecDepth 100000 in
theorem tX6_changes_loop {sz : Nat} {M0 : wM} {G : gG} {fw : Nat → Nat → Nat} {si : sG} {Mi : wM} {a b n : Int} {v : Int64} (hab : bt 0 a 1 ∧ bt 0 b 11 ∧ bt 1 n 4) (hok : ∀ k : Nat, (k : Int) < n → okC n v (lastS si (rix a b)) k) (hroom : si 10 (rix a b) 2 + n ≤ 50) : ∀ (k : Nat) (s : sG) (M : wM) (i : Int), 0 ≤ 5 - i → 5 - i < (k : Int) → (wX G fw s M) → (wO cntX fw Mi M) → (bt 0 i n) → (s = chS si (rix a b) n v i.toNat) → (lastS s (rix a b) = accF n v (lastS si (rix a b)) i.toNat) → (s 10 (rix a b) 2 = si 10 (rix a b) 2 + i) → wV G qX6_changes 0 0 sz M0 0 0 58 [(0, .ref (fw 0 0)), (1, .int (gI a)), (2, .int (gI b)), (3, .int (gI n)), (4, .long v), (6, .ref (fw 10 (rix a b))), (7, .int (gI i))] [] M (PX G fw Mi (fun x s' => (¬ (bt 0 a 1 ∧ bt 0 b 11 ∧ bt 1 n 4) ∧ x = -1 ∧ s' = si) ∨ ((bt 0 a 1 ∧ bt 0 b 11 ∧ bt 1 n 4) ∧ (((∃ k : Nat, (k : Int) < n ∧ ¬ okC n v (lastS si (rix a b)) k) ∧ x = -1 ∧ s' = si) ∨ ((∀ k : Nat, (k : Int) < n → okC n v (lastS si (rix a b)) k) ∧ 50 < si 10 (rix a b) 2 + n ∧ x = -3 ∧ s' = si) ∨ ((∀ k : Nat, (k : Int) < n → okC n v (lastS si (rix a b)) k) ∧ si 10 (rix a b) 2 + n ≤ 50 ∧ x = si 10 (rix a b) 2 + n ∧ s' = chS si (rix a b) n v n.toNat))))) := by
  intro k
  induction k with
  | zero =>
    intros
    omega
  | succ k ih =>
    intro s M i hmz hml hX hO h1 h2 h3 h4
    have hix : rix a b < 45 := by unfold rix; omega
    have hrow := hX.row hix
    have hrg := hrow.rg
    have eI : (i.toNat : Int) = i := by omega
    have hbb := pkF_rg n i v
    have eA : accF n v (lastS si (rix a b)) (i.toNat + 1) = accF n v (lastS si (rix a b)) i.toNat + pkF n i v / 512 := by show _ + pkF n (i.toNat : Int) v / 512 = _; rw [eI]
    refine v_iload dX6_changes_58 rfl ?_
    refine v_iloadn dX6_changes_60 rfl ?_
    refine v_icmp_ge 97 dX6_changes_61 (by decide) (by omega) (by omega) (fun h61 => ?_) (fun h61 => ?_)
    · refine v_aload dX6_changes_97 rfl ?_
      refine v_callV (tX4_size hrow) lc_X6_92 ⟨(Nat.le_of_ble_eq_true rfl), (Nat.le_of_ble_eq_true rfl)⟩ dX6_changes_99 rfl rfl (Nat.le_of_ble_eq_true rfl) ⟨(Nat.le_of_ble_eq_true rfl), (Nat.le_of_ble_eq_true rfl)⟩ ⟨_, _, _, _, hrow.1, rfl⟩ (kP fun r99 hr99 hp99 => ?_)
      exact v_iret dX6_changes_102 rfl ⟨(Nat.le_of_ble_eq_true rfl), (Nat.le_of_ble_eq_true rfl)⟩ (by omega) ⟨s, hX, hO, Or.inr ⟨hab, Or.inr (Or.inr ⟨hok, hroom, by omega, by rw [h2]; congr 1; omega⟩)⟩⟩
    · refine v_aload dX6_changes_64 rfl ?_
      refine v_aload dX6_changes_66 rfl ?_
      refine v_callV (tX4_lastTick hrow) lc_X6_81 ⟨(Nat.le_of_ble_eq_true rfl), (Nat.le_of_ble_eq_true rfl)⟩ dX6_changes_68 rfl rfl (Nat.le_of_ble_eq_true rfl) ⟨(Nat.le_of_ble_eq_true rfl), (Nat.le_of_ble_eq_true rfl)⟩ ⟨_, _, _, _, hrow.1, rfl⟩ (kP fun r68 hr68 hp68 => ?_)
      have ha68 := tickF_rg hrow.2.2.2 (s 10 (rix a b) 2 - 1)
      have e68 : r68 = accF n v (lastS si (rix a b)) i.toNat := by rw [hp68]; exact h3
      have hk := hok i.toNat (by omega)
      unfold okC at hk
      rw [eA, eI] at hk
      refine v_iloadn dX6_changes_71 rfl ?_
      refine v_lload dX6_changes_72 rfl ?_
      refine v_iload dX6_changes_74 rfl ?_
      refine v_callS (tX6_packedTicks (by omega) (by omega)) lc_X6_99 ⟨(Nat.le_of_ble_eq_true rfl), (Nat.le_of_ble_eq_true rfl)⟩ dX6_changes_76 rfl rfl (Nat.le_of_ble_eq_true rfl) ⟨(Nat.le_of_ble_eq_true rfl), (Nat.le_of_ble_eq_true rfl)⟩ (kP fun r76 hr76 hp76 => ?_)
      refine v_iadd dX6_changes_79 ?_
      refine v_iloadn dX6_changes_80 rfl ?_
      refine v_lload dX6_changes_81 rfl ?_
      refine v_iload dX6_changes_83 rfl ?_
      refine v_callS (tX6_packedValue (by omega) (by omega)) lc_X6_103 ⟨(Nat.le_of_ble_eq_true rfl), (Nat.le_of_ble_eq_true rfl)⟩ dX6_changes_85 rfl rfl (Nat.le_of_ble_eq_true rfl) ⟨(Nat.le_of_ble_eq_true rfl), (Nat.le_of_ble_eq_true rfl)⟩ (kP fun r85 hr85 hp85 => ?_)
      refine v_callV (tX4_put hX hix (by omega) (by omega)) lc_X6_88 ⟨(Nat.le_of_ble_eq_true rfl), (Nat.le_of_ble_eq_true rfl)⟩ dX6_changes_88 rfl rfl (Nat.le_of_ble_eq_true rfl) ⟨(Nat.le_of_ble_eq_true rfl), (Nat.le_of_ble_eq_true rfl)⟩ ⟨_, _, _, _, hrow.1, rfl⟩ (kV fun M88 hp88 => ?_)
      obtain ⟨s88, hX88, hO88, hs88⟩ := hp88
      have hs88 : s88 = putS s (rix a b) (r68 + r76) r85 := hs88.elim (fun h => h.2) (fun h => absurd h.1 (by omega))
      have el : lastS s88 (rix a b) = accF n v (lastS si (rix a b)) i.toNat + pkF n i v / 512 := by rw [hs88, lastS_put (by omega)]; omega
      have es : s88 = chS si (rix a b) n v (i.toNat + 1) := by
        show s88 = putS (chS si (rix a b) n v i.toNat) (rix a b) (lastS (chS si (rix a b) n v i.toNat) (rix a b) + pkF n (i.toNat : Int) v / 512) (pkF n (i.toNat : Int) v % 512)
        rw [hs88, ← h2, eI, h3, e68, hp76, hp85]
      have e88 : s88 10 (rix a b) 2 = s 10 (rix a b) 2 + 1 := by rw [hs88]; unfold putS; rw [ups_at]; rfl
      have hO := hO.tr hO88
      have hX := hX88
      refine v_iinc dX6_changes_91 rfl (Nat.le_of_ble_eq_true rfl) ?_
      refine v_goto 58 dX6_changes_94 (by decide) ?_
      refine wV.locs (lv' := [(0, .ref (fw 0 0)), (1, .int (gI a)), (2, .int (gI b)), (3, .int (gI n)), (4, .long v), (6, .ref (fw 10 (rix a b))), (7, .int (gI _))]) ⟨rfl, rfl, rfl, rfl, rfl, rfl, rfl, trivial⟩ (ih _ _ _ (by omega) (by omega) hX hO (by omega) (by rw [show (i + 1).toNat = i.toNat + 1 by omega]; exact es) (by rw [show (i + 1).toNat = i.toNat + 1 by omega, eA]; exact el) (by omega))
set_option maxHeartbeats 4000000 in
set_option maxRecDepth 100000 in
theorem tX6_changes {G : gG} {fw : Nat → Nat → Nat} {si : sG} {Mi : wM} (hX : wX G fw si Mi) {a b n : Int} {v : Int64} (ha : rng a) (hb : rng b) (hn : rng n) : wT G qX6_changes 0 0 [.ref (fw 0 0), .int (gI a), .int (gI b), .int (gI n), .long v] Mi (PX G fw Mi (fun x s' => (¬ (bt 0 a 1 ∧ bt 0 b 11 ∧ bt 1 n 4) ∧ x = -1 ∧ s' = si) ∨ ((bt 0 a 1 ∧ bt 0 b 11 ∧ bt 1 n 4) ∧ (((∃ k : Nat, (k : Int) < n ∧ ¬ okC n v (lastS si (rix a b)) k) ∧ x = -1 ∧ s' = si) ∨ ((∀ k : Nat, (k : Int) < n → okC n v (lastS si (rix a b)) k) ∧ 50 < si 10 (rix a b) 2 + n ∧ x = -3 ∧ s' = si) ∨ ((∀ k : Nat, (k : Int) < n → okC n v (lastS si (rix a b)) k) ∧ si 10 (rix a b) 2 + n ≤ 50 ∧ x = si 10 (rix a b) 2 + n ∧ s' = chS si (rix a b) n v n.toNat))))) := by
  refine wT.intro (by decide) (Nat.le_of_ble_eq_true rfl) (fun sz => ?_)
  refine v_iloadn dX6_changes_0 rfl ?_
  refine v_iloadn dX6_changes_1 rfl ?_
  refine v_callS (tX6_isNoRow (by omega) (by omega)) lc_X6_65 ⟨(Nat.le_of_ble_eq_true rfl), (Nat.le_of_ble_eq_true rfl)⟩ dX6_changes_2 rfl rfl (Nat.le_of_ble_eq_true rfl) ⟨(Nat.le_of_ble_eq_true rfl), (Nat.le_of_ble_eq_true rfl)⟩ (kP fun r2 hr2 hp2 => ?_)
  refine v_if_ne 17 dX6_changes_5 (by decide) (by omega) (fun h5 => ?_) (fun h5 => ?_)
  · refine v_iconst dX6_changes_17 ?_
    exact v_iret dX6_changes_18 rfl ⟨(Nat.le_of_ble_eq_true rfl), (Nat.le_of_ble_eq_true rfl)⟩ (by omega) ⟨si, hX, wO.rf, Or.inl ⟨by omega, by omega, rfl⟩⟩
  · refine v_iloadn dX6_changes_8 rfl ?_
    refine v_iconst dX6_changes_9 ?_
    refine v_iconst dX6_changes_10 ?_
    refine v_callS (tX6_outside (by omega) (by omega) (by omega)) lc_X6_69 ⟨(Nat.le_of_ble_eq_true rfl), (Nat.le_of_ble_eq_true rfl)⟩ dX6_changes_11 rfl rfl (Nat.le_of_ble_eq_true rfl) ⟨(Nat.le_of_ble_eq_true rfl), (Nat.le_of_ble_eq_true rfl)⟩ (kP fun r11 hr11 hp11 => ?_)
    refine v_if_eq 19 dX6_changes_14 (by decide) (by omega) (fun h14 => ?_) (fun h14 => ?_)
    · refine v_aloadn dX6_changes_19 rfl ?_
      refine v_iloadn dX6_changes_20 rfl ?_
      refine v_iloadn dX6_changes_21 rfl ?_
      refine v_callV (tX6_rowOf hX (by omega) (by omega)) lc_X6_77 ⟨(Nat.le_of_ble_eq_true rfl), (Nat.le_of_ble_eq_true rfl)⟩ dX6_changes_22 rfl rfl (Nat.le_of_ble_eq_true rfl) ⟨(Nat.le_of_ble_eq_true rfl), (Nat.le_of_ble_eq_true rfl)⟩ ⟨_, _, _, _, (hX.2.1 0 0 (by decide)), rfl⟩ (kRp fun r22 hp22 => ?_)
      have hix : rix a b < 45 := by unfold rix; omega
      have hp22 : r22 = fw 10 (rix a b) := hp22
      subst hp22
      have hrow := hX.row hix
      have hrg := hrow.rg
      refine v_astore dX6_changes_25 (Nat.le_of_ble_eq_true rfl) ?_
      refine v_aload dX6_changes_27 rfl ?_
      refine v_callV (tX4_lastTick hrow) lc_X6_81 ⟨(Nat.le_of_ble_eq_true rfl), (Nat.le_of_ble_eq_true rfl)⟩ dX6_changes_29 rfl rfl (Nat.le_of_ble_eq_true rfl) ⟨(Nat.le_of_ble_eq_true rfl), (Nat.le_of_ble_eq_true rfl)⟩ ⟨_, _, _, _, hrow.1, rfl⟩ (kP fun r29 hr29 hp29 => ?_)
      have ha29 := tickF_rg hrow.2.2.2 (si 10 (rix a b) 2 - 1)
      have el : lastS si (rix a b) = r29 := hp29.symm
      refine v_iloadn dX6_changes_32 rfl ?_
      refine v_lload dX6_changes_33 rfl ?_
      refine v_callS (tX6_areChanges (by omega) (by omega)) lc_X6_95 ⟨(Nat.le_of_ble_eq_true rfl), (Nat.le_of_ble_eq_true rfl)⟩ dX6_changes_35 rfl rfl (Nat.le_of_ble_eq_true rfl) ⟨(Nat.le_of_ble_eq_true rfl), (Nat.le_of_ble_eq_true rfl)⟩ (kP fun r35 hr35 hp35 => ?_)
      refine v_if_ne 43 dX6_changes_38 (by decide) (by omega) (fun h38 => ?_) (fun h38 => ?_)
      · refine v_aload dX6_changes_43 rfl ?_
        refine v_iloadn dX6_changes_45 rfl ?_
        refine v_callV (tX4_lacksRoom hrow (by omega)) lc_X6_85 ⟨(Nat.le_of_ble_eq_true rfl), (Nat.le_of_ble_eq_true rfl)⟩ dX6_changes_46 rfl rfl (Nat.le_of_ble_eq_true rfl) ⟨(Nat.le_of_ble_eq_true rfl), (Nat.le_of_ble_eq_true rfl)⟩ ⟨_, _, _, _, hrow.1, rfl⟩ (kP fun r46 hr46 hp46 => ?_)
        refine v_if_eq 55 dX6_changes_49 (by decide) (by omega) (fun h49 => ?_) (fun h49 => ?_)
        · refine v_iconst dX6_changes_55 ?_
          refine v_istore dX6_changes_56 (Nat.le_of_ble_eq_true rfl) ?_
          refine wV.locs (lv' := [(0, .ref (fw 0 0)), (1, .int (gI a)), (2, .int (gI b)), (3, .int (gI n)), (4, .long v), (6, .ref (fw 10 (rix a b))), (7, .int (gI (0)))]) ⟨rfl, rfl, rfl, rfl, rfl, rfl, rfl, trivial⟩ (tX6_changes_loop (by omega) (by rw [el]; exact hp35.elim (fun h => h.2) (fun h => absurd h.1 (by omega))) (by omega) 10 si Mi _ (by omega) (by omega) hX wO.rf (by omega) rfl rfl (by omega))
        · refine v_bipush dX6_changes_52 (by decide) ?_
          exact v_iret dX6_changes_54 rfl ⟨(Nat.le_of_ble_eq_true rfl), (Nat.le_of_ble_eq_true rfl)⟩ (by omega) ⟨si, hX, wO.rf, Or.inr ⟨by omega, Or.inr (Or.inl ⟨by rw [el]; exact hp35.elim (fun h => h.2) (fun h => absurd h.1 (by omega)), by omega, by omega, rfl⟩)⟩⟩
      · refine v_iconst dX6_changes_41 ?_
        exact v_iret dX6_changes_42 rfl ⟨(Nat.le_of_ble_eq_true rfl), (Nat.le_of_ble_eq_true rfl)⟩ (⟨by decide, by decide⟩) ⟨si, hX, wO.rf, Or.inr ⟨by clear hp35; omega, Or.inl ⟨by rw [el]; exact hp35.elim (fun h => absurd h.1 (by omega)) (fun h => h.2), by clear hp35; omega, rfl⟩⟩⟩
    · refine v_iconst dX6_changes_17 ?_
      exact v_iret dX6_changes_18 rfl ⟨(Nat.le_of_ble_eq_true rfl), (Nat.le_of_ble_eq_true rfl)⟩ (by omega) ⟨si, hX, wO.rf, Or.inl ⟨by omega, by omega, rfl⟩⟩
