section WTS
variable {G : gG} {q : mD} {mc ms sz kc ks pc : Nat} {M0 M : wM} {lv : List (Nat × Value)} {st : List Value} {Post : Option Value → wM → Prop}
theorem v_tout {dflt lo hi : Int} {offs : Array Int} {len : Nat} {x : Int} (tgt : Nat) (hd : decode q.2.1 pc = .ok (.tableswitch dflt lo hi offs, len)) (hx : rng x) (h : x < lo ∨ hi < x) (ht : (pc : Int) + dflt = (tgt : Int)) (k : wV G q mc ms sz M0 kc ks tgt lv st M Post) : wV G q mc ms sz M0 kc ks pc lv (.int (gI x) :: st) M Post := by
  intro p e s m args below meth c H locs ls C hsz hW hm hS hl
  refine lv_tableOut C.1 C.2.1 hd (by rw [gI_toInt hx]; exact h) ht ?_
  exact k p e s m args below meth c H locs ls C hsz hW hm hS hl
theorem v_tin {dflt lo hi : Int} {offs : Array Int} {len : Nat} {x off : Int} (tgt : Nat) (hd : decode q.2.1 pc = .ok (.tableswitch dflt lo hi offs, len)) (hx : rng x) (h1 : lo ≤ x) (h2 : x ≤ hi) (ho : offs[(x - lo).toNat]? = some off) (ht : (pc : Int) + off = (tgt : Int)) (k : wV G q mc ms sz M0 kc ks tgt lv st M Post) : wV G q mc ms sz M0 kc ks pc lv (.int (gI x) :: st) M Post := by
  intro p e s m args below meth c H locs ls C hsz hW hm hS hl
  refine lv_tableIn C.1 C.2.1 hd (by rw [gI_toInt hx]; omega) (by rw [gI_toInt hx]; omega) (by rw [gI_toInt hx]; exact ho) ht ?_
  exact k p e s m args below meth c H locs ls C hsz hW hm hS hl
end WTS
set_option maxHeartbeats 4000000 in
set_option maxRecDepth 100000 in
theorem tX6_seek_loop {sz : Nat} {M0 : wM} {G : gG} {fw : Nat → Nat → Nat} {si : sG} {Mi : wM} {a b : Int} (ha : bt 0 a 11) : ∀ (k : Nat) (s : sG) (M : wM) (i : Int), 0 ≤ 11 - i → 11 - i < (k : Int) → (wX G fw s M) → (wO cntX fw Mi M) → (keepX si s) → (bt 0 i 10) → wV G qX6_seekDifferences 0 0 sz M0 0 0 36 [(0, .ref (fw 0 0)), (1, .int (gI a)), (2, .int (gI b)), (3, .int (gI i))] [] M (vP fun M' => ∃ s', wX G fw s' M' ∧ wO cntX fw Mi M' ∧ keepX si s') := by
  intro k
  induction k with
  | zero =>
    intros
    omega
  | succ k ih =>
    intro s M i hmz hml hX hO hK h1
    have h0 := hX.2.2.1
    have hnm := hX.2.2.2.1
    have hsh := hX.2.2.2.2.1
    have h8 := hX.2.2.2.2.2.1
    refine v_iloadn dX6_seekDifferences_36 rfl ?_
    refine v_aloadn dX6_seekDifferences_37 rfl ?_
    refine v_get dX6_seekDifferences_38 gf_X6_50 (hX.2.1 0 0 (by decide)) rfl ?_
    refine v_icmp_ge 87 dX6_seekDifferences_41 (by decide) (by omega) (by omega) (fun h41 => ?_) (fun h41 => ?_)
    · exact v_vret dX6_seekDifferences_87 rfl ⟨(Nat.le_of_ble_eq_true rfl), (Nat.le_of_ble_eq_true rfl)⟩ ⟨s, hX, hO, hK⟩
    · refine v_aloadn dX6_seekDifferences_44 rfl ?_
      refine v_get dX6_seekDifferences_45 gf_X6_27 (hX.2.1 0 0 (by decide)) rfl ?_
      refine v_iloadn dX6_seekDifferences_48 rfl ?_
      refine v_aald2 (Cn := "WavePairs$Mask") dX6_seekDifferences_49 (hX.2.1 5 0 (by decide)) (by simp) (by omega) (by omega) (by decide) ?_
      have hmk := hX.2.2.2.2.2.2.2.1 i.toNat (by omega)
      refine v_astore dX6_seekDifferences_50 (Nat.le_of_ble_eq_true rfl) ?_
      refine v_aload dX6_seekDifferences_52 rfl ?_
      refine v_getN dX6_seekDifferences_54 gf_X6_163 (hX.2.1 13 _ (by simp [cntX]; omega)) rfl ?_
      refine v_iloadn dX6_seekDifferences_57 rfl ?_
      refine v_icmp_ne 81 dX6_seekDifferences_58 (by decide) (by omega) (by omega) (fun h58 => ?_) (fun h58 => ?_)
      · refine v_iinc dX6_seekDifferences_81 rfl (Nat.le_of_ble_eq_true rfl) ?_
        refine v_goto 36 dX6_seekDifferences_84 (by decide) ?_
        refine wV.locs (lv' := [(0, .ref (fw 0 0)), (1, .int (gI a)), (2, .int (gI b)), (3, .int (gI _))]) ⟨rfl, rfl, rfl, rfl, trivial⟩ (ih _ _ _ (by omega) (by omega) hX hO hK (by omega))
      · refine v_aloadn dX6_seekDifferences_61 rfl ?_
        refine v_get dX6_seekDifferences_62 gf_X6_46 (hX.2.1 0 0 (by decide)) rfl ?_
        refine v_callV (tX5_take hX) lc_X6_150 ⟨(Nat.le_of_ble_eq_true rfl), (Nat.le_of_ble_eq_true rfl)⟩ dX6_seekDifferences_65 rfl rfl (Nat.le_of_ble_eq_true rfl) ⟨(Nat.le_of_ble_eq_true rfl), (Nat.le_of_ble_eq_true rfl)⟩ ⟨_, _, _, _, hX.2.1 8 0 (by decide), rfl⟩ (kR fun r65 M65 hp65 => ?_)
        obtain ⟨s65, j65, hj65, rfl, hX, hO65, -, hs65⟩ := hp65
        have hO := hO.tr hO65
        have hK : keepX si s65 := hK.tr (fun k i' hq => by unfold scrX at hq; rw [hs65]; simp only [ups]; rw [if_neg (by omega)])
        have h0 := hX.2.2.1
        have hnm := hX.2.2.2.1
        have hsh := hX.2.2.2.2.1
        have h8 := hX.2.2.2.2.2.1
        have hmk := hX.2.2.2.2.2.2.2.1 i.toNat (by omega)
        refine v_aload dX6_seekDifferences_68 rfl ?_
        refine v_getN dX6_seekDifferences_70 gf_X6_166 (hX.2.1 13 _ (by simp [cntX]; omega)) rfl ?_
        refine v_aload dX6_seekDifferences_73 rfl ?_
        refine v_getN dX6_seekDifferences_75 gf_X6_170 (hX.2.1 13 _ (by simp [cntX]; omega)) rfl ?_
        refine v_callV (tX3_wantValueNot hX (by omega) (by omega) (by omega)) lc_X6_173 ⟨(Nat.le_of_ble_eq_true rfl), (Nat.le_of_ble_eq_true rfl)⟩ dX6_seekDifferences_78 rfl rfl (Nat.le_of_ble_eq_true rfl) ⟨(Nat.le_of_ble_eq_true rfl), (Nat.le_of_ble_eq_true rfl)⟩ ⟨_, _, _, _, hX.2.1 16 _ (by simp [cntX]; omega), rfl⟩ (kV fun M78 hp78 => ?_)
        obtain ⟨s78, hX, hO78, hK78, -⟩ := hp78
        have hO := hO.tr hO78
        have hK := hK.tr hK78
        have h0 := hX.2.2.1
        have hnm := hX.2.2.2.1
        have hsh := hX.2.2.2.2.1
        have h8 := hX.2.2.2.2.2.1
        refine v_iinc dX6_seekDifferences_81 rfl (Nat.le_of_ble_eq_true rfl) ?_
        refine v_goto 36 dX6_seekDifferences_84 (by decide) ?_
        refine wV.locs (lv' := [(0, .ref (fw 0 0)), (1, .int (gI a)), (2, .int (gI b)), (3, .int (gI _))]) ⟨rfl, rfl, rfl, rfl, trivial⟩ (ih _ _ _ (by omega) (by omega) hX hO hK (by omega))
set_option maxHeartbeats 4000000 in
set_option maxRecDepth 100000 in
theorem tX6_seekDifferences {G : gG} {fw : Nat → Nat → Nat} {si : sG} {Mi : wM} (hX : wX G fw si Mi) {a b : Int} (ha : bt 0 a 11) (hb : bt (-50) b 50) : wT G qX6_seekDifferences 0 0 [.ref (fw 0 0), .int (gI a), .int (gI b)] Mi (vP fun M' => ∃ s', wX G fw s' M' ∧ wO cntX fw Mi M' ∧ keepX si s') := by
  refine wT.intro (by decide) (Nat.le_of_ble_eq_true rfl) (fun sz => ?_)
  have hO : wO cntX fw Mi Mi := wO.rf
  have hK : keepX si si := keepX.rf
  refine v_aloadn dX6_seekDifferences_0 rfl ?_
  refine v_get dX6_seekDifferences_1 gf_X6_46 (hX.2.1 0 0 (by decide)) rfl ?_
  refine v_callV (tX5_clear hX) lc_X6_147 ⟨(Nat.le_of_ble_eq_true rfl), (Nat.le_of_ble_eq_true rfl)⟩ dX6_seekDifferences_4 rfl rfl (Nat.le_of_ble_eq_true rfl) ⟨(Nat.le_of_ble_eq_true rfl), (Nat.le_of_ble_eq_true rfl)⟩ ⟨_, _, _, _, hX.2.1 8 0 (by decide), rfl⟩ (kV fun M4 hp4 => ?_)
  obtain ⟨s4, hX, hO4, hs4⟩ := hp4
  have hO := hO.tr hO4
  have hK : keepX si s4 := hK.tr (fun k i' hq => by unfold scrX at hq; rw [hs4]; simp only [ups]; rw [if_neg (by omega)])
  have h0 := hX.2.2.1
  have hnm := hX.2.2.2.1
  have hsh := hX.2.2.2.2.1
  have h8 := hX.2.2.2.2.2.1
  refine v_aloadn dX6_seekDifferences_7 rfl ?_
  refine v_get dX6_seekDifferences_8 gf_X6_46 (hX.2.1 0 0 (by decide)) rfl ?_
  refine v_callV (tX5_take hX) lc_X6_150 ⟨(Nat.le_of_ble_eq_true rfl), (Nat.le_of_ble_eq_true rfl)⟩ dX6_seekDifferences_11 rfl rfl (Nat.le_of_ble_eq_true rfl) ⟨(Nat.le_of_ble_eq_true rfl), (Nat.le_of_ble_eq_true rfl)⟩ ⟨_, _, _, _, hX.2.1 8 0 (by decide), rfl⟩ (kR fun r11 M11 hp11 => ?_)
  obtain ⟨s11, j11, hj11, rfl, hX, hO11, -, hs11⟩ := hp11
  have hO := hO.tr hO11
  have hK : keepX si s11 := hK.tr (fun k i' hq => by unfold scrX at hq; rw [hs11]; simp only [ups]; rw [if_neg (by omega)])
  have h0 := hX.2.2.1
  have hnm := hX.2.2.2.1
  have hsh := hX.2.2.2.2.1
  have h8 := hX.2.2.2.2.2.1
  refine v_aloadn dX6_seekDifferences_14 rfl ?_
  refine v_iconst dX6_seekDifferences_15 ?_
  refine v_iloadn dX6_seekDifferences_16 rfl ?_
  refine v_callV (tX6_rowOf hX (by omega) (by omega)) lc_X6_77 ⟨(Nat.le_of_ble_eq_true rfl), (Nat.le_of_ble_eq_true rfl)⟩ dX6_seekDifferences_17 rfl rfl (Nat.le_of_ble_eq_true rfl) ⟨(Nat.le_of_ble_eq_true rfl), (Nat.le_of_ble_eq_true rfl)⟩ ⟨_, _, _, _, (hX.2.1 0 0 (by decide)), rfl⟩ (kRp fun r17 hp17 => ?_)
  subst hp17
  refine v_aloadn dX6_seekDifferences_20 rfl ?_
  refine v_iconst dX6_seekDifferences_21 ?_
  refine v_iloadn dX6_seekDifferences_22 rfl ?_
  refine v_callV (tX6_namedRow hX (by omega) (by omega)) lc_X6_154 ⟨(Nat.le_of_ble_eq_true rfl), (Nat.le_of_ble_eq_true rfl)⟩ dX6_seekDifferences_23 rfl rfl (Nat.le_of_ble_eq_true rfl) ⟨(Nat.le_of_ble_eq_true rfl), (Nat.le_of_ble_eq_true rfl)⟩ ⟨_, _, _, _, (hX.2.1 0 0 (by decide)), rfl⟩ (kRp fun r23 hp23 => ?_)
  subst hp23
  refine v_iloadn dX6_seekDifferences_26 rfl ?_
  refine v_aloadn dX6_seekDifferences_27 rfl ?_
  refine v_get dX6_seekDifferences_28 gf_X6_57 (hX.2.1 0 0 (by decide)) rfl ?_
  refine v_callV (tX3_wantUnlike hX (by omega) (by omega) (nmd_lt hX.2.2 (by omega) (by omega)) (by omega) (by omega)) lc_X6_157 ⟨(Nat.le_of_ble_eq_true rfl), (Nat.le_of_ble_eq_true rfl)⟩ dX6_seekDifferences_31 rfl rfl (Nat.le_of_ble_eq_true rfl) ⟨(Nat.le_of_ble_eq_true rfl), (Nat.le_of_ble_eq_true rfl)⟩ ⟨_, _, _, _, hX.2.1 16 _ (by simp [cntX]; omega), rfl⟩ (kV fun M31 hp31 => ?_)
  obtain ⟨s31, hX, hO31, hs31⟩ := hp31
  have hO := hO.tr hO31
  have hK : keepX si s31 := hK.tr (fun k i' hq => by unfold scrX at hq; rw [hs31]; simp only [ups]; rw [if_neg (by omega), if_neg (by omega), if_neg (by omega), if_neg (by omega), if_neg (by omega)])
  have h0 := hX.2.2.1
  have hnm := hX.2.2.2.1
  have hsh := hX.2.2.2.2.1
  have h8 := hX.2.2.2.2.2.1
  refine v_iconst dX6_seekDifferences_34 ?_
  refine v_istoren dX6_seekDifferences_35 (Nat.le_of_ble_eq_true rfl) ?_
  refine wV.locs (lv' := [(0, .ref (fw 0 0)), (1, .int (gI a)), (2, .int (gI b)), (3, .int (gI (0)))]) ⟨rfl, rfl, rfl, rfl, trivial⟩ (tX6_seek_loop ha 20 _ _ _ (by omega) (by omega) hX hO hK (by omega))
