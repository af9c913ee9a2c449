theorem law_K {s : State} {b : Nat} (l : Launch) (hts : ∀ w ∈ lw_tbl, w.before #[Value.ref b] s = true) : ∃ G : gG, G.1 = l ∧ wK G s := by
  obtain ⟨c0, iS0, hKn0⟩ := u_known (C := RX0) (T := TX0) (N := 5) (n := 5) hts (fun w h => (List.mem_filter.mp (iX0 w h)).1) (hts (.instantiable RX0 5) (by decide +kernel))
  obtain ⟨c1, iS1, hKn1⟩ := u_known (C := RX1) (T := TX1) (N := 3) (n := 3) hts (fun w h => (List.mem_filter.mp (iX1 w h)).1) (hts (.instantiable RX1 3) (by decide +kernel))
  obtain ⟨c2, iS2, hKn2⟩ := u_known (C := RX2) (T := TX2) (N := 4) (n := 4) hts (fun w h => (List.mem_filter.mp (iX2 w h)).1) (hts (.instantiable RX2 4) (by decide +kernel))
  obtain ⟨c3, iS3, hKn3⟩ := u_known (C := RX3) (T := TX3) (N := 6) (n := 6) hts (fun w h => (List.mem_filter.mp (iX3 w h)).1) (hts (.instantiable RX3 6) (by decide +kernel))
  obtain ⟨c4, iS4, hKn4⟩ := u_known (C := RX4) (T := TX4) (N := 3) (n := 3) hts (fun w h => (List.mem_filter.mp (iX4 w h)).1) (hts (.instantiable RX4 3) (by decide +kernel))
  obtain ⟨c5, iS5, hKn5⟩ := u_known (C := RX5) (T := TX5) (N := 5) (n := 5) hts (fun w h => (List.mem_filter.mp (iX5 w h)).1) (hts (.instantiable RX5 5) (by decide +kernel))
  obtain ⟨c6, iS6, hKn6⟩ := u_known (C := RX6) (T := TX6) (N := 11) (n := 11) hts (fun w h => (List.mem_filter.mp (iX6 w h)).1) (hts (.instantiable RX6 11) (by decide +kernel))
  obtain ⟨c7, iS7, hKn7⟩ := u_known (C := RX7) (T := TX7) (N := 23) (n := 23) hts (fun w h => (List.mem_filter.mp (iX7 w h)).1) (hts (.instantiable RX7 23) (by decide +kernel))
  obtain ⟨dC, dI, hKc⟩ : ∃ (dC : Nat → ClassId) (dI : Nat → Nat → Nat), ∀ (k : Nat) (q : vw_C), vwCl[k]? = some q → u_Kn s q.1 q.2.1 q.2.2 (dC k) (dI k) := by
    refine ⟨fun k => if k = 0 then c0 else if k = 1 then c1 else if k = 2 then c2 else if k = 3 then c3 else if k = 4 then c4 else if k = 5 then c5 else if k = 6 then c6 else c7, fun k => if k = 0 then iS0 else if k = 1 then iS1 else if k = 2 then iS2 else if k = 3 then iS3 else if k = 4 then iS4 else if k = 5 then iS5 else if k = 6 then iS6 else iS7, ?_⟩
    intro k q hq
    match k, hq with
    | 0, hq => cases hq; exact hKn0
    | 1, hq => cases hq; exact hKn1
    | 2, hq => cases hq; exact hKn2
    | 3, hq => cases hq; exact hKn3
    | 4, hq => cases hq; exact hKn4
    | 5, hq => cases hq; exact hKn5
    | 6, hq => cases hq; exact hKn6
    | 7, hq => cases hq; exact hKn7
    | k + 8, hq => simp [vwCl] at hq
  have ao : ∀ C : String, (Cond.arrayOver (.object C)).before #[Value.ref b] s = true → ∃ cA, ArrOfT s cA (.object C) ∧ va_RA s cA (.object C) := fun C h => by
    obtain ⟨comp, cA, kA, f4, -, f2, f3, f1⟩ := Cond.arrayOver_spec h
    exact ⟨cA, fun N z => ⟨(fun k h => by cases h), kA, f2, comp, f3⟩, kA, comp, f2, f3, f4, f1⟩
  obtain ⟨a0, hi1, hi2⟩ : ∃ cA, ArrOfT s cA .int ∧ va_RA s cA .int := by
    obtain ⟨cA, kA, comp, f1, f2, f3⟩ := Cond.arrayClass_spec (hts (.arrayClass .int) (by decide +kernel))
    exact ⟨cA, fun N z => ⟨(fun k h => by cases h), kA, f2, comp, f3⟩, f1⟩
  obtain ⟨a1, hz1, hz2⟩ : ∃ cA, ArrOfT s cA .boolean ∧ va_RA s cA .boolean := by
    obtain ⟨cA, kA, comp, f1, f2, f3⟩ := Cond.arrayClass_spec (hts (.arrayClass .boolean) (by decide +kernel))
    exact ⟨cA, fun N z => ⟨(fun k h => by cases h), kA, f2, comp, f3⟩, f1⟩
  obtain ⟨a2, hA0⟩ := ao "WavePairs$Row" (hts _ (List.mem_filter.mp lao_Row).1)
  obtain ⟨a3, hA1⟩ := ao "WavePairs$Mask" (hts _ (List.mem_filter.mp lao_Mask).1)
  obtain ⟨a4, hA2⟩ := ao "WavePairs$Channel" (hts _ (List.mem_filter.mp lao_Channel).1)
  obtain ⟨a5, hA3⟩ := ao "WavePairs$Gate" (hts _ (List.mem_filter.mp lao_Gate).1)
  obtain ⟨a6, hA4⟩ := ao "WavePairs$Pair" (hts _ (List.mem_filter.mp lao_Pair).1)
  refine ⟨(l, (dC, dI), fun k => if k = 0 then a0 else if k = 1 then a1 else if k = 2 then a2 else if k = 3 then a3 else if k = 4 then a4 else if k = 5 then a5 else a6), rfl, ⟨hKc, fun k q hq => ?_⟩, fun w hw => ?_⟩
  · match k, hq with
    | 0, hq => cases hq; exact ⟨hi1, hi2⟩
    | 1, hq => cases hq; exact ⟨hz1, hz2⟩
    | 2, hq => cases hq; exact hA0
    | 3, hq => cases hq; exact hA1
    | 4, hq => cases hq; exact hA2
    | 5, hq => cases hq; exact hA3
    | 6, hq => cases hq; exact hA4
    | k + 7, hq => simp at hq
  · have h2 := (List.mem_filter.mp hw).2
    have h3 := hts w (List.mem_filter.mp hw).1
    cases w <;> first | exact absurd h2 Bool.false_ne_true | exact va_Nw.of rfl h3 | (rename_i t; cases t <;> first | exact absurd h2 Bool.false_ne_true | exact h3)
set_option maxHeartbeats 4000000 in
set_option maxRecDepth 100000 in
theorem whole_start {p : Program} {e : Env} {s : State} {m : MethodId} {below : List Frame} {meth : Method} {c : Code} (l : Launch) {b L : Nat} {xs : Nat → Int32} (hL : L ≤ 4608) (C0 : lw_At p s m meth c b L xs) : W p l e room_1 s m #[Value.ref b] below meth c s.heap [] 0 0 (lw_Z below #[Value.ref b] s) (entryFrame m ([Value.ref b] : List Value).toArray 4) := by
  obtain ⟨G, hG, hK⟩ := law_K l C0.2.2.2.2.2.1
  subst hG
  have hl := lv_entry ([.ref b]) (n := 4) (Nat.le_of_ble_eq_true rfl)
  rw [lg_entry_eq]
  refine (show wL G p e s m below meth c b 0 0 0 [(0, .ref b)] [] (fun _ => none) from ?_) s.heap [] _ ⟨[], fun k q h => by simp at h, ⟨fun i j p q h => by simp at h, fun k q h => by simp at h⟩, fun a e => by simp⟩ va_S.rf hl
  have hB : wB G 0 (fun _ => 0) (fun _ => .inl (0, [])) (fun _ => none) := ⟨fun i h => absurd h (Nat.not_lt_zero i), fun i j h => absurd h (Nat.not_lt_zero i), fun i h => absurd h (Nat.not_lt_zero i)⟩
  refine u_new C0 hK dL_law_0 lln_7 (Nat.le_of_ble_eq_true rfl) (Nat.le_of_ble_eq_true rfl) (fun a0 hn0 => ?_)
  generalize hM0 : wup _ _ _ = M1
  obtain ⟨ad1, hB, ha1, -⟩ : ∃ ad', wB G 1 ad' (upD (fun _ => .inl (0, [])) 0 (.inl (6, [.inl none, .inl none, .inl none, .inl none, .inl none, .inl none, .inl none, .inl none, .inr (0), .inr (0), .inr (0)]))) M1 ∧ ad' 0 = a0 ∧ wS 0 (fun _ => 0) ad' := by rw [← hM0]; exact hB.push (.inl (6, [.inl none, .inl none, .inl none, .inl none, .inl none, .inl none, .inl none, .inl none, .inr (0), .inr (0), .inr (0)])) hn0 (fun _ => rfl) rfl
  subst ha1
  refine u_dup C0 dL_law_3 rfl ?_
  refine u_callI C0 hK (tX6_init hB rfl upD_at) ll_9 ⟨(Nat.le_of_ble_eq_true rfl), (Nat.le_of_ble_eq_true rfl)⟩ dL_law_4 rfl rfl (Nat.le_of_ble_eq_true rfl) ⟨(Nat.le_of_ble_eq_true rfl), (Nat.le_of_ble_eq_true rfl)⟩ (fun v M2 hp => ?_)
  obtain ⟨rfl, ad2, hB, hS2⟩ := hp
  refine u_astoren C0 dL_law_7 (by decide) ?_
  refine u_new C0 hK dL_law_8 lln_10 (Nat.le_of_ble_eq_true rfl) (Nat.le_of_ble_eq_true rfl) (fun a3 hn3 => ?_)
  generalize hM3 : wup _ _ _ = M3
  obtain ⟨ad3, hB, ha3, hS3⟩ : ∃ ad', wB G 183 ad' (upD (xD (upD (fun _ => .inl (0, [])) 0 (.inl (6, [.inl none, .inl none, .inl none, .inl none, .inl none, .inl none, .inl none, .inl none, .inr (0), .inr (0), .inr (0)])))) 182 (.inl (7, [.inr (0), .inr (0), .inl none, .inl none, .inl none, .inl none, .inl none, .inl none, .inr (0), .inl none, .inl none, .inl none, .inl none, .inl none, .inl none, .inl none, .inl none, .inl none, .inr (0), .inr (0), .inr (0), .inr (0), .inr (0)]))) M3 ∧ ad' 182 = a3 ∧ wS 182 ad2 ad' := by rw [← hM3]; exact hB.push (.inl (7, [.inr (0), .inr (0), .inl none, .inl none, .inl none, .inl none, .inl none, .inl none, .inr (0), .inl none, .inl none, .inl none, .inl none, .inl none, .inl none, .inl none, .inl none, .inl none, .inr (0), .inr (0), .inr (0), .inr (0), .inr (0)])) hn3 (fun _ => rfl) rfl
  subst ha3
  refine u_dup C0 dL_law_11 rfl ?_
  refine u_callI C0 hK (tX7_init hB rfl upD_at) ll_12 ⟨(Nat.le_of_ble_eq_true rfl), (Nat.le_of_ble_eq_true rfl)⟩ dL_law_12 rfl rfl (Nat.le_of_ble_eq_true rfl) ⟨(Nat.le_of_ble_eq_true rfl), (Nat.le_of_ble_eq_true rfl)⟩ (fun v M4 hp => ?_)
  obtain ⟨rfl, ad4, hB, hS4⟩ := hp
  have hB : wB G 198 ad4 dLaw M4 := hB
  refine u_astoren C0 dL_law_15 (by decide) ?_
  refine u_iconst C0 dL_law_16 ?_
  refine u_istoren C0 dL_law_17 (by decide) ?_
  have hdj : dj (fwX ad4) (fwY ad4) := fun k i k' i' hi hi' h => by
    have hk := cnt_17 hi
    have l1 := pos_lt k hk i hi
    have h2 : k' < 16 := by unfold cntY at hi'; split at hi' <;> omega
    have := hB.2.1 (posX k i) (182 + k') (by omega) (by omega) h
    omega
  have e0 : ad1 0 = fwX ad4 0 0 := ((hS4 0 (by omega)).trans ((hS3 0 (by omega)).trans (hS2 0 (by omega)))).symm
  have e1 : ad3 182 = fwY ad4 0 0 := (hS4 182 (by omega)).symm
  rw [e0, e1]
  refine wL.locs (lv' := [(0, .ref b), (1, .ref (fwX ad4 0 0)), (2, .ref (fwY ad4 0 0)), (3, .int (gI 0))]) ⟨rfl, rfl, rfl, rfl, trivial⟩ ?_
  exact law_loop hL C0 hK hdj 10000 0 s0X s0Y M4 (by omega) (by omega) (by omega) (wX0 hB) (wY0 hB) lt2_0
