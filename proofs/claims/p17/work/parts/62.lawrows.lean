def wL (G : gG) (p : Program) (e : Env) (s : State) (m : MethodId) (below : List Frame) (meth : Method) (c : Code) (b : Nat) (kc ks pc : Nat) (lv : List (Nat × Value)) (st : List Value) (M : wM) : Prop :=
  ∀ (H : Heap) (locs : List Loc) (ls : Array Slot), wW G.2.1 (fun q => s.heap.size ≤ q) M H → va_S (fun q => s.heap.size ≤ q) s.heap H locs → lv_has ls 4 lv → W p G.1 e room_1 s m #[Value.ref b] below meth c H locs kc ks (lw_Z below #[Value.ref b] s) (F0 m pc ls st)
section WLAW
variable {G : gG} {p : Program} {e : Env} {s : State} {m : MethodId} {below : List Frame} {meth : Method} {c : Code} {b L : Nat} {xs : Nat → Int32} {kc ks pc : Nat} {M : wM} {lv : List (Nat × Value)} {st rest : List Value}
theorem u_iconst {n : Int} (C0 : lw_At p s m meth c b L xs) (hd : decode cL_law pc = .ok (.iconst n, 1)) (k : wL G p e s m below meth c b kc ks (pc + 1) lv (.int (gI n) :: st) M) : wL G p e s m below meth c b kc ks pc lv (st) M := by
  intro H locs ls hW hS hl
  refine lv_iconst (v := gI n) C0.1 C0.2.1 hd rfl ?_
  exact k H locs ls hW hS hl
theorem u_bipush {n : Int} (C0 : lw_At p s m meth c b L xs) (hd : decode cL_law pc = .ok (.bipush n, 2)) (h : (Int8.ofInt n).toInt32 = gI n) (k : wL G p e s m below meth c b kc ks (pc + 2) lv (.int (gI n) :: st) M) : wL G p e s m below meth c b kc ks pc lv (st) M := by
  intro H locs ls hW hS hl
  refine lv_bipush (v := gI n) C0.1 C0.2.1 hd h ?_
  exact k H locs ls hW hS hl
theorem u_iloadn {i : Fin 4} {x : Int32} (C0 : lw_At p s m meth c b L xs) (hd : decode cL_law pc = .ok (.iload_n i, 1)) (h : vld lv i = some (.int x)) (k : wL G p e s m below meth c b kc ks (pc + 1) lv (.int x :: st) M) : wL G p e s m below meth c b kc ks pc lv (st) M := by
  intro H locs ls hW hS hl
  refine lv_iload_n C0.1 C0.2.1 hd rfl (vld_at hl h) ?_
  exact k H locs ls hW hS hl
theorem u_aloadn {i : Fin 4} {x : Nat} (C0 : lw_At p s m meth c b L xs) (hd : decode cL_law pc = .ok (.aload_n i, 1)) (h : vld lv i = some (.ref x)) (k : wL G p e s m below meth c b kc ks (pc + 1) lv (.ref x :: st) M) : wL G p e s m below meth c b kc ks pc lv (st) M := by
  intro H locs ls hW hS hl
  refine lv_aload_n C0.1 C0.2.1 hd rfl (vld_at hl h) ?_
  exact k H locs ls hW hS hl
theorem u_iadd {x y : Int} (C0 : lw_At p s m meth c b L xs) (hd : decode cL_law pc = .ok (.iadd, 1)) (k : wL G p e s m below meth c b kc ks (pc + 1) lv (.int (gI (x + y)) :: st) M) : wL G p e s m below meth c b kc ks pc lv (.int (gI y) :: .int (gI x) :: st) M := by
  intro H locs ls hW hS hl
  refine lv_iadd C0.1 C0.2.1 hd ?_
  rw [gI_add]
  exact k H locs ls hW hS hl
theorem u_isub {x y : Int} (C0 : lw_At p s m meth c b L xs) (hd : decode cL_law pc = .ok (.isub, 1)) (k : wL G p e s m below meth c b kc ks (pc + 1) lv (.int (gI (x - y)) :: st) M) : wL G p e s m below meth c b kc ks pc lv (.int (gI y) :: .int (gI x) :: st) M := by
  intro H locs ls hW hS hl
  refine lv_isub C0.1 C0.2.1 hd ?_
  rw [gI_sub]
  exact k H locs ls hW hS hl
theorem u_iand {x y : Int32} (C0 : lw_At p s m meth c b L xs) (hd : decode cL_law pc = .ok (.iand, 1)) (k : wL G p e s m below meth c b kc ks (pc + 1) lv (.int (x &&& y) :: st) M) : wL G p e s m below meth c b kc ks pc lv (.int y :: .int x :: st) M := by
  intro H locs ls hW hS hl
  refine lv_iand C0.1 C0.2.1 hd ?_
  exact k H locs ls hW hS hl
theorem u_i2l {x : Int32} (C0 : lw_At p s m meth c b L xs) (hd : decode cL_law pc = .ok (.i2l, 1)) (k : wL G p e s m below meth c b kc ks (pc + 1) lv (.long x.toInt64 :: st) M) : wL G p e s m below meth c b kc ks pc lv (.int x :: st) M := by
  intro H locs ls hW hS hl
  refine lv_i2l C0.1 C0.2.1 hd rfl ?_
  exact k H locs ls hW hS hl
theorem u_lshl {x : Int64} {y : Int32} (C0 : lw_At p s m meth c b L xs) (hd : decode cL_law pc = .ok (.lshl, 1)) (k : wL G p e s m below meth c b kc ks (pc + 1) lv (.long (x <<< (y.toInt64 &&& 63)) :: st) M) : wL G p e s m below meth c b kc ks pc lv (.int y :: .long x :: st) M := by
  intro H locs ls hW hS hl
  refine lv_lshl C0.1 C0.2.1 hd rfl ?_
  exact k H locs ls hW hS hl
theorem u_land {x y : Int64} (C0 : lw_At p s m meth c b L xs) (hd : decode cL_law pc = .ok (.land, 1)) (k : wL G p e s m below meth c b kc ks (pc + 1) lv (.long (x &&& y) :: st) M) : wL G p e s m below meth c b kc ks pc lv (.long y :: .long x :: st) M := by
  intro H locs ls hW hS hl
  refine lv_land C0.1 C0.2.1 hd ?_
  exact k H locs ls hW hS hl
theorem u_lor {x y : Int64} (C0 : lw_At p s m meth c b L xs) (hd : decode cL_law pc = .ok (.lor, 1)) (k : wL G p e s m below meth c b kc ks (pc + 1) lv (.long (x ||| y) :: st) M) : wL G p e s m below meth c b kc ks pc lv (.long y :: .long x :: st) M := by
  intro H locs ls hW hS hl
  refine lv_lor C0.1 C0.2.1 hd ?_
  exact k H locs ls hW hS hl
theorem u_dup {v : Value} (C0 : lw_At p s m meth c b L xs) (hd : decode cL_law pc = .ok (.dup, 1)) (h : v.category = 1) (k : wL G p e s m below meth c b kc ks (pc + 1) lv (v :: v :: st) M) : wL G p e s m below meth c b kc ks pc lv (v :: st) M := by
  intro H locs ls hW hS hl
  refine lv_dup C0.1 C0.2.1 hd h ?_
  exact k H locs ls hW hS hl
theorem u_pop {v : Value} (C0 : lw_At p s m meth c b L xs) (hd : decode cL_law pc = .ok (.pop, 1)) (h : v.category = 1) (k : wL G p e s m below meth c b kc ks (pc + 1) lv (st) M) : wL G p e s m below meth c b kc ks pc lv (v :: st) M := by
  intro H locs ls hW hS hl
  refine lv_pop C0.1 C0.2.1 hd h ?_
  exact k H locs ls hW hS hl
theorem u_ldc2 {idx : Nat} {n : Int64} (C0 : lw_At p s m meth c b L xs) (hd : decode cL_law pc = .ok (.ldc2_w idx, 3)) (hw : Cond.constantLong R_law idx n ∈ lw_tbl) (k : wL G p e s m below meth c b kc ks (pc + 3) lv (.long n :: st) M) : wL G p e s m below meth c b kc ks pc lv st M := by
  intro H locs ls hW hS hl
  refine lv_ldc2 C0.1 C0.2.1 C0.2.2.2.2.1 (C0.2.2.2.2.2.1 _ hw) hd ?_
  exact k H locs ls hW hS hl
theorem u_astoren {i : Fin 4} {x : Nat} (C0 : lw_At p s m meth c b L xs) (hd : decode cL_law pc = .ok (.astore_n i, 1)) (hi : i.val < 4) (k : wL G p e s m below meth c b kc ks (pc + 1) (vst i.val (.ref x) lv) st M) : wL G p e s m below meth c b kc ks pc lv (.ref x :: st) M := by
  intro H locs ls hW hS hl
  exact lv_astore_n C0.1 C0.2.1 hd rfl hl hi rfl (fun ls' hl' => k H locs ls' hW hS hl')
theorem u_istoren {i : Fin 4} {x : Int32} (C0 : lw_At p s m meth c b L xs) (hd : decode cL_law pc = .ok (.istore_n i, 1)) (hi : i.val < 4) (k : wL G p e s m below meth c b kc ks (pc + 1) (vst i.val (.int x) lv) st M) : wL G p e s m below meth c b kc ks pc lv (.int x :: st) M := by
  intro H locs ls hW hS hl
  exact lv_istore_n C0.1 C0.2.1 hd rfl hl hi rfl (fun ls' hl' => k H locs ls' hW hS hl')
theorem u_iinc {i : Nat} {n x : Int} (C0 : lw_At p s m meth c b L xs) (hd : decode cL_law pc = .ok (.iinc i n, 3)) (h : vld lv i = some (.int (gI x))) (hi : i < 4) (k : wL G p e s m below meth c b kc ks (pc + 3) (vst i (.int (gI (x + n))) lv) st M) : wL G p e s m below meth c b kc ks pc lv st M := by
  intro H locs ls hW hS hl
  obtain ⟨j, hj⟩ := List.getElem?_of_mem (vld_mem h)
  exact lv_iinc (v := gI (x + n)) C0.1 C0.2.1 hd hl hj (gI_add x n) hi rfl (fun ls' hl' => k H locs ls' hW hS hl')
theorem u_goto {off : Int} (tgt : Nat) (C0 : lw_At p s m meth c b L xs) (hd : decode cL_law pc = .ok (.goto off, 3)) (ht : (pc : Int) + off = (tgt : Int)) (k : wL G p e s m below meth c b kc ks tgt lv st M) : wL G p e s m below meth c b kc ks pc lv st M := by
  intro H locs ls hW hS hl
  refine lv_goto C0.1 C0.2.1 hd ht ?_
  exact k H locs ls hW hS hl
theorem u_icmp_gt {x y off : Int} (tgt : Nat) (C0 : lw_At p s m meth c b L xs) (hd : decode cL_law pc = .ok (.if_icmp .gt off, 3)) (ht : (pc : Int) + off = (tgt : Int)) (hx : rng x) (hy : rng y) (k : y < x → wL G p e s m below meth c b kc ks tgt lv st M) (k2 : x ≤ y → wL G p e s m below meth c b kc ks (pc + 3) lv st M) : wL G p e s m below meth c b kc ks pc lv (.int (gI y) :: .int (gI x) :: st) M := by
  intro H locs ls hW hS hl
  refine lv_icmp_gt C0.1 C0.2.1 hd ht (fun h => k ?_ H locs ls hW hS hl) (fun h => k2 ?_ H locs ls hW hS hl)
  all_goals (first | (simp only [gI_inj hx hy, gI_lt hx hy, gI_lt hy hx, gI_le hx hy, gI_le hy hx, ne_eq, ge_iff_le, gt_iff_lt] at h ⊢; first | exact h | omega))
theorem u_icmp_eq {x y off : Int} (tgt : Nat) (C0 : lw_At p s m meth c b L xs) (hd : decode cL_law pc = .ok (.if_icmp .eq off, 3)) (ht : (pc : Int) + off = (tgt : Int)) (hx : rng x) (hy : rng y) (k : x = y → wL G p e s m below meth c b kc ks tgt lv st M) (k2 : x ≠ y → wL G p e s m below meth c b kc ks (pc + 3) lv st M) : wL G p e s m below meth c b kc ks pc lv (.int (gI y) :: .int (gI x) :: st) M := by
  intro H locs ls hW hS hl
  refine lv_icmp_eq C0.1 C0.2.1 hd ht (fun h => k ?_ H locs ls hW hS hl) (fun h => k2 ?_ H locs ls hW hS hl)
  all_goals (first | (simp only [gI_inj hx hy, gI_lt hx hy, gI_lt hy hx, gI_le hx hy, gI_le hy hx, ne_eq, ge_iff_le, gt_iff_lt] at h ⊢; first | exact h | omega))
theorem u_tout {dflt lo hi : Int} {offs : Array Int} {len : Nat} {x : Int} (tgt : Nat) (C0 : lw_At p s m meth c b L xs) (hd : decode cL_law pc = .ok (.tableswitch dflt lo hi offs, len)) (hx : rng x) (h : x < lo ∨ hi < x) (ht : (pc : Int) + dflt = (tgt : Int)) (k : wL G p e s m below meth c b kc ks tgt lv st M) : wL G p e s m below meth c b kc ks pc lv (.int (gI x) :: st) M := by
  intro H locs ls hW hS hl
  refine lv_tableOut C0.1 C0.2.1 hd (by rw [gI_toInt hx]; exact h) ht ?_
  exact k H locs ls hW hS hl
theorem u_tin {dflt lo hi : Int} {offs : Array Int} {len : Nat} {x off : Int} (tgt : Nat) (C0 : lw_At p s m meth c b L xs) (hd : decode cL_law pc = .ok (.tableswitch dflt lo hi offs, len)) (hx : rng x) (h1 : lo ≤ x) (h2 : x ≤ hi) (ho : offs[(x - lo).toNat]? = some off) (ht : (pc : Int) + off = (tgt : Int)) (k : wL G p e s m below meth c b kc ks tgt lv st M) : wL G p e s m below meth c b kc ks pc lv (.int (gI x) :: st) M := by
  intro H locs ls hW hS hl
  refine lv_tableIn C0.1 C0.2.1 hd (by rw [gI_toInt hx]; omega) (by rw [gI_toInt hx]; omega) (by rw [gI_toInt hx]; exact ho) ht ?_
  exact k H locs ls hW hS hl
theorem u_sld {i : Int} (C0 : lw_At p s m meth c b L xs) (hd : decode cL_law pc = .ok (.iaload, 1)) (h0 : 0 ≤ i) (h1 : i < L) (hb : L ≤ 1000000) (k : wL G p e s m below meth c b kc ks (pc + 1) lv (.int (gI (xs i.toNat).toInt) :: st) M) : wL G p e s m below meth c b kc ks pc lv (.int (gI i) :: .ref b :: st) M := by
  intro H locs ls hW hS hl
  refine va_sld (A := fun q => s.heap.size ≤ q) C0.1 C0.2.1 C0.2.2.2.2.2.2.1 C0.2.2.2.2.2.2.2.1 (Nat.not_le.mpr C0.2.2.2.2.2.2.2.1) hS (gI_in h0 h1 (by omega)) hd ?_
  rw [gI_clamp h0 (by omega), gI_of (xs i.toNat)]
  exact k H locs ls hW hS hl
theorem u_slen (C0 : lw_At p s m meth c b L xs) (hd : decode cL_law pc = .ok (.arraylength, 1)) (k : wL G p e s m below meth c b kc ks (pc + 1) lv (.int (gI (L : Int)) :: st) M) : wL G p e s m below meth c b kc ks pc lv (.ref b :: st) M := by
  intro H locs ls hW hS hl
  refine va_slen (A := fun q => s.heap.size ≤ q) C0.1 C0.2.1 C0.2.2.2.2.2.2.1 C0.2.2.2.2.2.2.2.1 (Nat.not_le.mpr C0.2.2.2.2.2.2.2.1) hS hd ?_
  exact k H locs ls hW hS hl
theorem goodIn_tbl (q2 : mD) (h : Cond.code q2.1 q2.2.1 q2.2.2.1 q2.2.2.2.1 ∈ lw_good) : GoodIn lw_tbl (ws_of q2) := by
  intro w hw
  have hw' : w ∈ lw_good := by
    rcases List.mem_cons.mp hw with rfl | h2
    · exact h
    · exact h2
  exact ⟨(List.mem_filter.mp hw').1, good_all hw'⟩
theorem u_behind {H : Heap} {locs : List Loc} {ls : Array Slot} {a : Array Value} {mc2 ms2 : Nat} {Post2 : Option Value → wM → Prop} (hW : wW G.2.1 (fun q => s.heap.size ≤ q) M H) (hS : va_S (fun q => s.heap.size ≤ q) s.heap H locs) (hl : lv_has ls 4 lv)
    (hr : va_Run p G.1 e room_1 s m #[Value.ref b] below meth c H locs kc ks mc2 ms2 (F0 m pc ls st) rest (wQ G M H.size Post2 a) (wA M H.size))
    (kk : ∀ v M', Post2 v M' → wL G p e s m below meth c b (kc + mc2) (ks + ms2) (pc + 3) lv (v.toList ++ rest) M') :
    W p G.1 e room_1 s m #[Value.ref b] below meth c H locs kc ks (lw_Z below #[Value.ref b] s) (F0 m pc ls st) := by
  intro T hT X
  obtain ⟨v, st₀, t, T', L, h0, X', hL, e1, e2, ⟨⟨v', M', hv, hp, hW', hm'⟩, hz, hk⟩, stp⟩ := hr T hT X
  cases hv
  rw [h0] at hz hk
  have hsub : ∀ x, wA M H.size x → s.heap.size ≤ x := by
    intro x hx
    rcases hx with hx | hx
    · obtain ⟨ws, hP, hD, hR⟩ := hW
      cases hMb : M x with
      | none => exact absurd hMb hx
      | some eb =>
        obtain ⟨i, hi⟩ := List.getElem?_of_mem ((hR x eb).mp hMb)
        exact hD.2 i _ hi
    · exact Nat.le_trans hS.1 hx
  have hkk := kk _ M' hp T'.heap (locs ++ L) ls (by rw [e1]; exact hW'.weaken (fun x _ hx => hsub x hx))
    ⟨Nat.le_trans hS.1 (by rw [e1]; exact hz), fun x h1 h2 => by rw [e1, hk x (Nat.lt_of_lt_of_le h1 hS.1) (fun z => h2 (hsub x z))]; exact hS.2.1 x h1 h2, fun x hx => by
      rcases List.mem_append.mp hx with h | h
      · exact hS.2.2 x h
      · exact hsub _ (hL x h)⟩ hl
  obtain ⟨t2, a1, b1⟩ := hkk T' rfl X'
  exact ⟨t2, stp t2 a1, b1⟩
theorem u_callV {q2 : mD} {idx n a : Nat} {As : List Value} {Post2 : Option Value → wM → Prop} (C0 : lw_At p s m meth c b L xs) (hK : wK G s) (hT : wT G q2 0 0 (.ref a :: As) M Post2) (hlk : lkV R_law idx q2 n) (hfit : q2.2.2.2.2.1 + 1 ≤ 9 ∧ 8 + (q2.2.2.1 + 11) + q2.2.2.2.2.2 ≤ 358) (hd : decode cL_law pc = .ok (.invokevirtual idx, 3)) (hst : st = As.reverse ++ .ref a :: rest) (hn : As.length = n) (hrest : (rest.map fun v => v.category).sum ≤ 8) (hc : kc ≤ 600000 ∧ ks ≤ 7302250) (hO : isO M a q2.1.cls)
    (kk : ∀ v M', Post2 v M' → wL G p e s m below meth c b kc ks (pc + 3) lv (v.toList ++ rest) M') : wL G p e s m below meth c b kc ks pc lv st M := by
  intro H locs ls hW hS hl
  subst hst
  have hts := C0.2.2.2.2.2.1
  have ok : ∀ w ∈ lw_good, w.before #[Value.ref b] s = true := fun w h => hts w (List.mem_filter.mp h).1
  obtain ⟨ws, hP, hD, hR⟩ := id hW
  obtain ⟨ci, fs, T, N, hMb, hcl⟩ := hO
  obtain ⟨q0, he⟩ := List.getElem?_of_mem ((hR _ _).mp hMb)
  have hcw : CallW room_1 s #[Value.ref b] R_law q2.1.cls idx q2.1 q2.2.1 q2.2.2.1 q2.2.2.2.1 (ws_of q2) (rm_of q2 0 0) 0 0 n :=
    ⟨callB_of n hts (goodIn_tbl q2 (hlk.1 _ (by simp))) rfl rfl rfl (ok _ (hlk.1 _ (by simp))) (ok _ (hlk.1 _ (by simp))) hlk.2 hfit, ok _ (hlk.1 _ (by simp)), ok _ (hlk.1 _ (by simp))⟩
  exact u_behind (a := (Value.ref a :: As).toArray) (mc2 := 0) (ms2 := 0) hW hS hl (va_runV (Ts := lw_tbl) ⟨C0.1, C0.2.1, C0.2.2.2.1, C0.2.2.2.2.1, hts⟩ (hT H.size) hcw ⟨pc_blind, va_recv hK.1 hP hcl he, fun U hU hWm => ⟨rfl, by rw [hU], by rw [hU]; exact hW.weaken (fun _ _ _ => trivial), hK.warm hWm⟩⟩ rfl hn hl.1 rfl (lv_room hrest) hd hc) kk
theorem u_callI {q2 : mD} {idx n a mc2 ms2 : Nat} {As : List Value} {Post2 : Option Value → wM → Prop} (C0 : lw_At p s m meth c b L xs) (hK : wK G s) (hT : wT G q2 mc2 ms2 (.ref a :: As) M Post2) (hlk : lkI R_law idx q2 n) (hfit : q2.2.2.2.2.1 + 1 ≤ 9 ∧ 8 + (q2.2.2.1 + 11) + q2.2.2.2.2.2 ≤ 358) (hd : decode cL_law pc = .ok (.invokespecial idx, 3)) (hst : st = As.reverse ++ .ref a :: rest) (hn : As.length = n) (hrest : (rest.map fun v => v.category).sum ≤ 8) (hc : kc + mc2 ≤ 600000 ∧ ks + ms2 ≤ 7302250)
    (kk : ∀ v M', Post2 v M' → wL G p e s m below meth c b (kc + mc2) (ks + ms2) (pc + 3) lv (v.toList ++ rest) M') : wL G p e s m below meth c b kc ks pc lv st M := by
  intro H locs ls hW hS hl
  subst hst
  have hts := C0.2.2.2.2.2.1
  have ok : ∀ w ∈ lw_good, w.before #[Value.ref b] s = true := fun w h => hts w (List.mem_filter.mp h).1
  obtain ⟨hw1, hnm, hret, hw3⟩ := hlk
  exact u_behind (a := (Value.ref a :: As).toArray) hW hS hl (va_runI (bytes := q2.2.1) (maxL := q2.2.2.1) (Ts := lw_tbl) ⟨C0.1, C0.2.1, C0.2.2.2.1, C0.2.2.2.2.1, hts⟩ (hT H.size) ⟨callB_of (ret := none) (ws' := lw_good) n hts (goodIn_tbl q2 (by rw [hret]; exact hw1 _ (by simp))) (by unfold ws_of; rw [hret]) rfl rfl (ok _ (hw1 _ (by simp))) (ok _ (hw1 _ (by simp))) hw3 hfit, hnm, ok _ (hw1 _ (by simp))⟩ ⟨pc_blind, fun U hU hWm => ⟨rfl, by rw [hU], by rw [hU]; exact hW.weaken (fun _ _ _ => trivial), hK.warm hWm⟩⟩ rfl hn hl.1 rfl (lv_room hrest) hd hc) kk
theorem u_new {idx ci N : Nat} {fs : List Value} (C0 : lw_At p s m meth c b L xs) (hK : wK G s) (hd : decode cL_law pc = .ok (.new idx, 3)) (hlk : lkC R_law idx ci fs N) (hc1 : kc + 1 ≤ 600000) (hs1 : ks + N ≤ 7302250)
    (kk : ∀ a, M a = none → wL G p e s m below meth c b (kc + 1) (ks + N) (pc + 3) lv (.ref a :: st) (wup M a (.inr (ci, fs)))) : wL G p e s m below meth c b kc ks pc lv st M := by
  intro H locs ls hW hS hl
  have hts := C0.2.2.2.2.2.1
  have ok : ∀ w ∈ lw_good, w.before #[Value.ref b] s = true := fun w h => hts w (List.mem_filter.mp h).1
  obtain ⟨Cn, T, ty, hcl, hin, hty, hw, hfs⟩ := hlk
  obtain ⟨ws, hP, hD, hR⟩ := id hW
  refine va_new (own := R_law) (C := Cn) (T := T) (N := N) C0.1 C0.2.1 hts (fun w h => (List.mem_filter.mp (hin w h)).1) ty hty C0.2.2.2.2.1 (ok _ (hw _ (by simp))) (ok _ (hw _ (by simp))) (ok _ (hw _ (by simp))) hK.1 hP hD hS (fun _ h => h) hcl hfs hc1 hs1 hd (fun a H1 hP1 hD1 hS1 => ?_)
  obtain ⟨hn, hR1⟩ := hR.app hD1
  exact kk a hn H1 locs ls ⟨_, hP1, hD1, hR1⟩ hS1 hl
theorem u_ret (C0 : lw_At p s m meth c b L xs) (hd : decode cL_law pc = .ok (.ireturn, 1)) (hc : kc ≤ 600000 ∧ ks ≤ 7302250) : wL G p e s m below meth c b kc ks pc lv [.int (gI 1)] M := by
  intro H locs ls hW hS hl
  refine W.widen hc.1 hc.2 (va_forget hS.2.2 ?_)
  exact lw_ret C0.1 C0.2.1 C0.2.2.1 C0.2.2.2.2.2.2.2.2.1 hd
theorem uI {f : Int → wM → Prop} (k : ∀ r M', rng r → f r M' → wL G p e s m below meth c b kc ks (pc + 3) lv (.int (gI r) :: rest) M') : ∀ v M', iP f v M' → wL G p e s m below meth c b kc ks (pc + 3) lv (v.toList ++ rest) M' := by
  rintro v M' ⟨r, rfl, hr, h⟩
  exact k r M' hr h
theorem wL.locs {lv' : List (Nat × Value)} (h : vsub lv lv') (k : wL G p e s m below meth c b kc ks pc lv' st M) : wL G p e s m below meth c b kc ks pc lv st M := fun H locs ls hW hS hl => k H locs ls hW hS (vsub_has hl h)
end WLAW
