section WCALLS
variable {G : gG} {q q2 : mD} {mc ms sz kc ks pc mc2 ms2 : Nat} {M0 M : wM} {lv : List (Nat × Value)} {st rest : List Value} {Post Post2 : Option Value → wM → Prop}
def iP (f : Int → wM → Prop) : Option Value → wM → Prop := fun v M => ∃ r : Int, v = some (.int (gI r)) ∧ rng r ∧ f r M
def vP (f : wM → Prop) : Option Value → wM → Prop := fun v M => v = none ∧ f M
def rP (f : Nat → wM → Prop) : Option Value → wM → Prop := fun v M => ∃ a : Nat, v = some (.ref a) ∧ f a M
theorem v_iret {f : Int → wM → Prop} {x : Int} (hd : decode q.2.1 pc = .ok (.ireturn, 1)) (hr : q.2.2.2.1 = some .int) (hk : kc ≤ mc ∧ ks ≤ ms) (hx : rng x) (h : f x M) : wV G q mc ms sz M0 kc ks pc lv [.int (gI x)] M (iP f) := by
  intro p e s m args below meth c H locs ls C hsz hW hm hS hl
  have hlocks := C.2.2.2.2.2.2.2.1
  refine W.widen hk.1 hk.2 ?_
  exact W.iret C.1 C.2.1 (C.2.2.2.1.trans hr) (fun t ht hW2 => ⟨⟨_, M, rfl, ⟨x, rfl, hx, h⟩, by rw [ht]; exact hW, hm⟩, by subst hsz; exact hS.F ht⟩) hS.2.2 hd
theorem v_zret {f : Int → wM → Prop} {x : Int} (hd : decode q.2.1 pc = .ok (.ireturn, 1)) (hr : q.2.2.2.1 = some .boolean) (hk : kc ≤ mc ∧ ks ≤ ms) (hx : x = 0 ∨ x = 1) (h : f x M) : wV G q mc ms sz M0 kc ks pc lv [.int (gI x)] M (iP f) := by
  intro p e s m args below meth c H locs ls C hsz hW hm hS hl
  have hlocks := C.2.2.2.2.2.2.2.1
  refine W.widen hk.1 hk.2 ?_
  exact W.zret C.1 C.2.1 (C.2.2.2.1.trans hr) (by rcases hx with rfl | rfl <;> decide) (fun t ht hW2 => ⟨⟨_, M, rfl, ⟨x, rfl, by rcases hx with rfl | rfl <;> exact ⟨by omega, by omega⟩, h⟩, by rw [ht]; exact hW, hm⟩, by subst hsz; exact hS.F ht⟩) hS.2.2 hd
theorem v_vret {f : wM → Prop} (hd : decode q.2.1 pc = .ok (.return_, 1)) (hr : q.2.2.2.1 = none) (hk : kc ≤ mc ∧ ks ≤ ms) (h : f M) : wV G q mc ms sz M0 kc ks pc lv [] M (vP f) := by
  intro p e s m args below meth c H locs ls C hsz hW hm hS hl
  have hlocks := C.2.2.2.2.2.2.2.1
  refine W.widen hk.1 hk.2 ?_
  exact W.vret C.1 C.2.1 (C.2.2.2.1.trans hr) (fun t ht hW2 => ⟨⟨_, M, rfl, ⟨rfl, h⟩, by rw [ht]; exact hW, hm⟩, by subst hsz; exact hS.F ht⟩) hS.2.2 hd
theorem v_aret {f : Nat → wM → Prop} {a : Nat} {nm : String} (hd : decode q.2.1 pc = .ok (.areturn, 1)) (hr : q.2.2.2.1 = some (.object nm)) (hk : kc ≤ mc ∧ ks ≤ ms) (h : f a M) : wV G q mc ms sz M0 kc ks pc lv [.ref a] M (rP f) := by
  intro p e s m args below meth c H locs ls C hsz hW hm hS hl
  have hlocks := C.2.2.2.2.2.2.2.1
  refine W.widen hk.1 hk.2 ?_
  exact W.aret C.1 C.2.1 (C.2.2.2.1.trans hr) (Or.inl ⟨_, rfl⟩) (Or.inr ⟨a, rfl⟩) (fun t ht hW2 => ⟨⟨_, M, rfl, ⟨a, rfl, h⟩, by rw [ht]; exact hW, hm⟩, by subst hsz; exact hS.F ht⟩) hS.2.2 hd
/-- behind a call -/
theorem v_behind {p : Program} {e : Env} {s : State} {m : MethodId} {args : Array Value} {below : List Frame} {meth : Method} {c : Code} {H : Heap} {locs : List Loc} {ls : Array Slot} {a : Array Value}
    (C : cX G q p s m args meth c) (hsz : s.heap.size = sz) (hW : wW G.2.1 (wA M0 sz) M H) (hm : ∀ a, M0 a ≠ none → M a ≠ none) (hS : va_S (wA M0 sz) s.heap H locs) (hl : lv_has ls q.2.2.1 lv)
    (hr : va_Run p G.1 e (rm_of q mc ms) s m args below meth c H locs kc ks mc2 ms2 (F0 m pc ls st) rest (wQ G M H.size Post2 a) (wA M H.size))
    (kk : ∀ v M', Post2 v M' → wV G q mc ms sz M0 (kc + mc2) (ks + ms2) (pc + 3) lv (v.toList ++ rest) M' Post) :
    W p G.1 e (rm_of q mc ms) s m args below meth c H locs kc ks (MQ below (wQ G M0 sz Post) args s mc ms (wA M0 sz)) (F0 m pc ls st) := by
  intro T hT X
  obtain ⟨v, st₀, t, T', L, h0, X', hL, e1, e2, ⟨⟨v', M', hv, hp, hW', hm'⟩, hz, hk⟩, stp⟩ := hr T hT X
  cases hv
  rw [h0] at hz hk
  have hsub : ∀ b, wA M H.size b → wA M0 sz b := by
    intro b hb
    rcases hb with hb | hb
    · obtain ⟨ws, hP, hD, hR⟩ := hW
      cases hMb : M b with
      | none => exact absurd hMb hb
      | some eb =>
        obtain ⟨i, hi⟩ := List.getElem?_of_mem ((hR b eb).mp hMb)
        exact hD.2 i _ hi
    · exact Or.inr (by have := hS.1; omega)
  have hkk := kk _ M' hp p e s m args below meth c T'.heap (locs ++ L) ls C hsz (by rw [e1]; exact hW'.weaken (fun b _ hb => hsub b hb)) (fun b hb => hm' b (hm b hb))
    ⟨Nat.le_trans hS.1 (by rw [e1]; exact hz), fun b h1 h2 => by rw [e1, hk b (Nat.lt_of_lt_of_le h1 hS.1) (fun z => h2 (hsub b z))]; exact hS.2.1 b h1 h2, fun x hx => by
      rcases List.mem_append.mp hx with h | h
      · exact hS.2.2 x h
      · exact hsub _ (hL x h)⟩ hl
  obtain ⟨t2, a1, b1⟩ := hkk T' rfl X'
  exact ⟨t2, stp t2 a1, b1⟩
theorem pc_blind {av : List Value} {M : wM} {sz : Nat} : FrameBlind (va_Pc av (fun U => U.heap.size = sz ∧ wW G.2.1 (fun _ => True) M U.heap ∧ wK G U)) := by
  intro a U g mk h
  obtain ⟨h1, h2, h3, h4⟩ := h
  exact ⟨h1, h2, h3, wK.same (s := U) (U := U.calling g mk a) rfl h4⟩
/-- the words of a call -/
def lkV (own : String) (idx : Nat) (q2 : mD) (n : Nat) : Prop := (∀ w ∈ ([.methodLink own idx q2.1, .instanceMethod q2.1, .selects q2.1.cls q2.1 q2.1, .initialized q2.1.cls, .code q2.1 q2.2.1 q2.2.2.1 q2.2.2.2.1] : List Cond), w ∈ lw_good) ∧ q2.1.cls ≠ "java/lang/invoke/MethodHandle" ∧ q2.1.cls ≠ "java/lang/invoke/VarHandle" ∧ (parseMethodDescriptor q2.1.desc).map (fun d => d.parameters.length) = some n
def lkS (own : String) (idx : Nat) (q2 : mD) (n : Nat) : Prop := (∀ w ∈ ([.methodLink own idx q2.1, .static q2.1, .initialized own, .code q2.1 q2.2.1 q2.2.2.1 q2.2.2.2.1] : List Cond), w ∈ lw_good) ∧ q2.1.cls = own ∧ q2.1.cls ≠ "java/lang/invoke/MethodHandle" ∧ q2.1.cls ≠ "java/lang/invoke/VarHandle" ∧ (parseMethodDescriptor q2.1.desc).map (fun d => d.parameters.length) = some n
def lkSN (own : String) (idx : Nat) (q2 : mD) (n : Nat) : Prop := ∃ host, (∀ w ∈ ([.static q2.1, .initialized q2.1.cls, .code q2.1 q2.2.1 q2.2.2.1 q2.2.2.2.1] : List Cond), w ∈ lw_good) ∧ Cond.methodLinkNest own idx q2.1 host ∈ lw_nest ∧ q2.1.cls ≠ "java/lang/invoke/MethodHandle" ∧ q2.1.cls ≠ "java/lang/invoke/VarHandle" ∧ (parseMethodDescriptor q2.1.desc).map (fun d => d.parameters.length) = some n
def lkI (own : String) (idx : Nat) (q2 : mD) (n : Nat) : Prop := (∀ w ∈ ([.methodLink own idx q2.1, .instanceMethod q2.1, .initialized q2.1.cls, .code q2.1 q2.2.1 q2.2.2.1 none] : List Cond), w ∈ lw_good) ∧ q2.1.name = "<init>" ∧ q2.2.2.2.1 = none ∧ q2.1.cls ≠ "java/lang/invoke/MethodHandle" ∧ q2.1.cls ≠ "java/lang/invoke/VarHandle" ∧ (parseMethodDescriptor q2.1.desc).map (fun d => d.parameters.length) = some n
def lkIN (own : String) (idx : Nat) (q2 : mD) (n : Nat) : Prop := ∃ host, (∀ w ∈ ([.instanceMethod q2.1, .initialized q2.1.cls, .code q2.1 q2.2.1 q2.2.2.1 none] : List Cond), w ∈ lw_good) ∧ Cond.methodLinkNest own idx q2.1 host ∈ lw_nest ∧ q2.1.name = "<init>" ∧ q2.2.2.2.1 = none ∧ q2.1.cls ≠ "java/lang/invoke/MethodHandle" ∧ q2.1.cls ≠ "java/lang/invoke/VarHandle" ∧ (parseMethodDescriptor q2.1.desc).map (fun d => d.parameters.length) = some n
def fit2 (q q2 : mD) : Prop := q2.2.2.2.2.1 + 1 ≤ q.2.2.2.2.1 ∧ 8 + (q2.2.2.1 + 11) + q2.2.2.2.2.2 ≤ q.2.2.2.2.2
/-- the receiver is an object of the class -/
def isO (M : wM) (b : Nat) (cls : String) : Prop := ∃ (ci : Nat) (fs : List Value) (T : u_T) (N : Nat), M b = some (.inr (ci, fs)) ∧ vwCl[ci]? = some (cls, T, N)
theorem v_callV {idx n b : Nat} {As : List Value} (hT : wT G q2 mc2 ms2 (.ref b :: As) M Post2) (hlk : lkV q.1.cls idx q2 n) (hfit : fit2 q q2) (hd : decode q.2.1 pc = .ok (.invokevirtual idx, 3)) (hst : st = As.reverse ++ .ref b :: rest) (hn : As.length = n) (hrest : (rest.map fun v => v.category).sum ≤ 8) (hc : kc + mc2 ≤ mc ∧ ks + ms2 ≤ ms) (hO : isO M b q2.1.cls)
    (kk : ∀ v M', Post2 v M' → wV G q mc ms sz M0 (kc + mc2) (ks + ms2) (pc + 3) lv (v.toList ++ rest) M' Post) : wV G q mc ms sz M0 kc ks pc lv st M Post := by
  intro p e s m args below meth c H locs ls C hsz hW hm hS hl
  subst hst
  refine v_behind (a := (Value.ref b :: As).toArray) C hsz hW hm hS hl ?_ kk
  have hts := C.2.2.2.2.2.1
  have ok : ∀ w ∈ lw_good, w.before args s = true := fun w h => hts w (List.mem_cons_of_mem _ h)
  obtain ⟨ws, hP, hD, hR⟩ := id hW
  obtain ⟨ci, fs, T, N, hMb, hcl⟩ := hO
  obtain ⟨q0, he⟩ := List.getElem?_of_mem ((hR _ _).mp hMb)
  have hcw : CallW (rm_of q mc ms) s args q.1.cls q2.1.cls idx q2.1 q2.2.1 q2.2.2.1 q2.2.2.2.1 (ws_of q2) (rm_of q2 mc2 ms2) mc2 ms2 n :=
    ⟨callB_of n hts (goodIn_ws q q2 (hlk.1 _ (by simp))) rfl rfl rfl (ok _ (hlk.1 _ (by simp))) (ok _ (hlk.1 _ (by simp))) hlk.2 hfit, ok _ (hlk.1 _ (by simp)), ok _ (hlk.1 _ (by simp))⟩
  refine va_runV (Ts := ws_of q) ⟨C.1, C.2.1, C.2.2.1, C.2.2.2.2.1, hts⟩ (hT H.size) hcw ⟨pc_blind, va_recv C.2.2.2.2.2.2.1.1 hP hcl he, fun U hU hWm => ⟨rfl, by rw [hU], by rw [hU]; exact hW.weaken (fun _ _ _ => trivial), C.2.2.2.2.2.2.1.warm hWm⟩⟩ rfl hn hl.1 rfl (lv_room hrest) hd hc
theorem v_callS {idx n : Nat} {As : List Value} (hT : wT G q2 mc2 ms2 As M Post2) (hlk : lkS q.1.cls idx q2 n) (hfit : fit2 q q2) (hd : decode q.2.1 pc = .ok (.invokestatic idx, 3)) (hst : st = As.reverse ++ rest) (hn : As.length = n) (hrest : (rest.map fun v => v.category).sum ≤ 8) (hc : kc + mc2 ≤ mc ∧ ks + ms2 ≤ ms)
    (kk : ∀ v M', Post2 v M' → wV G q mc ms sz M0 (kc + mc2) (ks + ms2) (pc + 3) lv (v.toList ++ rest) M' Post) : wV G q mc ms sz M0 kc ks pc lv st M Post := by
  intro p e s m args below meth c H locs ls C hsz hW hm hS hl
  subst hst
  refine v_behind (a := As.toArray) C hsz hW hm hS hl ?_ kk
  have hts := C.2.2.2.2.2.1
  have ok : ∀ w ∈ lw_good, w.before args s = true := fun w h => hts w (List.mem_cons_of_mem _ h)
  refine va_runS (Ts := ws_of q) ⟨C.1, C.2.1, C.2.2.1, C.2.2.2.2.1, hts⟩ (hT H.size) ⟨callB_of n hts (goodIn_ws q q2 (hlk.1 _ (by simp))) rfl rfl rfl (by rw [hlk.2.1]; exact ok _ (hlk.1 _ (by simp))) (ok _ (hlk.1 _ (by simp))) hlk.2.2 hfit, ok _ (hlk.1 _ (by simp))⟩ ⟨pc_blind, fun U hU hWm => ⟨rfl, by rw [hU], by rw [hU]; exact hW.weaken (fun _ _ _ => trivial), C.2.2.2.2.2.2.1.warm hWm⟩⟩ rfl hn hl.1 rfl (lv_room hrest) hd hc
theorem v_callSN {idx n : Nat} {As : List Value} (hT : wT G q2 mc2 ms2 As M Post2) (hlk : lkSN q.1.cls idx q2 n) (hfit : fit2 q q2) (hd : decode q.2.1 pc = .ok (.invokestatic idx, 3)) (hst : st = As.reverse ++ rest) (hn : As.length = n) (hrest : (rest.map fun v => v.category).sum ≤ 8) (hc : kc + mc2 ≤ mc ∧ ks + ms2 ≤ ms)
    (kk : ∀ v M', Post2 v M' → wV G q mc ms sz M0 (kc + mc2) (ks + ms2) (pc + 3) lv (v.toList ++ rest) M' Post) : wV G q mc ms sz M0 kc ks pc lv st M Post := by
  intro p e s m args below meth c H locs ls C hsz hW hm hS hl
  subst hst
  refine v_behind (a := As.toArray) C hsz hW hm hS hl ?_ kk
  have hts := C.2.2.2.2.2.1
  have ok : ∀ w ∈ lw_good, w.before args s = true := fun w h => hts w (List.mem_cons_of_mem _ h)
  obtain ⟨host, hw1, hw2, hw3⟩ := hlk
  refine va_runSN (Ts := ws_of q) (host := host) ⟨C.1, C.2.1, C.2.2.1, C.2.2.2.2.1, hts⟩ (hT H.size) ⟨va_cnB n hts (goodIn_ws q q2 (hw1 _ (by simp))) rfl rfl rfl (C.2.2.2.2.2.2.1.2 _ hw2) (ok _ (hw1 _ (by simp))) hw3 hfit, ok _ (hw1 _ (by simp)), trivial⟩ ⟨pc_blind, fun U hU hWm => ⟨rfl, by rw [hU], by rw [hU]; exact hW.weaken (fun _ _ _ => trivial), C.2.2.2.2.2.2.1.warm hWm⟩⟩ rfl hn hl.1 rfl (lv_room hrest) hd hc
theorem v_callI {idx n b : Nat} {As : List Value} (hT : wT G q2 mc2 ms2 (.ref b :: As) M Post2) (hlk : lkI q.1.cls idx q2 n) (hfit : fit2 q q2) (hd : decode q.2.1 pc = .ok (.invokespecial idx, 3)) (hst : st = As.reverse ++ .ref b :: rest) (hn : As.length = n) (hrest : (rest.map fun v => v.category).sum ≤ 8) (hc : kc + mc2 ≤ mc ∧ ks + ms2 ≤ ms)
    (kk : ∀ v M', Post2 v M' → wV G q mc ms sz M0 (kc + mc2) (ks + ms2) (pc + 3) lv (v.toList ++ rest) M' Post) : wV G q mc ms sz M0 kc ks pc lv st M Post := by
  intro p e s m args below meth c H locs ls C hsz hW hm hS hl
  subst hst
  refine v_behind (a := (Value.ref b :: As).toArray) C hsz hW hm hS hl ?_ kk
  have hts := C.2.2.2.2.2.1
  have ok : ∀ w ∈ lw_good, w.before args s = true := fun w h => hts w (List.mem_cons_of_mem _ h)
  obtain ⟨hw1, hnm, hret, hw3⟩ := hlk
  refine va_runI (bytes := q2.2.1) (maxL := q2.2.2.1) (Ts := ws_of q) ⟨C.1, C.2.1, C.2.2.1, C.2.2.2.2.1, hts⟩ (hT H.size) ⟨callB_of (ret := none) (ws' := lw_good) n hts (goodIn_ws q q2 (by rw [hret]; exact hw1 _ (by simp))) (by unfold ws_of; rw [hret]) rfl rfl (ok _ (hw1 _ (by simp))) (ok _ (hw1 _ (by simp))) hw3 hfit, hnm, ok _ (hw1 _ (by simp))⟩ ⟨pc_blind, fun U hU hWm => ⟨rfl, by rw [hU], by rw [hU]; exact hW.weaken (fun _ _ _ => trivial), C.2.2.2.2.2.2.1.warm hWm⟩⟩ rfl hn hl.1 rfl (lv_room hrest) hd hc
theorem v_callIN {idx n b : Nat} {As : List Value} (hT : wT G q2 mc2 ms2 (.ref b :: As) M Post2) (hlk : lkIN q.1.cls idx q2 n) (hfit : fit2 q q2) (hd : decode q.2.1 pc = .ok (.invokespecial idx, 3)) (hst : st = As.reverse ++ .ref b :: rest) (hn : As.length = n) (hrest : (rest.map fun v => v.category).sum ≤ 8) (hc : kc + mc2 ≤ mc ∧ ks + ms2 ≤ ms)
    (kk : ∀ v M', Post2 v M' → wV G q mc ms sz M0 (kc + mc2) (ks + ms2) (pc + 3) lv (v.toList ++ rest) M' Post) : wV G q mc ms sz M0 kc ks pc lv st M Post := by
  intro p e s m args below meth c H locs ls C hsz hW hm hS hl
  subst hst
  refine v_behind (a := (Value.ref b :: As).toArray) C hsz hW hm hS hl ?_ kk
  have hts := C.2.2.2.2.2.1
  have ok : ∀ w ∈ lw_good, w.before args s = true := fun w h => hts w (List.mem_cons_of_mem _ h)
  obtain ⟨host, hw1, hw2, hnm, hret, hw3⟩ := hlk
  refine va_runIN (host := host) (bytes := q2.2.1) (maxL := q2.2.2.1) (Ts := ws_of q) ⟨C.1, C.2.1, C.2.2.1, C.2.2.2.2.1, hts⟩ (hT H.size) ⟨va_cnB (ret := none) (ws' := lw_good) n hts (goodIn_ws q q2 (by rw [hret]; exact hw1 _ (by simp))) (by unfold ws_of; rw [hret]) rfl rfl (C.2.2.2.2.2.2.1.2 _ hw2) (ok _ (hw1 _ (by simp))) hw3 hfit, hnm, ok _ (hw1 _ (by simp))⟩ ⟨pc_blind, fun U hU hWm => ⟨rfl, by rw [hU], by rw [hU]; exact hW.weaken (fun _ _ _ => trivial), C.2.2.2.2.2.2.1.warm hWm⟩⟩ rfl hn hl.1 rfl (lv_room hrest) hd hc
theorem kI {f : Int → wM → Prop} (k : ∀ r M', rng r → f r M' → wV G q mc ms sz M0 (kc + mc2) (ks + ms2) (pc + 3) lv (.int (gI r) :: rest) M' Post) : ∀ v M', iP f v M' → wV G q mc ms sz M0 (kc + mc2) (ks + ms2) (pc + 3) lv (v.toList ++ rest) M' Post := by
  rintro v M' ⟨r, rfl, hr, h⟩
  exact k r M' hr h
theorem kV {f : wM → Prop} (k : ∀ M', f M' → wV G q mc ms sz M0 (kc + mc2) (ks + ms2) (pc + 3) lv rest M' Post) : ∀ v M', vP f v M' → wV G q mc ms sz M0 (kc + mc2) (ks + ms2) (pc + 3) lv (v.toList ++ rest) M' Post := by
  rintro v M' ⟨rfl, h⟩
  exact k M' h
theorem kR {f : Nat → wM → Prop} (k : ∀ a M', f a M' → wV G q mc ms sz M0 (kc + mc2) (ks + ms2) (pc + 3) lv (.ref a :: rest) M' Post) : ∀ v M', rP f v M' → wV G q mc ms sz M0 (kc + mc2) (ks + ms2) (pc + 3) lv (v.toList ++ rest) M' Post := by
  rintro v M' ⟨a, rfl, h⟩
  exact k a M' h
def lkM (own : String) (idx : Nat) (y : MethodName) (cd : ByteArray) : Prop := ∀ w ∈ ([.methodLink own idx y, .static y, .initialized "java/lang/Math", .code y cd 2 (some .int)] : List Cond), w ∈ lw_good
theorem v_min {idx : Nat} {x y : Int} (hd : decode q.2.1 pc = .ok (.invokestatic idx, 3)) (hlk : lkM q.1.cls idx Lib.Math.min.name Lib.Math.min.code) (hfr : 1 ≤ q.2.2.2.2.1) (hlo : (st.map fun v => v.category).sum + 13 ≤ q.2.2.2.2.2) (hc : kc ≤ mc ∧ ks ≤ ms) (hx : rng x) (hy : rng y)
    (k : wV G q mc ms sz M0 kc ks (pc + 3) lv (.int (gI (if y < x then y else x)) :: st) M Post) : wV G q mc ms sz M0 kc ks pc lv (.int (gI y) :: .int (gI x) :: st) M Post := by
  intro p e s m args below meth c H locs ls C hsz hW hm hS hl
  have ok : ∀ w ∈ lw_good, w.before args s = true := fun w h => C.2.2.2.2.2.1 w (List.mem_cons_of_mem _ h)
  refine va_mmin C.1 C.2.1 (C.2.2.1.trans hl.1.symm) C.2.2.2.2.1 (ok _ (hlk _ (by simp))) (ok _ (hlk _ (by simp))) (ok _ (hlk _ (by simp))) (ok _ (hlk _ (by simp))) hfr hlo hc.1 hc.2 hd ?_
  rw [show (if gI y < gI x then gI y else gI x) = gI (if y < x then y else x) from by simp only [gI_lt hy hx]; split <;> rfl]
  exact k p e s m args below meth c H locs ls C hsz hW hm hS hl
theorem v_max {idx : Nat} {x y : Int} (hd : decode q.2.1 pc = .ok (.invokestatic idx, 3)) (hlk : lkM q.1.cls idx Lib.Math.max.name Lib.Math.max.code) (hfr : 1 ≤ q.2.2.2.2.1) (hlo : (st.map fun v => v.category).sum + 13 ≤ q.2.2.2.2.2) (hc : kc ≤ mc ∧ ks ≤ ms) (hx : rng x) (hy : rng y)
    (k : wV G q mc ms sz M0 kc ks (pc + 3) lv (.int (gI (if x < y then y else x)) :: st) M Post) : wV G q mc ms sz M0 kc ks pc lv (.int (gI y) :: .int (gI x) :: st) M Post := by
  intro p e s m args below meth c H locs ls C hsz hW hm hS hl
  have ok : ∀ w ∈ lw_good, w.before args s = true := fun w h => C.2.2.2.2.2.1 w (List.mem_cons_of_mem _ h)
  refine va_mmax C.1 C.2.1 (C.2.2.1.trans hl.1.symm) C.2.2.2.2.1 (ok _ (hlk _ (by simp))) (ok _ (hlk _ (by simp))) (ok _ (hlk _ (by simp))) (ok _ (hlk _ (by simp))) hfr hlo hc.1 hc.2 hd ?_
  rw [show (if gI x < gI y then gI y else gI x) = gI (if x < y then y else x) from by simp only [gI_lt hx hy]; split <;> rfl]
  exact k p e s m args below meth c H locs ls C hsz hW hm hS hl
end WCALLS
