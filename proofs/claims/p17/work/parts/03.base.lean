/-! The judgement wV: a method's body over a map from addresses to cells; numbers are Int, put into Int32 by gI. -/
abbrev wM : Type := Nat → Option va_E
abbrev mD : Type := MethodName × ByteArray × Nat × Option FieldType × Nat × Nat
abbrev gG : Type := Launch × va_G × (Nat → ClassId)
def gI (z : Int) : Int32 := Int32.ofInt z
abbrev rng (z : Int) : Prop := -2147483648 ≤ z ∧ z ≤ 2147483647
theorem gI_toInt {z : Int} (h : rng z) : (gI z).toInt = z := by
  unfold gI
  rw [Int32.toInt_ofInt]
  exact Int.bmod_eq_of_le (by simp only [Int32.size]; omega) (by simp only [Int32.size]; omega)
theorem gI_of (x : Int32) : x = gI x.toInt := (Int32.ofInt_toInt x).symm
theorem rng_of (x : Int32) : rng x.toInt := ⟨Int32.le_toInt x, by have := Int32.toInt_lt x; omega⟩
theorem gI_add (x y : Int) : gI x + gI y = gI (x + y) := (Int32.ofInt_add x y).symm
theorem gI_sub (x y : Int) : gI x - gI y = gI (x - y) := (Int32.ofInt_sub x y).symm
theorem gI_mul (x y : Int) : gI x * gI y = gI (x * y) := (Int32.ofInt_mul x y).symm
theorem gI_neg (x : Int) : -gI x = gI (-x) := (Int32.ofInt_neg x).symm
theorem gI_lt {x y : Int} (hx : rng x) (hy : rng y) : gI x < gI y ↔ x < y := by
  rw [Int32.lt_iff_toInt_lt, gI_toInt hx, gI_toInt hy]
theorem gI_le {x y : Int} (hx : rng x) (hy : rng y) : gI x ≤ gI y ↔ x ≤ y := by
  rw [Int32.le_iff_toInt_le, gI_toInt hx, gI_toInt hy]
theorem gI_inj {x y : Int} (hx : rng x) (hy : rng y) : gI x = gI y ↔ x = y := by
  rw [← Int32.toInt_inj, gI_toInt hx, gI_toInt hy]
theorem gI_clamp {x : Int} (h0 : 0 ≤ x) (hx : x ≤ 2147483647) : (gI x).toNatClampNeg = x.toNat := by
  show (gI x).toInt.toNat = _
  rw [gI_toInt ⟨by omega, hx⟩]
theorem gI_in {x : Int} {n : Nat} (h0 : 0 ≤ x) (hn : x < n) (hb : n ≤ 2147483647) : vp_in (gI x) n := by
  rw [vp_in_iff, gI_toInt ⟨by omega, by omega⟩]
  exact ⟨h0, hn⟩
/-- array content: a number function put into cells -/
def gF (f : Nat → Int) : Nat → Int32 := fun j => gI (f j)
def upz (f : Nat → Int) (k : Nat) (x : Int) : Nat → Int := fun j => if j = k then x else f j
theorem gF_upd (f : Nat → Int) (k : Nat) (x : Int) : upd (gF f) k (gI x) = gF (upz f k x) := by
  funext j
  simp only [upd, gF, upz]
  split <;> rfl
def wup (M : wM) (a : Nat) (e : va_E) : wM := fun b => if b = a then some e else M b
def wR (M : wM) (ws : va_W) : Prop := ∀ (a : Nat) (e : va_E), M a = some e ↔ (a, e) ∈ ws
def wW (D : va_G) (A : Nat → Prop) (M : wM) (H : Heap) : Prop := ∃ ws : va_W, va_P D vwCl ws H ∧ va_D A ws ∧ wR M ws
theorem wR.set {M : wM} {ws : va_W} {A : Nat → Prop} {q0 a : Nat} {e0 e1 : va_E} (hR : wR M ws) (hD : va_D A ws) (h0 : ws[q0]? = some (a, e0)) : wR (wup M a e1) (ws.set q0 (a, e1)) := by
  intro b e
  have hlt : q0 < ws.length := (List.getElem?_eq_some_iff.mp h0).1
  constructor
  · intro h
    unfold wup at h
    by_cases hb : b = a
    · subst hb
      rw [if_pos rfl] at h
      cases h
      exact List.mem_of_getElem? (i := q0) (by rw [List.getElem?_set]; simp [hlt])
    · rw [if_neg hb] at h
      obtain ⟨i, hi⟩ := List.getElem?_of_mem ((hR b e).mp h)
      refine List.mem_of_getElem? (i := i) ?_
      rw [List.getElem?_set]
      have : q0 ≠ i := fun hq => by
        subst hq
        rw [h0] at hi
        cases hi
        exact hb rfl
      rw [if_neg this]
      exact hi
  · intro h
    obtain ⟨i, hi⟩ := List.getElem?_of_mem h
    rw [List.getElem?_set] at hi
    unfold wup
    by_cases hq : q0 = i
    · subst hq
      simp only [hlt, if_true] at hi
      cases hi
      rw [if_pos rfl]
    · rw [if_neg hq] at hi
      have hb : b ≠ a := fun hb => by
        subst hb
        exact hq (hD.1 q0 i _ _ h0 hi rfl)
      rw [if_neg hb]
      exact (hR b e).mpr (List.mem_of_getElem? hi)
theorem wR.app {M : wM} {ws : va_W} {A : Nat → Prop} {a : Nat} {e1 : va_E} (hR : wR M ws) (hD : va_D A (ws ++ [(a, e1)])) : M a = none ∧ wR (wup M a e1) (ws ++ [(a, e1)]) := by
  have hn : ∀ e, M a ≠ some e := fun e h => by
    obtain ⟨i, hi⟩ := List.getElem?_of_mem ((hR a e).mp h)
    have hlt : i < ws.length := (List.getElem?_eq_some_iff.mp hi).1
    have := hD.1 i ws.length (a, e) (a, e1) (by rw [List.getElem?_append_left hlt]; exact hi) (by simp) rfl
    omega
  have hM : M a = none := by
    cases h : M a with
    | none => rfl
    | some e => exact absurd h (hn e)
  refine ⟨hM, fun b e => ?_⟩
  unfold wup
  rw [List.mem_append, List.mem_singleton]
  by_cases hb : b = a
  · subst hb
    rw [if_pos rfl]
    constructor
    · intro h
      cases h
      exact Or.inr rfl
    · rintro (h | h)
      · exact absurd ((hR b e).mpr h) (hn e)
      · cases h
        rfl
  · rw [if_neg hb, hR b e]
    constructor
    · exact Or.inl
    · rintro (h | h)
      · exact h
      · cases h
        exact absurd rfl hb
def lw_good : List Cond := lw_tbl.filter goodWord
def is_nest : Cond → Bool
  | .fieldLinkNest _ _ _ _ _ _ => true
  | .methodLinkNest _ _ _ _ => true
  | .arrayOver (.object _) => true
  | _ => false
def lw_nest : List Cond := lw_tbl.filter is_nest
def ws_of (q : mD) : List Cond := Cond.code q.1 q.2.1 q.2.2.1 q.2.2.2.1 :: lw_good
def rm_of (q : mD) (mc ms : Nat) : Room := { frames := q.2.2.2.2.1, cells := mc, slots := ms, locals := q.2.2.2.2.2 }
theorem good_all {w : Cond} (h : w ∈ lw_good) : (w.onTables && w.keeps) = true ∨ ∃ ty, w = .arrayClass ty := good_of_word (List.mem_filter.mp h).2
theorem goodIn_ws (q q2 : mD) (h : Cond.code q2.1 q2.2.1 q2.2.2.1 q2.2.2.2.1 ∈ lw_good) : GoodIn (ws_of q) (ws_of q2) := by
  intro w hw
  have hw' : w ∈ lw_good := by
    rcases List.mem_cons.mp hw with rfl | h2
    · exact h
    · exact h2
  exact ⟨List.mem_cons_of_mem _ hw', good_all hw'⟩
def wK (G : gG) (U : State) : Prop := va_K G.2.1 vwCl [(G.2.2 0, .int), (G.2.2 1, .boolean), (G.2.2 2, .object "WavePairs$Row"), (G.2.2 3, .object "WavePairs$Mask"), (G.2.2 4, .object "WavePairs$Channel"), (G.2.2 5, .object "WavePairs$Gate"), (G.2.2 6, .object "WavePairs$Pair")] U ∧ ∀ w ∈ lw_nest, va_Nw w U
theorem wK.warm {G : gG} {s U : State} (hW : s.WarmedH U.vm) (h : wK G s) : wK G U := by
  refine ⟨h.1.moved hW.alike, fun w hw => ?_⟩
  have h2 := (List.mem_filter.mp hw).2
  have h3 := h.2 w hw
  cases w <;> first | exact absurd h2 Bool.false_ne_true | exact va_Nw.warmF hW h3 | exact va_Nw.warmM hW h3 | (rename_i t; cases t <;> first | exact absurd h2 Bool.false_ne_true | exact va_AO.moved hW.alike h3)
theorem wK.same {G : gG} {s U : State} (hv : s.vm = U.vm) (h : wK G s) : wK G U := by
  refine ⟨h.1.moved (hv ▸ Vm.Alike.refl s.vm), fun w hw => ?_⟩
  have h2 := (List.mem_filter.mp hw).2
  have h3 := h.2 w hw
  cases w <;> first | exact absurd h2 Bool.false_ne_true | exact va_Nw.same rfl hv h3 | (rename_i t; cases t <;> first | exact absurd h2 Bool.false_ne_true | exact va_AO.moved (hv ▸ Vm.Alike.refl s.vm) h3)
def wA (M : wM) (sz : Nat) : Nat → Prop := fun a => M a ≠ none ∨ sz ≤ a
def wQ (G : gG) (M : wM) (sz : Nat) (Post : Option Value → wM → Prop) : Array Value → State → Outcome → State → Prop := fun _ st oc t =>
  (∃ (v : Option Value) (M' : wM), oc = .returned v ∧ Post v M' ∧ wW G.2.1 (wA M sz) M' t.heap ∧ ∀ a, M a ≠ none → M' a ≠ none) ∧ va_F (wA M sz) st t
/-- a method's contract over a map of cells -/
def wT (G : gG) (q : mD) (mc ms : Nat) (args : List Value) (M : wM) (Post : Option Value → wM → Prop) : Prop :=
  ∀ sz : Nat, Met G.1 q.1 (ws_of q) (rm_of q mc ms) (va_Pc args (fun U => U.heap.size = sz ∧ wW G.2.1 (fun _ => True) M U.heap ∧ wK G U)) (wQ G M sz Post) mc ms (wA M sz)
def cX (G : gG) (q : mD) (p : Program) (s : State) (m : MethodId) (args : Array Value) (meth : Method) (c : Code) : Prop :=
  p.tables.exec = Jvm.exec ∧ c.code = q.2.1 ∧ c.maxLocals = q.2.2.1 ∧ meth.sig.returnType = q.2.2.2.1 ∧ s.vm.findClass q.1.cls = some m.cls ∧ (∀ w ∈ ws_of q, w.before args s = true) ∧ wK G s ∧ meth.locks = false ∧ meth.name = q.1.name
def wV (G : gG) (q : mD) (mc ms sz : Nat) (M0 : wM) (kc ks : Nat) (pc : Nat) (lv : List (Nat × Value)) (st : List Value) (M : wM) (Post : Option Value → wM → Prop) : Prop :=
  ∀ (p : Program) (e : Env) (s : State) (m : MethodId) (args : Array Value) (below : List Frame) (meth : Method) (c : Code) (H : Heap) (locs : List Loc) (ls : Array Slot),
    cX G q p s m args meth c → s.heap.size = sz → wW G.2.1 (wA M0 sz) M H → (∀ a, M0 a ≠ none → M a ≠ none) → va_S (wA M0 sz) s.heap H locs → lv_has ls q.2.2.1 lv →
    W p G.1 e (rm_of q mc ms) s m args below meth c H locs kc ks (MQ below (wQ G M0 sz Post) args s mc ms (wA M0 sz)) (F0 m pc ls st)
theorem wW.weaken {D : va_G} {A B : Nat → Prop} {M : wM} {H : Heap} (h : wW D A M H) (hAB : ∀ a, M a ≠ none → A a → B a) : wW D B M H := by
  obtain ⟨ws, hP, hD, hR⟩ := h
  refine ⟨ws, hP, hD.weaken (fun k q hk hq => hAB _ ?_ hq), hR⟩
  rw [(hR q.1 q.2).mpr (List.mem_of_getElem? hk)]
  exact fun h => by cases h
theorem wT.intro {G : gG} {q : mD} {mc ms : Nat} {args : List Value} {M : wM} {Post : Option Value → wM → Prop} (hy : plainName q.1.cls = true) (hlen : (lg_sl args).length ≤ q.2.2.1)
    (h : ∀ sz, wV G q mc ms sz M 0 0 0 (lv_args 0 args) [] M Post) : wT G q mc ms args M Post := by
  intro sz
  refine Met.ofW (cc := q.2.1) (maxL := q.2.2.1) (ret := q.2.2.2.1) (ws' := lw_good) hy rfl ?_
  intro p e s m args' below meth c s₁ B hml hv
  obtain ⟨rfl, hsz, hW, hK⟩ := hv
  have hts := atoms_spec (ws := ws_of q) B.pre
  have hown : s.vm.findClass q.1.cls = some m.cls := findClass_of_methodNamed B.named
  have hl := lv_entry args (n := q.2.2.1) hlen
  rw [lg_entry_eq]
  refine h sz p e s m _ below meth c s.heap [] _ ⟨B.exec, B.bytes, hml, B.returns, hown, hts, hK, B.notSynchronized, (name_of_methodNamed B.named B.method).1⟩ hsz ?_ (fun _ h => h) va_S.rf hl
  exact hW.weaken (fun a ha _ => Or.inl ha)
