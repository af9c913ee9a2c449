section WALLOC
variable {G : gG} {q : mD} {mc ms sz kc ks pc : Nat} {M0 M : wM} {lv : List (Nat × Value)} {st rest : List Value} {Post : Option Value → wM → Prop}
def lkO (own : String) (idx : Nat) : Prop := ∀ w ∈ ([.methodLink own idx Lib.objectInit, .instanceMethod Lib.objectInit, .code Lib.objectInit ⟨#[0xb1]⟩ 1 none] : List Cond), w ∈ lw_good
theorem v_objInit {idx a : Nat} (hd : decode q.2.1 pc = .ok (.invokespecial idx, 3)) (hlk : lkO q.1.cls idx) (hfr : 1 ≤ q.2.2.2.2.1) (hlo : (st.map fun v => v.category).sum + 12 ≤ q.2.2.2.2.2)
    (k : wV G q mc ms sz M0 kc ks (pc + 3) lv st M Post) : wV G q mc ms sz M0 kc ks pc lv (.ref a :: st) M Post := by
  intro p e s m args below meth c H locs ls C hsz hW hm hS hl
  have ok : ∀ w ∈ lw_good, w.before args s = true := fun w h => C.2.2.2.2.2.1 w (List.mem_cons_of_mem _ h)
  refine W.objInit C.1 C.2.1 C.2.2.2.2.1 (ok _ (hlk _ (by simp))) (ok _ (hlk _ (by simp))) (ok _ (hlk _ (by simp))) rfl (by rw [C.2.2.1]; exact hl.1) rfl hd hfr (by show 2 * 0 + _ + 12 ≤ q.2.2.2.2.2; omega) ?_
  exact k p e s m args below meth c H locs ls C hsz hW hm hS hl
theorem wA_new {s : State} (hsz : s.heap.size = sz) : ∀ x, s.heap.size ≤ x → wA M0 sz x := fun x h => Or.inr (by omega)
/-- 'new' of a class -/
def lkC (own : String) (idx ci : Nat) (fs : List Value) (N : Nat) : Prop := ∃ (C : String) (T : u_T) (ty : Nat → FieldType), vwCl[ci]? = some (C, T, N) ∧ (∀ w ∈ u_ws C T N, w ∈ lw_good) ∧ (∀ k, k < N → parseFieldDescriptor (T k).2.2.1 = some (ty k)) ∧ (∀ w ∈ ([.classLink own idx C, .instantiable C N, .initialized C] : List Cond), w ∈ lw_good) ∧ (∀ j, j < N → defaultValue (ty j) = vp_V fs j)
theorem v_new {idx ci N : Nat} {fs : List Value} (hd : decode q.2.1 pc = .ok (.new idx, 3)) (hlk : lkC q.1.cls idx ci fs N) (hc1 : kc + 1 ≤ mc) (hs1 : ks + N ≤ ms)
    (kk : ∀ a, M a = none → wV G q mc ms sz M0 (kc + 1) (ks + N) (pc + 3) lv (.ref a :: st) (wup M a (.inr (ci, fs))) Post) : wV G q mc ms sz M0 kc ks pc lv st M Post := by
  intro p e s m args below meth c H locs ls C hsz hW hm hS hl
  have ok : ∀ w ∈ lw_good, w.before args s = true := fun w h => C.2.2.2.2.2.1 w (List.mem_cons_of_mem _ h)
  obtain ⟨Cn, T, ty, hcl, hin, hty, hw, hfs⟩ := hlk
  obtain ⟨ws, hP, hD, hR⟩ := id hW
  refine va_new (own := q.1.cls) (C := Cn) (T := T) (N := N) C.1 C.2.1 C.2.2.2.2.2.1 (fun w h => List.mem_cons_of_mem _ (hin w h)) ty hty C.2.2.2.2.1 (ok _ (hw _ (by simp))) (ok _ (hw _ (by simp))) (ok _ (hw _ (by simp))) C.2.2.2.2.2.2.1.1 hP hD hS (wA_new hsz) hcl hfs hc1 hs1 hd (fun a H1 hP1 hD1 hS1 => ?_)
  obtain ⟨hn, hR1⟩ := hR.app hD1
  exact kk a hn p e s m args below meth c H1 locs ls C hsz ⟨_, hP1, hD1, hR1⟩ (wup_dom hm) hS1 hl
theorem cls_int {s : State} {cA : ClassId} (hK : wK G s) (h : va_RA s cA .int) : cA = G.2.2 0 := by
  have h1 : s.vm.findClass _ = some (G.2.2 0) := (hK.1.2 0 _ rfl).2
  have h2 : s.vm.findClass _ = some cA := h
  exact Option.some.inj (h2.symm.trans h1)
theorem cls_bool {s : State} {cA : ClassId} (hK : wK G s) (h : va_RA s cA .boolean) : cA = G.2.2 1 := by
  have h1 : s.vm.findClass _ = some (G.2.2 1) := (hK.1.2 1 _ rfl).2
  have h2 : s.vm.findClass _ = some cA := h
  exact Option.some.inj (h2.symm.trans h1)
theorem cls_ref {s : State} {cA : ClassId} {t0 : Nat} {Cn : String} (hK : wK G s) (ht : t0 = 2 ∧ Cn = "WavePairs$Row" ∨ t0 = 3 ∧ Cn = "WavePairs$Mask" ∨ t0 = 4 ∧ Cn = "WavePairs$Channel" ∨ t0 = 5 ∧ Cn = "WavePairs$Gate" ∨ t0 = 6 ∧ Cn = "WavePairs$Pair") (h : va_RA s cA (.object Cn)) : cA = G.2.2 t0 := by
  have h1 : va_RA s (G.2.2 t0) (.object Cn) := by
    rcases ht with ⟨rfl, rfl⟩ | ⟨rfl, rfl⟩ | ⟨rfl, rfl⟩ | ⟨rfl, rfl⟩ | ⟨rfl, rfl⟩
    · exact (hK.1.2 2 _ rfl).2
    · exact (hK.1.2 3 _ rfl).2
    · exact (hK.1.2 4 _ rfl).2
    · exact (hK.1.2 5 _ rfl).2
    · exact (hK.1.2 6 _ rfl).2
  obtain ⟨k1, c1, -, -, -, e1⟩ := h1
  obtain ⟨k2, c2, -, -, -, e2⟩ := h
  exact Option.some.inj (e2.symm.trans e1)
theorem K_last {D : va_G} {tys : List (ClassId × FieldType)} {cA : ClassId} {ty : FieldType} {s : State} (h : va_K D vwCl (tys ++ [(cA, ty)]) s) : va_RA s cA ty := (h.2 tys.length (cA, ty) (by simp)).2
theorem v_newi {n : Nat} (hd : decode q.2.1 pc = .ok (.newarray .int, 2)) (hn : n ≤ 1000000) (hc1 : kc + 1 ≤ mc) (hs1 : ks + n ≤ ms) (hw : Cond.arrayClass .int ∈ lw_good)
    (kk : ∀ a, M a = none → wV G q mc ms sz M0 (kc + 1) (ks + n) (pc + 2) lv (.ref a :: st) (wup M a (.inl (G.2.2 0, n, .inl (gF (fun _ => 0))))) Post) : wV G q mc ms sz M0 kc ks pc lv (.int (gI (n : Int)) :: st) M Post := by
  intro p e s m args below meth c H locs ls C hsz hW hm hS hl
  obtain ⟨ws, hP, hD, hR⟩ := id hW
  refine va_newa (atype := .int) (ty := .int) (N' := n) (a0 := (n, .inl (gF (fun _ => 0)))) C.1 C.2.1 (C.2.2.2.2.2.1 _ (List.mem_cons_of_mem _ hw)) rfl C.2.2.2.2.2.2.1.1 hP hD hS (wA_new hsz) (fun cA => rfl) (by rw [show (0 : Int32) = gI 0 from rfl, gI_lt ⟨by omega, by omega⟩ ⟨by omega, by omega⟩]; omega) (by rw [gI_clamp (by omega) (by omega)]; omega) (by show n * 4 ≤ _; omega) hc1 hs1 hd (fun a cA H1 hK1 hP1 hD1 hS1 => ?_)
  obtain rfl := cls_int C.2.2.2.2.2.2.1 (K_last hK1)
  obtain ⟨hn, hR1⟩ := hR.app hD1
  exact kk a hn p e s m args below meth c H1 locs ls C hsz ⟨_, hP1, hD1, hR1⟩ (wup_dom hm) hS1 hl
theorem v_newz {n : Nat} (hd : decode q.2.1 pc = .ok (.newarray .boolean, 2)) (hn : n ≤ 1000000) (hc1 : kc + 1 ≤ mc) (hs1 : ks + n ≤ ms) (hw : Cond.arrayClass .boolean ∈ lw_good)
    (kk : ∀ a, M a = none → wV G q mc ms sz M0 (kc + 1) (ks + n) (pc + 2) lv (.ref a :: st) (wup M a (.inl (G.2.2 1, n, .inl (gF (fun _ => 0))))) Post) : wV G q mc ms sz M0 kc ks pc lv (.int (gI (n : Int)) :: st) M Post := by
  intro p e s m args below meth c H locs ls C hsz hW hm hS hl
  obtain ⟨ws, hP, hD, hR⟩ := id hW
  refine va_newa (atype := .boolean) (ty := .boolean) (N' := n) (a0 := (n, .inl (gF (fun _ => 0)))) C.1 C.2.1 (C.2.2.2.2.2.1 _ (List.mem_cons_of_mem _ hw)) rfl C.2.2.2.2.2.2.1.1 hP hD hS (wA_new hsz) (fun cA => rfl) (by rw [show (0 : Int32) = gI 0 from rfl, gI_lt ⟨by omega, by omega⟩ ⟨by omega, by omega⟩]; omega) (by rw [gI_clamp (by omega) (by omega)]; omega) (by show n * 1 ≤ _; omega) hc1 hs1 hd (fun a cA H1 hK1 hP1 hD1 hS1 => ?_)
  obtain rfl := cls_bool C.2.2.2.2.2.2.1 (K_last hK1)
  obtain ⟨hn, hR1⟩ := hR.app hD1
  exact kk a hn p e s m args below meth c H1 locs ls C hsz ⟨_, hP1, hD1, hR1⟩ (wup_dom hm) hS1 hl
theorem v_newq {idx n t0 : Nat} {Cn : String} (hd : decode q.2.1 pc = .ok (.anewarray idx, 3)) (ht : t0 = 2 ∧ Cn = "WavePairs$Row" ∨ t0 = 3 ∧ Cn = "WavePairs$Mask" ∨ t0 = 4 ∧ Cn = "WavePairs$Channel" ∨ t0 = 5 ∧ Cn = "WavePairs$Gate" ∨ t0 = 6 ∧ Cn = "WavePairs$Pair") (hw : Cond.classLink q.1.cls idx Cn ∈ lw_good) (hw2 : Cond.arrayOver (.object Cn) ∈ lw_nest) (hn : n ≤ 1000000) (hc1 : kc + 1 ≤ mc) (hs1 : ks + n ≤ ms)
    (kk : ∀ a, M a = none → wV G q mc ms sz M0 (kc + 1) (ks + n) (pc + 3) lv (.ref a :: st) (wup M a (.inl (G.2.2 t0, n, .inr (.inr (.inr (.inr (fun _ => none))))))) Post) : wV G q mc ms sz M0 kc ks pc lv (.int (gI (n : Int)) :: st) M Post := by
  intro p e s m args below meth c H locs ls C hsz hW hm hS hl
  obtain ⟨ws, hP, hD, hR⟩ := id hW
  refine va_newq (own := q.1.cls) (C := Cn) (N' := n) C.1 C.2.1 C.2.2.2.2.1 (C.2.2.2.2.2.1 _ (List.mem_cons_of_mem _ hw)) (C.2.2.2.2.2.2.1.2 _ hw2) C.2.2.2.2.2.2.1.1 hP hD hS (wA_new hsz) (by rw [show (0 : Int32) = gI 0 from rfl, gI_lt ⟨by omega, by omega⟩ ⟨by omega, by omega⟩]; omega) (by rw [gI_clamp (by omega) (by omega)]; omega) (by omega) hc1 hs1 hd (fun a cA H1 hK1 hP1 hD1 hS1 => ?_)
  obtain rfl := cls_ref C.2.2.2.2.2.2.1 ht (K_last hK1)
  obtain ⟨hn, hR1⟩ := hR.app hD1
  exact kk a hn p e s m args below meth c H1 locs ls C hsz ⟨_, hP1, hD1, hR1⟩ (wup_dom hm) hS1 hl
def upo (f : Nat → Option Nat) (k v : Nat) : Nat → Option Nat := fun j => if j = k then some v else f j
theorem v_aast {a n t0 v ci : Nat} {r : vw_C} {vs : List Value} {f : Nat → Option Nat} {i : Nat} (hd : decode q.2.1 pc = .ok (.aastore, 1)) (hM : M a = some (.inl (G.2.2 t0, n, .inr (.inr (.inr (.inr f)))))) (hv : M v = some (.inr (ci, vs))) (hc : vwCl[ci]? = some r) (ht : t0 = 2 ∧ r.1 = "WavePairs$Row" ∨ t0 = 3 ∧ r.1 = "WavePairs$Mask" ∨ t0 = 4 ∧ r.1 = "WavePairs$Channel" ∨ t0 = 5 ∧ r.1 = "WavePairs$Gate" ∨ t0 = 6 ∧ r.1 = "WavePairs$Pair") (h1 : i < n) (hb : n ≤ 1000000)
    (kk : wV G q mc ms sz M0 kc ks (pc + 1) lv st (wup M a (.inl (G.2.2 t0, n, .inr (.inr (.inr (.inr (upo f i v))))))) Post) : wV G q mc ms sz M0 kc ks pc lv (.ref v :: .int (gI (i : Int)) :: .ref a :: st) M Post := by
  intro p e s m args below meth c H locs ls C hsz hW hm hS hl
  obtain ⟨ws, hP, hD, hR⟩ := id hW
  obtain ⟨q0, he⟩ := List.getElem?_of_mem ((hR _ _).mp hM)
  obtain ⟨qk, hk⟩ := List.getElem?_of_mem ((hR _ _).mp hv)
  refine va_astq (r := r) C.1 C.2.1 C.2.2.2.2.2.2.1.1 hP hD hS q0 t0 qk ci he ?_ hk hc (gI_in (by omega) (by omega) (by omega)) hd (fun H1 locs1 hP1 hD1 hS1 => ?_)
  · rcases ht with ⟨rfl, h⟩ | ⟨rfl, h⟩ | ⟨rfl, h⟩ | ⟨rfl, h⟩ | ⟨rfl, h⟩ <;> rw [h] <;> rfl
  · rw [gI_clamp (by omega) (by omega), Int.toNat_natCast] at hP1 hD1
    exact kk p e s m args below meth c H1 locs1 ls C hsz ⟨_, hP1, hD1, hR.set hD he⟩ (wup_dom hm) hS1 hl
end WALLOC
/-! cells in the order of their making: their contents by numbers of cells, put to addresses by 'ad' -/
abbrev dE : Type := (Nat × List (Option Nat ⊕ Int)) ⊕ ((Nat × Nat × Nat) ⊕ (Nat × Nat × Nat × Nat × Nat))
def rdV (ad : Nat → Nat) : Option Nat ⊕ Int → Value
  | .inl none => .null
  | .inl (some i) => .ref (ad i)
  | .inr z => .int (gI z)
/-- an object; an array of ints (its first i elements are their numbers, the rest 0); an array of references (the first m are set: b, b + t ..) -/
def rdE (G : gG) (ad : Nat → Nat) : dE → va_E
  | .inl (ci, fs) => .inr (ci, fs.map (rdV ad))
  | .inr (.inl (t0, n, i)) => .inl (G.2.2 t0, n, .inl (gF (fun j => if j < i then (j : Int) else 0)))
  | .inr (.inr (t0, n, m, b, t)) => .inl (G.2.2 t0, n, .inr (.inr (.inr (.inr (fun j => if j < m then some (ad (b + t * j)) else none)))))
def rfV (n : Nat) : Option Nat ⊕ Int → Bool
  | .inl (some i) => decide (i < n)
  | _ => true
/-- all that a content names is below n -/
def rfE (n : Nat) : dE → Bool
  | .inl (_, fs) => fs.all (rfV n)
  | .inr (.inl _) => true
  | .inr (.inr (_, _, m, b, t)) => decide (m = 0 ∨ b + t * (m - 1) < n)
def wB (G : gG) (n : Nat) (ad : Nat → Nat) (D : Nat → dE) (M : wM) : Prop := (∀ i, i < n → M (ad i) = some (rdE G ad (D i))) ∧ (∀ i j, i < n → j < n → ad i = ad j → i = j) ∧ ∀ i, i < n → rfE n (D i) = true
def upD (D : Nat → dE) (k : Nat) (e : dE) : Nat → dE := fun j => if j = k then e else D j
def upN (f : Nat → Nat) (k v : Nat) : Nat → Nat := fun j => if j = k then v else f j
theorem upN_lt {f : Nat → Nat} {k v j : Nat} (h : j < k) : upN f k v j = f j := by unfold upN; rw [if_neg (by omega)]
theorem upN_at {f : Nat → Nat} {k v : Nat} : upN f k v k = v := by unfold upN; rw [if_pos rfl]
theorem upD_ne {f : Nat → dE} {k j : Nat} {e : dE} (h : j ≠ k) : upD f k e j = f j := by unfold upD; rw [if_neg h]
theorem upD_at {f : Nat → dE} {k : Nat} {e : dE} : upD f k e k = e := by unfold upD; rw [if_pos rfl]
theorem rdE_same {G : gG} {n : Nat} {ad ad' : Nat → Nat} (h : ∀ i, i < n → ad' i = ad i) {e : dE} (he : rfE n e = true) : rdE G ad' e = rdE G ad e := by
  match e, he with
  | .inl (ci, fs), he =>
    show Sum.inr (ci, fs.map (rdV ad')) = Sum.inr (ci, fs.map (rdV ad))
    congr 2
    apply List.map_congr_left
    intro x hx
    have hx2 := List.all_eq_true.mp he x hx
    match x, hx2 with
    | .inl none, _ => rfl
    | .inl (some i), hi => show Value.ref (ad' i) = Value.ref (ad i); rw [h i (of_decide_eq_true hi)]
    | .inr z, _ => rfl
  | .inr (.inl _), _ => rfl
  | .inr (.inr (t0, k, m, b, t)), he =>
    have he2 : m = 0 ∨ b + t * (m - 1) < n := of_decide_eq_true he
    have e : (fun j => if j < m then some (ad' (b + t * j)) else none) = fun j => if j < m then some (ad (b + t * j)) else none := by
      funext j
      by_cases q : j < m
      · rw [if_pos q, if_pos q, h _ (by
          rcases he2 with h0 | h0
          · omega
          · have : t * j ≤ t * (m - 1) := Nat.mul_le_mul_left t (by omega)
            omega)]
      · rw [if_neg q, if_neg q]
    show Sum.inl (G.2.2 t0, k, Sum.inr (Sum.inr (Sum.inr (Sum.inr (fun j => if j < m then some (ad' (b + t * j)) else none))))) = Sum.inl (G.2.2 t0, k, Sum.inr (Sum.inr (Sum.inr (Sum.inr (fun j => if j < m then some (ad (b + t * j)) else none)))))
    rw [e]
theorem rfE_mono {n n' : Nat} (h : n ≤ n') {e : dE} (he : rfE n e = true) : rfE n' e = true := by
  match e, he with
  | .inl (ci, fs), he =>
    refine List.all_eq_true.mpr (fun x hx => ?_)
    have hx2 := List.all_eq_true.mp he x hx
    match x, hx2 with
    | .inl none, _ => rfl
    | .inl (some i), hi => exact decide_eq_true (Nat.lt_of_lt_of_le (of_decide_eq_true hi) h)
    | .inr z, _ => rfl
  | .inr (.inl _), _ => rfl
  | .inr (.inr (t0, k, m, b, t)), he =>
    have he2 : m = 0 ∨ b + t * (m - 1) < n := of_decide_eq_true he
    exact decide_eq_true (he2.imp id (fun z => Nat.lt_of_lt_of_le z h))
/-- the cells' addresses up to n are the same -/
def wS (n : Nat) (ad ad' : Nat → Nat) : Prop := ∀ i, i < n → ad' i = ad i
theorem wS.rf {n : Nat} {ad : Nat → Nat} : wS n ad ad := fun _ _ => rfl
theorem wS.tr {n n' : Nat} {ad ad1 ad2 : Nat → Nat} (h : wS n ad ad1) (h2 : wS n' ad1 ad2) (hn : n ≤ n') : wS n ad ad2 := fun i hi => (h2 i (by omega)).trans (h i hi)
/-- a new cell that names nothing yet -/
theorem wB.push {G : gG} {n : Nat} {ad : Nat → Nat} {D : Nat → dE} {M : wM} (h : wB G n ad D M) {a : Nat} {x : va_E} (e : dE) (ha : M a = none) (hx : ∀ ad', rdE G ad' e = x) (he : rfE n e = true) : ∃ ad', wB G (n + 1) ad' (upD D n e) (wup M a x) ∧ ad' n = a ∧ wS n ad ad' := by
  have hne : ∀ i, i < n → ad i ≠ a := fun i hi q => by
    have := h.1 i hi
    rw [q, ha] at this
    cases this
  refine ⟨upN ad n a, ⟨fun i hi => ?_, fun i j hi hj hij => ?_, fun i hi => ?_⟩, upN_at, fun i hi => upN_lt hi⟩
  · by_cases q : i = n
    · subst q
      rw [upN_at, upD_at, wup_eq, hx]
    · rw [upN_lt (by omega), upD_ne q, wup_ne _ _ (hne i (by omega)), rdE_same (n := n) (fun j hj => upN_lt hj) (h.2.2 i (by omega))]
      exact h.1 i (by omega)
  · by_cases q : i = n <;> by_cases r : j = n
    · omega
    · subst q
      rw [upN_at, upN_lt (by omega)] at hij
      exact absurd hij.symm (hne j (by omega))
    · subst r
      rw [upN_at, upN_lt (by omega)] at hij
      exact absurd hij (hne i (by omega))
    · rw [upN_lt (by omega), upN_lt (by omega)] at hij
      exact h.2.1 i j (by omega) (by omega) hij
  · by_cases q : i = n
    · subst q
      rw [upD_at]
      exact rfE_mono (by omega) he
    · rw [upD_ne q]
      exact rfE_mono (by omega) (h.2.2 i (by omega))
theorem wB.set {G : gG} {n : Nat} {ad : Nat → Nat} {D : Nat → dE} {M : wM} (h : wB G n ad D M) {k t : Nat} (hk : k < n) (ht : ad k = t) {x : va_E} (e : dE) (hx : rdE G ad e = x) (he : rfE n e = true) : wB G n ad (upD D k e) (wup M t x) := by
  subst ht
  refine ⟨fun i hi => ?_, h.2.1, fun i hi => ?_⟩
  · by_cases q : i = k
    · subst q
      rw [upD_at, wup_eq, hx]
    · rw [upD_ne q, wup_ne _ _ (fun z => q (h.2.1 i k hi hk z))]
      exact h.1 i hi
  · by_cases q : i = k
    · subst q
      rw [upD_at]
      exact he
    · rw [upD_ne q]
      exact h.2.2 i hi
theorem wB.at {G : gG} {n : Nat} {ad : Nat → Nat} {D : Nat → dE} {M : wM} (h : wB G n ad D M) {k t : Nat} (hk : k < n) (ht : ad k = t) {e : dE} (he : D k = e) {x : va_E} (hx : rdE G ad e = x) : M t = some x := by
  subst ht
  rw [← hx, ← he]
  exact h.1 k hk
theorem rd_up (ad : Nat → Nat) (m b t : Nat) : upo (fun j => if j < m then some (ad (b + t * j)) else none) m (ad (b + t * m)) = fun j => if j < m + 1 then some (ad (b + t * j)) else none := by
  funext j
  unfold upo
  by_cases q : j = m
  · subst q
    rw [if_pos rfl, if_pos (by omega)]
  · rw [if_neg q]
    dsimp only
    by_cases r : j < m
    · rw [if_pos r, if_pos (by omega)]
    · rw [if_neg r, if_neg (by omega)]
theorem rd_nm (m : Nat) : upz (fun j => if j < m then (j : Int) else 0) m (m : Int) = fun j => if j < m + 1 then (j : Int) else 0 := by
  funext j
  unfold upz
  by_cases q : j = m
  · subst q
    rw [if_pos rfl, if_pos (by omega)]
  · rw [if_neg q]
    dsimp only
    by_cases r : j < m
    · rw [if_pos r, if_pos (by omega)]
    · rw [if_neg r, if_neg (by omega)]
