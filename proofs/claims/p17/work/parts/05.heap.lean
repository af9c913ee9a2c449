section WHEAP
variable {G : gG} {q : mD} {mc ms sz kc ks pc : Nat} {M0 M : wM} {lv : List (Nat × Value)} {st rest : List Value} {Post : Option Value → wM → Prop}
/-- a field: the link of the class 'own', the class's number, the field's slot -/
def lkF (own : String) (idx ci k : Nat) : Prop := ∃ (C : String) (T : u_T) (N : Nat), vwCl[ci]? = some (C, T, N) ∧ k < N ∧ (∀ w ∈ u_ws C T N, w ∈ lw_good) ∧ Cond.fieldLink own idx (T k).1 (T k).2.1 (T k).2.2.1 ∈ lw_good
def lkN (own : String) (idx ci k : Nat) : Prop := ∃ (C : String) (T : u_T) (N : Nat) (host : String), vwCl[ci]? = some (C, T, N) ∧ k < N ∧ (∀ w ∈ u_ws C T N, w ∈ lw_good) ∧ Cond.fieldLinkNest own idx (T k).1 (T k).2.1 (T k).2.2.1 host ∈ lw_nest
/-- a field that may be written -/
def lkP (own : String) (idx ci k : Nat) (ty : FieldType) : Prop := ∃ (C : String) (T : u_T) (N : Nat) (ty0 : Nat → FieldType), vwCl[ci]? = some (C, T, N) ∧ k < N ∧ (∀ w ∈ u_ws C T N, w ∈ lw_good) ∧ Cond.fieldLink own idx (T k).1 (T k).2.1 (T k).2.2.1 ∈ lw_good ∧ (T k).2.2.2 = false ∧ (∀ k, k < N → parseFieldDescriptor (T k).2.2.1 = some (ty0 k)) ∧ (∀ a, a < N → ∀ b, b < N → a ≠ b → (T a).2.1 ≠ (T b).2.1) ∧ ty0 k = ty
def lkPF (own : String) (idx ci k : Nat) (ty : FieldType) : Prop := ∃ (C : String) (T : u_T) (N : Nat) (ty0 : Nat → FieldType), vwCl[ci]? = some (C, T, N) ∧ k < N ∧ (∀ w ∈ u_ws C T N, w ∈ lw_good) ∧ Cond.fieldLink own idx (T k).1 (T k).2.1 (T k).2.2.1 ∈ lw_good ∧ (T k).2.2.2 = true ∧ (T k).1 = own ∧ (∀ k, k < N → parseFieldDescriptor (T k).2.2.1 = some (ty0 k)) ∧ (∀ a, a < N → ∀ b, b < N → a ≠ b → (T a).2.1 ≠ (T b).2.1) ∧ ty0 k = ty
theorem v_get {idx ci k a : Nat} {fs : List Value} {v : Value} (hd : decode q.2.1 pc = .ok (.getfield idx, 3)) (hf : lkF q.1.cls idx ci k) (hM : M a = some (.inr (ci, fs))) (hv : fs[k]? = some v)
    (kk : wV G q mc ms sz M0 kc ks (pc + 3) lv (v :: st) M Post) : wV G q mc ms sz M0 kc ks pc lv (.ref a :: st) M Post := by
  intro p e s m args below meth c H locs ls C hsz hW hm hS hl
  obtain ⟨Cn, T, N, hc, hk, hin, hlk⟩ := hf
  obtain ⟨ws, hP, hD, hR⟩ := id hW
  obtain ⟨q0, he⟩ := List.getElem?_of_mem ((hR _ _).mp hM)
  exact va_get (own := q.1.cls) (T := T) C.1 C.2.1 C.2.2.2.2.2.1 (fun w h => List.mem_cons_of_mem _ (hin w h)) C.2.2.2.2.1 C.2.2.2.2.2.2.1.1 hP q0 he hc k hk (C.2.2.2.2.2.1 _ (List.mem_cons_of_mem _ hlk)) (fun _ h => h) hv hd (kk p e s m args below meth c H locs ls C hsz hW hm hS hl)
theorem v_getN {idx ci k a : Nat} {fs : List Value} {v : Value} (hd : decode q.2.1 pc = .ok (.getfield idx, 3)) (hf : lkN q.1.cls idx ci k) (hM : M a = some (.inr (ci, fs))) (hv : fs[k]? = some v)
    (kk : wV G q mc ms sz M0 kc ks (pc + 3) lv (v :: st) M Post) : wV G q mc ms sz M0 kc ks pc lv (.ref a :: st) M Post := by
  intro p e s m args below meth c H locs ls C hsz hW hm hS hl
  obtain ⟨Cn, T, N, host, hc, hk, hin, hlk⟩ := hf
  obtain ⟨ws, hP, hD, hR⟩ := id hW
  obtain ⟨q0, he⟩ := List.getElem?_of_mem ((hR _ _).mp hM)
  exact va_getN (own := q.1.cls) (T := T) C.1 C.2.1 C.2.2.2.2.2.1 (fun w h => List.mem_cons_of_mem _ (hin w h)) C.2.2.2.2.1 C.2.2.2.2.2.2.1.1 hP q0 he hc k hk (va_Nw.use rfl (C.2.2.2.2.2.2.1.2 _ hlk)) (fun _ h => h) hv hd (kk p e s m args below meth c H locs ls C hsz hW hm hS hl)
theorem wup_dom {a : Nat} {e1 : va_E} (hm : ∀ a, M0 a ≠ none → M a ≠ none) : ∀ b, M0 b ≠ none → wup M a e1 b ≠ none := by
  intro b hb
  unfold wup
  split
  · exact fun h => by cases h
  · exact hm b hb
theorem v_put {idx ci k a : Nat} {ty : FieldType} {fs : List Value} {v : Value} (hd : decode q.2.1 pc = .ok (.putfield idx, 3)) (hf : lkP q.1.cls idx ci k ty) (hM : M a = some (.inr (ci, fs))) (hn : narrow ty v = v) (hfit : fits ty v = true) (hlen : k < fs.length)
    (kk : wV G q mc ms sz M0 kc ks (pc + 3) lv st (wup M a (.inr (ci, fs.set k v))) Post) : wV G q mc ms sz M0 kc ks pc lv (v :: .ref a :: st) M Post := by
  intro p e s m args below meth c H locs ls C hsz hW hm hS hl
  obtain ⟨Cn, T, N, ty0, hc, hk, hin, hlk, hfin, hty, hnm, rfl⟩ := hf
  obtain ⟨ws, hP, hD, hR⟩ := id hW
  obtain ⟨q0, he⟩ := List.getElem?_of_mem ((hR _ _).mp hM)
  exact va_put (own := q.1.cls) (T := T) C.1 C.2.1 C.2.2.2.2.2.1 (fun w h => List.mem_cons_of_mem _ (hin w h)) ty0 hty hnm C.2.2.2.2.1 C.2.2.2.2.2.2.1.1 hP hD hS q0 he hc k hk (C.2.2.2.2.2.1 _ (List.mem_cons_of_mem _ hlk)) (fun _ h => h) hfin (hty k hk) hn hfit hlen hd (fun H1 locs1 hP1 hD1 hS1 => kk p e s m args below meth c H1 locs1 ls C hsz ⟨_, hP1, hD1, hR.set hD he⟩ (wup_dom hm) hS1 hl)
theorem v_putF {idx ci k a : Nat} {ty : FieldType} {fs : List Value} {v : Value} (hd : decode q.2.1 pc = .ok (.putfield idx, 3)) (hf : lkPF q.1.cls idx ci k ty) (hin2 : q.1.name = "<init>") (hM : M a = some (.inr (ci, fs))) (hn : narrow ty v = v) (hfit : fits ty v = true) (hlen : k < fs.length)
    (kk : wV G q mc ms sz M0 kc ks (pc + 3) lv st (wup M a (.inr (ci, fs.set k v))) Post) : wV G q mc ms sz M0 kc ks pc lv (v :: .ref a :: st) M Post := by
  intro p e s m args below meth c H locs ls C hsz hW hm hS hl
  obtain ⟨Cn, T, N, ty0, hc, hk, hin, hlk, hfin, hdc, hty, hnm, rfl⟩ := hf
  obtain ⟨ws, hP, hD, hR⟩ := id hW
  obtain ⟨q0, he⟩ := List.getElem?_of_mem ((hR _ _).mp hM)
  exact va_putF (own := q.1.cls) (T := T) C.1 C.2.1 C.2.2.2.2.2.1 (fun w h => List.mem_cons_of_mem _ (hin w h)) ty0 hty hnm C.2.2.2.2.1 C.2.2.2.2.2.2.1.1 hP hD hS q0 he hc k hk (C.2.2.2.2.2.1 _ (List.mem_cons_of_mem _ hlk)) (fun _ h => h) hfin (C.2.2.2.2.2.2.2.2.trans hin2) hdc (hty k hk) hn hfit hlen hd (fun H1 locs1 hP1 hD1 hS1 => kk p e s m args below meth c H1 locs1 ls C hsz ⟨_, hP1, hD1, hR.set hD he⟩ (wup_dom hm) hS1 hl)
theorem v_iald {a n : Nat} {f : Nat → Int} {i : Int} (hd : decode q.2.1 pc = .ok (.iaload, 1)) (hM : M a = some (.inl (G.2.2 0, n, .inl (gF f)))) (h0 : 0 ≤ i) (h1 : i < n) (hb : n ≤ 2147483647)
    (kk : wV G q mc ms sz M0 kc ks (pc + 1) lv (.int (gI (f i.toNat)) :: st) M Post) : wV G q mc ms sz M0 kc ks pc lv (.int (gI i) :: .ref a :: st) M Post := by
  intro p e s m args below meth c H locs ls C hsz hW hm hS hl
  obtain ⟨ws, hP, hD, hR⟩ := id hW
  obtain ⟨q0, he⟩ := List.getElem?_of_mem ((hR _ _).mp hM)
  refine va_iald C.1 C.2.1 C.2.2.2.2.2.2.1.1 hP q0 0 he rfl (gI_in h0 h1 hb) hd ?_
  rw [gI_clamp h0 (by omega)]
  exact kk p e s m args below meth c H locs ls C hsz hW hm hS hl
theorem v_zald {a n : Nat} {f : Nat → Int} {i : Int} (hd : decode q.2.1 pc = .ok (.baload, 1)) (hM : M a = some (.inl (G.2.2 1, n, .inl (gF f)))) (h0 : 0 ≤ i) (h1 : i < n) (hb : n ≤ 2147483647)
    (kk : wV G q mc ms sz M0 kc ks (pc + 1) lv (.int (gI (f i.toNat)) :: st) M Post) : wV G q mc ms sz M0 kc ks pc lv (.int (gI i) :: .ref a :: st) M Post := by
  intro p e s m args below meth c H locs ls C hsz hW hm hS hl
  obtain ⟨ws, hP, hD, hR⟩ := id hW
  obtain ⟨q0, he⟩ := List.getElem?_of_mem ((hR _ _).mp hM)
  refine va_zald C.1 C.2.1 C.2.2.2.2.2.2.1.1 hP q0 1 he rfl (gI_in h0 h1 hb) hd ?_
  rw [gI_clamp h0 (by omega)]
  exact kk p e s m args below meth c H locs ls C hsz hW hm hS hl
theorem v_aald {a n t0 : Nat} {cA : ClassId} {Cn : String} {f : Nat → Nat} {i : Int} (hd : decode q.2.1 pc = .ok (.aaload, 1)) (hM : M a = some (.inl (G.2.2 t0, n, .inr (.inr (.inr (.inr (fun j => some (f j)))))))) (ht : t0 = 2 ∧ Cn = "WavePairs$Row" ∨ t0 = 3 ∧ Cn = "WavePairs$Mask" ∨ t0 = 4 ∧ Cn = "WavePairs$Channel" ∨ t0 = 5 ∧ Cn = "WavePairs$Gate" ∨ t0 = 6 ∧ Cn = "WavePairs$Pair") (h0 : 0 ≤ i) (h1 : i < n) (hb : n ≤ 2147483647)
    (kk : wV G q mc ms sz M0 kc ks (pc + 1) lv (.ref (f i.toNat) :: st) M Post) : wV G q mc ms sz M0 kc ks pc lv (.int (gI i) :: .ref a :: st) M Post := by
  intro p e s m args below meth c H locs ls C hsz hW hm hS hl
  obtain ⟨ws, hP, hD, hR⟩ := id hW
  obtain ⟨q0, he⟩ := List.getElem?_of_mem ((hR _ _).mp hM)
  refine va_aldq (C := Cn) C.1 C.2.1 C.2.2.2.2.2.2.1.1 hP q0 t0 he ?_ (gI_in h0 h1 hb) hd ?_
  · rcases ht with ⟨rfl, rfl⟩ | ⟨rfl, rfl⟩ | ⟨rfl, rfl⟩ | ⟨rfl, rfl⟩ | ⟨rfl, rfl⟩ <;> rfl
  · rw [gI_clamp h0 (by omega)]
    exact kk p e s m args below meth c H locs ls C hsz hW hm hS hl
theorem v_iast {a n : Nat} {f : Nat → Int} {i x : Int} (hd : decode q.2.1 pc = .ok (.iastore, 1)) (hM : M a = some (.inl (G.2.2 0, n, .inl (gF f)))) (h0 : 0 ≤ i) (h1 : i < n) (hb : n ≤ 2147483647)
    (kk : wV G q mc ms sz M0 kc ks (pc + 1) lv st (wup M a (.inl (G.2.2 0, n, .inl (gF (upz f i.toNat x))))) Post) : wV G q mc ms sz M0 kc ks pc lv (.int (gI x) :: .int (gI i) :: .ref a :: st) M Post := by
  intro p e s m args below meth c H locs ls C hsz hW hm hS hl
  obtain ⟨ws, hP, hD, hR⟩ := id hW
  obtain ⟨q0, he⟩ := List.getElem?_of_mem ((hR _ _).mp hM)
  refine va_iast C.1 C.2.1 C.2.2.2.2.2.2.1.1 hP hD hS q0 0 he rfl (gI_in h0 h1 hb) hd (fun H1 locs1 hP1 hD1 hS1 => ?_)
  rw [gI_clamp h0 (by omega), gF_upd] at hP1 hD1
  exact kk p e s m args below meth c H1 locs1 ls C hsz ⟨_, hP1, hD1, hR.set hD he⟩ (wup_dom hm) hS1 hl
theorem v_zast {a n : Nat} {f : Nat → Int} {i x : Int} (hd : decode q.2.1 pc = .ok (.bastore, 1)) (hM : M a = some (.inl (G.2.2 1, n, .inl (gF f)))) (h0 : 0 ≤ i) (h1 : i < n) (hb : n ≤ 2147483647) (hx : x = 0 ∨ x = 1)
    (kk : wV G q mc ms sz M0 kc ks (pc + 1) lv st (wup M a (.inl (G.2.2 1, n, .inl (gF (upz f i.toNat x))))) Post) : wV G q mc ms sz M0 kc ks pc lv (.int (gI x) :: .int (gI i) :: .ref a :: st) M Post := by
  intro p e s m args below meth c H locs ls C hsz hW hm hS hl
  obtain ⟨ws, hP, hD, hR⟩ := id hW
  obtain ⟨q0, he⟩ := List.getElem?_of_mem ((hR _ _).mp hM)
  refine va_zast C.1 C.2.1 C.2.2.2.2.2.2.1.1 hP hD hS q0 1 he rfl (gI_in h0 h1 hb) hd (fun H1 locs1 hP1 hD1 hS1 => ?_)
  rw [gI_clamp h0 (by omega), show vp_nar .boolean (gI x) = gI x from by rcases hx with rfl | rfl <;> decide, gF_upd] at hP1 hD1
  exact kk p e s m args below meth c H1 locs1 ls C hsz ⟨_, hP1, hD1, hR.set hD he⟩ (wup_dom hm) hS1 hl
theorem v_alen {a n t0 : Nat} {x : vp_A} {ty : FieldType} (hd : decode q.2.1 pc = .ok (.arraylength, 1)) (hM : M a = some (.inl (G.2.2 t0, x))) (ht : t0 = 0 ∨ t0 = 1 ∨ t0 = 2 ∨ t0 = 3 ∨ t0 = 4 ∨ t0 = 5 ∨ t0 = 6) (hn : x.1 = n)
    (kk : wV G q mc ms sz M0 kc ks (pc + 1) lv (.int (gI n) :: st) M Post) : wV G q mc ms sz M0 kc ks pc lv (.ref a :: st) M Post := by
  intro p e s m args below meth c H locs ls C hsz hW hm hS hl
  obtain ⟨ws, hP, hD, hR⟩ := id hW
  obtain ⟨q0, he⟩ := List.getElem?_of_mem ((hR _ _).mp hM)
  have hv : Int32.ofNat x.1 = gI n := by rw [hn]; rfl
  have kk' := kk p e s m args below meth c H locs ls C hsz hW hm hS hl
  rcases ht with rfl | rfl | rfl | rfl | rfl | rfl | rfl
  · exact va_alen C.1 C.2.1 C.2.2.2.2.2.2.1.1 hP q0 0 he rfl hv hd kk'
  · exact va_alen C.1 C.2.1 C.2.2.2.2.2.2.1.1 hP q0 1 he rfl hv hd kk'
  · exact va_alen C.1 C.2.1 C.2.2.2.2.2.2.1.1 hP q0 2 he rfl hv hd kk'
  · exact va_alen C.1 C.2.1 C.2.2.2.2.2.2.1.1 hP q0 3 he rfl hv hd kk'
  · exact va_alen C.1 C.2.1 C.2.2.2.2.2.2.1.1 hP q0 4 he rfl hv hd kk'
  · exact va_alen C.1 C.2.1 C.2.2.2.2.2.2.1.1 hP q0 5 he rfl hv hd kk'
  · exact va_alen C.1 C.2.1 C.2.2.2.2.2.2.1.1 hP q0 6 he rfl hv hd kk'
end WHEAP
