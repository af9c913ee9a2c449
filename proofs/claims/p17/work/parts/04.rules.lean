section WRULES
variable {G : gG} {q : mD} {mc ms sz kc ks pc : Nat} {M0 M : wM} {lv : List (Nat × Value)} {st rest : List Value} {Post : Option Value → wM → Prop}
def vld : List (Nat × Value) → Nat → Option Value
  | [], _ => none
  | (j, v) :: r, i => match Nat.beq j i with
    | true => some v
    | false => vld r i
def vst (i : Nat) (v : Value) (lv : List (Nat × Value)) : List (Nat × Value) := (i, v) :: lv.filter (fun q => !(q.1 == i) && !(q.1 + 1 == i && q.2.category == 2))
def vsub (lv : List (Nat × Value)) : List (Nat × Value) → Prop
  | [] => True
  | (i, v) :: r => vld lv i = some v ∧ vsub lv r
theorem vld_mem {lv : List (Nat × Value)} {i : Nat} {v : Value} (h : vld lv i = some v) : (i, v) ∈ lv := by
  induction lv with
  | nil => cases h
  | cons a r ih =>
    obtain ⟨j, w⟩ := a
    unfold vld at h
    split at h
    · rename_i hb
      cases h
      rw [Nat.eq_of_beq_eq_true hb]
      exact List.mem_cons_self
    · exact List.mem_cons_of_mem _ (ih h)
theorem vld_at {ls : Array Slot} {n i : Nat} {lv : List (Nat × Value)} {v : Value} (hl : lv_has ls n lv) (h : vld lv i = some v) : ls[i]? = some (.val v) := hl.2.2 _ (vld_mem h)
theorem vsub_has {ls : Array Slot} {n : Nat} {lv lv' : List (Nat × Value)} (hl : lv_has ls n lv) (h : vsub lv lv') : lv_has ls n lv' := by
  refine ⟨hl.1, hl.2.1, ?_⟩
  induction lv' with
  | nil => intro q hq; cases hq
  | cons a r ih =>
    intro q hq
    rcases List.mem_cons.mp hq with rfl | h2
    · exact vld_at hl h.1
    · exact ih h.2 q h2
theorem wV.locs {lv' : List (Nat × Value)} (h : vsub lv lv') (k : wV G q mc ms sz M0 kc ks pc lv' st M Post) : wV G q mc ms sz M0 kc ks pc lv st M Post :=
  fun p e s m args below meth c H locs ls C hsz hW hm hS hl => k p e s m args below meth c H locs ls C hsz hW hm hS (vsub_has hl h)
theorem wV.stk {st' : List Value} (h : st = st') (k : wV G q mc ms sz M0 kc ks pc lv st' M Post) : wV G q mc ms sz M0 kc ks pc lv st M Post := h ▸ k
theorem wV.map {M' : wM} (h : M = M') (k : wV G q mc ms sz M0 kc ks pc lv st M' Post) : wV G q mc ms sz M0 kc ks pc lv st M Post := h ▸ k
theorem wV.post {Post' : Option Value → wM → Prop} (h : ∀ v M', Post' v M' → Post v M') (k : wV G q mc ms sz M0 kc ks pc lv st M Post') : wV G q mc ms sz M0 kc ks pc lv st M Post := by
  intro p e s m args below meth c H locs ls C hsz hW hm hS hl T hT X
  obtain ⟨t, a, o, b1, b2, ⟨⟨v, M', c1, c2, c3⟩, c4⟩, b4⟩ := k p e s m args below meth c H locs ls C hsz hW hm hS hl T hT X
  exact ⟨t, a, o, b1, b2, ⟨⟨v, M', c1, h v M' c2, c3⟩, c4⟩, b4⟩
theorem v_iconst {n : Int} (hd : decode q.2.1 pc = .ok (.iconst n, 1)) (k : wV G q mc ms sz M0 kc ks (pc + 1) lv (.int (gI n) :: st) M Post) : wV G q mc ms sz M0 kc ks pc lv (st) M Post := by
  intro p e s m args below meth c H locs ls C hsz hW hm hS hl
  refine lv_iconst (v := gI n) C.1 C.2.1 hd rfl ?_
  exact k p e s m args below meth c H locs ls C hsz hW hm hS hl
theorem v_bipush {n : Int} (hd : decode q.2.1 pc = .ok (.bipush n, 2)) (h : (Int8.ofInt n).toInt32 = gI n) (k : wV G q mc ms sz M0 kc ks (pc + 2) lv (.int (gI n) :: st) M Post) : wV G q mc ms sz M0 kc ks pc lv (st) M Post := by
  intro p e s m args below meth c H locs ls C hsz hW hm hS hl
  refine lv_bipush (v := gI n) C.1 C.2.1 hd h ?_
  exact k p e s m args below meth c H locs ls C hsz hW hm hS hl
theorem v_sipush {n : Int} (hd : decode q.2.1 pc = .ok (.sipush n, 3)) (h : (Int16.ofInt n).toInt32 = gI n) (k : wV G q mc ms sz M0 kc ks (pc + 3) lv (.int (gI n) :: st) M Post) : wV G q mc ms sz M0 kc ks pc lv (st) M Post := by
  intro p e s m args below meth c H locs ls C hsz hW hm hS hl
  refine lv_sipush (v := gI n) C.1 C.2.1 hd h ?_
  exact k p e s m args below meth c H locs ls C hsz hW hm hS hl
theorem v_iloadn {i : Fin 4} {x : Int32} (hd : decode q.2.1 pc = .ok (.iload_n i, 1)) (h : vld lv i = some (.int x)) (k : wV G q mc ms sz M0 kc ks (pc + 1) lv (.int x :: st) M Post) : wV G q mc ms sz M0 kc ks pc lv (st) M Post := by
  intro p e s m args below meth c H locs ls C hsz hW hm hS hl
  refine lv_iload_n C.1 C.2.1 hd rfl (vld_at hl h) ?_
  exact k p e s m args below meth c H locs ls C hsz hW hm hS hl
theorem v_iload {i : Nat} {x : Int32} (hd : decode q.2.1 pc = .ok (.iload i, 2)) (h : vld lv i = some (.int x)) (k : wV G q mc ms sz M0 kc ks (pc + 2) lv (.int x :: st) M Post) : wV G q mc ms sz M0 kc ks pc lv (st) M Post := by
  intro p e s m args below meth c H locs ls C hsz hW hm hS hl
  refine lv_iload C.1 C.2.1 hd (vld_at hl h) ?_
  exact k p e s m args below meth c H locs ls C hsz hW hm hS hl
theorem v_lloadn {i : Fin 4} {x : Int64} (hd : decode q.2.1 pc = .ok (.lload_n i, 1)) (h : vld lv i = some (.long x)) (k : wV G q mc ms sz M0 kc ks (pc + 1) lv (.long x :: st) M Post) : wV G q mc ms sz M0 kc ks pc lv (st) M Post := by
  intro p e s m args below meth c H locs ls C hsz hW hm hS hl
  refine lv_lload_n C.1 C.2.1 hd rfl (vld_at hl h) ?_
  exact k p e s m args below meth c H locs ls C hsz hW hm hS hl
theorem v_lload {i : Nat} {x : Int64} (hd : decode q.2.1 pc = .ok (.lload i, 2)) (h : vld lv i = some (.long x)) (k : wV G q mc ms sz M0 kc ks (pc + 2) lv (.long x :: st) M Post) : wV G q mc ms sz M0 kc ks pc lv (st) M Post := by
  intro p e s m args below meth c H locs ls C hsz hW hm hS hl
  refine lv_lload C.1 C.2.1 hd (vld_at hl h) ?_
  exact k p e s m args below meth c H locs ls C hsz hW hm hS hl
theorem v_aloadn {i : Fin 4} {x : Nat} (hd : decode q.2.1 pc = .ok (.aload_n i, 1)) (h : vld lv i = some (.ref x)) (k : wV G q mc ms sz M0 kc ks (pc + 1) lv (.ref x :: st) M Post) : wV G q mc ms sz M0 kc ks pc lv (st) M Post := by
  intro p e s m args below meth c H locs ls C hsz hW hm hS hl
  refine lv_aload_n C.1 C.2.1 hd rfl (vld_at hl h) ?_
  exact k p e s m args below meth c H locs ls C hsz hW hm hS hl
theorem v_aload {i : Nat} {x : Nat} (hd : decode q.2.1 pc = .ok (.aload i, 2)) (h : vld lv i = some (.ref x)) (k : wV G q mc ms sz M0 kc ks (pc + 2) lv (.ref x :: st) M Post) : wV G q mc ms sz M0 kc ks pc lv (st) M Post := by
  intro p e s m args below meth c H locs ls C hsz hW hm hS hl
  refine lv_aload C.1 C.2.1 hd (vld_at hl h) ?_
  exact k p e s m args below meth c H locs ls C hsz hW hm hS hl
theorem v_iadd {x y : Int} (hd : decode q.2.1 pc = .ok (.iadd, 1)) (k : wV G q mc ms sz M0 kc ks (pc + 1) lv (.int (gI (x + y)) :: st) M Post) : wV G q mc ms sz M0 kc ks pc lv (.int (gI y) :: .int (gI x) :: st) M Post := by
  intro p e s m args below meth c H locs ls C hsz hW hm hS hl
  refine lv_iadd C.1 C.2.1 hd ?_
  rw [gI_add]
  exact k p e s m args below meth c H locs ls C hsz hW hm hS hl
theorem v_isub {x y : Int} (hd : decode q.2.1 pc = .ok (.isub, 1)) (k : wV G q mc ms sz M0 kc ks (pc + 1) lv (.int (gI (x - y)) :: st) M Post) : wV G q mc ms sz M0 kc ks pc lv (.int (gI y) :: .int (gI x) :: st) M Post := by
  intro p e s m args below meth c H locs ls C hsz hW hm hS hl
  refine lv_isub C.1 C.2.1 hd ?_
  rw [gI_sub]
  exact k p e s m args below meth c H locs ls C hsz hW hm hS hl
theorem v_imul {x y : Int} (hd : decode q.2.1 pc = .ok (.imul, 1)) (k : wV G q mc ms sz M0 kc ks (pc + 1) lv (.int (gI (x * y)) :: st) M Post) : wV G q mc ms sz M0 kc ks pc lv (.int (gI y) :: .int (gI x) :: st) M Post := by
  intro p e s m args below meth c H locs ls C hsz hW hm hS hl
  refine lv_imul C.1 C.2.1 hd ?_
  rw [gI_mul]
  exact k p e s m args below meth c H locs ls C hsz hW hm hS hl
theorem v_ineg {x : Int} (hd : decode q.2.1 pc = .ok (.ineg, 1)) (k : wV G q mc ms sz M0 kc ks (pc + 1) lv (.int (gI (-x)) :: st) M Post) : wV G q mc ms sz M0 kc ks pc lv (.int (gI x) :: st) M Post := by
  intro p e s m args below meth c H locs ls C hsz hW hm hS hl
  refine lv_ineg C.1 C.2.1 hd ?_
  rw [gI_neg]
  exact k p e s m args below meth c H locs ls C hsz hW hm hS hl
theorem v_iand {x y : Int32} (hd : decode q.2.1 pc = .ok (.iand, 1)) (k : wV G q mc ms sz M0 kc ks (pc + 1) lv (.int (x &&& y) :: st) M Post) : wV G q mc ms sz M0 kc ks pc lv (.int y :: .int x :: st) M Post := by
  intro p e s m args below meth c H locs ls C hsz hW hm hS hl
  refine lv_iand C.1 C.2.1 hd ?_
  exact k p e s m args below meth c H locs ls C hsz hW hm hS hl
theorem v_ior {x y : Int32} (hd : decode q.2.1 pc = .ok (.ior, 1)) (k : wV G q mc ms sz M0 kc ks (pc + 1) lv (.int (x ||| y) :: st) M Post) : wV G q mc ms sz M0 kc ks pc lv (.int y :: .int x :: st) M Post := by
  intro p e s m args below meth c H locs ls C hsz hW hm hS hl
  refine lv_ior C.1 C.2.1 hd ?_
  exact k p e s m args below meth c H locs ls C hsz hW hm hS hl
theorem v_ishl {x y : Int32} (hd : decode q.2.1 pc = .ok (.ishl, 1)) (k : wV G q mc ms sz M0 kc ks (pc + 1) lv (.int (x <<< (y &&& 31)) :: st) M Post) : wV G q mc ms sz M0 kc ks pc lv (.int y :: .int x :: st) M Post := by
  intro p e s m args below meth c H locs ls C hsz hW hm hS hl
  refine lv_ishl C.1 C.2.1 hd ?_
  exact k p e s m args below meth c H locs ls C hsz hW hm hS hl
theorem v_ishr {x y : Int32} (hd : decode q.2.1 pc = .ok (.ishr, 1)) (k : wV G q mc ms sz M0 kc ks (pc + 1) lv (.int (x >>> (y &&& 31)) :: st) M Post) : wV G q mc ms sz M0 kc ks pc lv (.int y :: .int x :: st) M Post := by
  intro p e s m args below meth c H locs ls C hsz hW hm hS hl
  refine lv_ishr C.1 C.2.1 hd ?_
  exact k p e s m args below meth c H locs ls C hsz hW hm hS hl
theorem v_iushr {x y : Int32} (hd : decode q.2.1 pc = .ok (.iushr, 1)) (k : wV G q mc ms sz M0 kc ks (pc + 1) lv (.int (x.toUInt32 >>> (y.toUInt32 &&& Int32.toUInt32 31)).toInt32 :: st) M Post) : wV G q mc ms sz M0 kc ks pc lv (.int y :: .int x :: st) M Post := by
  intro p e s m args below meth c H locs ls C hsz hW hm hS hl
  refine lv_iushr C.1 C.2.1 hd rfl ?_
  exact k p e s m args below meth c H locs ls C hsz hW hm hS hl
theorem v_lushr {x : Int64} {y : Int32} (hd : decode q.2.1 pc = .ok (.lushr, 1)) (k : wV G q mc ms sz M0 kc ks (pc + 1) lv (.long (x.toUInt64 >>> (y.toInt64.toUInt64 &&& Int64.toUInt64 63)).toInt64 :: st) M Post) : wV G q mc ms sz M0 kc ks pc lv (.int y :: .long x :: st) M Post := by
  intro p e s m args below meth c H locs ls C hsz hW hm hS hl
  refine lv_lushr C.1 C.2.1 hd rfl ?_
  exact k p e s m args below meth c H locs ls C hsz hW hm hS hl
theorem v_lshr {x : Int64} {y : Int32} (hd : decode q.2.1 pc = .ok (.lshr, 1)) (k : wV G q mc ms sz M0 kc ks (pc + 1) lv (.long (x >>> (y.toInt64 &&& 63)) :: st) M Post) : wV G q mc ms sz M0 kc ks pc lv (.int y :: .long x :: st) M Post := by
  intro p e s m args below meth c H locs ls C hsz hW hm hS hl
  refine lv_lshr C.1 C.2.1 hd rfl ?_
  exact k p e s m args below meth c H locs ls C hsz hW hm hS hl
theorem v_lshl {x : Int64} {y : Int32} (hd : decode q.2.1 pc = .ok (.lshl, 1)) (k : wV G q mc ms sz M0 kc ks (pc + 1) lv (.long (x <<< (y.toInt64 &&& 63)) :: st) M Post) : wV G q mc ms sz M0 kc ks pc lv (.int y :: .long x :: st) M Post := by
  intro p e s m args below meth c H locs ls C hsz hW hm hS hl
  refine lv_lshl C.1 C.2.1 hd rfl ?_
  exact k p e s m args below meth c H locs ls C hsz hW hm hS hl
theorem v_land {x y : Int64} (hd : decode q.2.1 pc = .ok (.land, 1)) (k : wV G q mc ms sz M0 kc ks (pc + 1) lv (.long (x &&& y) :: st) M Post) : wV G q mc ms sz M0 kc ks pc lv (.long y :: .long x :: st) M Post := by
  intro p e s m args below meth c H locs ls C hsz hW hm hS hl
  refine lv_land C.1 C.2.1 hd ?_
  exact k p e s m args below meth c H locs ls C hsz hW hm hS hl
theorem v_lor {x y : Int64} (hd : decode q.2.1 pc = .ok (.lor, 1)) (k : wV G q mc ms sz M0 kc ks (pc + 1) lv (.long (x ||| y) :: st) M Post) : wV G q mc ms sz M0 kc ks pc lv (.long y :: .long x :: st) M Post := by
  intro p e s m args below meth c H locs ls C hsz hW hm hS hl
  refine lv_lor C.1 C.2.1 hd ?_
  exact k p e s m args below meth c H locs ls C hsz hW hm hS hl
theorem v_i2l {x : Int32} (hd : decode q.2.1 pc = .ok (.i2l, 1)) (k : wV G q mc ms sz M0 kc ks (pc + 1) lv (.long x.toInt64 :: st) M Post) : wV G q mc ms sz M0 kc ks pc lv (.int x :: st) M Post := by
  intro p e s m args below meth c H locs ls C hsz hW hm hS hl
  refine lv_i2l C.1 C.2.1 hd rfl ?_
  exact k p e s m args below meth c H locs ls C hsz hW hm hS hl
theorem v_l2i {x : Int64} (hd : decode q.2.1 pc = .ok (.l2i, 1)) (k : wV G q mc ms sz M0 kc ks (pc + 1) lv (.int x.toInt32 :: st) M Post) : wV G q mc ms sz M0 kc ks pc lv (.long x :: st) M Post := by
  intro p e s m args below meth c H locs ls C hsz hW hm hS hl
  refine lv_l2i C.1 C.2.1 hd rfl ?_
  exact k p e s m args below meth c H locs ls C hsz hW hm hS hl
theorem v_dup {v : Value} (hd : decode q.2.1 pc = .ok (.dup, 1)) (h : v.category = 1) (k : wV G q mc ms sz M0 kc ks (pc + 1) lv (v :: v :: st) M Post) : wV G q mc ms sz M0 kc ks pc lv (v :: st) M Post := by
  intro p e s m args below meth c H locs ls C hsz hW hm hS hl
  refine lv_dup C.1 C.2.1 hd h ?_
  exact k p e s m args below meth c H locs ls C hsz hW hm hS hl
theorem v_pop {v : Value} (hd : decode q.2.1 pc = .ok (.pop, 1)) (h : v.category = 1) (k : wV G q mc ms sz M0 kc ks (pc + 1) lv (st) M Post) : wV G q mc ms sz M0 kc ks pc lv (v :: st) M Post := by
  intro p e s m args below meth c H locs ls C hsz hW hm hS hl
  refine lv_pop C.1 C.2.1 hd h ?_
  exact k p e s m args below meth c H locs ls C hsz hW hm hS hl
theorem v_dup2 {v w : Value} (hd : decode q.2.1 pc = .ok (.dup2, 1)) (h : v.category = 1) (h2 : w.category = 1) (k : wV G q mc ms sz M0 kc ks (pc + 1) lv (v :: w :: v :: w :: st) M Post) : wV G q mc ms sz M0 kc ks pc lv (v :: w :: st) M Post := by
  intro p e s m args below meth c H locs ls C hsz hW hm hS hl
  refine lv_dup2_11 C.1 C.2.1 hd h h2 ?_
  exact k p e s m args below meth c H locs ls C hsz hW hm hS hl
theorem v_idiv2 {x : Int} (hd : decode q.2.1 pc = .ok (.idiv, 1)) (h0 : 0 ≤ x) (h1 : x ≤ 2147483647) (k : wV G q mc ms sz M0 kc ks (pc + 1) lv (.int (gI (x / 2)) :: st) M Post) : wV G q mc ms sz M0 kc ks pc lv (.int (gI 2) :: .int (gI x) :: st) M Post := by
  intro p e s m args below meth c H locs ls C hsz hW hm hS hl
  refine lv_idiv C.1 C.2.1 hd (by decide) ?_
  rw [show gI x / gI 2 = gI (x / 2) from by
    apply Int32.toInt_inj.mp
    rw [Int32.toInt_div_of_ne_right _ _ (by decide), gI_toInt ⟨by omega, h1⟩, gI_toInt (z := x / 2) ⟨by omega, by omega⟩, show (gI 2).toInt = 2 from by decide, Int.tdiv_eq_ediv_of_nonneg h0]]
  exact k p e s m args below meth c H locs ls C hsz hW hm hS hl
theorem v_istoren {i : Fin 4} {x : Int32} (hd : decode q.2.1 pc = .ok (.istore_n i, 1)) (hi : i.val < q.2.2.1) (k : wV G q mc ms sz M0 kc ks (pc + 1) (vst i.val (.int x) lv) st M Post) : wV G q mc ms sz M0 kc ks pc lv (.int x :: st) M Post := by
  intro p e s m args below meth c H locs ls C hsz hW hm hS hl
  exact lv_istore_n C.1 C.2.1 hd rfl hl hi rfl (fun ls' hl' => k p e s m args below meth c H locs ls' C hsz hW hm hS hl')
theorem v_istore {i : Nat} {x : Int32} (hd : decode q.2.1 pc = .ok (.istore i, 2)) (hi : i < q.2.2.1) (k : wV G q mc ms sz M0 kc ks (pc + 2) (vst i (.int x) lv) st M Post) : wV G q mc ms sz M0 kc ks pc lv (.int x :: st) M Post := by
  intro p e s m args below meth c H locs ls C hsz hW hm hS hl
  exact lv_istore C.1 C.2.1 hd hl hi rfl (fun ls' hl' => k p e s m args below meth c H locs ls' C hsz hW hm hS hl')
theorem v_astoren {i : Fin 4} {x : Nat} (hd : decode q.2.1 pc = .ok (.astore_n i, 1)) (hi : i.val < q.2.2.1) (k : wV G q mc ms sz M0 kc ks (pc + 1) (vst i.val (.ref x) lv) st M Post) : wV G q mc ms sz M0 kc ks pc lv (.ref x :: st) M Post := by
  intro p e s m args below meth c H locs ls C hsz hW hm hS hl
  exact lv_astore_n C.1 C.2.1 hd rfl hl hi rfl (fun ls' hl' => k p e s m args below meth c H locs ls' C hsz hW hm hS hl')
theorem v_astore {i : Nat} {x : Nat} (hd : decode q.2.1 pc = .ok (.astore i, 2)) (hi : i < q.2.2.1) (k : wV G q mc ms sz M0 kc ks (pc + 2) (vst i (.ref x) lv) st M Post) : wV G q mc ms sz M0 kc ks pc lv (.ref x :: st) M Post := by
  intro p e s m args below meth c H locs ls C hsz hW hm hS hl
  exact lv_astore C.1 C.2.1 hd hl hi rfl (fun ls' hl' => k p e s m args below meth c H locs ls' C hsz hW hm hS hl')
theorem v_iinc {i : Nat} {n : Int} {x : Int} (hd : decode q.2.1 pc = .ok (.iinc i n, 3)) (h : vld lv i = some (.int (gI x))) (hi : i < q.2.2.1) (k : wV G q mc ms sz M0 kc ks (pc + 3) (vst i (.int (gI (x + n))) lv) st M Post) : wV G q mc ms sz M0 kc ks pc lv st M Post := by
  intro p e s m args below meth c H locs ls C hsz hW hm hS hl
  obtain ⟨j, hj⟩ := List.getElem?_of_mem (vld_mem h)
  exact lv_iinc (v := gI (x + n)) C.1 C.2.1 hd hl hj (gI_add x n) hi rfl (fun ls' hl' => k p e s m args below meth c H locs ls' C hsz hW hm hS hl')
theorem v_goto {off : Int} (tgt : Nat) (hd : decode q.2.1 pc = .ok (.goto off, 3)) (ht : (pc : Int) + off = (tgt : Int)) (k : wV G q mc ms sz M0 kc ks tgt lv st M Post) : wV G q mc ms sz M0 kc ks pc lv st M Post := by
  intro p e s m args below meth c H locs ls C hsz hW hm hS hl
  refine lv_goto C.1 C.2.1 hd ht ?_
  exact k p e s m args below meth c H locs ls C hsz hW hm hS hl
theorem v_icmp_eq {x y : Int} {off : Int} (tgt : Nat) (hd : decode q.2.1 pc = .ok (.if_icmp .eq off, 3)) (ht : (pc : Int) + off = (tgt : Int)) (hx : rng x) (hy : rng y) (k : x = y → wV G q mc ms sz M0 kc ks tgt lv st M Post) (k2 : x ≠ y → wV G q mc ms sz M0 kc ks (pc + 3) lv st M Post) : wV G q mc ms sz M0 kc ks pc lv (.int (gI y) :: .int (gI x) :: st) M Post := by
  intro p e s m args below meth c H locs ls C hsz hW hm hS hl
  have ilt : ∀ {a b : Int}, rng a → rng b → (gI a < gI b ↔ a < b) := gI_lt
  have ile : ∀ {a b : Int}, rng a → rng b → (gI a ≤ gI b ↔ a ≤ b) := gI_le
  refine lv_icmp_eq C.1 C.2.1 hd ht (fun h => k ?_ p e s m args below meth c H locs ls C hsz hW hm hS hl) (fun h => k2 ?_ p e s m args below meth c H locs ls C hsz hW hm hS hl)
  all_goals (first | (simp only [gI_inj hx hy, gI_inj hy hx, gI_lt hx hy, gI_lt hy hx, gI_le hx hy, gI_le hy hx, ne_eq, ge_iff_le, gt_iff_lt] at h ⊢; first | exact h | omega) )
theorem v_if_eq {x : Int} {off : Int} (tgt : Nat) (hd : decode q.2.1 pc = .ok (.ifCond .eq off, 3)) (ht : (pc : Int) + off = (tgt : Int)) (hx : rng x) (k : x = 0 → wV G q mc ms sz M0 kc ks tgt lv st M Post) (k2 : x ≠ 0 → wV G q mc ms sz M0 kc ks (pc + 3) lv st M Post) : wV G q mc ms sz M0 kc ks pc lv (.int (gI x) :: st) M Post := by
  intro p e s m args below meth c H locs ls C hsz hW hm hS hl
  have hy : rng 0 := ⟨by omega, by omega⟩
  have h0 : (0 : Int32) = gI 0 := rfl
  refine lv_if_eq C.1 C.2.1 hd ht (fun h => k ?_ p e s m args below meth c H locs ls C hsz hW hm hS hl) (fun h => k2 ?_ p e s m args below meth c H locs ls C hsz hW hm hS hl)
  all_goals (rw [h0] at h; first | (simp only [gI_inj hx hy, gI_inj hy hx, gI_lt hx hy, gI_lt hy hx, gI_le hx hy, gI_le hy hx, ne_eq, ge_iff_le, gt_iff_lt] at h ⊢; first | exact h | omega) )
theorem v_icmp_ne {x y : Int} {off : Int} (tgt : Nat) (hd : decode q.2.1 pc = .ok (.if_icmp .ne off, 3)) (ht : (pc : Int) + off = (tgt : Int)) (hx : rng x) (hy : rng y) (k : x ≠ y → wV G q mc ms sz M0 kc ks tgt lv st M Post) (k2 : x = y → wV G q mc ms sz M0 kc ks (pc + 3) lv st M Post) : wV G q mc ms sz M0 kc ks pc lv (.int (gI y) :: .int (gI x) :: st) M Post := by
  intro p e s m args below meth c H locs ls C hsz hW hm hS hl
  have ilt : ∀ {a b : Int}, rng a → rng b → (gI a < gI b ↔ a < b) := gI_lt
  have ile : ∀ {a b : Int}, rng a → rng b → (gI a ≤ gI b ↔ a ≤ b) := gI_le
  refine lv_icmp_ne C.1 C.2.1 hd ht (fun h => k ?_ p e s m args below meth c H locs ls C hsz hW hm hS hl) (fun h => k2 ?_ p e s m args below meth c H locs ls C hsz hW hm hS hl)
  all_goals (first | (simp only [gI_inj hx hy, gI_inj hy hx, gI_lt hx hy, gI_lt hy hx, gI_le hx hy, gI_le hy hx, ne_eq, ge_iff_le, gt_iff_lt] at h ⊢; first | exact h | omega) )
theorem v_if_ne {x : Int} {off : Int} (tgt : Nat) (hd : decode q.2.1 pc = .ok (.ifCond .ne off, 3)) (ht : (pc : Int) + off = (tgt : Int)) (hx : rng x) (k : x ≠ 0 → wV G q mc ms sz M0 kc ks tgt lv st M Post) (k2 : x = 0 → wV G q mc ms sz M0 kc ks (pc + 3) lv st M Post) : wV G q mc ms sz M0 kc ks pc lv (.int (gI x) :: st) M Post := by
  intro p e s m args below meth c H locs ls C hsz hW hm hS hl
  have hy : rng 0 := ⟨by omega, by omega⟩
  have h0 : (0 : Int32) = gI 0 := rfl
  refine lv_if_ne C.1 C.2.1 hd ht (fun h => k ?_ p e s m args below meth c H locs ls C hsz hW hm hS hl) (fun h => k2 ?_ p e s m args below meth c H locs ls C hsz hW hm hS hl)
  all_goals (rw [h0] at h; first | (simp only [gI_inj hx hy, gI_inj hy hx, gI_lt hx hy, gI_lt hy hx, gI_le hx hy, gI_le hy hx, ne_eq, ge_iff_le, gt_iff_lt] at h ⊢; first | exact h | omega) )
theorem v_icmp_lt {x y : Int} {off : Int} (tgt : Nat) (hd : decode q.2.1 pc = .ok (.if_icmp .lt off, 3)) (ht : (pc : Int) + off = (tgt : Int)) (hx : rng x) (hy : rng y) (k : x < y → wV G q mc ms sz M0 kc ks tgt lv st M Post) (k2 : y ≤ x → wV G q mc ms sz M0 kc ks (pc + 3) lv st M Post) : wV G q mc ms sz M0 kc ks pc lv (.int (gI y) :: .int (gI x) :: st) M Post := by
  intro p e s m args below meth c H locs ls C hsz hW hm hS hl
  have ilt : ∀ {a b : Int}, rng a → rng b → (gI a < gI b ↔ a < b) := gI_lt
  have ile : ∀ {a b : Int}, rng a → rng b → (gI a ≤ gI b ↔ a ≤ b) := gI_le
  refine lv_icmp_lt C.1 C.2.1 hd ht (fun h => k ?_ p e s m args below meth c H locs ls C hsz hW hm hS hl) (fun h => k2 ?_ p e s m args below meth c H locs ls C hsz hW hm hS hl)
  all_goals (first | (simp only [gI_inj hx hy, gI_inj hy hx, gI_lt hx hy, gI_lt hy hx, gI_le hx hy, gI_le hy hx, ne_eq, ge_iff_le, gt_iff_lt] at h ⊢; first | exact h | omega) )
theorem v_if_lt {x : Int} {off : Int} (tgt : Nat) (hd : decode q.2.1 pc = .ok (.ifCond .lt off, 3)) (ht : (pc : Int) + off = (tgt : Int)) (hx : rng x) (k : x < 0 → wV G q mc ms sz M0 kc ks tgt lv st M Post) (k2 : 0 ≤ x → wV G q mc ms sz M0 kc ks (pc + 3) lv st M Post) : wV G q mc ms sz M0 kc ks pc lv (.int (gI x) :: st) M Post := by
  intro p e s m args below meth c H locs ls C hsz hW hm hS hl
  have hy : rng 0 := ⟨by omega, by omega⟩
  have h0 : (0 : Int32) = gI 0 := rfl
  refine lv_if_lt C.1 C.2.1 hd ht (fun h => k ?_ p e s m args below meth c H locs ls C hsz hW hm hS hl) (fun h => k2 ?_ p e s m args below meth c H locs ls C hsz hW hm hS hl)
  all_goals (rw [h0] at h; first | (simp only [gI_inj hx hy, gI_inj hy hx, gI_lt hx hy, gI_lt hy hx, gI_le hx hy, gI_le hy hx, ne_eq, ge_iff_le, gt_iff_lt] at h ⊢; first | exact h | omega) )
theorem v_icmp_ge {x y : Int} {off : Int} (tgt : Nat) (hd : decode q.2.1 pc = .ok (.if_icmp .ge off, 3)) (ht : (pc : Int) + off = (tgt : Int)) (hx : rng x) (hy : rng y) (k : y ≤ x → wV G q mc ms sz M0 kc ks tgt lv st M Post) (k2 : x < y → wV G q mc ms sz M0 kc ks (pc + 3) lv st M Post) : wV G q mc ms sz M0 kc ks pc lv (.int (gI y) :: .int (gI x) :: st) M Post := by
  intro p e s m args below meth c H locs ls C hsz hW hm hS hl
  have ilt : ∀ {a b : Int}, rng a → rng b → (gI a < gI b ↔ a < b) := gI_lt
  have ile : ∀ {a b : Int}, rng a → rng b → (gI a ≤ gI b ↔ a ≤ b) := gI_le
  refine lv_icmp_ge C.1 C.2.1 hd ht (fun h => k ?_ p e s m args below meth c H locs ls C hsz hW hm hS hl) (fun h => k2 ?_ p e s m args below meth c H locs ls C hsz hW hm hS hl)
  all_goals (first | (simp only [gI_inj hx hy, gI_inj hy hx, gI_lt hx hy, gI_lt hy hx, gI_le hx hy, gI_le hy hx, ne_eq, ge_iff_le, gt_iff_lt] at h ⊢; first | exact h | omega) )
theorem v_if_ge {x : Int} {off : Int} (tgt : Nat) (hd : decode q.2.1 pc = .ok (.ifCond .ge off, 3)) (ht : (pc : Int) + off = (tgt : Int)) (hx : rng x) (k : 0 ≤ x → wV G q mc ms sz M0 kc ks tgt lv st M Post) (k2 : x < 0 → wV G q mc ms sz M0 kc ks (pc + 3) lv st M Post) : wV G q mc ms sz M0 kc ks pc lv (.int (gI x) :: st) M Post := by
  intro p e s m args below meth c H locs ls C hsz hW hm hS hl
  have hy : rng 0 := ⟨by omega, by omega⟩
  have h0 : (0 : Int32) = gI 0 := rfl
  refine lv_if_ge C.1 C.2.1 hd ht (fun h => k ?_ p e s m args below meth c H locs ls C hsz hW hm hS hl) (fun h => k2 ?_ p e s m args below meth c H locs ls C hsz hW hm hS hl)
  all_goals (rw [h0] at h; first | (simp only [gI_inj hx hy, gI_inj hy hx, gI_lt hx hy, gI_lt hy hx, gI_le hx hy, gI_le hy hx, ne_eq, ge_iff_le, gt_iff_lt] at h ⊢; first | exact h | omega) )
theorem v_icmp_gt {x y : Int} {off : Int} (tgt : Nat) (hd : decode q.2.1 pc = .ok (.if_icmp .gt off, 3)) (ht : (pc : Int) + off = (tgt : Int)) (hx : rng x) (hy : rng y) (k : y < x → wV G q mc ms sz M0 kc ks tgt lv st M Post) (k2 : x ≤ y → wV G q mc ms sz M0 kc ks (pc + 3) lv st M Post) : wV G q mc ms sz M0 kc ks pc lv (.int (gI y) :: .int (gI x) :: st) M Post := by
  intro p e s m args below meth c H locs ls C hsz hW hm hS hl
  have ilt : ∀ {a b : Int}, rng a → rng b → (gI a < gI b ↔ a < b) := gI_lt
  have ile : ∀ {a b : Int}, rng a → rng b → (gI a ≤ gI b ↔ a ≤ b) := gI_le
  refine lv_icmp_gt C.1 C.2.1 hd ht (fun h => k ?_ p e s m args below meth c H locs ls C hsz hW hm hS hl) (fun h => k2 ?_ p e s m args below meth c H locs ls C hsz hW hm hS hl)
  all_goals (first | (simp only [gI_inj hx hy, gI_inj hy hx, gI_lt hx hy, gI_lt hy hx, gI_le hx hy, gI_le hy hx, ne_eq, ge_iff_le, gt_iff_lt] at h ⊢; first | exact h | omega) )
theorem v_if_gt {x : Int} {off : Int} (tgt : Nat) (hd : decode q.2.1 pc = .ok (.ifCond .gt off, 3)) (ht : (pc : Int) + off = (tgt : Int)) (hx : rng x) (k : 0 < x → wV G q mc ms sz M0 kc ks tgt lv st M Post) (k2 : x ≤ 0 → wV G q mc ms sz M0 kc ks (pc + 3) lv st M Post) : wV G q mc ms sz M0 kc ks pc lv (.int (gI x) :: st) M Post := by
  intro p e s m args below meth c H locs ls C hsz hW hm hS hl
  have hy : rng 0 := ⟨by omega, by omega⟩
  have h0 : (0 : Int32) = gI 0 := rfl
  refine lv_if_gt C.1 C.2.1 hd ht (fun h => k ?_ p e s m args below meth c H locs ls C hsz hW hm hS hl) (fun h => k2 ?_ p e s m args below meth c H locs ls C hsz hW hm hS hl)
  all_goals (rw [h0] at h; first | (simp only [gI_inj hx hy, gI_inj hy hx, gI_lt hx hy, gI_lt hy hx, gI_le hx hy, gI_le hy hx, ne_eq, ge_iff_le, gt_iff_lt] at h ⊢; first | exact h | omega) )
theorem v_icmp_le {x y : Int} {off : Int} (tgt : Nat) (hd : decode q.2.1 pc = .ok (.if_icmp .le off, 3)) (ht : (pc : Int) + off = (tgt : Int)) (hx : rng x) (hy : rng y) (k : x ≤ y → wV G q mc ms sz M0 kc ks tgt lv st M Post) (k2 : y < x → wV G q mc ms sz M0 kc ks (pc + 3) lv st M Post) : wV G q mc ms sz M0 kc ks pc lv (.int (gI y) :: .int (gI x) :: st) M Post := by
  intro p e s m args below meth c H locs ls C hsz hW hm hS hl
  have ilt : ∀ {a b : Int}, rng a → rng b → (gI a < gI b ↔ a < b) := gI_lt
  have ile : ∀ {a b : Int}, rng a → rng b → (gI a ≤ gI b ↔ a ≤ b) := gI_le
  refine lv_icmp_le C.1 C.2.1 hd ht (fun h => k ?_ p e s m args below meth c H locs ls C hsz hW hm hS hl) (fun h => k2 ?_ p e s m args below meth c H locs ls C hsz hW hm hS hl)
  all_goals (first | (simp only [gI_inj hx hy, gI_inj hy hx, gI_lt hx hy, gI_lt hy hx, gI_le hx hy, gI_le hy hx, ne_eq, ge_iff_le, gt_iff_lt] at h ⊢; first | exact h | omega) )
theorem v_if_le {x : Int} {off : Int} (tgt : Nat) (hd : decode q.2.1 pc = .ok (.ifCond .le off, 3)) (ht : (pc : Int) + off = (tgt : Int)) (hx : rng x) (k : x ≤ 0 → wV G q mc ms sz M0 kc ks tgt lv st M Post) (k2 : 0 < x → wV G q mc ms sz M0 kc ks (pc + 3) lv st M Post) : wV G q mc ms sz M0 kc ks pc lv (.int (gI x) :: st) M Post := by
  intro p e s m args below meth c H locs ls C hsz hW hm hS hl
  have hy : rng 0 := ⟨by omega, by omega⟩
  have h0 : (0 : Int32) = gI 0 := rfl
  refine lv_if_le C.1 C.2.1 hd ht (fun h => k ?_ p e s m args below meth c H locs ls C hsz hW hm hS hl) (fun h => k2 ?_ p e s m args below meth c H locs ls C hsz hW hm hS hl)
  all_goals (rw [h0] at h; first | (simp only [gI_inj hx hy, gI_inj hy hx, gI_lt hx hy, gI_lt hy hx, gI_le hx hy, gI_le hy hx, ne_eq, ge_iff_le, gt_iff_lt] at h ⊢; first | exact h | omega) )
theorem v_ldc {idx : Nat} {n : Int} (hd : decode q.2.1 pc = .ok (.ldc idx, 2)) (hw : Cond.constant q.1.cls idx (gI n) ∈ lw_good) (k : wV G q mc ms sz M0 kc ks (pc + 2) lv (.int (gI n) :: st) M Post) : wV G q mc ms sz M0 kc ks pc lv st M Post := by
  intro p e s m args below meth c H locs ls C hsz hW hm hS hl
  refine lv_ldc C.1 C.2.1 C.2.2.2.2.1 (C.2.2.2.2.2.1 _ (List.mem_cons_of_mem _ hw)) hd ?_
  exact k p e s m args below meth c H locs ls C hsz hW hm hS hl
theorem v_ldc2 {idx : Nat} {n : Int64} (hd : decode q.2.1 pc = .ok (.ldc2_w idx, 3)) (hw : Cond.constantLong q.1.cls idx n ∈ lw_good) (k : wV G q mc ms sz M0 kc ks (pc + 3) lv (.long n :: st) M Post) : wV G q mc ms sz M0 kc ks pc lv st M Post := by
  intro p e s m args below meth c H locs ls C hsz hW hm hS hl
  refine lv_ldc2 C.1 C.2.1 C.2.2.2.2.1 (C.2.2.2.2.2.1 _ (List.mem_cons_of_mem _ hw)) hd ?_
  exact k p e s m args below meth c H locs ls C hsz hW hm hS hl
end WRULES
