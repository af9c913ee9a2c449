theorem spI_past {D : Int → Prop} {l e N n f t x : Int} (h : spI D l e N n f t) (ht : e ≤ t) (hx : e ≤ x) : spI D l e N n f x := by
  unfold spI at h ⊢
  rw [show min t e = e by omega] at h
  rw [show min x e = e by omega]
  exact h
theorem ho_off {D : Int → Prop} {l e N n f t : Int} (hl : 1 ≤ l) (h : spI D l e N n f t) (ht : 0 ≤ t) (hD : e ≤ t ∨ ¬ D t) (hf : f < 0) : ∀ x, t < x → (t < e → ∀ v, t ≤ v → v < x → (D v ↔ D t)) → spI D l e N n f x := by
  intro x x1 x2
  rcases (show e ≤ t ∨ t < e by omega) with c | c
  · exact spI_past h c (by omega)
  · exact spI_off hl h ht c x1 (x2 c) (hD.elim (fun z => by omega) id) hf
theorem ho_end {D : Int → Prop} {l e N n f t : Int} (hl : 1 ≤ l) (h : spI D l e N n f t) (ht : t ≤ e) (hD : e ≤ t ∨ ¬ D t) (hf : 0 ≤ f) : (∀ x, t < x → (t < e → ∀ v, t ≤ v → v < x → (D v ↔ D t)) → spI D l e N (n + if l ≤ t - f then 1 else 0) (-1) x) ∧ (l ≤ t - f → spP D l e (n - N) f t) := by
  rcases (show e = t ∨ t < e by omega) with c | c
  · have z := spI_fin2 hl h (by omega) hf
    rw [c] at z
    exact ⟨fun x x1 _ => Or.inl ⟨rfl, by rw [show min x e = t by omega, z.1, c], Or.inr (Or.inl (by omega))⟩, fun q => by have y := z.2 q; rw [c]; exact y⟩
  · have hd := hD.elim (fun z => absurd z (by omega)) id
    refine ⟨fun x x1 x2 => (spI_end hl h c x1 (x2 c) hd hf).1, fun q => (spI_end (x := t + 1) hl h c (by omega) (fun u u1 u2 => by rw [show u = t by omega]) hd hf).2 q⟩
def zP (D : Int → Prop) (l e g h n z : Int) : Prop := 0 ≤ g → (n ≤ g ∧ z = -4) ∨ (g < n ∧ ∃ x y, spP D l e g x y ∧ z = (if h = 0 then x else y))
theorem zP_hit {D : Int → Prop} {l e g h n p t z : Int} (hn : n = g) (hs : spP D l e (n - 0) p t) (hz : z = (if h = 0 then p else t)) : zP D l e g h (n + 1) z := fun _ => Or.inr ⟨by omega, p, t, by rw [show n - 0 = g by omega] at hs; exact hs, hz⟩
theorem zP_no {D : Int → Prop} {l e g h n z : Int} (hn : n ≠ g) (q : zP D l e g h n z) : zP D l e g h (n + 1) z := fun h0 => (q h0).imp (fun y => ⟨by omega, y.2⟩) (fun y => ⟨by omega, y.2⟩)
def hoY (s : sG) (a b c d e t : Int) : Prop := vY s (12 * a + b).toNat t = c ∧ (b ≠ d → vY s (12 * a + d).toNat t ≠ e)
set_option maxHeartbeats 4000000 in
set_option maxRecDepth 100000 in
theorem fX7_holds_205 {sz : Nat} {M0 : wM} {G : gG} {fw : Nat → Nat → Nat} {s : sG} {M : wM} (hsY : srY s) (hY : wY G fw s M) {a b c d e f g h : Int} (hV : (bt 0 a 1 ∧ bt 0 b 11 ∧ bt 0 c 256 ∧ bt 0 d 11 ∧ bt 0 e 256 ∧ bt 1 f 4000 ∧ -1 ≤ g ∧ bt 0 h 1)) (hg : rng g) {n p z t : Int} (h1 : bt 0 t (s 0 0 0)) (hk : ∀ y, t < y → y ≤ 100000 → (t < s 0 0 0 → y ≤ s 0 0 0) → (t < s 0 0 0 → ∀ v, t ≤ v → v < y → ((hoY s a b c d e) v ↔ (hoY s a b c d e) t)) → wV G qX7_holds 0 0 sz M0 0 0 82 [(0, .ref (fw 0 0)), (1, .int (gI a)), (2, .int (gI b)), (3, .int (gI c)), (4, .int (gI d)), (5, .int (gI e)), (6, .int (gI f)), (7, .int (gI g)), (8, .int (gI h)), (9, .int (gI n)), (10, .int (gI p)), (11, .int (gI z)), (12, .int (gI y))] [] M (iP fun x M' => M' = M ∧ ((¬ (bt 0 a 1 ∧ bt 0 b 11 ∧ bt 0 c 256 ∧ bt 0 d 11 ∧ bt 0 e 256 ∧ bt 1 f 4000 ∧ -1 ≤ g ∧ bt 0 h 1) ∧ x = -1) ∨ ((bt 0 a 1 ∧ bt 0 b 11 ∧ bt 0 c 256 ∧ bt 0 d 11 ∧ bt 0 e 256 ∧ bt 1 f 4000 ∧ -1 ≤ g ∧ bt 0 h 1) ∧ hoP (hoY s a b c d e) f (s 0 0 0) g h x)))) : wV G qX7_holds 0 0 sz M0 0 0 205 [(0, .ref (fw 0 0)), (1, .int (gI a)), (2, .int (gI b)), (3, .int (gI c)), (4, .int (gI d)), (5, .int (gI e)), (6, .int (gI f)), (7, .int (gI g)), (8, .int (gI h)), (9, .int (gI n)), (10, .int (gI p)), (11, .int (gI z)), (12, .int (gI t))] [] M (iP fun x M' => M' = M ∧ ((¬ (bt 0 a 1 ∧ bt 0 b 11 ∧ bt 0 c 256 ∧ bt 0 d 11 ∧ bt 0 e 256 ∧ bt 1 f 4000 ∧ -1 ≤ g ∧ bt 0 h 1) ∧ x = -1) ∨ ((bt 0 a 1 ∧ bt 0 b 11 ∧ bt 0 c 256 ∧ bt 0 d 11 ∧ bt 0 e 256 ∧ bt 1 f 4000 ∧ -1 ≤ g ∧ bt 0 h 1) ∧ hoP (hoY s a b c d e) f (s 0 0 0) g h x))) := by
  have h0 := hY.2.2.1
  have hrw := hY.2.2.2.1
  have hnm := hY.2.2.2.2.1
  have hsh := hY.2.2.2.2.2.1
  have hmk := hY.2.2.2.2.2.2.1
  have hic := hY.2.2.2.2.2.2.2.1
  have hcn := hY.2.2.2.2.2.2.2.2.1
  have hgt := hY.2.2.2.2.2.2.2.2.2
  refine v_aloadn dX7_holds_205 rfl ?_
  refine v_iloadn dX7_holds_206 rfl ?_
  refine v_iloadn dX7_holds_207 rfl ?_
  refine v_iload dX7_holds_208 rfl ?_
  refine v_callV (fX7_nextChange hsY hY (by omega) (by omega) (by omega) (by omega)) lc_X7_103 ⟨(Nat.le_of_ble_eq_true rfl), (Nat.le_of_ble_eq_true rfl)⟩ dX7_holds_210 rfl rfl (Nat.le_of_ble_eq_true rfl) ⟨(Nat.le_of_ble_eq_true rfl), (Nat.le_of_ble_eq_true rfl)⟩ ⟨_, _, _, _, hY.2.1 0 0 (by decide), rfl⟩ (kP fun r210 hr210 hp210 => ?_)
  refine v_aloadn dX7_holds_213 rfl ?_
  refine v_iloadn dX7_holds_214 rfl ?_
  refine v_iload dX7_holds_215 rfl ?_
  refine v_iload dX7_holds_217 rfl ?_
  refine v_callV (fX7_nextChange hsY hY (by omega) (by omega) (by omega) (by omega)) lc_X7_103 ⟨(Nat.le_of_ble_eq_true rfl), (Nat.le_of_ble_eq_true rfl)⟩ dX7_holds_219 rfl rfl (Nat.le_of_ble_eq_true rfl) ⟨(Nat.le_of_ble_eq_true rfl), (Nat.le_of_ble_eq_true rfl)⟩ ⟨_, _, _, _, hY.2.1 0 0 (by decide), rfl⟩ (kP fun r219 hr219 hp219 => ?_)
  have hcc : ∀ v, t ≤ v → v < r210 → v < r219 → ((hoY s a b c d e) v ↔ (hoY s a b c d e) t) := fun v v1 v2 v3 => by unfold hoY; rw [hp210.2 v v1 v2, hp219.2 v v1 v3]
  refine v_callS (tX7_least (by omega) (by omega)) lc_X7_106 ⟨(Nat.le_of_ble_eq_true rfl), (Nat.le_of_ble_eq_true rfl)⟩ dX7_holds_222 rfl rfl (Nat.le_of_ble_eq_true rfl) ⟨(Nat.le_of_ble_eq_true rfl), (Nat.le_of_ble_eq_true rfl)⟩ (kP fun r222 hr222 hp222 => ?_)
  refine v_istore dX7_holds_225 (Nat.le_of_ble_eq_true rfl) ?_
  refine v_iload dX7_holds_227 rfl ?_
  refine v_aloadn dX7_holds_229 rfl ?_
  refine v_get dX7_holds_230 gf_X7_7 (hY.2.1 0 0 (by decide)) rfl ?_
  refine v_icmp_ge 252 dX7_holds_233 (by decide) (by omega) (by omega) (fun h233 => ?_) (fun h233 => ?_)
  · refine v_iload dX7_holds_252 rfl ?_
    refine v_istore dX7_holds_254 (Nat.le_of_ble_eq_true rfl) ?_
    refine v_goto 82 dX7_holds_256 (by decide) ?_
    refine wV.locs (lv' := [(0, .ref (fw 0 0)), (1, .int (gI a)), (2, .int (gI b)), (3, .int (gI c)), (4, .int (gI d)), (5, .int (gI e)), (6, .int (gI f)), (7, .int (gI g)), (8, .int (gI h)), (9, .int (gI n)), (10, .int (gI p)), (11, .int (gI z)), (12, .int (gI _))]) ⟨rfl, rfl, rfl, rfl, rfl, rfl, rfl, rfl, rfl, rfl, rfl, rfl, rfl, trivial⟩ (hk _ (by omega) (by omega) (by omega) (fun q v v1 v2 => hcc v v1 (by omega) (by omega)))
  · refine v_iload dX7_holds_236 rfl ?_
    refine v_aloadn dX7_holds_238 rfl ?_
    refine v_get dX7_holds_239 gf_X7_7 (hY.2.1 0 0 (by decide)) rfl ?_
    refine v_icmp_le 252 dX7_holds_242 (by decide) (by omega) (by omega) (fun h242 => ?_) (fun h242 => ?_)
    · refine v_iload dX7_holds_252 rfl ?_
      refine v_istore dX7_holds_254 (Nat.le_of_ble_eq_true rfl) ?_
      refine v_goto 82 dX7_holds_256 (by decide) ?_
      refine wV.locs (lv' := [(0, .ref (fw 0 0)), (1, .int (gI a)), (2, .int (gI b)), (3, .int (gI c)), (4, .int (gI d)), (5, .int (gI e)), (6, .int (gI f)), (7, .int (gI g)), (8, .int (gI h)), (9, .int (gI n)), (10, .int (gI p)), (11, .int (gI z)), (12, .int (gI _))]) ⟨rfl, rfl, rfl, rfl, rfl, rfl, rfl, rfl, rfl, rfl, rfl, rfl, rfl, trivial⟩ (hk _ (by omega) (by omega) (by omega) (fun q v v1 v2 => hcc v v1 (by omega) (by omega)))
    · refine v_aloadn dX7_holds_245 rfl ?_
      refine v_get dX7_holds_246 gf_X7_7 (hY.2.1 0 0 (by decide)) rfl ?_
      refine v_goto 254 dX7_holds_249 (by decide) ?_
      refine v_istore dX7_holds_254 (Nat.le_of_ble_eq_true rfl) ?_
      refine v_goto 82 dX7_holds_256 (by decide) ?_
      refine wV.locs (lv' := [(0, .ref (fw 0 0)), (1, .int (gI a)), (2, .int (gI b)), (3, .int (gI c)), (4, .int (gI d)), (5, .int (gI e)), (6, .int (gI f)), (7, .int (gI g)), (8, .int (gI h)), (9, .int (gI n)), (10, .int (gI p)), (11, .int (gI z)), (12, .int (gI _))]) ⟨rfl, rfl, rfl, rfl, rfl, rfl, rfl, rfl, rfl, rfl, rfl, rfl, rfl, trivial⟩ (hk _ (by omega) (by omega) (by omega) (fun q v v1 v2 => hcc v v1 (by omega) (by omega)))
set_option maxHeartbeats 4000000 in
set_option maxRecDepth 100000 in
theorem fX7_holds_139 {sz : Nat} {M0 : wM} {G : gG} {fw : Nat → Nat → Nat} {s : sG} {M : wM} (hsY : srY s) (hY : wY G fw s M) {a b c d e f g h : Int} (hV : (bt 0 a 1 ∧ bt 0 b 11 ∧ bt 0 c 256 ∧ bt 0 d 11 ∧ bt 0 e 256 ∧ bt 1 f 4000 ∧ -1 ≤ g ∧ bt 0 h 1)) (hg : rng g) {n p z t u : Int} (h1 : bt 0 t (s 0 0 0)) (hS : spI (hoY s a b c d e) f (s 0 0 0) 0 n p t) (hZ : zP (hoY s a b c d e) f (s 0 0 0) g h n z) (h4 : bt (-4) z 4000) (hu : (u = 1 ∧ t < s 0 0 0 ∧ (hoY s a b c d e) t) ∨ (u = 0 ∧ (s 0 0 0 ≤ t ∨ ¬ (hoY s a b c d e) t))) (hk : ∀ nn pp zz, bt 0 nn 4001 → bt (-1) pp 4000 → bt (-4) zz 4000 → (∀ y, t < y → (t < s 0 0 0 → ∀ v, t ≤ v → v < y → ((hoY s a b c d e) v ↔ (hoY s a b c d e) t)) → spI (hoY s a b c d e) f (s 0 0 0) 0 nn pp y) → (t = s 0 0 0 → pp = -1) → zP (hoY s a b c d e) f (s 0 0 0) g h nn zz → wV G qX7_holds 0 0 sz M0 0 0 205 [(0, .ref (fw 0 0)), (1, .int (gI a)), (2, .int (gI b)), (3, .int (gI c)), (4, .int (gI d)), (5, .int (gI e)), (6, .int (gI f)), (7, .int (gI g)), (8, .int (gI h)), (9, .int (gI nn)), (10, .int (gI pp)), (11, .int (gI zz)), (12, .int (gI t))] [] M (iP fun x M' => M' = M ∧ ((¬ (bt 0 a 1 ∧ bt 0 b 11 ∧ bt 0 c 256 ∧ bt 0 d 11 ∧ bt 0 e 256 ∧ bt 1 f 4000 ∧ -1 ≤ g ∧ bt 0 h 1) ∧ x = -1) ∨ ((bt 0 a 1 ∧ bt 0 b 11 ∧ bt 0 c 256 ∧ bt 0 d 11 ∧ bt 0 e 256 ∧ bt 1 f 4000 ∧ -1 ≤ g ∧ bt 0 h 1) ∧ hoP (hoY s a b c d e) f (s 0 0 0) g h x)))) : wV G qX7_holds 0 0 sz M0 0 0 139 [(0, .ref (fw 0 0)), (1, .int (gI a)), (2, .int (gI b)), (3, .int (gI c)), (4, .int (gI d)), (5, .int (gI e)), (6, .int (gI f)), (7, .int (gI g)), (8, .int (gI h)), (9, .int (gI n)), (10, .int (gI p)), (11, .int (gI z)), (12, .int (gI t)), (13, .int (gI u))] [] M (iP fun x M' => M' = M ∧ ((¬ (bt 0 a 1 ∧ bt 0 b 11 ∧ bt 0 c 256 ∧ bt 0 d 11 ∧ bt 0 e 256 ∧ bt 1 f 4000 ∧ -1 ≤ g ∧ bt 0 h 1) ∧ x = -1) ∨ ((bt 0 a 1 ∧ bt 0 b 11 ∧ bt 0 c 256 ∧ bt 0 d 11 ∧ bt 0 e 256 ∧ bt 1 f 4000 ∧ -1 ≤ g ∧ bt 0 h 1) ∧ hoP (hoY s a b c d e) f (s 0 0 0) g h x))) := by
  have h0 := hY.2.2.1
  have hrw := hY.2.2.2.1
  have hnm := hY.2.2.2.2.1
  have hsh := hY.2.2.2.2.2.1
  have hmk := hY.2.2.2.2.2.2.1
  have hic := hY.2.2.2.2.2.2.2.1
  have hcn := hY.2.2.2.2.2.2.2.2.1
  have hgt := hY.2.2.2.2.2.2.2.2.2
  have hrg := spI_rg hS h1.1 (by omega)
  have hlt := spI_lt hS
  have hub : u = 0 ∨ u = 1 := hu.elim (fun q => Or.inr q.1) (fun q => Or.inl q.1)
  have hd1 : u ≠ 0 → (hoY s a b c d e) t := fun q => hu.elim (fun y => y.2.2) (fun y => absurd y.1 q)
  have hd2 : u ≠ 0 → t < s 0 0 0 := fun q => hu.elim (fun y => y.2.1) (fun y => absurd y.1 q)
  have hd0 : u = 0 → (s 0 0 0 ≤ t ∨ ¬ (hoY s a b c d e) t) := fun q => hu.elim (fun y => absurd y.1 (by omega)) (fun y => y.2)
  clear hu
  refine v_iload dX7_holds_139 rfl ?_
  refine v_if_eq 153 dX7_holds_141 (by decide) (by omega) (fun h141 => ?_) (fun h141 => ?_)
  · refine v_iload dX7_holds_153 rfl ?_
    refine v_if_ne 205 dX7_holds_155 (by decide) (by omega) (fun h155 => ?_) (fun h155 => ?_)
    · refine wV.locs (lv' := [(0, .ref (fw 0 0)), (1, .int (gI a)), (2, .int (gI b)), (3, .int (gI c)), (4, .int (gI d)), (5, .int (gI e)), (6, .int (gI f)), (7, .int (gI g)), (8, .int (gI h)), (9, .int (gI _)), (10, .int (gI _)), (11, .int (gI _)), (12, .int (gI t))]) ⟨rfl, rfl, rfl, rfl, rfl, rfl, rfl, rfl, rfl, rfl, rfl, rfl, rfl, trivial⟩ (hk _ _ _ (by omega) (by omega) (by omega) (by first | exact fun y y1 y2 => spI_on1 hS h1.1 (by omega) y1 (y2 (by omega)) (hd1 (by omega)) (by omega) | exact fun y y1 y2 => spI_on2 hS (by omega) y1 (y2 (by omega)) (hd1 (by omega)) (by omega) | exact ho_off (by omega) hS h1.1 (hd0 (by omega)) (by omega) | (have q := (ho_end (by omega) hS h1.2 (hd0 (by omega)) (by omega)).1; rw [if_pos (by omega)] at q; exact q) | (have q := (ho_end (by omega) hS h1.2 (hd0 (by omega)) (by omega)).1; rw [if_neg (by omega), Int.add_zero] at q; exact q)) (fun q => by first | omega | exact absurd (hd2 (by omega)) (by omega)) (by first | exact hZ | exact zP_no (by omega) hZ | exact zP_hit (by omega) ((ho_end (by omega) hS h1.2 (hd0 (by omega)) (by omega)).2 (by omega)) (by first | (exfalso; omega) | rw [if_pos (by omega)] | rw [if_neg (by omega)])))
    · refine v_iload dX7_holds_158 rfl ?_
      refine v_if_lt 205 dX7_holds_160 (by decide) (by omega) (fun h160 => ?_) (fun h160 => ?_)
      · refine wV.locs (lv' := [(0, .ref (fw 0 0)), (1, .int (gI a)), (2, .int (gI b)), (3, .int (gI c)), (4, .int (gI d)), (5, .int (gI e)), (6, .int (gI f)), (7, .int (gI g)), (8, .int (gI h)), (9, .int (gI _)), (10, .int (gI _)), (11, .int (gI _)), (12, .int (gI t))]) ⟨rfl, rfl, rfl, rfl, rfl, rfl, rfl, rfl, rfl, rfl, rfl, rfl, rfl, trivial⟩ (hk _ _ _ (by omega) (by omega) (by omega) (by first | exact fun y y1 y2 => spI_on1 hS h1.1 (by omega) y1 (y2 (by omega)) (hd1 (by omega)) (by omega) | exact fun y y1 y2 => spI_on2 hS (by omega) y1 (y2 (by omega)) (hd1 (by omega)) (by omega) | exact ho_off (by omega) hS h1.1 (hd0 (by omega)) (by omega) | (have q := (ho_end (by omega) hS h1.2 (hd0 (by omega)) (by omega)).1; rw [if_pos (by omega)] at q; exact q) | (have q := (ho_end (by omega) hS h1.2 (hd0 (by omega)) (by omega)).1; rw [if_neg (by omega), Int.add_zero] at q; exact q)) (fun q => by first | omega | exact absurd (hd2 (by omega)) (by omega)) (by first | exact hZ | exact zP_no (by omega) hZ | exact zP_hit (by omega) ((ho_end (by omega) hS h1.2 (hd0 (by omega)) (by omega)).2 (by omega)) (by first | (exfalso; omega) | rw [if_pos (by omega)] | rw [if_neg (by omega)])))
      · refine v_iload dX7_holds_163 rfl ?_
        refine v_iload dX7_holds_165 rfl ?_
        refine v_isub dX7_holds_167 ?_
        refine v_iload dX7_holds_168 rfl ?_
        refine v_icmp_lt 202 dX7_holds_170 (by decide) (by omega) (by omega) (fun h170 => ?_) (fun h170 => ?_)
        · refine v_iconst dX7_holds_202 ?_
          refine v_istore dX7_holds_203 (Nat.le_of_ble_eq_true rfl) ?_
          refine wV.locs (lv' := [(0, .ref (fw 0 0)), (1, .int (gI a)), (2, .int (gI b)), (3, .int (gI c)), (4, .int (gI d)), (5, .int (gI e)), (6, .int (gI f)), (7, .int (gI g)), (8, .int (gI h)), (9, .int (gI _)), (10, .int (gI _)), (11, .int (gI _)), (12, .int (gI t))]) ⟨rfl, rfl, rfl, rfl, rfl, rfl, rfl, rfl, rfl, rfl, rfl, rfl, rfl, trivial⟩ (hk _ _ _ (by omega) (by omega) (by omega) (by first | exact fun y y1 y2 => spI_on1 hS h1.1 (by omega) y1 (y2 (by omega)) (hd1 (by omega)) (by omega) | exact fun y y1 y2 => spI_on2 hS (by omega) y1 (y2 (by omega)) (hd1 (by omega)) (by omega) | exact ho_off (by omega) hS h1.1 (hd0 (by omega)) (by omega) | (have q := (ho_end (by omega) hS h1.2 (hd0 (by omega)) (by omega)).1; rw [if_pos (by omega)] at q; exact q) | (have q := (ho_end (by omega) hS h1.2 (hd0 (by omega)) (by omega)).1; rw [if_neg (by omega), Int.add_zero] at q; exact q)) (fun q => by first | omega | exact absurd (hd2 (by omega)) (by omega)) (by first | exact hZ | exact zP_no (by omega) hZ | exact zP_hit (by omega) ((ho_end (by omega) hS h1.2 (hd0 (by omega)) (by omega)).2 (by omega)) (by first | (exfalso; omega) | rw [if_pos (by omega)] | rw [if_neg (by omega)])))
        · refine v_iload dX7_holds_173 rfl ?_
          refine v_iload dX7_holds_175 rfl ?_
          refine v_icmp_ne 195 dX7_holds_177 (by decide) (by omega) (by omega) (fun h177 => ?_) (fun h177 => ?_)
          · refine v_iload dX7_holds_195 rfl ?_
            refine v_istore dX7_holds_197 (Nat.le_of_ble_eq_true rfl) ?_
            refine v_iinc dX7_holds_199 rfl (Nat.le_of_ble_eq_true rfl) ?_
            refine v_iconst dX7_holds_202 ?_
            refine v_istore dX7_holds_203 (Nat.le_of_ble_eq_true rfl) ?_
            refine wV.locs (lv' := [(0, .ref (fw 0 0)), (1, .int (gI a)), (2, .int (gI b)), (3, .int (gI c)), (4, .int (gI d)), (5, .int (gI e)), (6, .int (gI f)), (7, .int (gI g)), (8, .int (gI h)), (9, .int (gI _)), (10, .int (gI _)), (11, .int (gI _)), (12, .int (gI t))]) ⟨rfl, rfl, rfl, rfl, rfl, rfl, rfl, rfl, rfl, rfl, rfl, rfl, rfl, trivial⟩ (hk _ _ _ (by omega) (by omega) (by omega) (by first | exact fun y y1 y2 => spI_on1 hS h1.1 (by omega) y1 (y2 (by omega)) (hd1 (by omega)) (by omega) | exact fun y y1 y2 => spI_on2 hS (by omega) y1 (y2 (by omega)) (hd1 (by omega)) (by omega) | exact ho_off (by omega) hS h1.1 (hd0 (by omega)) (by omega) | (have q := (ho_end (by omega) hS h1.2 (hd0 (by omega)) (by omega)).1; rw [if_pos (by omega)] at q; exact q) | (have q := (ho_end (by omega) hS h1.2 (hd0 (by omega)) (by omega)).1; rw [if_neg (by omega), Int.add_zero] at q; exact q)) (fun q => by first | omega | exact absurd (hd2 (by omega)) (by omega)) (by first | exact hZ | exact zP_no (by omega) hZ | exact zP_hit (by omega) ((ho_end (by omega) hS h1.2 (hd0 (by omega)) (by omega)).2 (by omega)) (by first | (exfalso; omega) | rw [if_pos (by omega)] | rw [if_neg (by omega)])))
          · refine v_iload dX7_holds_180 rfl ?_
            refine v_if_ne 190 dX7_holds_182 (by decide) (by omega) (fun h182 => ?_) (fun h182 => ?_)
            · refine v_iload dX7_holds_190 rfl ?_
              refine v_goto 197 dX7_holds_192 (by decide) ?_
              refine v_istore dX7_holds_197 (Nat.le_of_ble_eq_true rfl) ?_
              refine v_iinc dX7_holds_199 rfl (Nat.le_of_ble_eq_true rfl) ?_
              refine v_iconst dX7_holds_202 ?_
              refine v_istore dX7_holds_203 (Nat.le_of_ble_eq_true rfl) ?_
              refine wV.locs (lv' := [(0, .ref (fw 0 0)), (1, .int (gI a)), (2, .int (gI b)), (3, .int (gI c)), (4, .int (gI d)), (5, .int (gI e)), (6, .int (gI f)), (7, .int (gI g)), (8, .int (gI h)), (9, .int (gI _)), (10, .int (gI _)), (11, .int (gI _)), (12, .int (gI t))]) ⟨rfl, rfl, rfl, rfl, rfl, rfl, rfl, rfl, rfl, rfl, rfl, rfl, rfl, trivial⟩ (hk _ _ _ (by omega) (by omega) (by omega) (by first | exact fun y y1 y2 => spI_on1 hS h1.1 (by omega) y1 (y2 (by omega)) (hd1 (by omega)) (by omega) | exact fun y y1 y2 => spI_on2 hS (by omega) y1 (y2 (by omega)) (hd1 (by omega)) (by omega) | exact ho_off (by omega) hS h1.1 (hd0 (by omega)) (by omega) | (have q := (ho_end (by omega) hS h1.2 (hd0 (by omega)) (by omega)).1; rw [if_pos (by omega)] at q; exact q) | (have q := (ho_end (by omega) hS h1.2 (hd0 (by omega)) (by omega)).1; rw [if_neg (by omega), Int.add_zero] at q; exact q)) (fun q => by first | omega | exact absurd (hd2 (by omega)) (by omega)) (by first | exact hZ | exact zP_no (by omega) hZ | exact zP_hit (by omega) ((ho_end (by omega) hS h1.2 (hd0 (by omega)) (by omega)).2 (by omega)) (by first | (exfalso; omega) | rw [if_pos (by omega)] | rw [if_neg (by omega)])))
            · refine v_iload dX7_holds_185 rfl ?_
              refine v_goto 197 dX7_holds_187 (by decide) ?_
              refine v_istore dX7_holds_197 (Nat.le_of_ble_eq_true rfl) ?_
              refine v_iinc dX7_holds_199 rfl (Nat.le_of_ble_eq_true rfl) ?_
              refine v_iconst dX7_holds_202 ?_
              refine v_istore dX7_holds_203 (Nat.le_of_ble_eq_true rfl) ?_
              refine wV.locs (lv' := [(0, .ref (fw 0 0)), (1, .int (gI a)), (2, .int (gI b)), (3, .int (gI c)), (4, .int (gI d)), (5, .int (gI e)), (6, .int (gI f)), (7, .int (gI g)), (8, .int (gI h)), (9, .int (gI _)), (10, .int (gI _)), (11, .int (gI _)), (12, .int (gI t))]) ⟨rfl, rfl, rfl, rfl, rfl, rfl, rfl, rfl, rfl, rfl, rfl, rfl, rfl, trivial⟩ (hk _ _ _ (by omega) (by omega) (by omega) (by first | exact fun y y1 y2 => spI_on1 hS h1.1 (by omega) y1 (y2 (by omega)) (hd1 (by omega)) (by omega) | exact fun y y1 y2 => spI_on2 hS (by omega) y1 (y2 (by omega)) (hd1 (by omega)) (by omega) | exact ho_off (by omega) hS h1.1 (hd0 (by omega)) (by omega) | (have q := (ho_end (by omega) hS h1.2 (hd0 (by omega)) (by omega)).1; rw [if_pos (by omega)] at q; exact q) | (have q := (ho_end (by omega) hS h1.2 (hd0 (by omega)) (by omega)).1; rw [if_neg (by omega), Int.add_zero] at q; exact q)) (fun q => by first | omega | exact absurd (hd2 (by omega)) (by omega)) (by first | exact hZ | exact zP_no (by omega) hZ | exact zP_hit (by omega) ((ho_end (by omega) hS h1.2 (hd0 (by omega)) (by omega)).2 (by omega)) (by first | (exfalso; omega) | rw [if_pos (by omega)] | rw [if_neg (by omega)])))
  · refine v_iload dX7_holds_144 rfl ?_
    refine v_if_ge 153 dX7_holds_146 (by decide) (by omega) (fun h146 => ?_) (fun h146 => ?_)
    · refine v_iload dX7_holds_153 rfl ?_
      refine v_if_ne 205 dX7_holds_155 (by decide) (by omega) (fun h155 => ?_) (fun h155 => ?_)
      · refine wV.locs (lv' := [(0, .ref (fw 0 0)), (1, .int (gI a)), (2, .int (gI b)), (3, .int (gI c)), (4, .int (gI d)), (5, .int (gI e)), (6, .int (gI f)), (7, .int (gI g)), (8, .int (gI h)), (9, .int (gI _)), (10, .int (gI _)), (11, .int (gI _)), (12, .int (gI t))]) ⟨rfl, rfl, rfl, rfl, rfl, rfl, rfl, rfl, rfl, rfl, rfl, rfl, rfl, trivial⟩ (hk _ _ _ (by omega) (by omega) (by omega) (by first | exact fun y y1 y2 => spI_on1 hS h1.1 (by omega) y1 (y2 (by omega)) (hd1 (by omega)) (by omega) | exact fun y y1 y2 => spI_on2 hS (by omega) y1 (y2 (by omega)) (hd1 (by omega)) (by omega) | exact ho_off (by omega) hS h1.1 (hd0 (by omega)) (by omega) | (have q := (ho_end (by omega) hS h1.2 (hd0 (by omega)) (by omega)).1; rw [if_pos (by omega)] at q; exact q) | (have q := (ho_end (by omega) hS h1.2 (hd0 (by omega)) (by omega)).1; rw [if_neg (by omega), Int.add_zero] at q; exact q)) (fun q => by first | omega | exact absurd (hd2 (by omega)) (by omega)) (by first | exact hZ | exact zP_no (by omega) hZ | exact zP_hit (by omega) ((ho_end (by omega) hS h1.2 (hd0 (by omega)) (by omega)).2 (by omega)) (by first | (exfalso; omega) | rw [if_pos (by omega)] | rw [if_neg (by omega)])))
      · refine v_iload dX7_holds_158 rfl ?_
        refine v_if_lt 205 dX7_holds_160 (by decide) (by omega) (fun h160 => ?_) (fun h160 => ?_)
        · refine wV.locs (lv' := [(0, .ref (fw 0 0)), (1, .int (gI a)), (2, .int (gI b)), (3, .int (gI c)), (4, .int (gI d)), (5, .int (gI e)), (6, .int (gI f)), (7, .int (gI g)), (8, .int (gI h)), (9, .int (gI _)), (10, .int (gI _)), (11, .int (gI _)), (12, .int (gI t))]) ⟨rfl, rfl, rfl, rfl, rfl, rfl, rfl, rfl, rfl, rfl, rfl, rfl, rfl, trivial⟩ (hk _ _ _ (by omega) (by omega) (by omega) (by first | exact fun y y1 y2 => spI_on1 hS h1.1 (by omega) y1 (y2 (by omega)) (hd1 (by omega)) (by omega) | exact fun y y1 y2 => spI_on2 hS (by omega) y1 (y2 (by omega)) (hd1 (by omega)) (by omega) | exact ho_off (by omega) hS h1.1 (hd0 (by omega)) (by omega) | (have q := (ho_end (by omega) hS h1.2 (hd0 (by omega)) (by omega)).1; rw [if_pos (by omega)] at q; exact q) | (have q := (ho_end (by omega) hS h1.2 (hd0 (by omega)) (by omega)).1; rw [if_neg (by omega), Int.add_zero] at q; exact q)) (fun q => by first | omega | exact absurd (hd2 (by omega)) (by omega)) (by first | exact hZ | exact zP_no (by omega) hZ | exact zP_hit (by omega) ((ho_end (by omega) hS h1.2 (hd0 (by omega)) (by omega)).2 (by omega)) (by first | (exfalso; omega) | rw [if_pos (by omega)] | rw [if_neg (by omega)])))
        · refine v_iload dX7_holds_163 rfl ?_
          refine v_iload dX7_holds_165 rfl ?_
          refine v_isub dX7_holds_167 ?_
          refine v_iload dX7_holds_168 rfl ?_
          refine v_icmp_lt 202 dX7_holds_170 (by decide) (by omega) (by omega) (fun h170 => ?_) (fun h170 => ?_)
          · refine v_iconst dX7_holds_202 ?_
            refine v_istore dX7_holds_203 (Nat.le_of_ble_eq_true rfl) ?_
            refine wV.locs (lv' := [(0, .ref (fw 0 0)), (1, .int (gI a)), (2, .int (gI b)), (3, .int (gI c)), (4, .int (gI d)), (5, .int (gI e)), (6, .int (gI f)), (7, .int (gI g)), (8, .int (gI h)), (9, .int (gI _)), (10, .int (gI _)), (11, .int (gI _)), (12, .int (gI t))]) ⟨rfl, rfl, rfl, rfl, rfl, rfl, rfl, rfl, rfl, rfl, rfl, rfl, rfl, trivial⟩ (hk _ _ _ (by omega) (by omega) (by omega) (by first | exact fun y y1 y2 => spI_on1 hS h1.1 (by omega) y1 (y2 (by omega)) (hd1 (by omega)) (by omega) | exact fun y y1 y2 => spI_on2 hS (by omega) y1 (y2 (by omega)) (hd1 (by omega)) (by omega) | exact ho_off (by omega) hS h1.1 (hd0 (by omega)) (by omega) | (have q := (ho_end (by omega) hS h1.2 (hd0 (by omega)) (by omega)).1; rw [if_pos (by omega)] at q; exact q) | (have q := (ho_end (by omega) hS h1.2 (hd0 (by omega)) (by omega)).1; rw [if_neg (by omega), Int.add_zero] at q; exact q)) (fun q => by first | omega | exact absurd (hd2 (by omega)) (by omega)) (by first | exact hZ | exact zP_no (by omega) hZ | exact zP_hit (by omega) ((ho_end (by omega) hS h1.2 (hd0 (by omega)) (by omega)).2 (by omega)) (by first | (exfalso; omega) | rw [if_pos (by omega)] | rw [if_neg (by omega)])))
          · refine v_iload dX7_holds_173 rfl ?_
            refine v_iload dX7_holds_175 rfl ?_
            refine v_icmp_ne 195 dX7_holds_177 (by decide) (by omega) (by omega) (fun h177 => ?_) (fun h177 => ?_)
            · refine v_iload dX7_holds_195 rfl ?_
              refine v_istore dX7_holds_197 (Nat.le_of_ble_eq_true rfl) ?_
              refine v_iinc dX7_holds_199 rfl (Nat.le_of_ble_eq_true rfl) ?_
              refine v_iconst dX7_holds_202 ?_
              refine v_istore dX7_holds_203 (Nat.le_of_ble_eq_true rfl) ?_
              refine wV.locs (lv' := [(0, .ref (fw 0 0)), (1, .int (gI a)), (2, .int (gI b)), (3, .int (gI c)), (4, .int (gI d)), (5, .int (gI e)), (6, .int (gI f)), (7, .int (gI g)), (8, .int (gI h)), (9, .int (gI _)), (10, .int (gI _)), (11, .int (gI _)), (12, .int (gI t))]) ⟨rfl, rfl, rfl, rfl, rfl, rfl, rfl, rfl, rfl, rfl, rfl, rfl, rfl, trivial⟩ (hk _ _ _ (by omega) (by omega) (by omega) (by first | exact fun y y1 y2 => spI_on1 hS h1.1 (by omega) y1 (y2 (by omega)) (hd1 (by omega)) (by omega) | exact fun y y1 y2 => spI_on2 hS (by omega) y1 (y2 (by omega)) (hd1 (by omega)) (by omega) | exact ho_off (by omega) hS h1.1 (hd0 (by omega)) (by omega) | (have q := (ho_end (by omega) hS h1.2 (hd0 (by omega)) (by omega)).1; rw [if_pos (by omega)] at q; exact q) | (have q := (ho_end (by omega) hS h1.2 (hd0 (by omega)) (by omega)).1; rw [if_neg (by omega), Int.add_zero] at q; exact q)) (fun q => by first | omega | exact absurd (hd2 (by omega)) (by omega)) (by first | exact hZ | exact zP_no (by omega) hZ | exact zP_hit (by omega) ((ho_end (by omega) hS h1.2 (hd0 (by omega)) (by omega)).2 (by omega)) (by first | (exfalso; omega) | rw [if_pos (by omega)] | rw [if_neg (by omega)])))
            · refine v_iload dX7_holds_180 rfl ?_
              refine v_if_ne 190 dX7_holds_182 (by decide) (by omega) (fun h182 => ?_) (fun h182 => ?_)
              · refine v_iload dX7_holds_190 rfl ?_
                refine v_goto 197 dX7_holds_192 (by decide) ?_
                refine v_istore dX7_holds_197 (Nat.le_of_ble_eq_true rfl) ?_
                refine v_iinc dX7_holds_199 rfl (Nat.le_of_ble_eq_true rfl) ?_
                refine v_iconst dX7_holds_202 ?_
                refine v_istore dX7_holds_203 (Nat.le_of_ble_eq_true rfl) ?_
                refine wV.locs (lv' := [(0, .ref (fw 0 0)), (1, .int (gI a)), (2, .int (gI b)), (3, .int (gI c)), (4, .int (gI d)), (5, .int (gI e)), (6, .int (gI f)), (7, .int (gI g)), (8, .int (gI h)), (9, .int (gI _)), (10, .int (gI _)), (11, .int (gI _)), (12, .int (gI t))]) ⟨rfl, rfl, rfl, rfl, rfl, rfl, rfl, rfl, rfl, rfl, rfl, rfl, rfl, trivial⟩ (hk _ _ _ (by omega) (by omega) (by omega) (by first | exact fun y y1 y2 => spI_on1 hS h1.1 (by omega) y1 (y2 (by omega)) (hd1 (by omega)) (by omega) | exact fun y y1 y2 => spI_on2 hS (by omega) y1 (y2 (by omega)) (hd1 (by omega)) (by omega) | exact ho_off (by omega) hS h1.1 (hd0 (by omega)) (by omega) | (have q := (ho_end (by omega) hS h1.2 (hd0 (by omega)) (by omega)).1; rw [if_pos (by omega)] at q; exact q) | (have q := (ho_end (by omega) hS h1.2 (hd0 (by omega)) (by omega)).1; rw [if_neg (by omega), Int.add_zero] at q; exact q)) (fun q => by first | omega | exact absurd (hd2 (by omega)) (by omega)) (by first | exact hZ | exact zP_no (by omega) hZ | exact zP_hit (by omega) ((ho_end (by omega) hS h1.2 (hd0 (by omega)) (by omega)).2 (by omega)) (by first | (exfalso; omega) | rw [if_pos (by omega)] | rw [if_neg (by omega)])))
              · refine v_iload dX7_holds_185 rfl ?_
                refine v_goto 197 dX7_holds_187 (by decide) ?_
                refine v_istore dX7_holds_197 (Nat.le_of_ble_eq_true rfl) ?_
                refine v_iinc dX7_holds_199 rfl (Nat.le_of_ble_eq_true rfl) ?_
                refine v_iconst dX7_holds_202 ?_
                refine v_istore dX7_holds_203 (Nat.le_of_ble_eq_true rfl) ?_
                refine wV.locs (lv' := [(0, .ref (fw 0 0)), (1, .int (gI a)), (2, .int (gI b)), (3, .int (gI c)), (4, .int (gI d)), (5, .int (gI e)), (6, .int (gI f)), (7, .int (gI g)), (8, .int (gI h)), (9, .int (gI _)), (10, .int (gI _)), (11, .int (gI _)), (12, .int (gI t))]) ⟨rfl, rfl, rfl, rfl, rfl, rfl, rfl, rfl, rfl, rfl, rfl, rfl, rfl, trivial⟩ (hk _ _ _ (by omega) (by omega) (by omega) (by first | exact fun y y1 y2 => spI_on1 hS h1.1 (by omega) y1 (y2 (by omega)) (hd1 (by omega)) (by omega) | exact fun y y1 y2 => spI_on2 hS (by omega) y1 (y2 (by omega)) (hd1 (by omega)) (by omega) | exact ho_off (by omega) hS h1.1 (hd0 (by omega)) (by omega) | (have q := (ho_end (by omega) hS h1.2 (hd0 (by omega)) (by omega)).1; rw [if_pos (by omega)] at q; exact q) | (have q := (ho_end (by omega) hS h1.2 (hd0 (by omega)) (by omega)).1; rw [if_neg (by omega), Int.add_zero] at q; exact q)) (fun q => by first | omega | exact absurd (hd2 (by omega)) (by omega)) (by first | exact hZ | exact zP_no (by omega) hZ | exact zP_hit (by omega) ((ho_end (by omega) hS h1.2 (hd0 (by omega)) (by omega)).2 (by omega)) (by first | (exfalso; omega) | rw [if_pos (by omega)] | rw [if_neg (by omega)])))
    · refine v_iload dX7_holds_149 rfl ?_
      refine v_istore dX7_holds_151 (Nat.le_of_ble_eq_true rfl) ?_
      refine v_iload dX7_holds_153 rfl ?_
      refine v_if_ne 205 dX7_holds_155 (by decide) (by omega) (fun h155 => ?_) (fun h155 => ?_)
      · refine wV.locs (lv' := [(0, .ref (fw 0 0)), (1, .int (gI a)), (2, .int (gI b)), (3, .int (gI c)), (4, .int (gI d)), (5, .int (gI e)), (6, .int (gI f)), (7, .int (gI g)), (8, .int (gI h)), (9, .int (gI _)), (10, .int (gI _)), (11, .int (gI _)), (12, .int (gI t))]) ⟨rfl, rfl, rfl, rfl, rfl, rfl, rfl, rfl, rfl, rfl, rfl, rfl, rfl, trivial⟩ (hk _ _ _ (by omega) (by omega) (by omega) (by first | exact fun y y1 y2 => spI_on1 hS h1.1 (by omega) y1 (y2 (by omega)) (hd1 (by omega)) (by omega) | exact fun y y1 y2 => spI_on2 hS (by omega) y1 (y2 (by omega)) (hd1 (by omega)) (by omega) | exact ho_off (by omega) hS h1.1 (hd0 (by omega)) (by omega) | (have q := (ho_end (by omega) hS h1.2 (hd0 (by omega)) (by omega)).1; rw [if_pos (by omega)] at q; exact q) | (have q := (ho_end (by omega) hS h1.2 (hd0 (by omega)) (by omega)).1; rw [if_neg (by omega), Int.add_zero] at q; exact q)) (fun q => by first | omega | exact absurd (hd2 (by omega)) (by omega)) (by first | exact hZ | exact zP_no (by omega) hZ | exact zP_hit (by omega) ((ho_end (by omega) hS h1.2 (hd0 (by omega)) (by omega)).2 (by omega)) (by first | (exfalso; omega) | rw [if_pos (by omega)] | rw [if_neg (by omega)])))
      · refine v_iload dX7_holds_158 rfl ?_
        refine v_if_lt 205 dX7_holds_160 (by decide) (by omega) (fun h160 => ?_) (fun h160 => ?_)
        · refine wV.locs (lv' := [(0, .ref (fw 0 0)), (1, .int (gI a)), (2, .int (gI b)), (3, .int (gI c)), (4, .int (gI d)), (5, .int (gI e)), (6, .int (gI f)), (7, .int (gI g)), (8, .int (gI h)), (9, .int (gI _)), (10, .int (gI _)), (11, .int (gI _)), (12, .int (gI t))]) ⟨rfl, rfl, rfl, rfl, rfl, rfl, rfl, rfl, rfl, rfl, rfl, rfl, rfl, trivial⟩ (hk _ _ _ (by omega) (by omega) (by omega) (by first | exact fun y y1 y2 => spI_on1 hS h1.1 (by omega) y1 (y2 (by omega)) (hd1 (by omega)) (by omega) | exact fun y y1 y2 => spI_on2 hS (by omega) y1 (y2 (by omega)) (hd1 (by omega)) (by omega) | exact ho_off (by omega) hS h1.1 (hd0 (by omega)) (by omega) | (have q := (ho_end (by omega) hS h1.2 (hd0 (by omega)) (by omega)).1; rw [if_pos (by omega)] at q; exact q) | (have q := (ho_end (by omega) hS h1.2 (hd0 (by omega)) (by omega)).1; rw [if_neg (by omega), Int.add_zero] at q; exact q)) (fun q => by first | omega | exact absurd (hd2 (by omega)) (by omega)) (by first | exact hZ | exact zP_no (by omega) hZ | exact zP_hit (by omega) ((ho_end (by omega) hS h1.2 (hd0 (by omega)) (by omega)).2 (by omega)) (by first | (exfalso; omega) | rw [if_pos (by omega)] | rw [if_neg (by omega)])))
        · refine v_iload dX7_holds_163 rfl ?_
          refine v_iload dX7_holds_165 rfl ?_
          refine v_isub dX7_holds_167 ?_
          refine v_iload dX7_holds_168 rfl ?_
          refine v_icmp_lt 202 dX7_holds_170 (by decide) (by omega) (by omega) (fun h170 => ?_) (fun h170 => ?_)
          · refine v_iconst dX7_holds_202 ?_
            refine v_istore dX7_holds_203 (Nat.le_of_ble_eq_true rfl) ?_
            refine wV.locs (lv' := [(0, .ref (fw 0 0)), (1, .int (gI a)), (2, .int (gI b)), (3, .int (gI c)), (4, .int (gI d)), (5, .int (gI e)), (6, .int (gI f)), (7, .int (gI g)), (8, .int (gI h)), (9, .int (gI _)), (10, .int (gI _)), (11, .int (gI _)), (12, .int (gI t))]) ⟨rfl, rfl, rfl, rfl, rfl, rfl, rfl, rfl, rfl, rfl, rfl, rfl, rfl, trivial⟩ (hk _ _ _ (by omega) (by omega) (by omega) (by first | exact fun y y1 y2 => spI_on1 hS h1.1 (by omega) y1 (y2 (by omega)) (hd1 (by omega)) (by omega) | exact fun y y1 y2 => spI_on2 hS (by omega) y1 (y2 (by omega)) (hd1 (by omega)) (by omega) | exact ho_off (by omega) hS h1.1 (hd0 (by omega)) (by omega) | (have q := (ho_end (by omega) hS h1.2 (hd0 (by omega)) (by omega)).1; rw [if_pos (by omega)] at q; exact q) | (have q := (ho_end (by omega) hS h1.2 (hd0 (by omega)) (by omega)).1; rw [if_neg (by omega), Int.add_zero] at q; exact q)) (fun q => by first | omega | exact absurd (hd2 (by omega)) (by omega)) (by first | exact hZ | exact zP_no (by omega) hZ | exact zP_hit (by omega) ((ho_end (by omega) hS h1.2 (hd0 (by omega)) (by omega)).2 (by omega)) (by first | (exfalso; omega) | rw [if_pos (by omega)] | rw [if_neg (by omega)])))
          · refine v_iload dX7_holds_173 rfl ?_
            refine v_iload dX7_holds_175 rfl ?_
            refine v_icmp_ne 195 dX7_holds_177 (by decide) (by omega) (by omega) (fun h177 => ?_) (fun h177 => ?_)
            · refine v_iload dX7_holds_195 rfl ?_
              refine v_istore dX7_holds_197 (Nat.le_of_ble_eq_true rfl) ?_
              refine v_iinc dX7_holds_199 rfl (Nat.le_of_ble_eq_true rfl) ?_
              refine v_iconst dX7_holds_202 ?_
              refine v_istore dX7_holds_203 (Nat.le_of_ble_eq_true rfl) ?_
              refine wV.locs (lv' := [(0, .ref (fw 0 0)), (1, .int (gI a)), (2, .int (gI b)), (3, .int (gI c)), (4, .int (gI d)), (5, .int (gI e)), (6, .int (gI f)), (7, .int (gI g)), (8, .int (gI h)), (9, .int (gI _)), (10, .int (gI _)), (11, .int (gI _)), (12, .int (gI t))]) ⟨rfl, rfl, rfl, rfl, rfl, rfl, rfl, rfl, rfl, rfl, rfl, rfl, rfl, trivial⟩ (hk _ _ _ (by omega) (by omega) (by omega) (by first | exact fun y y1 y2 => spI_on1 hS h1.1 (by omega) y1 (y2 (by omega)) (hd1 (by omega)) (by omega) | exact fun y y1 y2 => spI_on2 hS (by omega) y1 (y2 (by omega)) (hd1 (by omega)) (by omega) | exact ho_off (by omega) hS h1.1 (hd0 (by omega)) (by omega) | (have q := (ho_end (by omega) hS h1.2 (hd0 (by omega)) (by omega)).1; rw [if_pos (by omega)] at q; exact q) | (have q := (ho_end (by omega) hS h1.2 (hd0 (by omega)) (by omega)).1; rw [if_neg (by omega), Int.add_zero] at q; exact q)) (fun q => by first | omega | exact absurd (hd2 (by omega)) (by omega)) (by first | exact hZ | exact zP_no (by omega) hZ | exact zP_hit (by omega) ((ho_end (by omega) hS h1.2 (hd0 (by omega)) (by omega)).2 (by omega)) (by first | (exfalso; omega) | rw [if_pos (by omega)] | rw [if_neg (by omega)])))
            · refine v_iload dX7_holds_180 rfl ?_
              refine v_if_ne 190 dX7_holds_182 (by decide) (by omega) (fun h182 => ?_) (fun h182 => ?_)
              · refine v_iload dX7_holds_190 rfl ?_
                refine v_goto 197 dX7_holds_192 (by decide) ?_
                refine v_istore dX7_holds_197 (Nat.le_of_ble_eq_true rfl) ?_
                refine v_iinc dX7_holds_199 rfl (Nat.le_of_ble_eq_true rfl) ?_
                refine v_iconst dX7_holds_202 ?_
                refine v_istore dX7_holds_203 (Nat.le_of_ble_eq_true rfl) ?_
                refine wV.locs (lv' := [(0, .ref (fw 0 0)), (1, .int (gI a)), (2, .int (gI b)), (3, .int (gI c)), (4, .int (gI d)), (5, .int (gI e)), (6, .int (gI f)), (7, .int (gI g)), (8, .int (gI h)), (9, .int (gI _)), (10, .int (gI _)), (11, .int (gI _)), (12, .int (gI t))]) ⟨rfl, rfl, rfl, rfl, rfl, rfl, rfl, rfl, rfl, rfl, rfl, rfl, rfl, trivial⟩ (hk _ _ _ (by omega) (by omega) (by omega) (by first | exact fun y y1 y2 => spI_on1 hS h1.1 (by omega) y1 (y2 (by omega)) (hd1 (by omega)) (by omega) | exact fun y y1 y2 => spI_on2 hS (by omega) y1 (y2 (by omega)) (hd1 (by omega)) (by omega) | exact ho_off (by omega) hS h1.1 (hd0 (by omega)) (by omega) | (have q := (ho_end (by omega) hS h1.2 (hd0 (by omega)) (by omega)).1; rw [if_pos (by omega)] at q; exact q) | (have q := (ho_end (by omega) hS h1.2 (hd0 (by omega)) (by omega)).1; rw [if_neg (by omega), Int.add_zero] at q; exact q)) (fun q => by first | omega | exact absurd (hd2 (by omega)) (by omega)) (by first | exact hZ | exact zP_no (by omega) hZ | exact zP_hit (by omega) ((ho_end (by omega) hS h1.2 (hd0 (by omega)) (by omega)).2 (by omega)) (by first | (exfalso; omega) | rw [if_pos (by omega)] | rw [if_neg (by omega)])))
              · refine v_iload dX7_holds_185 rfl ?_
                refine v_goto 197 dX7_holds_187 (by decide) ?_
                refine v_istore dX7_holds_197 (Nat.le_of_ble_eq_true rfl) ?_
                refine v_iinc dX7_holds_199 rfl (Nat.le_of_ble_eq_true rfl) ?_
                refine v_iconst dX7_holds_202 ?_
                refine v_istore dX7_holds_203 (Nat.le_of_ble_eq_true rfl) ?_
                refine wV.locs (lv' := [(0, .ref (fw 0 0)), (1, .int (gI a)), (2, .int (gI b)), (3, .int (gI c)), (4, .int (gI d)), (5, .int (gI e)), (6, .int (gI f)), (7, .int (gI g)), (8, .int (gI h)), (9, .int (gI _)), (10, .int (gI _)), (11, .int (gI _)), (12, .int (gI t))]) ⟨rfl, rfl, rfl, rfl, rfl, rfl, rfl, rfl, rfl, rfl, rfl, rfl, rfl, trivial⟩ (hk _ _ _ (by omega) (by omega) (by omega) (by first | exact fun y y1 y2 => spI_on1 hS h1.1 (by omega) y1 (y2 (by omega)) (hd1 (by omega)) (by omega) | exact fun y y1 y2 => spI_on2 hS (by omega) y1 (y2 (by omega)) (hd1 (by omega)) (by omega) | exact ho_off (by omega) hS h1.1 (hd0 (by omega)) (by omega) | (have q := (ho_end (by omega) hS h1.2 (hd0 (by omega)) (by omega)).1; rw [if_pos (by omega)] at q; exact q) | (have q := (ho_end (by omega) hS h1.2 (hd0 (by omega)) (by omega)).1; rw [if_neg (by omega), Int.add_zero] at q; exact q)) (fun q => by first | omega | exact absurd (hd2 (by omega)) (by omega)) (by first | exact hZ | exact zP_no (by omega) hZ | exact zP_hit (by omega) ((ho_end (by omega) hS h1.2 (hd0 (by omega)) (by omega)).2 (by omega)) (by first | (exfalso; omega) | rw [if_pos (by omega)] | rw [if_neg (by omega)])))
set_option maxHeartbeats 4000000 in
set_option maxRecDepth 100000 in
theorem fX7_holds_loop {sz : Nat} {M0 : wM} {G : gG} {fw : Nat → Nat → Nat} {s : sG} {M : wM} (hsY : srY s) (hY : wY G fw s M) {a b c d e f g h : Int} (hV : (bt 0 a 1 ∧ bt 0 b 11 ∧ bt 0 c 256 ∧ bt 0 d 11 ∧ bt 0 e 256 ∧ bt 1 f 4000 ∧ -1 ≤ g ∧ bt 0 h 1)) (hg : rng g) : ∀ (k : Nat) (n p z t : Int), 0 ≤ 100000 - t → 100000 - t < (k : Int) → (bt 0 t 100000) → (bt (-4) z 4000) → (spI (hoY s a b c d e) f (s 0 0 0) 0 n p t) → (s 0 0 0 < t → p = -1) → (zP (hoY s a b c d e) f (s 0 0 0) g h n z) → wV G qX7_holds 0 0 sz M0 0 0 82 [(0, .ref (fw 0 0)), (1, .int (gI a)), (2, .int (gI b)), (3, .int (gI c)), (4, .int (gI d)), (5, .int (gI e)), (6, .int (gI f)), (7, .int (gI g)), (8, .int (gI h)), (9, .int (gI n)), (10, .int (gI p)), (11, .int (gI z)), (12, .int (gI t))] [] M (iP fun x M' => M' = M ∧ ((¬ (bt 0 a 1 ∧ bt 0 b 11 ∧ bt 0 c 256 ∧ bt 0 d 11 ∧ bt 0 e 256 ∧ bt 1 f 4000 ∧ -1 ≤ g ∧ bt 0 h 1) ∧ x = -1) ∨ ((bt 0 a 1 ∧ bt 0 b 11 ∧ bt 0 c 256 ∧ bt 0 d 11 ∧ bt 0 e 256 ∧ bt 1 f 4000 ∧ -1 ≤ g ∧ bt 0 h 1) ∧ hoP (hoY s a b c d e) f (s 0 0 0) g h x))) := by
  intro k
  induction k with
  | zero =>
    intros
    omega
  | succ k ih =>
    intro n p z t hmz hml h1 h4 hS h5 hZ
    have h0 := hY.2.2.1
    have hrw := hY.2.2.2.1
    have hnm := hY.2.2.2.2.1
    have hsh := hY.2.2.2.2.2.1
    have hmk := hY.2.2.2.2.2.2.1
    have hic := hY.2.2.2.2.2.2.2.1
    have hcn := hY.2.2.2.2.2.2.2.2.1
    have hgt := hY.2.2.2.2.2.2.2.2.2
    have hrg := spI_rg hS h1.1 (by omega)
    refine v_iload dX7_holds_82 rfl ?_
    refine v_aloadn dX7_holds_84 rfl ?_
    refine v_get dX7_holds_85 gf_X7_7 (hY.2.1 0 0 (by decide)) rfl ?_
    refine v_icmp_gt 259 dX7_holds_88 (by decide) (by omega) (by omega) (fun h88 => ?_) (fun h88 => ?_)
    · refine v_iload dX7_holds_259 rfl ?_
      refine v_if_ge 269 dX7_holds_261 (by decide) (by omega) (fun h261 => ?_) (fun h261 => ?_)
      · refine v_iload dX7_holds_269 rfl ?_
        exact v_iret dX7_holds_271 rfl ⟨(Nat.le_of_ble_eq_true rfl), (Nat.le_of_ble_eq_true rfl)⟩ (by omega) (by
      have hn := spI_fin1 hS (by omega) (by omega)
      rw [Int.zero_add] at hn
      refine ⟨rfl, Or.inr ⟨hV, ?_⟩⟩
      first
        | exact Or.inl ⟨by omega, hn⟩
        | exact Or.inr ⟨by omega, (hZ (by omega)).imp (fun q => ⟨by omega, q.2⟩) (fun q => q.2)⟩)
      · refine v_iload dX7_holds_264 rfl ?_
        refine v_goto 271 dX7_holds_266 (by decide) ?_
        exact v_iret dX7_holds_271 rfl ⟨(Nat.le_of_ble_eq_true rfl), (Nat.le_of_ble_eq_true rfl)⟩ (by omega) (by
      have hn := spI_fin1 hS (by omega) (by omega)
      rw [Int.zero_add] at hn
      refine ⟨rfl, Or.inr ⟨hV, ?_⟩⟩
      first
        | exact Or.inl ⟨by omega, hn⟩
        | exact Or.inr ⟨by omega, (hZ (by omega)).imp (fun q => ⟨by omega, q.2⟩) (fun q => q.2)⟩)
    · refine v_iload dX7_holds_91 rfl ?_
      refine v_aloadn dX7_holds_93 rfl ?_
      refine v_get dX7_holds_94 gf_X7_7 (hY.2.1 0 0 (by decide)) rfl ?_
      refine v_icmp_ge 136 dX7_holds_97 (by decide) (by omega) (by omega) (fun h97 => ?_) (fun h97 => ?_)
      · refine v_iconst dX7_holds_136 ?_
        refine v_istore dX7_holds_137 (Nat.le_of_ble_eq_true rfl) ?_
        refine wV.locs (lv' := [(0, .ref (fw 0 0)), (1, .int (gI a)), (2, .int (gI b)), (3, .int (gI c)), (4, .int (gI d)), (5, .int (gI e)), (6, .int (gI f)), (7, .int (gI g)), (8, .int (gI h)), (9, .int (gI n)), (10, .int (gI p)), (11, .int (gI z)), (12, .int (gI t)), (13, .int (gI _))]) ⟨rfl, rfl, rfl, rfl, rfl, rfl, rfl, rfl, rfl, rfl, rfl, rfl, rfl, rfl, trivial⟩ (fX7_holds_139 hsY hY hV hg (by omega) hS hZ (by omega) (by first | exact Or.inl ⟨rfl, by omega, by unfold hoY; exact ⟨by omega, fun q => by first | omega | exact absurd (by omega) q⟩⟩ | exact Or.inr ⟨rfl, Or.inl (by omega)⟩ | exact Or.inr ⟨rfl, Or.inr (fun y => by unfold hoY at y; first | exact absurd y.1 (by omega) | exact absurd (y.2 (by omega)) (by omega))⟩) (fun nn pp zz g1 g2 g3 g4 g5 g6 => fX7_holds_205 hsY hY hV hg (by omega) (fun y y1 y2 y3 y4 => ih nn pp zz y (by omega) (by omega) (by omega) g3 (g4 y y1 y4) (fun q => g5 (by omega)) g6)))
      · refine v_aloadn dX7_holds_100 rfl ?_
        refine v_iloadn dX7_holds_101 rfl ?_
        refine v_iloadn dX7_holds_102 rfl ?_
        refine v_iload dX7_holds_103 rfl ?_
        refine v_callV (tX7_at hY (by omega) (by omega) (by omega)) lc_X7_83 ⟨(Nat.le_of_ble_eq_true rfl), (Nat.le_of_ble_eq_true rfl)⟩ dX7_holds_105 rfl rfl (Nat.le_of_ble_eq_true rfl) ⟨(Nat.le_of_ble_eq_true rfl), (Nat.le_of_ble_eq_true rfl)⟩ ⟨_, _, _, _, hY.2.1 0 0 (by decide), rfl⟩ (kP fun r105 hr105 hp105 => ?_)
        have hv105 := vY_atP (by omega) (hsY _ (by omega)) hp105.2
        refine v_iloadn dX7_holds_108 rfl ?_
        refine v_icmp_ne 136 dX7_holds_109 (by decide) (by omega) (by omega) (fun h109 => ?_) (fun h109 => ?_)
        · refine v_iconst dX7_holds_136 ?_
          refine v_istore dX7_holds_137 (Nat.le_of_ble_eq_true rfl) ?_
          refine wV.locs (lv' := [(0, .ref (fw 0 0)), (1, .int (gI a)), (2, .int (gI b)), (3, .int (gI c)), (4, .int (gI d)), (5, .int (gI e)), (6, .int (gI f)), (7, .int (gI g)), (8, .int (gI h)), (9, .int (gI n)), (10, .int (gI p)), (11, .int (gI z)), (12, .int (gI t)), (13, .int (gI _))]) ⟨rfl, rfl, rfl, rfl, rfl, rfl, rfl, rfl, rfl, rfl, rfl, rfl, rfl, rfl, trivial⟩ (fX7_holds_139 hsY hY hV hg (by omega) hS hZ (by omega) (by first | exact Or.inl ⟨rfl, by omega, by unfold hoY; exact ⟨by omega, fun q => by first | omega | exact absurd (by omega) q⟩⟩ | exact Or.inr ⟨rfl, Or.inl (by omega)⟩ | exact Or.inr ⟨rfl, Or.inr (fun y => by unfold hoY at y; first | exact absurd y.1 (by omega) | exact absurd (y.2 (by omega)) (by omega))⟩) (fun nn pp zz g1 g2 g3 g4 g5 g6 => fX7_holds_205 hsY hY hV hg (by omega) (fun y y1 y2 y3 y4 => ih nn pp zz y (by omega) (by omega) (by omega) g3 (g4 y y1 y4) (fun q => g5 (by omega)) g6)))
        · refine v_iloadn dX7_holds_112 rfl ?_
          refine v_iload dX7_holds_113 rfl ?_
          refine v_icmp_eq 132 dX7_holds_115 (by decide) (by omega) (by omega) (fun h115 => ?_) (fun h115 => ?_)
          · refine v_iconst dX7_holds_132 ?_
            refine v_goto 137 dX7_holds_133 (by decide) ?_
            refine v_istore dX7_holds_137 (Nat.le_of_ble_eq_true rfl) ?_
            refine wV.locs (lv' := [(0, .ref (fw 0 0)), (1, .int (gI a)), (2, .int (gI b)), (3, .int (gI c)), (4, .int (gI d)), (5, .int (gI e)), (6, .int (gI f)), (7, .int (gI g)), (8, .int (gI h)), (9, .int (gI n)), (10, .int (gI p)), (11, .int (gI z)), (12, .int (gI t)), (13, .int (gI _))]) ⟨rfl, rfl, rfl, rfl, rfl, rfl, rfl, rfl, rfl, rfl, rfl, rfl, rfl, rfl, trivial⟩ (fX7_holds_139 hsY hY hV hg (by omega) hS hZ (by omega) (by first | exact Or.inl ⟨rfl, by omega, by unfold hoY; exact ⟨by omega, fun q => by first | omega | exact absurd (by omega) q⟩⟩ | exact Or.inr ⟨rfl, Or.inl (by omega)⟩ | exact Or.inr ⟨rfl, Or.inr (fun y => by unfold hoY at y; first | exact absurd y.1 (by omega) | exact absurd (y.2 (by omega)) (by omega))⟩) (fun nn pp zz g1 g2 g3 g4 g5 g6 => fX7_holds_205 hsY hY hV hg (by omega) (fun y y1 y2 y3 y4 => ih nn pp zz y (by omega) (by omega) (by omega) g3 (g4 y y1 y4) (fun q => g5 (by omega)) g6)))
          · refine v_aloadn dX7_holds_118 rfl ?_
            refine v_iloadn dX7_holds_119 rfl ?_
            refine v_iload dX7_holds_120 rfl ?_
            refine v_iload dX7_holds_122 rfl ?_
            refine v_callV (tX7_at hY (by omega) (by omega) (by omega)) lc_X7_83 ⟨(Nat.le_of_ble_eq_true rfl), (Nat.le_of_ble_eq_true rfl)⟩ dX7_holds_124 rfl rfl (Nat.le_of_ble_eq_true rfl) ⟨(Nat.le_of_ble_eq_true rfl), (Nat.le_of_ble_eq_true rfl)⟩ ⟨_, _, _, _, hY.2.1 0 0 (by decide), rfl⟩ (kP fun r124 hr124 hp124 => ?_)
            have hv124 := vY_atP (by omega) (hsY _ (by omega)) hp124.2
            refine v_iload dX7_holds_127 rfl ?_
            refine v_icmp_eq 136 dX7_holds_129 (by decide) (by omega) (by omega) (fun h129 => ?_) (fun h129 => ?_)
            · refine v_iconst dX7_holds_136 ?_
              refine v_istore dX7_holds_137 (Nat.le_of_ble_eq_true rfl) ?_
              refine wV.locs (lv' := [(0, .ref (fw 0 0)), (1, .int (gI a)), (2, .int (gI b)), (3, .int (gI c)), (4, .int (gI d)), (5, .int (gI e)), (6, .int (gI f)), (7, .int (gI g)), (8, .int (gI h)), (9, .int (gI n)), (10, .int (gI p)), (11, .int (gI z)), (12, .int (gI t)), (13, .int (gI _))]) ⟨rfl, rfl, rfl, rfl, rfl, rfl, rfl, rfl, rfl, rfl, rfl, rfl, rfl, rfl, trivial⟩ (fX7_holds_139 hsY hY hV hg (by omega) hS hZ (by omega) (by first | exact Or.inl ⟨rfl, by omega, by unfold hoY; exact ⟨by omega, fun q => by first | omega | exact absurd (by omega) q⟩⟩ | exact Or.inr ⟨rfl, Or.inl (by omega)⟩ | exact Or.inr ⟨rfl, Or.inr (fun y => by unfold hoY at y; first | exact absurd y.1 (by omega) | exact absurd (y.2 (by omega)) (by omega))⟩) (fun nn pp zz g1 g2 g3 g4 g5 g6 => fX7_holds_205 hsY hY hV hg (by omega) (fun y y1 y2 y3 y4 => ih nn pp zz y (by omega) (by omega) (by omega) g3 (g4 y y1 y4) (fun q => g5 (by omega)) g6)))
            · refine v_iconst dX7_holds_132 ?_
              refine v_goto 137 dX7_holds_133 (by decide) ?_
              refine v_istore dX7_holds_137 (Nat.le_of_ble_eq_true rfl) ?_
              refine wV.locs (lv' := [(0, .ref (fw 0 0)), (1, .int (gI a)), (2, .int (gI b)), (3, .int (gI c)), (4, .int (gI d)), (5, .int (gI e)), (6, .int (gI f)), (7, .int (gI g)), (8, .int (gI h)), (9, .int (gI n)), (10, .int (gI p)), (11, .int (gI z)), (12, .int (gI t)), (13, .int (gI _))]) ⟨rfl, rfl, rfl, rfl, rfl, rfl, rfl, rfl, rfl, rfl, rfl, rfl, rfl, rfl, trivial⟩ (fX7_holds_139 hsY hY hV hg (by omega) hS hZ (by omega) (by first | exact Or.inl ⟨rfl, by omega, by unfold hoY; exact ⟨by omega, fun q => by first | omega | exact absurd (by omega) q⟩⟩ | exact Or.inr ⟨rfl, Or.inl (by omega)⟩ | exact Or.inr ⟨rfl, Or.inr (fun y => by unfold hoY at y; first | exact absurd y.1 (by omega) | exact absurd (y.2 (by omega)) (by omega))⟩) (fun nn pp zz g1 g2 g3 g4 g5 g6 => fX7_holds_205 hsY hY hV hg (by omega) (fun y y1 y2 y3 y4 => ih nn pp zz y (by omega) (by omega) (by omega) g3 (g4 y y1 y4) (fun q => g5 (by omega)) g6)))
set_option maxHeartbeats 4000000 in
set_option maxRecDepth 100000 in
theorem fX7_holds {G : gG} {fw : Nat → Nat → Nat} {s : sG} {M : wM} (hsY : srY s) (hY : wY G fw s M) {a b c d e f g h : Int} (ha : rng a) (hb : rng b) (hc : rng c) (hd : rng d) (he : rng e) (hf : rng f) (hg : rng g) (hh : rng h) : wT G qX7_holds 0 0 [.ref (fw 0 0), .int (gI a), .int (gI b), .int (gI c), .int (gI d), .int (gI e), .int (gI f), .int (gI g), .int (gI h)] M (iP fun x M' => M' = M ∧ ((¬ (bt 0 a 1 ∧ bt 0 b 11 ∧ bt 0 c 256 ∧ bt 0 d 11 ∧ bt 0 e 256 ∧ bt 1 f 4000 ∧ -1 ≤ g ∧ bt 0 h 1) ∧ x = -1) ∨ ((bt 0 a 1 ∧ bt 0 b 11 ∧ bt 0 c 256 ∧ bt 0 d 11 ∧ bt 0 e 256 ∧ bt 1 f 4000 ∧ -1 ≤ g ∧ bt 0 h 1) ∧ hoP (hoY s a b c d e) f (s 0 0 0) g h x))) := by
  refine wT.intro (by decide) (Nat.le_of_ble_eq_true rfl) (fun sz => ?_)
  have h0 := hY.2.2.1
  have hrw := hY.2.2.2.1
  have hnm := hY.2.2.2.2.1
  have hsh := hY.2.2.2.2.2.1
  have hmk := hY.2.2.2.2.2.2.1
  have hic := hY.2.2.2.2.2.2.2.1
  have hcn := hY.2.2.2.2.2.2.2.2.1
  have hgt := hY.2.2.2.2.2.2.2.2.2
  refine v_iloadn dX7_holds_0 rfl ?_
  refine v_iloadn dX7_holds_1 rfl ?_
  refine v_callS (tX7_isRow (by omega) (by omega)) lc_X7_68 ⟨(Nat.le_of_ble_eq_true rfl), (Nat.le_of_ble_eq_true rfl)⟩ dX7_holds_2 rfl rfl (Nat.le_of_ble_eq_true rfl) ⟨(Nat.le_of_ble_eq_true rfl), (Nat.le_of_ble_eq_true rfl)⟩ (kP fun r2 hr2 hp2 => ?_)
  refine v_if_eq 67 dX7_holds_5 (by decide) (by omega) (fun h5 => ?_) (fun h5 => ?_)
  · refine v_iconst dX7_holds_67 ?_
    exact v_iret dX7_holds_68 rfl ⟨(Nat.le_of_ble_eq_true rfl), (Nat.le_of_ble_eq_true rfl)⟩ (by omega) ⟨rfl, Or.inl ⟨by omega, by omega⟩⟩
  · refine v_iloadn dX7_holds_8 rfl ?_
    refine v_iconst dX7_holds_9 ?_
    refine v_sipush dX7_holds_10 (by decide) ?_
    refine v_callS (tX7_in (by omega) (by omega) (by omega)) lc_X7_60 ⟨(Nat.le_of_ble_eq_true rfl), (Nat.le_of_ble_eq_true rfl)⟩ dX7_holds_13 rfl rfl (Nat.le_of_ble_eq_true rfl) ⟨(Nat.le_of_ble_eq_true rfl), (Nat.le_of_ble_eq_true rfl)⟩ (kP fun r13 hr13 hp13 => ?_)
    refine v_if_eq 67 dX7_holds_16 (by decide) (by omega) (fun h16 => ?_) (fun h16 => ?_)
    · refine v_iconst dX7_holds_67 ?_
      exact v_iret dX7_holds_68 rfl ⟨(Nat.le_of_ble_eq_true rfl), (Nat.le_of_ble_eq_true rfl)⟩ (by omega) ⟨rfl, Or.inl ⟨by omega, by omega⟩⟩
    · refine v_iload dX7_holds_19 rfl ?_
      refine v_callS (tX7_isSignal (by omega)) lc_X7_64 ⟨(Nat.le_of_ble_eq_true rfl), (Nat.le_of_ble_eq_true rfl)⟩ dX7_holds_21 rfl rfl (Nat.le_of_ble_eq_true rfl) ⟨(Nat.le_of_ble_eq_true rfl), (Nat.le_of_ble_eq_true rfl)⟩ (kP fun r21 hr21 hp21 => ?_)
      refine v_if_eq 67 dX7_holds_24 (by decide) (by omega) (fun h24 => ?_) (fun h24 => ?_)
      · refine v_iconst dX7_holds_67 ?_
        exact v_iret dX7_holds_68 rfl ⟨(Nat.le_of_ble_eq_true rfl), (Nat.le_of_ble_eq_true rfl)⟩ (by omega) ⟨rfl, Or.inl ⟨by omega, by omega⟩⟩
      · refine v_iload dX7_holds_27 rfl ?_
        refine v_iconst dX7_holds_29 ?_
        refine v_sipush dX7_holds_30 (by decide) ?_
        refine v_callS (tX7_in (by omega) (by omega) (by omega)) lc_X7_60 ⟨(Nat.le_of_ble_eq_true rfl), (Nat.le_of_ble_eq_true rfl)⟩ dX7_holds_33 rfl rfl (Nat.le_of_ble_eq_true rfl) ⟨(Nat.le_of_ble_eq_true rfl), (Nat.le_of_ble_eq_true rfl)⟩ (kP fun r33 hr33 hp33 => ?_)
        refine v_if_eq 67 dX7_holds_36 (by decide) (by omega) (fun h36 => ?_) (fun h36 => ?_)
        · refine v_iconst dX7_holds_67 ?_
          exact v_iret dX7_holds_68 rfl ⟨(Nat.le_of_ble_eq_true rfl), (Nat.le_of_ble_eq_true rfl)⟩ (by omega) ⟨rfl, Or.inl ⟨by omega, by omega⟩⟩
        · refine v_iload dX7_holds_39 rfl ?_
          refine v_iconst dX7_holds_41 ?_
          refine v_sipush dX7_holds_42 (by decide) ?_
          refine v_callS (tX7_in (by omega) (by omega) (by omega)) lc_X7_60 ⟨(Nat.le_of_ble_eq_true rfl), (Nat.le_of_ble_eq_true rfl)⟩ dX7_holds_45 rfl rfl (Nat.le_of_ble_eq_true rfl) ⟨(Nat.le_of_ble_eq_true rfl), (Nat.le_of_ble_eq_true rfl)⟩ (kP fun r45 hr45 hp45 => ?_)
          refine v_if_eq 67 dX7_holds_48 (by decide) (by omega) (fun h48 => ?_) (fun h48 => ?_)
          · refine v_iconst dX7_holds_67 ?_
            exact v_iret dX7_holds_68 rfl ⟨(Nat.le_of_ble_eq_true rfl), (Nat.le_of_ble_eq_true rfl)⟩ (by omega) ⟨rfl, Or.inl ⟨by omega, by omega⟩⟩
          · refine v_iload dX7_holds_51 rfl ?_
            refine v_iconst dX7_holds_53 ?_
            refine v_icmp_lt 67 dX7_holds_54 (by decide) (by omega) (by omega) (fun h54 => ?_) (fun h54 => ?_)
            · refine v_iconst dX7_holds_67 ?_
              exact v_iret dX7_holds_68 rfl ⟨(Nat.le_of_ble_eq_true rfl), (Nat.le_of_ble_eq_true rfl)⟩ (by omega) ⟨rfl, Or.inl ⟨by omega, by omega⟩⟩
            · refine v_iload dX7_holds_57 rfl ?_
              refine v_iconst dX7_holds_59 ?_
              refine v_iconst dX7_holds_60 ?_
              refine v_callS (tX7_in (by omega) (by omega) (by omega)) lc_X7_60 ⟨(Nat.le_of_ble_eq_true rfl), (Nat.le_of_ble_eq_true rfl)⟩ dX7_holds_61 rfl rfl (Nat.le_of_ble_eq_true rfl) ⟨(Nat.le_of_ble_eq_true rfl), (Nat.le_of_ble_eq_true rfl)⟩ (kP fun r61 hr61 hp61 => ?_)
              refine v_if_ne 69 dX7_holds_64 (by decide) (by omega) (fun h64 => ?_) (fun h64 => ?_)
              · refine v_iconst dX7_holds_69 ?_
                refine v_istore dX7_holds_70 (Nat.le_of_ble_eq_true rfl) ?_
                refine v_iconst dX7_holds_72 ?_
                refine v_istore dX7_holds_73 (Nat.le_of_ble_eq_true rfl) ?_
                refine v_bipush dX7_holds_75 (by decide) ?_
                refine v_istore dX7_holds_77 (Nat.le_of_ble_eq_true rfl) ?_
                refine v_iconst dX7_holds_79 ?_
                refine v_istore dX7_holds_80 (Nat.le_of_ble_eq_true rfl) ?_
                refine wV.locs (lv' := [(0, .ref (fw 0 0)), (1, .int (gI a)), (2, .int (gI b)), (3, .int (gI c)), (4, .int (gI d)), (5, .int (gI e)), (6, .int (gI f)), (7, .int (gI g)), (8, .int (gI h)), (9, .int (gI (0))), (10, .int (gI (-1))), (11, .int (gI (-4))), (12, .int (gI (0)))]) ⟨rfl, rfl, rfl, rfl, rfl, rfl, rfl, rfl, rfl, rfl, rfl, rfl, rfl, trivial⟩ (fX7_holds_loop hsY hY (by omega) hg 100010 _ _ _ _ (by omega) (by omega) (by omega) (by omega) (spI_0 (by omega)) (fun q => rfl) (fun q => Or.inl ⟨q, rfl⟩))
              · refine v_iconst dX7_holds_67 ?_
                exact v_iret dX7_holds_68 rfl ⟨(Nat.le_of_ble_eq_true rfl), (Nat.le_of_ble_eq_true rfl)⟩ (by omega) ⟨rfl, Or.inl ⟨by omega, by omega⟩⟩
