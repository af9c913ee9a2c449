set_option maxHeartbeats 4000000 in
set_option maxRecDepth 100000 in
theorem tX7_holds_205 {sz : Nat} {M0 : wM} {G : gG} {fw : Nat → Nat → Nat} {s : sG} {M : wM} (hY : wY G fw s M) {a b c d e f g h : Int} (ha : bt 0 a 1) (hb : bt 0 b 11) (hc : bt 0 c 256) (hd : bt 0 d 11) (he : bt 0 e 256) (hf : bt 1 f 4000) (hg : rng g) (hh : bt 0 h 1) {n p z t : Int} (h1 : bt 0 t 4000) (hk : ∀ y, t < y → y ≤ 100000 → wV G qX7_holds 0 0 sz M0 0 0 82 [(0, .ref (fw 0 0)), (1, .int (gI a)), (2, .int (gI b)), (3, .int (gI c)), (4, .int (gI d)), (5, .int (gI e)), (6, .int (gI f)), (7, .int (gI g)), (8, .int (gI h)), (9, .int (gI n)), (10, .int (gI p)), (11, .int (gI z)), (12, .int (gI y))] [] M (iP fun x M' => M' = M ∧ True)) : wV G qX7_holds 0 0 sz M0 0 0 205 [(0, .ref (fw 0 0)), (1, .int (gI a)), (2, .int (gI b)), (3, .int (gI c)), (4, .int (gI d)), (5, .int (gI e)), (6, .int (gI f)), (7, .int (gI g)), (8, .int (gI h)), (9, .int (gI n)), (10, .int (gI p)), (11, .int (gI z)), (12, .int (gI t))] [] M (iP fun x M' => M' = M ∧ True) := by
  have h0 := hY.2.2.1
  have hrw := hY.2.2.2.1
  have hnm := hY.2.2.2.2.1
  have hsh := hY.2.2.2.2.2.1
  have hmk := hY.2.2.2.2.2.2.1
  have hic := hY.2.2.2.2.2.2.2.1
  have hcn := hY.2.2.2.2.2.2.2.2.1
  have hgt := hY.2.2.2.2.2.2.2.2.2
  refine v_aloadn dX7_holds_205 rfl ?_
  refine v_iloadn dX7_holds_206 rfl ?_
  refine v_iloadn dX7_holds_207 rfl ?_
  refine v_iload dX7_holds_208 rfl ?_
  refine v_callV (tX7_nextChange hY (by omega) (by omega) (by omega) (by omega)) lc_X7_103 ⟨(Nat.le_of_ble_eq_true rfl), (Nat.le_of_ble_eq_true rfl)⟩ dX7_holds_210 rfl rfl (Nat.le_of_ble_eq_true rfl) ⟨(Nat.le_of_ble_eq_true rfl), (Nat.le_of_ble_eq_true rfl)⟩ ⟨_, _, _, _, hY.2.1 0 0 (by decide), rfl⟩ (kP fun r210 hr210 hp210 => ?_)
  refine v_aloadn dX7_holds_213 rfl ?_
  refine v_iloadn dX7_holds_214 rfl ?_
  refine v_iload dX7_holds_215 rfl ?_
  refine v_iload dX7_holds_217 rfl ?_
  refine v_callV (tX7_nextChange hY (by omega) (by omega) (by omega) (by omega)) lc_X7_103 ⟨(Nat.le_of_ble_eq_true rfl), (Nat.le_of_ble_eq_true rfl)⟩ dX7_holds_219 rfl rfl (Nat.le_of_ble_eq_true rfl) ⟨(Nat.le_of_ble_eq_true rfl), (Nat.le_of_ble_eq_true rfl)⟩ ⟨_, _, _, _, hY.2.1 0 0 (by decide), rfl⟩ (kP fun r219 hr219 hp219 => ?_)
  refine v_callS (tX7_least (by omega) (by omega)) lc_X7_106 ⟨(Nat.le_of_ble_eq_true rfl), (Nat.le_of_ble_eq_true rfl)⟩ dX7_holds_222 rfl rfl (Nat.le_of_ble_eq_true rfl) ⟨(Nat.le_of_ble_eq_true rfl), (Nat.le_of_ble_eq_true rfl)⟩ (kP fun r222 hr222 hp222 => ?_)
  refine v_istore dX7_holds_225 (Nat.le_of_ble_eq_true rfl) ?_
  refine v_iload dX7_holds_227 rfl ?_
  refine v_aloadn dX7_holds_229 rfl ?_
  refine v_get dX7_holds_230 gf_X7_7 (hY.2.1 0 0 (by decide)) rfl ?_
  refine v_icmp_ge 252 dX7_holds_233 (by decide) (by omega) (by omega) (fun h233 => ?_) (fun h233 => ?_)
  · refine v_iload dX7_holds_252 rfl ?_
    refine v_istore dX7_holds_254 (Nat.le_of_ble_eq_true rfl) ?_
    refine v_goto 82 dX7_holds_256 (by decide) ?_
    refine wV.locs (lv' := [(0, .ref (fw 0 0)), (1, .int (gI a)), (2, .int (gI b)), (3, .int (gI c)), (4, .int (gI d)), (5, .int (gI e)), (6, .int (gI f)), (7, .int (gI g)), (8, .int (gI h)), (9, .int (gI n)), (10, .int (gI p)), (11, .int (gI z)), (12, .int (gI _))]) ⟨rfl, rfl, rfl, rfl, rfl, rfl, rfl, rfl, rfl, rfl, rfl, rfl, rfl, trivial⟩ (hk _ (by omega) (by omega))
  · refine v_iload dX7_holds_236 rfl ?_
    refine v_aloadn dX7_holds_238 rfl ?_
    refine v_get dX7_holds_239 gf_X7_7 (hY.2.1 0 0 (by decide)) rfl ?_
    refine v_icmp_le 252 dX7_holds_242 (by decide) (by omega) (by omega) (fun h242 => ?_) (fun h242 => ?_)
    · refine v_iload dX7_holds_252 rfl ?_
      refine v_istore dX7_holds_254 (Nat.le_of_ble_eq_true rfl) ?_
      refine v_goto 82 dX7_holds_256 (by decide) ?_
      refine wV.locs (lv' := [(0, .ref (fw 0 0)), (1, .int (gI a)), (2, .int (gI b)), (3, .int (gI c)), (4, .int (gI d)), (5, .int (gI e)), (6, .int (gI f)), (7, .int (gI g)), (8, .int (gI h)), (9, .int (gI n)), (10, .int (gI p)), (11, .int (gI z)), (12, .int (gI _))]) ⟨rfl, rfl, rfl, rfl, rfl, rfl, rfl, rfl, rfl, rfl, rfl, rfl, rfl, trivial⟩ (hk _ (by omega) (by omega))
    · refine v_aloadn dX7_holds_245 rfl ?_
      refine v_get dX7_holds_246 gf_X7_7 (hY.2.1 0 0 (by decide)) rfl ?_
      refine v_goto 254 dX7_holds_249 (by decide) ?_
      refine v_istore dX7_holds_254 (Nat.le_of_ble_eq_true rfl) ?_
      refine v_goto 82 dX7_holds_256 (by decide) ?_
      refine wV.locs (lv' := [(0, .ref (fw 0 0)), (1, .int (gI a)), (2, .int (gI b)), (3, .int (gI c)), (4, .int (gI d)), (5, .int (gI e)), (6, .int (gI f)), (7, .int (gI g)), (8, .int (gI h)), (9, .int (gI n)), (10, .int (gI p)), (11, .int (gI z)), (12, .int (gI _))]) ⟨rfl, rfl, rfl, rfl, rfl, rfl, rfl, rfl, rfl, rfl, rfl, rfl, rfl, trivial⟩ (hk _ (by omega) (by omega))
set_option maxHeartbeats 4000000 in
set_option maxRecDepth 100000 in
theorem tX7_holds_139 {sz : Nat} {M0 : wM} {G : gG} {fw : Nat → Nat → Nat} {s : sG} {M : wM} (hY : wY G fw s M) {a b c d e f g h : Int} (ha : bt 0 a 1) (hb : bt 0 b 11) (hc : bt 0 c 256) (hd : bt 0 d 11) (he : bt 0 e 256) (hf : bt 1 f 4000) (hg : rng g) (hh : bt 0 h 1) {n p z t u : Int} (h1 : bt 0 t 4000) (h2 : bt 0 n t) (h3 : bt (-1) p 4000) (h4 : bt (-4) z 4000) (hu : bt 0 u 1) (hk : ∀ nn pp zz, bt 0 nn (t + 1) → bt (-1) pp 4000 → bt (-4) zz 4000 → wV G qX7_holds 0 0 sz M0 0 0 205 [(0, .ref (fw 0 0)), (1, .int (gI a)), (2, .int (gI b)), (3, .int (gI c)), (4, .int (gI d)), (5, .int (gI e)), (6, .int (gI f)), (7, .int (gI g)), (8, .int (gI h)), (9, .int (gI nn)), (10, .int (gI pp)), (11, .int (gI zz)), (12, .int (gI t))] [] M (iP fun x M' => M' = M ∧ True)) : wV G qX7_holds 0 0 sz M0 0 0 139 [(0, .ref (fw 0 0)), (1, .int (gI a)), (2, .int (gI b)), (3, .int (gI c)), (4, .int (gI d)), (5, .int (gI e)), (6, .int (gI f)), (7, .int (gI g)), (8, .int (gI h)), (9, .int (gI n)), (10, .int (gI p)), (11, .int (gI z)), (12, .int (gI t)), (13, .int (gI u))] [] M (iP fun x M' => M' = M ∧ True) := by
  refine v_iload dX7_holds_139 rfl ?_
  refine v_if_eq 153 dX7_holds_141 (by decide) (by omega) (fun h141 => ?_) (fun h141 => ?_)
  · refine v_iload dX7_holds_153 rfl ?_
    refine v_if_ne 205 dX7_holds_155 (by decide) (by omega) (fun h155 => ?_) (fun h155 => ?_)
    · refine wV.locs (lv' := [(0, .ref (fw 0 0)), (1, .int (gI a)), (2, .int (gI b)), (3, .int (gI c)), (4, .int (gI d)), (5, .int (gI e)), (6, .int (gI f)), (7, .int (gI g)), (8, .int (gI h)), (9, .int (gI _)), (10, .int (gI _)), (11, .int (gI _)), (12, .int (gI t))]) ⟨rfl, rfl, rfl, rfl, rfl, rfl, rfl, rfl, rfl, rfl, rfl, rfl, rfl, trivial⟩ (hk _ _ _ (by omega) (by omega) (by omega))
    · refine v_iload dX7_holds_158 rfl ?_
      refine v_if_lt 205 dX7_holds_160 (by decide) (by omega) (fun h160 => ?_) (fun h160 => ?_)
      · refine wV.locs (lv' := [(0, .ref (fw 0 0)), (1, .int (gI a)), (2, .int (gI b)), (3, .int (gI c)), (4, .int (gI d)), (5, .int (gI e)), (6, .int (gI f)), (7, .int (gI g)), (8, .int (gI h)), (9, .int (gI _)), (10, .int (gI _)), (11, .int (gI _)), (12, .int (gI t))]) ⟨rfl, rfl, rfl, rfl, rfl, rfl, rfl, rfl, rfl, rfl, rfl, rfl, rfl, trivial⟩ (hk _ _ _ (by omega) (by omega) (by omega))
      · refine v_iload dX7_holds_163 rfl ?_
        refine v_iload dX7_holds_165 rfl ?_
        refine v_isub dX7_holds_167 ?_
        refine v_iload dX7_holds_168 rfl ?_
        refine v_icmp_lt 202 dX7_holds_170 (by decide) (by omega) (by omega) (fun h170 => ?_) (fun h170 => ?_)
        · refine v_iconst dX7_holds_202 ?_
          refine v_istore dX7_holds_203 (Nat.le_of_ble_eq_true rfl) ?_
          refine wV.locs (lv' := [(0, .ref (fw 0 0)), (1, .int (gI a)), (2, .int (gI b)), (3, .int (gI c)), (4, .int (gI d)), (5, .int (gI e)), (6, .int (gI f)), (7, .int (gI g)), (8, .int (gI h)), (9, .int (gI _)), (10, .int (gI _)), (11, .int (gI _)), (12, .int (gI t))]) ⟨rfl, rfl, rfl, rfl, rfl, rfl, rfl, rfl, rfl, rfl, rfl, rfl, rfl, trivial⟩ (hk _ _ _ (by omega) (by omega) (by omega))
        · refine v_iload dX7_holds_173 rfl ?_
          refine v_iload dX7_holds_175 rfl ?_
          refine v_icmp_ne 195 dX7_holds_177 (by decide) (by omega) (by omega) (fun h177 => ?_) (fun h177 => ?_)
          · refine v_iload dX7_holds_195 rfl ?_
            refine v_istore dX7_holds_197 (Nat.le_of_ble_eq_true rfl) ?_
            refine v_iinc dX7_holds_199 rfl (Nat.le_of_ble_eq_true rfl) ?_
            refine v_iconst dX7_holds_202 ?_
            refine v_istore dX7_holds_203 (Nat.le_of_ble_eq_true rfl) ?_
            refine wV.locs (lv' := [(0, .ref (fw 0 0)), (1, .int (gI a)), (2, .int (gI b)), (3, .int (gI c)), (4, .int (gI d)), (5, .int (gI e)), (6, .int (gI f)), (7, .int (gI g)), (8, .int (gI h)), (9, .int (gI _)), (10, .int (gI _)), (11, .int (gI _)), (12, .int (gI t))]) ⟨rfl, rfl, rfl, rfl, rfl, rfl, rfl, rfl, rfl, rfl, rfl, rfl, rfl, trivial⟩ (hk _ _ _ (by omega) (by omega) (by omega))
          · refine v_iload dX7_holds_180 rfl ?_
            refine v_if_ne 190 dX7_holds_182 (by decide) (by omega) (fun h182 => ?_) (fun h182 => ?_)
            · refine v_iload dX7_holds_190 rfl ?_
              refine v_goto 197 dX7_holds_192 (by decide) ?_
              refine v_istore dX7_holds_197 (Nat.le_of_ble_eq_true rfl) ?_
              refine v_iinc dX7_holds_199 rfl (Nat.le_of_ble_eq_true rfl) ?_
              refine v_iconst dX7_holds_202 ?_
              refine v_istore dX7_holds_203 (Nat.le_of_ble_eq_true rfl) ?_
              refine wV.locs (lv' := [(0, .ref (fw 0 0)), (1, .int (gI a)), (2, .int (gI b)), (3, .int (gI c)), (4, .int (gI d)), (5, .int (gI e)), (6, .int (gI f)), (7, .int (gI g)), (8, .int (gI h)), (9, .int (gI _)), (10, .int (gI _)), (11, .int (gI _)), (12, .int (gI t))]) ⟨rfl, rfl, rfl, rfl, rfl, rfl, rfl, rfl, rfl, rfl, rfl, rfl, rfl, trivial⟩ (hk _ _ _ (by omega) (by omega) (by omega))
            · refine v_iload dX7_holds_185 rfl ?_
              refine v_goto 197 dX7_holds_187 (by decide) ?_
              refine v_istore dX7_holds_197 (Nat.le_of_ble_eq_true rfl) ?_
              refine v_iinc dX7_holds_199 rfl (Nat.le_of_ble_eq_true rfl) ?_
              refine v_iconst dX7_holds_202 ?_
              refine v_istore dX7_holds_203 (Nat.le_of_ble_eq_true rfl) ?_
              refine wV.locs (lv' := [(0, .ref (fw 0 0)), (1, .int (gI a)), (2, .int (gI b)), (3, .int (gI c)), (4, .int (gI d)), (5, .int (gI e)), (6, .int (gI f)), (7, .int (gI g)), (8, .int (gI h)), (9, .int (gI _)), (10, .int (gI _)), (11, .int (gI _)), (12, .int (gI t))]) ⟨rfl, rfl, rfl, rfl, rfl, rfl, rfl, rfl, rfl, rfl, rfl, rfl, rfl, trivial⟩ (hk _ _ _ (by omega) (by omega) (by omega))
  · refine v_iload dX7_holds_144 rfl ?_
    refine v_if_ge 153 dX7_holds_146 (by decide) (by omega) (fun h146 => ?_) (fun h146 => ?_)
    · refine v_iload dX7_holds_153 rfl ?_
      refine v_if_ne 205 dX7_holds_155 (by decide) (by omega) (fun h155 => ?_) (fun h155 => ?_)
      · refine wV.locs (lv' := [(0, .ref (fw 0 0)), (1, .int (gI a)), (2, .int (gI b)), (3, .int (gI c)), (4, .int (gI d)), (5, .int (gI e)), (6, .int (gI f)), (7, .int (gI g)), (8, .int (gI h)), (9, .int (gI _)), (10, .int (gI _)), (11, .int (gI _)), (12, .int (gI t))]) ⟨rfl, rfl, rfl, rfl, rfl, rfl, rfl, rfl, rfl, rfl, rfl, rfl, rfl, trivial⟩ (hk _ _ _ (by omega) (by omega) (by omega))
      · refine v_iload dX7_holds_158 rfl ?_
        refine v_if_lt 205 dX7_holds_160 (by decide) (by omega) (fun h160 => ?_) (fun h160 => ?_)
        · refine wV.locs (lv' := [(0, .ref (fw 0 0)), (1, .int (gI a)), (2, .int (gI b)), (3, .int (gI c)), (4, .int (gI d)), (5, .int (gI e)), (6, .int (gI f)), (7, .int (gI g)), (8, .int (gI h)), (9, .int (gI _)), (10, .int (gI _)), (11, .int (gI _)), (12, .int (gI t))]) ⟨rfl, rfl, rfl, rfl, rfl, rfl, rfl, rfl, rfl, rfl, rfl, rfl, rfl, trivial⟩ (hk _ _ _ (by omega) (by omega) (by omega))
        · refine v_iload dX7_holds_163 rfl ?_
          refine v_iload dX7_holds_165 rfl ?_
          refine v_isub dX7_holds_167 ?_
          refine v_iload dX7_holds_168 rfl ?_
          refine v_icmp_lt 202 dX7_holds_170 (by decide) (by omega) (by omega) (fun h170 => ?_) (fun h170 => ?_)
          · refine v_iconst dX7_holds_202 ?_
            refine v_istore dX7_holds_203 (Nat.le_of_ble_eq_true rfl) ?_
            refine wV.locs (lv' := [(0, .ref (fw 0 0)), (1, .int (gI a)), (2, .int (gI b)), (3, .int (gI c)), (4, .int (gI d)), (5, .int (gI e)), (6, .int (gI f)), (7, .int (gI g)), (8, .int (gI h)), (9, .int (gI _)), (10, .int (gI _)), (11, .int (gI _)), (12, .int (gI t))]) ⟨rfl, rfl, rfl, rfl, rfl, rfl, rfl, rfl, rfl, rfl, rfl, rfl, rfl, trivial⟩ (hk _ _ _ (by omega) (by omega) (by omega))
          · refine v_iload dX7_holds_173 rfl ?_
            refine v_iload dX7_holds_175 rfl ?_
            refine v_icmp_ne 195 dX7_holds_177 (by decide) (by omega) (by omega) (fun h177 => ?_) (fun h177 => ?_)
            · refine v_iload dX7_holds_195 rfl ?_
              refine v_istore dX7_holds_197 (Nat.le_of_ble_eq_true rfl) ?_
              refine v_iinc dX7_holds_199 rfl (Nat.le_of_ble_eq_true rfl) ?_
              refine v_iconst dX7_holds_202 ?_
              refine v_istore dX7_holds_203 (Nat.le_of_ble_eq_true rfl) ?_
              refine wV.locs (lv' := [(0, .ref (fw 0 0)), (1, .int (gI a)), (2, .int (gI b)), (3, .int (gI c)), (4, .int (gI d)), (5, .int (gI e)), (6, .int (gI f)), (7, .int (gI g)), (8, .int (gI h)), (9, .int (gI _)), (10, .int (gI _)), (11, .int (gI _)), (12, .int (gI t))]) ⟨rfl, rfl, rfl, rfl, rfl, rfl, rfl, rfl, rfl, rfl, rfl, rfl, rfl, trivial⟩ (hk _ _ _ (by omega) (by omega) (by omega))
            · refine v_iload dX7_holds_180 rfl ?_
              refine v_if_ne 190 dX7_holds_182 (by decide) (by omega) (fun h182 => ?_) (fun h182 => ?_)
              · refine v_iload dX7_holds_190 rfl ?_
                refine v_goto 197 dX7_holds_192 (by decide) ?_
                refine v_istore dX7_holds_197 (Nat.le_of_ble_eq_true rfl) ?_
                refine v_iinc dX7_holds_199 rfl (Nat.le_of_ble_eq_true rfl) ?_
                refine v_iconst dX7_holds_202 ?_
                refine v_istore dX7_holds_203 (Nat.le_of_ble_eq_true rfl) ?_
                refine wV.locs (lv' := [(0, .ref (fw 0 0)), (1, .int (gI a)), (2, .int (gI b)), (3, .int (gI c)), (4, .int (gI d)), (5, .int (gI e)), (6, .int (gI f)), (7, .int (gI g)), (8, .int (gI h)), (9, .int (gI _)), (10, .int (gI _)), (11, .int (gI _)), (12, .int (gI t))]) ⟨rfl, rfl, rfl, rfl, rfl, rfl, rfl, rfl, rfl, rfl, rfl, rfl, rfl, trivial⟩ (hk _ _ _ (by omega) (by omega) (by omega))
              · refine v_iload dX7_holds_185 rfl ?_
                refine v_goto 197 dX7_holds_187 (by decide) ?_
                refine v_istore dX7_holds_197 (Nat.le_of_ble_eq_true rfl) ?_
                refine v_iinc dX7_holds_199 rfl (Nat.le_of_ble_eq_true rfl) ?_
                refine v_iconst dX7_holds_202 ?_
                refine v_istore dX7_holds_203 (Nat.le_of_ble_eq_true rfl) ?_
                refine wV.locs (lv' := [(0, .ref (fw 0 0)), (1, .int (gI a)), (2, .int (gI b)), (3, .int (gI c)), (4, .int (gI d)), (5, .int (gI e)), (6, .int (gI f)), (7, .int (gI g)), (8, .int (gI h)), (9, .int (gI _)), (10, .int (gI _)), (11, .int (gI _)), (12, .int (gI t))]) ⟨rfl, rfl, rfl, rfl, rfl, rfl, rfl, rfl, rfl, rfl, rfl, rfl, rfl, trivial⟩ (hk _ _ _ (by omega) (by omega) (by omega))
    · refine v_iload dX7_holds_149 rfl ?_
      refine v_istore dX7_holds_151 (Nat.le_of_ble_eq_true rfl) ?_
      refine v_iload dX7_holds_153 rfl ?_
      refine v_if_ne 205 dX7_holds_155 (by decide) (by omega) (fun h155 => ?_) (fun h155 => ?_)
      · refine wV.locs (lv' := [(0, .ref (fw 0 0)), (1, .int (gI a)), (2, .int (gI b)), (3, .int (gI c)), (4, .int (gI d)), (5, .int (gI e)), (6, .int (gI f)), (7, .int (gI g)), (8, .int (gI h)), (9, .int (gI _)), (10, .int (gI _)), (11, .int (gI _)), (12, .int (gI t))]) ⟨rfl, rfl, rfl, rfl, rfl, rfl, rfl, rfl, rfl, rfl, rfl, rfl, rfl, trivial⟩ (hk _ _ _ (by omega) (by omega) (by omega))
      · refine v_iload dX7_holds_158 rfl ?_
        refine v_if_lt 205 dX7_holds_160 (by decide) (by omega) (fun h160 => ?_) (fun h160 => ?_)
        · refine wV.locs (lv' := [(0, .ref (fw 0 0)), (1, .int (gI a)), (2, .int (gI b)), (3, .int (gI c)), (4, .int (gI d)), (5, .int (gI e)), (6, .int (gI f)), (7, .int (gI g)), (8, .int (gI h)), (9, .int (gI _)), (10, .int (gI _)), (11, .int (gI _)), (12, .int (gI t))]) ⟨rfl, rfl, rfl, rfl, rfl, rfl, rfl, rfl, rfl, rfl, rfl, rfl, rfl, trivial⟩ (hk _ _ _ (by omega) (by omega) (by omega))
        · refine v_iload dX7_holds_163 rfl ?_
          refine v_iload dX7_holds_165 rfl ?_
          refine v_isub dX7_holds_167 ?_
          refine v_iload dX7_holds_168 rfl ?_
          refine v_icmp_lt 202 dX7_holds_170 (by decide) (by omega) (by omega) (fun h170 => ?_) (fun h170 => ?_)
          · refine v_iconst dX7_holds_202 ?_
            refine v_istore dX7_holds_203 (Nat.le_of_ble_eq_true rfl) ?_
            refine wV.locs (lv' := [(0, .ref (fw 0 0)), (1, .int (gI a)), (2, .int (gI b)), (3, .int (gI c)), (4, .int (gI d)), (5, .int (gI e)), (6, .int (gI f)), (7, .int (gI g)), (8, .int (gI h)), (9, .int (gI _)), (10, .int (gI _)), (11, .int (gI _)), (12, .int (gI t))]) ⟨rfl, rfl, rfl, rfl, rfl, rfl, rfl, rfl, rfl, rfl, rfl, rfl, rfl, trivial⟩ (hk _ _ _ (by omega) (by omega) (by omega))
          · refine v_iload dX7_holds_173 rfl ?_
            refine v_iload dX7_holds_175 rfl ?_
            refine v_icmp_ne 195 dX7_holds_177 (by decide) (by omega) (by omega) (fun h177 => ?_) (fun h177 => ?_)
            · refine v_iload dX7_holds_195 rfl ?_
              refine v_istore dX7_holds_197 (Nat.le_of_ble_eq_true rfl) ?_
              refine v_iinc dX7_holds_199 rfl (Nat.le_of_ble_eq_true rfl) ?_
              refine v_iconst dX7_holds_202 ?_
              refine v_istore dX7_holds_203 (Nat.le_of_ble_eq_true rfl) ?_
              refine wV.locs (lv' := [(0, .ref (fw 0 0)), (1, .int (gI a)), (2, .int (gI b)), (3, .int (gI c)), (4, .int (gI d)), (5, .int (gI e)), (6, .int (gI f)), (7, .int (gI g)), (8, .int (gI h)), (9, .int (gI _)), (10, .int (gI _)), (11, .int (gI _)), (12, .int (gI t))]) ⟨rfl, rfl, rfl, rfl, rfl, rfl, rfl, rfl, rfl, rfl, rfl, rfl, rfl, trivial⟩ (hk _ _ _ (by omega) (by omega) (by omega))
            · refine v_iload dX7_holds_180 rfl ?_
              refine v_if_ne 190 dX7_holds_182 (by decide) (by omega) (fun h182 => ?_) (fun h182 => ?_)
              · refine v_iload dX7_holds_190 rfl ?_
                refine v_goto 197 dX7_holds_192 (by decide) ?_
                refine v_istore dX7_holds_197 (Nat.le_of_ble_eq_true rfl) ?_
                refine v_iinc dX7_holds_199 rfl (Nat.le_of_ble_eq_true rfl) ?_
                refine v_iconst dX7_holds_202 ?_
                refine v_istore dX7_holds_203 (Nat.le_of_ble_eq_true rfl) ?_
                refine wV.locs (lv' := [(0, .ref (fw 0 0)), (1, .int (gI a)), (2, .int (gI b)), (3, .int (gI c)), (4, .int (gI d)), (5, .int (gI e)), (6, .int (gI f)), (7, .int (gI g)), (8, .int (gI h)), (9, .int (gI _)), (10, .int (gI _)), (11, .int (gI _)), (12, .int (gI t))]) ⟨rfl, rfl, rfl, rfl, rfl, rfl, rfl, rfl, rfl, rfl, rfl, rfl, rfl, trivial⟩ (hk _ _ _ (by omega) (by omega) (by omega))
              · refine v_iload dX7_holds_185 rfl ?_
                refine v_goto 197 dX7_holds_187 (by decide) ?_
                refine v_istore dX7_holds_197 (Nat.le_of_ble_eq_true rfl) ?_
                refine v_iinc dX7_holds_199 rfl (Nat.le_of_ble_eq_true rfl) ?_
                refine v_iconst dX7_holds_202 ?_
                refine v_istore dX7_holds_203 (Nat.le_of_ble_eq_true rfl) ?_
                refine wV.locs (lv' := [(0, .ref (fw 0 0)), (1, .int (gI a)), (2, .int (gI b)), (3, .int (gI c)), (4, .int (gI d)), (5, .int (gI e)), (6, .int (gI f)), (7, .int (gI g)), (8, .int (gI h)), (9, .int (gI _)), (10, .int (gI _)), (11, .int (gI _)), (12, .int (gI t))]) ⟨rfl, rfl, rfl, rfl, rfl, rfl, rfl, rfl, rfl, rfl, rfl, rfl, rfl, trivial⟩ (hk _ _ _ (by omega) (by omega) (by omega))
set_option maxHeartbeats 4000000 in
set_option maxRecDepth 100000 in
theorem tX7_holds_loop {sz : Nat} {M0 : wM} {G : gG} {fw : Nat → Nat → Nat} {s : sG} {M : wM} (hY : wY G fw s M) {a b c d e f g h : Int} (ha : bt 0 a 1) (hb : bt 0 b 11) (hc : bt 0 c 256) (hd : bt 0 d 11) (he : bt 0 e 256) (hf : bt 1 f 4000) (hg : rng g) (hh : bt 0 h 1) : ∀ (k : Nat) (n p z t : Int), 0 ≤ 100000 - t → 100000 - t < (k : Int) → (bt 0 t 100000) → (bt 0 n t) → (bt (-1) p 4000) → (bt (-4) z 4000) → wV G qX7_holds 0 0 sz M0 0 0 82 [(0, .ref (fw 0 0)), (1, .int (gI a)), (2, .int (gI b)), (3, .int (gI c)), (4, .int (gI d)), (5, .int (gI e)), (6, .int (gI f)), (7, .int (gI g)), (8, .int (gI h)), (9, .int (gI n)), (10, .int (gI p)), (11, .int (gI z)), (12, .int (gI t))] [] M (iP fun x M' => M' = M ∧ True) := by
  intro k
  induction k with
  | zero =>
    intros
    omega
  | succ k ih =>
    intro n p z t hmz hml h1 h2 h3 h4
    have h0 := hY.2.2.1
    have hrw := hY.2.2.2.1
    have hnm := hY.2.2.2.2.1
    have hsh := hY.2.2.2.2.2.1
    have hmk := hY.2.2.2.2.2.2.1
    have hic := hY.2.2.2.2.2.2.2.1
    have hcn := hY.2.2.2.2.2.2.2.2.1
    have hgt := hY.2.2.2.2.2.2.2.2.2
    refine v_iload dX7_holds_82 rfl ?_
    refine v_aloadn dX7_holds_84 rfl ?_
    refine v_get dX7_holds_85 gf_X7_7 (hY.2.1 0 0 (by decide)) rfl ?_
    refine v_icmp_gt 259 dX7_holds_88 (by decide) (by omega) (by omega) (fun h88 => ?_) (fun h88 => ?_)
    · refine v_iload dX7_holds_259 rfl ?_
      refine v_if_ge 269 dX7_holds_261 (by decide) (by omega) (fun h261 => ?_) (fun h261 => ?_)
      · refine v_iload dX7_holds_269 rfl ?_
        exact v_iret dX7_holds_271 rfl ⟨(Nat.le_of_ble_eq_true rfl), (Nat.le_of_ble_eq_true rfl)⟩ (by omega) ⟨rfl, trivial⟩
      · refine v_iload dX7_holds_264 rfl ?_
        refine v_goto 271 dX7_holds_266 (by decide) ?_
        exact v_iret dX7_holds_271 rfl ⟨(Nat.le_of_ble_eq_true rfl), (Nat.le_of_ble_eq_true rfl)⟩ (by omega) ⟨rfl, trivial⟩
    · refine v_iload dX7_holds_91 rfl ?_
      refine v_aloadn dX7_holds_93 rfl ?_
      refine v_get dX7_holds_94 gf_X7_7 (hY.2.1 0 0 (by decide)) rfl ?_
      refine v_icmp_ge 136 dX7_holds_97 (by decide) (by omega) (by omega) (fun h97 => ?_) (fun h97 => ?_)
      · refine v_iconst dX7_holds_136 ?_
        refine v_istore dX7_holds_137 (Nat.le_of_ble_eq_true rfl) ?_
        refine wV.locs (lv' := [(0, .ref (fw 0 0)), (1, .int (gI a)), (2, .int (gI b)), (3, .int (gI c)), (4, .int (gI d)), (5, .int (gI e)), (6, .int (gI f)), (7, .int (gI g)), (8, .int (gI h)), (9, .int (gI n)), (10, .int (gI p)), (11, .int (gI z)), (12, .int (gI t)), (13, .int (gI _))]) ⟨rfl, rfl, rfl, rfl, rfl, rfl, rfl, rfl, rfl, rfl, rfl, rfl, rfl, rfl, trivial⟩ (tX7_holds_139 hY ha hb hc hd he hf hg hh (by omega) (by omega) (by omega) (by omega) (by omega) (fun nn pp zz g1 g2 g3 => tX7_holds_205 hY ha hb hc hd he hf hg hh (by omega) (fun y y1 y2 => ih nn pp zz y (by omega) (by omega) (by omega) (by omega) g2 g3)))
      · refine v_aloadn dX7_holds_100 rfl ?_
        refine v_iloadn dX7_holds_101 rfl ?_
        refine v_iloadn dX7_holds_102 rfl ?_
        refine v_iload dX7_holds_103 rfl ?_
        refine v_callV (tX7_at hY (by omega) (by omega) (by omega)) lc_X7_83 ⟨(Nat.le_of_ble_eq_true rfl), (Nat.le_of_ble_eq_true rfl)⟩ dX7_holds_105 rfl rfl (Nat.le_of_ble_eq_true rfl) ⟨(Nat.le_of_ble_eq_true rfl), (Nat.le_of_ble_eq_true rfl)⟩ ⟨_, _, _, _, hY.2.1 0 0 (by decide), rfl⟩ (kP fun r105 hr105 hp105 => ?_)
        refine v_iloadn dX7_holds_108 rfl ?_
        refine v_icmp_ne 136 dX7_holds_109 (by decide) (by omega) (by omega) (fun h109 => ?_) (fun h109 => ?_)
        · refine v_iconst dX7_holds_136 ?_
          refine v_istore dX7_holds_137 (Nat.le_of_ble_eq_true rfl) ?_
          refine wV.locs (lv' := [(0, .ref (fw 0 0)), (1, .int (gI a)), (2, .int (gI b)), (3, .int (gI c)), (4, .int (gI d)), (5, .int (gI e)), (6, .int (gI f)), (7, .int (gI g)), (8, .int (gI h)), (9, .int (gI n)), (10, .int (gI p)), (11, .int (gI z)), (12, .int (gI t)), (13, .int (gI _))]) ⟨rfl, rfl, rfl, rfl, rfl, rfl, rfl, rfl, rfl, rfl, rfl, rfl, rfl, rfl, trivial⟩ (tX7_holds_139 hY ha hb hc hd he hf hg hh (by omega) (by omega) (by omega) (by omega) (by omega) (fun nn pp zz g1 g2 g3 => tX7_holds_205 hY ha hb hc hd he hf hg hh (by omega) (fun y y1 y2 => ih nn pp zz y (by omega) (by omega) (by omega) (by omega) g2 g3)))
        · refine v_iloadn dX7_holds_112 rfl ?_
          refine v_iload dX7_holds_113 rfl ?_
          refine v_icmp_eq 132 dX7_holds_115 (by decide) (by omega) (by omega) (fun h115 => ?_) (fun h115 => ?_)
          · refine v_iconst dX7_holds_132 ?_
            refine v_goto 137 dX7_holds_133 (by decide) ?_
            refine v_istore dX7_holds_137 (Nat.le_of_ble_eq_true rfl) ?_
            refine wV.locs (lv' := [(0, .ref (fw 0 0)), (1, .int (gI a)), (2, .int (gI b)), (3, .int (gI c)), (4, .int (gI d)), (5, .int (gI e)), (6, .int (gI f)), (7, .int (gI g)), (8, .int (gI h)), (9, .int (gI n)), (10, .int (gI p)), (11, .int (gI z)), (12, .int (gI t)), (13, .int (gI _))]) ⟨rfl, rfl, rfl, rfl, rfl, rfl, rfl, rfl, rfl, rfl, rfl, rfl, rfl, rfl, trivial⟩ (tX7_holds_139 hY ha hb hc hd he hf hg hh (by omega) (by omega) (by omega) (by omega) (by omega) (fun nn pp zz g1 g2 g3 => tX7_holds_205 hY ha hb hc hd he hf hg hh (by omega) (fun y y1 y2 => ih nn pp zz y (by omega) (by omega) (by omega) (by omega) g2 g3)))
          · refine v_aloadn dX7_holds_118 rfl ?_
            refine v_iloadn dX7_holds_119 rfl ?_
            refine v_iload dX7_holds_120 rfl ?_
            refine v_iload dX7_holds_122 rfl ?_
            refine v_callV (tX7_at hY (by omega) (by omega) (by omega)) lc_X7_83 ⟨(Nat.le_of_ble_eq_true rfl), (Nat.le_of_ble_eq_true rfl)⟩ dX7_holds_124 rfl rfl (Nat.le_of_ble_eq_true rfl) ⟨(Nat.le_of_ble_eq_true rfl), (Nat.le_of_ble_eq_true rfl)⟩ ⟨_, _, _, _, hY.2.1 0 0 (by decide), rfl⟩ (kP fun r124 hr124 hp124 => ?_)
            refine v_iload dX7_holds_127 rfl ?_
            refine v_icmp_eq 136 dX7_holds_129 (by decide) (by omega) (by omega) (fun h129 => ?_) (fun h129 => ?_)
            · refine v_iconst dX7_holds_136 ?_
              refine v_istore dX7_holds_137 (Nat.le_of_ble_eq_true rfl) ?_
              refine wV.locs (lv' := [(0, .ref (fw 0 0)), (1, .int (gI a)), (2, .int (gI b)), (3, .int (gI c)), (4, .int (gI d)), (5, .int (gI e)), (6, .int (gI f)), (7, .int (gI g)), (8, .int (gI h)), (9, .int (gI n)), (10, .int (gI p)), (11, .int (gI z)), (12, .int (gI t)), (13, .int (gI _))]) ⟨rfl, rfl, rfl, rfl, rfl, rfl, rfl, rfl, rfl, rfl, rfl, rfl, rfl, rfl, trivial⟩ (tX7_holds_139 hY ha hb hc hd he hf hg hh (by omega) (by omega) (by omega) (by omega) (by omega) (fun nn pp zz g1 g2 g3 => tX7_holds_205 hY ha hb hc hd he hf hg hh (by omega) (fun y y1 y2 => ih nn pp zz y (by omega) (by omega) (by omega) (by omega) g2 g3)))
            · refine v_iconst dX7_holds_132 ?_
              refine v_goto 137 dX7_holds_133 (by decide) ?_
              refine v_istore dX7_holds_137 (Nat.le_of_ble_eq_true rfl) ?_
              refine wV.locs (lv' := [(0, .ref (fw 0 0)), (1, .int (gI a)), (2, .int (gI b)), (3, .int (gI c)), (4, .int (gI d)), (5, .int (gI e)), (6, .int (gI f)), (7, .int (gI g)), (8, .int (gI h)), (9, .int (gI n)), (10, .int (gI p)), (11, .int (gI z)), (12, .int (gI t)), (13, .int (gI _))]) ⟨rfl, rfl, rfl, rfl, rfl, rfl, rfl, rfl, rfl, rfl, rfl, rfl, rfl, rfl, trivial⟩ (tX7_holds_139 hY ha hb hc hd he hf hg hh (by omega) (by omega) (by omega) (by omega) (by omega) (fun nn pp zz g1 g2 g3 => tX7_holds_205 hY ha hb hc hd he hf hg hh (by omega) (fun y y1 y2 => ih nn pp zz y (by omega) (by omega) (by omega) (by omega) g2 g3)))
set_option maxHeartbeats 4000000 in
set_option maxRecDepth 100000 in
theorem tX7_holds {G : gG} {fw : Nat → Nat → Nat} {s : sG} {M : wM} (hY : wY G fw s M) {a b c d e f g h : Int} (ha : rng a) (hb : rng b) (hc : rng c) (hd : rng d) (he : rng e) (hf : rng f) (hg : rng g) (hh : rng h) : wT G qX7_holds 0 0 [.ref (fw 0 0), .int (gI a), .int (gI b), .int (gI c), .int (gI d), .int (gI e), .int (gI f), .int (gI g), .int (gI h)] M (iP fun x M' => M' = M ∧ True) := by
  refine wT.intro (by decide) (Nat.le_of_ble_eq_true rfl) (fun sz => ?_)
  have h0 := hY.2.2.1
  have hrw := hY.2.2.2.1
  have hnm := hY.2.2.2.2.1
  have hsh := hY.2.2.2.2.2.1
  have hmk := hY.2.2.2.2.2.2.1
  have hic := hY.2.2.2.2.2.2.2.1
  have hcn := hY.2.2.2.2.2.2.2.2.1
  have hgt := hY.2.2.2.2.2.2.2.2.2
  refine v_iloadn dX7_holds_0 rfl ?_
  refine v_iloadn dX7_holds_1 rfl ?_
  refine v_callS (tX7_isRow (by omega) (by omega)) lc_X7_68 ⟨(Nat.le_of_ble_eq_true rfl), (Nat.le_of_ble_eq_true rfl)⟩ dX7_holds_2 rfl rfl (Nat.le_of_ble_eq_true rfl) ⟨(Nat.le_of_ble_eq_true rfl), (Nat.le_of_ble_eq_true rfl)⟩ (kP fun r2 hr2 hp2 => ?_)
  refine v_if_eq 67 dX7_holds_5 (by decide) (by omega) (fun h5 => ?_) (fun h5 => ?_)
  · refine v_iconst dX7_holds_67 ?_
    exact v_iret dX7_holds_68 rfl ⟨(Nat.le_of_ble_eq_true rfl), (Nat.le_of_ble_eq_true rfl)⟩ (by omega) ⟨rfl, trivial⟩
  · refine v_iloadn dX7_holds_8 rfl ?_
    refine v_iconst dX7_holds_9 ?_
    refine v_sipush dX7_holds_10 (by decide) ?_
    refine v_callS (tX7_in (by omega) (by omega) (by omega)) lc_X7_60 ⟨(Nat.le_of_ble_eq_true rfl), (Nat.le_of_ble_eq_true rfl)⟩ dX7_holds_13 rfl rfl (Nat.le_of_ble_eq_true rfl) ⟨(Nat.le_of_ble_eq_true rfl), (Nat.le_of_ble_eq_true rfl)⟩ (kP fun r13 hr13 hp13 => ?_)
    refine v_if_eq 67 dX7_holds_16 (by decide) (by omega) (fun h16 => ?_) (fun h16 => ?_)
    · refine v_iconst dX7_holds_67 ?_
      exact v_iret dX7_holds_68 rfl ⟨(Nat.le_of_ble_eq_true rfl), (Nat.le_of_ble_eq_true rfl)⟩ (by omega) ⟨rfl, trivial⟩
    · refine v_iload dX7_holds_19 rfl ?_
      refine v_callS (tX7_isSignal (by omega)) lc_X7_64 ⟨(Nat.le_of_ble_eq_true rfl), (Nat.le_of_ble_eq_true rfl)⟩ dX7_holds_21 rfl rfl (Nat.le_of_ble_eq_true rfl) ⟨(Nat.le_of_ble_eq_true rfl), (Nat.le_of_ble_eq_true rfl)⟩ (kP fun r21 hr21 hp21 => ?_)
      refine v_if_eq 67 dX7_holds_24 (by decide) (by omega) (fun h24 => ?_) (fun h24 => ?_)
      · refine v_iconst dX7_holds_67 ?_
        exact v_iret dX7_holds_68 rfl ⟨(Nat.le_of_ble_eq_true rfl), (Nat.le_of_ble_eq_true rfl)⟩ (by omega) ⟨rfl, trivial⟩
      · refine v_iload dX7_holds_27 rfl ?_
        refine v_iconst dX7_holds_29 ?_
        refine v_sipush dX7_holds_30 (by decide) ?_
        refine v_callS (tX7_in (by omega) (by omega) (by omega)) lc_X7_60 ⟨(Nat.le_of_ble_eq_true rfl), (Nat.le_of_ble_eq_true rfl)⟩ dX7_holds_33 rfl rfl (Nat.le_of_ble_eq_true rfl) ⟨(Nat.le_of_ble_eq_true rfl), (Nat.le_of_ble_eq_true rfl)⟩ (kP fun r33 hr33 hp33 => ?_)
        refine v_if_eq 67 dX7_holds_36 (by decide) (by omega) (fun h36 => ?_) (fun h36 => ?_)
        · refine v_iconst dX7_holds_67 ?_
          exact v_iret dX7_holds_68 rfl ⟨(Nat.le_of_ble_eq_true rfl), (Nat.le_of_ble_eq_true rfl)⟩ (by omega) ⟨rfl, trivial⟩
        · refine v_iload dX7_holds_39 rfl ?_
          refine v_iconst dX7_holds_41 ?_
          refine v_sipush dX7_holds_42 (by decide) ?_
          refine v_callS (tX7_in (by omega) (by omega) (by omega)) lc_X7_60 ⟨(Nat.le_of_ble_eq_true rfl), (Nat.le_of_ble_eq_true rfl)⟩ dX7_holds_45 rfl rfl (Nat.le_of_ble_eq_true rfl) ⟨(Nat.le_of_ble_eq_true rfl), (Nat.le_of_ble_eq_true rfl)⟩ (kP fun r45 hr45 hp45 => ?_)
          refine v_if_eq 67 dX7_holds_48 (by decide) (by omega) (fun h48 => ?_) (fun h48 => ?_)
          · refine v_iconst dX7_holds_67 ?_
            exact v_iret dX7_holds_68 rfl ⟨(Nat.le_of_ble_eq_true rfl), (Nat.le_of_ble_eq_true rfl)⟩ (by omega) ⟨rfl, trivial⟩
          · refine v_iload dX7_holds_51 rfl ?_
            refine v_iconst dX7_holds_53 ?_
            refine v_icmp_lt 67 dX7_holds_54 (by decide) (by omega) (by omega) (fun h54 => ?_) (fun h54 => ?_)
            · refine v_iconst dX7_holds_67 ?_
              exact v_iret dX7_holds_68 rfl ⟨(Nat.le_of_ble_eq_true rfl), (Nat.le_of_ble_eq_true rfl)⟩ (by omega) ⟨rfl, trivial⟩
            · refine v_iload dX7_holds_57 rfl ?_
              refine v_iconst dX7_holds_59 ?_
              refine v_iconst dX7_holds_60 ?_
              refine v_callS (tX7_in (by omega) (by omega) (by omega)) lc_X7_60 ⟨(Nat.le_of_ble_eq_true rfl), (Nat.le_of_ble_eq_true rfl)⟩ dX7_holds_61 rfl rfl (Nat.le_of_ble_eq_true rfl) ⟨(Nat.le_of_ble_eq_true rfl), (Nat.le_of_ble_eq_true rfl)⟩ (kP fun r61 hr61 hp61 => ?_)
              refine v_if_ne 69 dX7_holds_64 (by decide) (by omega) (fun h64 => ?_) (fun h64 => ?_)
              · refine v_iconst dX7_holds_69 ?_
                refine v_istore dX7_holds_70 (Nat.le_of_ble_eq_true rfl) ?_
                refine v_iconst dX7_holds_72 ?_
                refine v_istore dX7_holds_73 (Nat.le_of_ble_eq_true rfl) ?_
                refine v_bipush dX7_holds_75 (by decide) ?_
                refine v_istore dX7_holds_77 (Nat.le_of_ble_eq_true rfl) ?_
                refine v_iconst dX7_holds_79 ?_
                refine v_istore dX7_holds_80 (Nat.le_of_ble_eq_true rfl) ?_
                refine wV.locs (lv' := [(0, .ref (fw 0 0)), (1, .int (gI a)), (2, .int (gI b)), (3, .int (gI c)), (4, .int (gI d)), (5, .int (gI e)), (6, .int (gI f)), (7, .int (gI g)), (8, .int (gI h)), (9, .int (gI (0))), (10, .int (gI (-1))), (11, .int (gI (-4))), (12, .int (gI (0)))]) ⟨rfl, rfl, rfl, rfl, rfl, rfl, rfl, rfl, rfl, rfl, rfl, rfl, rfl, trivial⟩ (tX7_holds_loop hY (by omega) (by omega) (by omega) (by omega) (by omega) (by omega) hg (by omega) 100010 _ _ _ _ (by omega) (by omega) (by omega) (by omega) (by omega) (by omega))
              · refine v_iconst dX7_holds_67 ?_
                exact v_iret dX7_holds_68 rfl ⟨(Nat.le_of_ble_eq_true rfl), (Nat.le_of_ble_eq_true rfl)⟩ (by omega) ⟨rfl, trivial⟩
set_option maxHeartbeats 4000000 in
set_option maxRecDepth 100000 in
theorem tX7_window_loop {sz : Nat} {M0 : wM} {G : gG} {fw : Nat → Nat → Nat} {s : sG} {M : wM} (hY : wY G fw s M) {a b c d e : Int} (ha : bt 0 a 1) (hb : bt 0 b 11) (hd : bt 0 d 4000) (he : bt 0 e 2) : ∀ (k : Nat) (u t : Int), 0 ≤ 4000 - t → 4000 - t < (k : Int) → (bt 0 t 4000) → wV G qX7_window 0 0 sz M0 0 0 45 [(0, .ref (fw 0 0)), (1, .int (gI a)), (2, .int (gI b)), (3, .int (gI c)), (4, .int (gI d)), (5, .int (gI e)), (6, .int (gI u)), (7, .int (gI t))] [] M (iP fun x M' => M' = M ∧ True) := by
  intro k
  induction k with
  | zero =>
    intros
    omega
  | succ k ih =>
    intro u t hmz hml h1
    have h0 := hY.2.2.1
    have hrw := hY.2.2.2.1
    have hnm := hY.2.2.2.2.1
    have hsh := hY.2.2.2.2.2.1
    have hmk := hY.2.2.2.2.2.2.1
    have hic := hY.2.2.2.2.2.2.2.1
    have hcn := hY.2.2.2.2.2.2.2.2.1
    have hgt := hY.2.2.2.2.2.2.2.2.2
    refine v_iload dX7_window_45 rfl ?_
    refine v_iload dX7_window_47 rfl ?_
    refine v_icmp_ge 188 dX7_window_49 (by decide) (by omega) (by omega) (fun h49 => ?_) (fun h49 => ?_)
    · refine v_iload dX7_window_188 rfl ?_
      exact v_iretA dX7_window_190 rfl ⟨(Nat.le_of_ble_eq_true rfl), (Nat.le_of_ble_eq_true rfl)⟩ ⟨rfl, trivial⟩
    · refine v_aloadn dX7_window_52 rfl ?_
      refine v_iloadn dX7_window_53 rfl ?_
      refine v_iloadn dX7_window_54 rfl ?_
      refine v_iload dX7_window_55 rfl ?_
      refine v_callV (tX7_nextChange hY (by omega) (by omega) (by omega) (by omega)) lc_X7_103 ⟨(Nat.le_of_ble_eq_true rfl), (Nat.le_of_ble_eq_true rfl)⟩ dX7_window_57 rfl rfl (Nat.le_of_ble_eq_true rfl) ⟨(Nat.le_of_ble_eq_true rfl), (Nat.le_of_ble_eq_true rfl)⟩ ⟨_, _, _, _, hY.2.1 0 0 (by decide), rfl⟩ (kP fun r57 hr57 hp57 => ?_)
      refine v_iload dX7_window_60 rfl ?_
      refine v_callS (tX7_least (by omega) (by omega)) lc_X7_106 ⟨(Nat.le_of_ble_eq_true rfl), (Nat.le_of_ble_eq_true rfl)⟩ dX7_window_62 rfl rfl (Nat.le_of_ble_eq_true rfl) ⟨(Nat.le_of_ble_eq_true rfl), (Nat.le_of_ble_eq_true rfl)⟩ (kP fun r62 hr62 hp62 => ?_)
      refine v_istore dX7_window_65 (Nat.le_of_ble_eq_true rfl) ?_
      refine v_aloadn dX7_window_67 rfl ?_
      refine v_iloadn dX7_window_68 rfl ?_
      refine v_iloadn dX7_window_69 rfl ?_
      refine v_iload dX7_window_70 rfl ?_
      refine v_callV (tX7_at hY (by omega) (by omega) (by omega)) lc_X7_83 ⟨(Nat.le_of_ble_eq_true rfl), (Nat.le_of_ble_eq_true rfl)⟩ dX7_window_72 rfl rfl (Nat.le_of_ble_eq_true rfl) ⟨(Nat.le_of_ble_eq_true rfl), (Nat.le_of_ble_eq_true rfl)⟩ ⟨_, _, _, _, hY.2.1 0 0 (by decide), rfl⟩ (kP fun r72 hr72 hp72 => ?_)
      refine v_istore dX7_window_75 (Nat.le_of_ble_eq_true rfl) ?_
      refine v_iload dX7_window_77 rfl ?_
      refine v_if_ne 125 dX7_window_79 (by decide) (by omega) (fun h79 => ?_) (fun h79 => ?_)
      · refine v_iload dX7_window_125 rfl ?_
        refine v_iconst dX7_window_127 ?_
        refine v_icmp_ne 156 dX7_window_128 (by decide) (by omega) (by omega) (fun h128 => ?_) (fun h128 => ?_)
        · refine v_iload dX7_window_156 rfl ?_
          refine v_iload dX7_window_158 rfl ?_
          refine v_sipush dX7_window_160 (by decide) ?_
          refine v_icmp_ne 170 dX7_window_163 (by decide) (by omega) (by omega) (fun h163 => ?_) (fun h163 => ?_)
          · refine v_iload dX7_window_170 rfl ?_
            refine v_iload dX7_window_172 rfl ?_
            refine v_iload dX7_window_174 rfl ?_
            refine v_isub dX7_window_176 ?_
            refine v_imul dX7_window_177 ?_
            refine v_iadd dX7_window_178 ?_
            refine v_istore dX7_window_179 (Nat.le_of_ble_eq_true rfl) ?_
            refine v_iload dX7_window_181 rfl ?_
            refine v_istore dX7_window_183 (Nat.le_of_ble_eq_true rfl) ?_
            refine v_goto 45 dX7_window_185 (by decide) ?_
            refine wV.locs (lv' := [(0, .ref (fw 0 0)), (1, .int (gI a)), (2, .int (gI b)), (3, .int (gI c)), (4, .int (gI d)), (5, .int (gI e)), (6, .int (gI _)), (7, .int (gI _))]) ⟨rfl, rfl, rfl, rfl, rfl, rfl, rfl, rfl, trivial⟩ (ih _ _ (by omega) (by omega) (by omega))
          · refine v_iconst dX7_window_166 ?_
            refine v_goto 178 dX7_window_167 (by decide) ?_
            refine v_iadd dX7_window_178 ?_
            refine v_istore dX7_window_179 (Nat.le_of_ble_eq_true rfl) ?_
            refine v_iload dX7_window_181 rfl ?_
            refine v_istore dX7_window_183 (Nat.le_of_ble_eq_true rfl) ?_
            refine v_goto 45 dX7_window_185 (by decide) ?_
            refine wV.locs (lv' := [(0, .ref (fw 0 0)), (1, .int (gI a)), (2, .int (gI b)), (3, .int (gI c)), (4, .int (gI d)), (5, .int (gI e)), (6, .int (gI _)), (7, .int (gI _))]) ⟨rfl, rfl, rfl, rfl, rfl, rfl, rfl, rfl, trivial⟩ (ih _ _ (by omega) (by omega) (by omega))
        · refine v_iload dX7_window_131 rfl ?_
          refine v_iload dX7_window_133 rfl ?_
          refine v_sipush dX7_window_135 (by decide) ?_
          refine v_icmp_ne 149 dX7_window_138 (by decide) (by omega) (by omega) (fun h138 => ?_) (fun h138 => ?_)
          · refine v_iconst dX7_window_149 ?_
            refine v_iadd dX7_window_150 ?_
            refine v_istore dX7_window_151 (Nat.le_of_ble_eq_true rfl) ?_
            refine v_goto 181 dX7_window_153 (by decide) ?_
            refine v_iload dX7_window_181 rfl ?_
            refine v_istore dX7_window_183 (Nat.le_of_ble_eq_true rfl) ?_
            refine v_goto 45 dX7_window_185 (by decide) ?_
            refine wV.locs (lv' := [(0, .ref (fw 0 0)), (1, .int (gI a)), (2, .int (gI b)), (3, .int (gI c)), (4, .int (gI d)), (5, .int (gI e)), (6, .int (gI _)), (7, .int (gI _))]) ⟨rfl, rfl, rfl, rfl, rfl, rfl, rfl, rfl, trivial⟩ (ih _ _ (by omega) (by omega) (by omega))
          · refine v_iload dX7_window_141 rfl ?_
            refine v_iload dX7_window_143 rfl ?_
            refine v_isub dX7_window_145 ?_
            refine v_goto 150 dX7_window_146 (by decide) ?_
            refine v_iadd dX7_window_150 ?_
            refine v_istore dX7_window_151 (Nat.le_of_ble_eq_true rfl) ?_
            refine v_goto 181 dX7_window_153 (by decide) ?_
            refine v_iload dX7_window_181 rfl ?_
            refine v_istore dX7_window_183 (Nat.le_of_ble_eq_true rfl) ?_
            refine v_goto 45 dX7_window_185 (by decide) ?_
            refine wV.locs (lv' := [(0, .ref (fw 0 0)), (1, .int (gI a)), (2, .int (gI b)), (3, .int (gI c)), (4, .int (gI d)), (5, .int (gI e)), (6, .int (gI _)), (7, .int (gI _))]) ⟨rfl, rfl, rfl, rfl, rfl, rfl, rfl, rfl, trivial⟩ (ih _ _ (by omega) (by omega) (by omega))
      · refine v_iload dX7_window_82 rfl ?_
        refine v_if_ne 93 dX7_window_84 (by decide) (by omega) (fun h84 => ?_) (fun h84 => ?_)
        · refine v_aloadn dX7_window_93 rfl ?_
          refine v_iloadn dX7_window_94 rfl ?_
          refine v_iloadn dX7_window_95 rfl ?_
          refine v_iload dX7_window_96 rfl ?_
          refine v_iconst dX7_window_98 ?_
          refine v_isub dX7_window_99 ?_
          refine v_callV (tX7_at hY (by omega) (by omega) (by omega)) lc_X7_83 ⟨(Nat.le_of_ble_eq_true rfl), (Nat.le_of_ble_eq_true rfl)⟩ dX7_window_100 rfl rfl (Nat.le_of_ble_eq_true rfl) ⟨(Nat.le_of_ble_eq_true rfl), (Nat.le_of_ble_eq_true rfl)⟩ ⟨_, _, _, _, hY.2.1 0 0 (by decide), rfl⟩ (kP fun r100 hr100 hp100 => ?_)
          refine v_istore dX7_window_103 (Nat.le_of_ble_eq_true rfl) ?_
          refine v_iload dX7_window_105 rfl ?_
          refine v_iload dX7_window_107 rfl ?_
          refine v_iload dX7_window_109 rfl ?_
          refine v_icmp_eq 118 dX7_window_111 (by decide) (by omega) (by omega) (fun h111 => ?_) (fun h111 => ?_)
          · refine v_iconst dX7_window_118 ?_
            refine v_iadd dX7_window_119 ?_
            refine v_istore dX7_window_120 (Nat.le_of_ble_eq_true rfl) ?_
            refine v_goto 181 dX7_window_122 (by decide) ?_
            refine v_iload dX7_window_181 rfl ?_
            refine v_istore dX7_window_183 (Nat.le_of_ble_eq_true rfl) ?_
            refine v_goto 45 dX7_window_185 (by decide) ?_
            refine wV.locs (lv' := [(0, .ref (fw 0 0)), (1, .int (gI a)), (2, .int (gI b)), (3, .int (gI c)), (4, .int (gI d)), (5, .int (gI e)), (6, .int (gI _)), (7, .int (gI _))]) ⟨rfl, rfl, rfl, rfl, rfl, rfl, rfl, rfl, trivial⟩ (ih _ _ (by omega) (by omega) (by omega))
          · refine v_iconst dX7_window_114 ?_
            refine v_goto 119 dX7_window_115 (by decide) ?_
            refine v_iadd dX7_window_119 ?_
            refine v_istore dX7_window_120 (Nat.le_of_ble_eq_true rfl) ?_
            refine v_goto 181 dX7_window_122 (by decide) ?_
            refine v_iload dX7_window_181 rfl ?_
            refine v_istore dX7_window_183 (Nat.le_of_ble_eq_true rfl) ?_
            refine v_goto 45 dX7_window_185 (by decide) ?_
            refine wV.locs (lv' := [(0, .ref (fw 0 0)), (1, .int (gI a)), (2, .int (gI b)), (3, .int (gI c)), (4, .int (gI d)), (5, .int (gI e)), (6, .int (gI _)), (7, .int (gI _))]) ⟨rfl, rfl, rfl, rfl, rfl, rfl, rfl, rfl, trivial⟩ (ih _ _ (by omega) (by omega) (by omega))
        · refine v_sipush dX7_window_87 (by decide) ?_
          refine v_goto 103 dX7_window_90 (by decide) ?_
          refine v_istore dX7_window_103 (Nat.le_of_ble_eq_true rfl) ?_
          refine v_iload dX7_window_105 rfl ?_
          refine v_iload dX7_window_107 rfl ?_
          refine v_iload dX7_window_109 rfl ?_
          refine v_icmp_eq 118 dX7_window_111 (by decide) (by omega) (by omega) (fun h111 => ?_) (fun h111 => ?_)
          · refine v_iconst dX7_window_118 ?_
            refine v_iadd dX7_window_119 ?_
            refine v_istore dX7_window_120 (Nat.le_of_ble_eq_true rfl) ?_
            refine v_goto 181 dX7_window_122 (by decide) ?_
            refine v_iload dX7_window_181 rfl ?_
            refine v_istore dX7_window_183 (Nat.le_of_ble_eq_true rfl) ?_
            refine v_goto 45 dX7_window_185 (by decide) ?_
            refine wV.locs (lv' := [(0, .ref (fw 0 0)), (1, .int (gI a)), (2, .int (gI b)), (3, .int (gI c)), (4, .int (gI d)), (5, .int (gI e)), (6, .int (gI _)), (7, .int (gI _))]) ⟨rfl, rfl, rfl, rfl, rfl, rfl, rfl, rfl, trivial⟩ (ih _ _ (by omega) (by omega) (by omega))
          · refine v_iconst dX7_window_114 ?_
            refine v_goto 119 dX7_window_115 (by decide) ?_
            refine v_iadd dX7_window_119 ?_
            refine v_istore dX7_window_120 (Nat.le_of_ble_eq_true rfl) ?_
            refine v_goto 181 dX7_window_122 (by decide) ?_
            refine v_iload dX7_window_181 rfl ?_
            refine v_istore dX7_window_183 (Nat.le_of_ble_eq_true rfl) ?_
            refine v_goto 45 dX7_window_185 (by decide) ?_
            refine wV.locs (lv' := [(0, .ref (fw 0 0)), (1, .int (gI a)), (2, .int (gI b)), (3, .int (gI c)), (4, .int (gI d)), (5, .int (gI e)), (6, .int (gI _)), (7, .int (gI _))]) ⟨rfl, rfl, rfl, rfl, rfl, rfl, rfl, rfl, trivial⟩ (ih _ _ (by omega) (by omega) (by omega))
set_option maxHeartbeats 4000000 in
set_option maxRecDepth 100000 in
theorem tX7_window {G : gG} {fw : Nat → Nat → Nat} {s : sG} {M : wM} (hY : wY G fw s M) {a b c d e : Int} (ha : rng a) (hb : rng b) (hc : rng c) (hd : rng d) (he : rng e) : wT G qX7_window 0 0 [.ref (fw 0 0), .int (gI a), .int (gI b), .int (gI c), .int (gI d), .int (gI e)] M (iP fun x M' => M' = M ∧ True) := by
  refine wT.intro (by decide) (Nat.le_of_ble_eq_true rfl) (fun sz => ?_)
  have h0 := hY.2.2.1
  have hrw := hY.2.2.2.1
  have hnm := hY.2.2.2.2.1
  have hsh := hY.2.2.2.2.2.1
  have hmk := hY.2.2.2.2.2.2.1
  have hic := hY.2.2.2.2.2.2.2.1
  have hcn := hY.2.2.2.2.2.2.2.2.1
  have hgt := hY.2.2.2.2.2.2.2.2.2
  refine v_iloadn dX7_window_0 rfl ?_
  refine v_iloadn dX7_window_1 rfl ?_
  refine v_callS (tX7_isRow (by omega) (by omega)) lc_X7_68 ⟨(Nat.le_of_ble_eq_true rfl), (Nat.le_of_ble_eq_true rfl)⟩ dX7_window_2 rfl rfl (Nat.le_of_ble_eq_true rfl) ⟨(Nat.le_of_ble_eq_true rfl), (Nat.le_of_ble_eq_true rfl)⟩ (kP fun r2 hr2 hp2 => ?_)
  refine v_if_eq 37 dX7_window_5 (by decide) (by omega) (fun h5 => ?_) (fun h5 => ?_)
  · refine v_iconst dX7_window_37 ?_
    exact v_iret dX7_window_38 rfl ⟨(Nat.le_of_ble_eq_true rfl), (Nat.le_of_ble_eq_true rfl)⟩ (by omega) ⟨rfl, trivial⟩
  · refine v_iloadn dX7_window_8 rfl ?_
    refine v_if_lt 37 dX7_window_9 (by decide) (by omega) (fun h9 => ?_) (fun h9 => ?_)
    · refine v_iconst dX7_window_37 ?_
      exact v_iret dX7_window_38 rfl ⟨(Nat.le_of_ble_eq_true rfl), (Nat.le_of_ble_eq_true rfl)⟩ (by omega) ⟨rfl, trivial⟩
    · refine v_iloadn dX7_window_12 rfl ?_
      refine v_iload dX7_window_13 rfl ?_
      refine v_icmp_ge 37 dX7_window_15 (by decide) (by omega) (by omega) (fun h15 => ?_) (fun h15 => ?_)
      · refine v_iconst dX7_window_37 ?_
        exact v_iret dX7_window_38 rfl ⟨(Nat.le_of_ble_eq_true rfl), (Nat.le_of_ble_eq_true rfl)⟩ (by omega) ⟨rfl, trivial⟩
      · refine v_iload dX7_window_18 rfl ?_
        refine v_aloadn dX7_window_20 rfl ?_
        refine v_get dX7_window_21 gf_X7_7 (hY.2.1 0 0 (by decide)) rfl ?_
        refine v_icmp_gt 37 dX7_window_24 (by decide) (by omega) (by omega) (fun h24 => ?_) (fun h24 => ?_)
        · refine v_iconst dX7_window_37 ?_
          exact v_iret dX7_window_38 rfl ⟨(Nat.le_of_ble_eq_true rfl), (Nat.le_of_ble_eq_true rfl)⟩ (by omega) ⟨rfl, trivial⟩
        · refine v_iload dX7_window_27 rfl ?_
          refine v_iconst dX7_window_29 ?_
          refine v_iconst dX7_window_30 ?_
          refine v_callS (tX7_in (by omega) (by omega) (by omega)) lc_X7_60 ⟨(Nat.le_of_ble_eq_true rfl), (Nat.le_of_ble_eq_true rfl)⟩ dX7_window_31 rfl rfl (Nat.le_of_ble_eq_true rfl) ⟨(Nat.le_of_ble_eq_true rfl), (Nat.le_of_ble_eq_true rfl)⟩ (kP fun r31 hr31 hp31 => ?_)
          refine v_if_ne 39 dX7_window_34 (by decide) (by omega) (fun h34 => ?_) (fun h34 => ?_)
          · refine v_iconst dX7_window_39 ?_
            refine v_istore dX7_window_40 (Nat.le_of_ble_eq_true rfl) ?_
            refine v_iloadn dX7_window_42 rfl ?_
            refine v_istore dX7_window_43 (Nat.le_of_ble_eq_true rfl) ?_
            refine wV.locs (lv' := [(0, .ref (fw 0 0)), (1, .int (gI a)), (2, .int (gI b)), (3, .int (gI c)), (4, .int (gI d)), (5, .int (gI e)), (6, .int (gI (0))), (7, .int (gI (c)))]) ⟨rfl, rfl, rfl, rfl, rfl, rfl, rfl, rfl, trivial⟩ (tX7_window_loop hY (by omega) (by omega) (by omega) (by omega) 4010 _ _ (by omega) (by omega) (by omega))
          · refine v_iconst dX7_window_37 ?_
            exact v_iret dX7_window_38 rfl ⟨(Nat.le_of_ble_eq_true rfl), (Nat.le_of_ble_eq_true rfl)⟩ (by omega) ⟨rfl, trivial⟩
set_option maxHeartbeats 4000000 in
set_option maxRecDepth 100000 in
theorem tX7_count_c {sz : Nat} {M0 : wM} {G : gG} {fw : Nat → Nat → Nat} {s : sG} {M : wM} (hY : wY G fw s M) {a : Int} (ha : rng a) : ∀ (k : Nat) (u v w i : Int), 0 ≤ 13 - i → 13 - i < (k : Int) → (bt 0 i 12) → wV G qX7_count 0 0 sz M0 0 0 69 [(0, .ref (fw 0 0)), (1, .int (gI a)), (2, .int (gI u)), (3, .int (gI v)), (4, .int (gI w)), (5, .int (gI i))] [] M (iP fun x M' => M' = M ∧ True) := by
  intro k
  induction k with
  | zero =>
    intros
    omega
  | succ k ih =>
    intro u v w i hmz hml h1
    have h0 := hY.2.2.1
    have hrw := hY.2.2.2.1
    have hnm := hY.2.2.2.2.1
    have hsh := hY.2.2.2.2.2.1
    have hmk := hY.2.2.2.2.2.2.1
    have hic := hY.2.2.2.2.2.2.2.1
    have hcn := hY.2.2.2.2.2.2.2.2.1
    have hgt := hY.2.2.2.2.2.2.2.2.2
    refine v_iload dX7_count_69 rfl ?_
    refine v_bipush dX7_count_71 (by decide) ?_
    refine v_icmp_ge 102 dX7_count_73 (by decide) (by omega) (by omega) (fun h73 => ?_) (fun h73 => ?_)
    · refine v_iloadn dX7_count_102 rfl ?_
      clear ih hmk hrw hgt hcn hic hnm hsh
      rcases (show a = 0 ∨ a = 1 ∨ a = 2 ∨ a = 3 ∨ (a < 0 ∨ 3 < a) by omega) with rfl | rfl | rfl | rfl | hout
      · refine v_tin 132 dX7_count_103 (by omega) (by omega) (by omega) rfl (by decide) ?_
        refine v_iloadn dX7_count_132 rfl ?_
        exact v_iretA dX7_count_133 rfl ⟨(Nat.le_of_ble_eq_true rfl), (Nat.le_of_ble_eq_true rfl)⟩ ⟨rfl, trivial⟩
      · refine v_tin 134 dX7_count_103 (by omega) (by omega) (by omega) rfl (by decide) ?_
        refine v_aloadn dX7_count_134 rfl ?_
        refine v_get dX7_count_135 gf_X7_90 (hY.2.1 0 0 (by decide)) rfl ?_
        exact v_iret dX7_count_138 rfl ⟨(Nat.le_of_ble_eq_true rfl), (Nat.le_of_ble_eq_true rfl)⟩ (by omega) ⟨rfl, trivial⟩
      · refine v_tin 139 dX7_count_103 (by omega) (by omega) (by omega) rfl (by decide) ?_
        refine v_iloadn dX7_count_139 rfl ?_
        exact v_iretA dX7_count_140 rfl ⟨(Nat.le_of_ble_eq_true rfl), (Nat.le_of_ble_eq_true rfl)⟩ ⟨rfl, trivial⟩
      · refine v_tin 141 dX7_count_103 (by omega) (by omega) (by omega) rfl (by decide) ?_
        refine v_iload dX7_count_141 rfl ?_
        exact v_iretA dX7_count_143 rfl ⟨(Nat.le_of_ble_eq_true rfl), (Nat.le_of_ble_eq_true rfl)⟩ ⟨rfl, trivial⟩
      · refine v_tout 144 dX7_count_103 (by omega) hout (by decide) ?_
        refine v_iconst dX7_count_144 ?_
        exact v_iret dX7_count_145 rfl ⟨(Nat.le_of_ble_eq_true rfl), (Nat.le_of_ble_eq_true rfl)⟩ (by omega) ⟨rfl, trivial⟩
    · refine v_iload dX7_count_76 rfl ?_
      refine v_aloadn dX7_count_78 rfl ?_
      refine v_get dX7_count_79 gf_X7_51 (hY.2.1 0 0 (by decide)) rfl ?_
      refine v_iload dX7_count_82 rfl ?_
      refine v_iald dX7_count_84 (hY.2.1 13 0 (by decide)) (by omega) (by omega) (by decide) ?_
      have hga := hgt i.toNat (by omega)
      refine v_if_le 92 dX7_count_85 (by decide) (by omega) (fun h85 => ?_) (fun h85 => ?_)
      · refine v_iconst dX7_count_92 ?_
        refine v_iadd dX7_count_93 ?_
        refine v_istore dX7_count_94 (Nat.le_of_ble_eq_true rfl) ?_
        refine v_iinc dX7_count_96 rfl (Nat.le_of_ble_eq_true rfl) ?_
        refine v_goto 69 dX7_count_99 (by decide) ?_
        refine wV.locs (lv' := [(0, .ref (fw 0 0)), (1, .int (gI a)), (2, .int (gI _)), (3, .int (gI _)), (4, .int (gI _)), (5, .int (gI _))]) ⟨rfl, rfl, rfl, rfl, rfl, rfl, trivial⟩ (ih _ _ _ _ (by omega) (by omega) (by omega))
      · refine v_iconst dX7_count_88 ?_
        refine v_goto 93 dX7_count_89 (by decide) ?_
        refine v_iadd dX7_count_93 ?_
        refine v_istore dX7_count_94 (Nat.le_of_ble_eq_true rfl) ?_
        refine v_iinc dX7_count_96 rfl (Nat.le_of_ble_eq_true rfl) ?_
        refine v_goto 69 dX7_count_99 (by decide) ?_
        refine wV.locs (lv' := [(0, .ref (fw 0 0)), (1, .int (gI a)), (2, .int (gI _)), (3, .int (gI _)), (4, .int (gI _)), (5, .int (gI _))]) ⟨rfl, rfl, rfl, rfl, rfl, rfl, trivial⟩ (ih _ _ _ _ (by omega) (by omega) (by omega))
set_option maxHeartbeats 4000000 in
set_option maxRecDepth 100000 in
theorem tX7_count_b {sz : Nat} {M0 : wM} {G : gG} {fw : Nat → Nat → Nat} {s : sG} {M : wM} (hY : wY G fw s M) {a : Int} (ha : rng a) : ∀ (k : Nat) (u v w i : Int), 0 ≤ 5 - i → 5 - i < (k : Int) → (bt 0 i 4) → wV G qX7_count 0 0 sz M0 0 0 36 [(0, .ref (fw 0 0)), (1, .int (gI a)), (2, .int (gI u)), (3, .int (gI v)), (4, .int (gI w)), (5, .int (gI i))] [] M (iP fun x M' => M' = M ∧ True) := by
  intro k
  induction k with
  | zero =>
    intros
    omega
  | succ k ih =>
    intro u v w i hmz hml h1
    have h0 := hY.2.2.1
    have hrw := hY.2.2.2.1
    have hnm := hY.2.2.2.2.1
    have hsh := hY.2.2.2.2.2.1
    have hmk := hY.2.2.2.2.2.2.1
    have hic := hY.2.2.2.2.2.2.2.1
    have hcn := hY.2.2.2.2.2.2.2.2.1
    have hgt := hY.2.2.2.2.2.2.2.2.2
    refine v_iload dX7_count_36 rfl ?_
    refine v_iconst dX7_count_38 ?_
    refine v_icmp_ge 66 dX7_count_39 (by decide) (by omega) (by omega) (fun h39 => ?_) (fun h39 => ?_)
    · refine v_iconst dX7_count_66 ?_
      refine v_istore dX7_count_67 (Nat.le_of_ble_eq_true rfl) ?_
      refine wV.locs (lv' := [(0, .ref (fw 0 0)), (1, .int (gI a)), (2, .int (gI (u))), (3, .int (gI (v))), (4, .int (gI (w))), (5, .int (gI (0)))]) ⟨rfl, rfl, rfl, rfl, rfl, rfl, trivial⟩ (tX7_count_c hY ha 20 _ _ _ _ (by omega) (by omega) (by omega))
    · refine v_iloadn dX7_count_42 rfl ?_
      refine v_aloadn dX7_count_43 rfl ?_
      refine v_get dX7_count_44 gf_X7_44 (hY.2.1 0 0 (by decide)) rfl ?_
      refine v_iload dX7_count_47 rfl ?_
      refine v_zald dX7_count_49 (hY.2.1 11 0 (by decide)) (by omega) (by omega) (by decide) ?_
      have hga := hic i.toNat (by omega)
      refine v_if_eq 57 dX7_count_50 (by decide) (by omega) (fun h50 => ?_) (fun h50 => ?_)
      · refine v_iconst dX7_count_57 ?_
        refine v_iadd dX7_count_58 ?_
        refine v_istoren dX7_count_59 (Nat.le_of_ble_eq_true rfl) ?_
        refine v_iinc dX7_count_60 rfl (Nat.le_of_ble_eq_true rfl) ?_
        refine v_goto 36 dX7_count_63 (by decide) ?_
        refine wV.locs (lv' := [(0, .ref (fw 0 0)), (1, .int (gI a)), (2, .int (gI _)), (3, .int (gI _)), (4, .int (gI _)), (5, .int (gI _))]) ⟨rfl, rfl, rfl, rfl, rfl, rfl, trivial⟩ (ih _ _ _ _ (by omega) (by omega) (by omega))
      · refine v_iconst dX7_count_53 ?_
        refine v_goto 58 dX7_count_54 (by decide) ?_
        refine v_iadd dX7_count_58 ?_
        refine v_istoren dX7_count_59 (Nat.le_of_ble_eq_true rfl) ?_
        refine v_iinc dX7_count_60 rfl (Nat.le_of_ble_eq_true rfl) ?_
        refine v_goto 36 dX7_count_63 (by decide) ?_
        refine wV.locs (lv' := [(0, .ref (fw 0 0)), (1, .int (gI a)), (2, .int (gI _)), (3, .int (gI _)), (4, .int (gI _)), (5, .int (gI _))]) ⟨rfl, rfl, rfl, rfl, rfl, rfl, trivial⟩ (ih _ _ _ _ (by omega) (by omega) (by omega))
set_option maxHeartbeats 4000000 in
set_option maxRecDepth 100000 in
theorem tX7_count_a {sz : Nat} {M0 : wM} {G : gG} {fw : Nat → Nat → Nat} {s : sG} {M : wM} (hY : wY G fw s M) {a : Int} (ha : rng a) : ∀ (k : Nat) (u v w i : Int), 0 ≤ 25 - i → 25 - i < (k : Int) → (bt 0 i 24) → wV G qX7_count 0 0 sz M0 0 0 10 [(0, .ref (fw 0 0)), (1, .int (gI a)), (2, .int (gI u)), (3, .int (gI v)), (4, .int (gI w)), (5, .int (gI i))] [] M (iP fun x M' => M' = M ∧ True) := by
  intro k
  induction k with
  | zero =>
    intros
    omega
  | succ k ih =>
    intro u v w i hmz hml h1
    have h0 := hY.2.2.1
    have hrw := hY.2.2.2.1
    have hnm := hY.2.2.2.2.1
    have hsh := hY.2.2.2.2.2.1
    have hmk := hY.2.2.2.2.2.2.1
    have hic := hY.2.2.2.2.2.2.2.1
    have hcn := hY.2.2.2.2.2.2.2.2.1
    have hgt := hY.2.2.2.2.2.2.2.2.2
    refine v_iload dX7_count_10 rfl ?_
    refine v_bipush dX7_count_12 (by decide) ?_
    refine v_icmp_ge 33 dX7_count_14 (by decide) (by omega) (by omega) (fun h14 => ?_) (fun h14 => ?_)
    · refine v_iconst dX7_count_33 ?_
      refine v_istore dX7_count_34 (Nat.le_of_ble_eq_true rfl) ?_
      refine wV.locs (lv' := [(0, .ref (fw 0 0)), (1, .int (gI a)), (2, .int (gI (u))), (3, .int (gI (v))), (4, .int (gI (w))), (5, .int (gI (0)))]) ⟨rfl, rfl, rfl, rfl, rfl, rfl, trivial⟩ (tX7_count_b hY ha 20 _ _ _ _ (by omega) (by omega) (by omega))
    · refine v_iloadn dX7_count_17 rfl ?_
      refine v_aloadn dX7_count_18 rfl ?_
      refine v_get dX7_count_19 gf_X7_13 (hY.2.1 0 0 (by decide)) rfl ?_
      refine v_iload dX7_count_22 rfl ?_
      refine v_iald dX7_count_24 (hY.2.1 1 0 (by decide)) (by omega) (by omega) (by decide) ?_
      refine v_iadd dX7_count_25 ?_
      refine v_istoren dX7_count_26 (Nat.le_of_ble_eq_true rfl) ?_
      refine v_iinc dX7_count_27 rfl (Nat.le_of_ble_eq_true rfl) ?_
      refine v_goto 10 dX7_count_30 (by decide) ?_
      refine wV.locs (lv' := [(0, .ref (fw 0 0)), (1, .int (gI a)), (2, .int (gI _)), (3, .int (gI _)), (4, .int (gI _)), (5, .int (gI _))]) ⟨rfl, rfl, rfl, rfl, rfl, rfl, trivial⟩ (ih _ _ _ _ (by omega) (by omega) (by omega))
set_option maxHeartbeats 4000000 in
set_option maxRecDepth 100000 in
theorem tX7_count {G : gG} {fw : Nat → Nat → Nat} {s : sG} {M : wM} (hY : wY G fw s M) {a : Int} (ha : rng a) : wT G qX7_count 0 0 [.ref (fw 0 0), .int (gI a)] M (iP fun x M' => M' = M ∧ True) := by
  refine wT.intro (by decide) (Nat.le_of_ble_eq_true rfl) (fun sz => ?_)
  have h0 := hY.2.2.1
  have hrw := hY.2.2.2.1
  have hnm := hY.2.2.2.2.1
  have hsh := hY.2.2.2.2.2.1
  have hmk := hY.2.2.2.2.2.2.1
  have hic := hY.2.2.2.2.2.2.2.1
  have hcn := hY.2.2.2.2.2.2.2.2.1
  have hgt := hY.2.2.2.2.2.2.2.2.2
  refine v_iconst dX7_count_0 ?_
  refine v_istoren dX7_count_1 (Nat.le_of_ble_eq_true rfl) ?_
  refine v_iconst dX7_count_2 ?_
  refine v_istoren dX7_count_3 (Nat.le_of_ble_eq_true rfl) ?_
  refine v_iconst dX7_count_4 ?_
  refine v_istore dX7_count_5 (Nat.le_of_ble_eq_true rfl) ?_
  refine v_iconst dX7_count_7 ?_
  refine v_istore dX7_count_8 (Nat.le_of_ble_eq_true rfl) ?_
  refine wV.locs (lv' := [(0, .ref (fw 0 0)), (1, .int (gI a)), (2, .int (gI (0))), (3, .int (gI (0))), (4, .int (gI (0))), (5, .int (gI (0)))]) ⟨rfl, rfl, rfl, rfl, rfl, rfl, trivial⟩ (tX7_count_a hY ha 30 _ _ _ _ (by omega) (by omega) (by omega))
