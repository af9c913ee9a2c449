def lw_ck (k : Nat) : List Cond := match k with
  | 0 => k2_sels lw_privs
  | 1 => tables_1_1
  | 2 => tables_1_2
  | 3 => tables_1_3
  | _ => tables_1_4
theorem lw_ck_in {k : Nat} {w : Cond} (h : w ∈ lw_ck k) : w ∈ lw_tbl := by
  unfold lw_tbl tables_1
  simp only [List.mem_append]
  unfold lw_ck at h
  split at h <;> simp [h]
theorem gws (is : List (Nat × Nat)) {ws : List Cond} (h : (is.map fun i => (lw_ck i.1)[i.2]?) = ws.map some ∧ ws.all goodWord = true) : ∀ w ∈ ws, w ∈ lw_good := by
  intro w hw
  have h1 : some w ∈ ws.map some := List.mem_map.mpr ⟨w, hw, rfl⟩
  rw [← h.1] at h1
  obtain ⟨i, -, hi⟩ := List.mem_map.mp h1
  exact List.mem_filter.mpr ⟨lw_ck_in (List.mem_of_getElem? hi), List.all_eq_true.mp h.2 w hw⟩
theorem gw1 (k i : Nat) {w : Cond} (h : (lw_ck k)[i]? = some w ∧ goodWord w = true) : w ∈ lw_good := List.mem_filter.mpr ⟨lw_ck_in (List.mem_of_getElem? h.1), h.2⟩
theorem gwr (k i : Nat) {w : Cond} (h : (lw_ck k)[i]? = some w) (hg : goodWord w = true) : w ∈ lw_good := List.mem_filter.mpr ⟨lw_ck_in (List.mem_of_getElem? h), hg⟩
theorem nw1 (k i : Nat) {w : Cond} (h : (lw_ck k)[i]? = some w ∧ is_nest w = true) : w ∈ lw_nest := List.mem_filter.mpr ⟨lw_ck_in (List.mem_of_getElem? h.1), h.2⟩
theorem iX0 : ∀ w ∈ u_ws RX0 TX0 5, w ∈ lw_good := gws [(1, 148), (1, 150), (1, 152), (1, 154), (1, 156)] (by decide +kernel)
theorem iX1 : ∀ w ∈ u_ws RX1 TX1 3, w ∈ lw_good := gws [(1, 103), (1, 105), (1, 107)] (by decide +kernel)
theorem iX2 : ∀ w ∈ u_ws RX2 TX2 4, w ∈ lw_good := gws [(1, 124), (1, 126), (1, 128), (1, 130)] (by decide +kernel)
theorem iX3 : ∀ w ∈ u_ws RX3 TX3 6, w ∈ lw_good := gws [(1, 62), (1, 64), (1, 66), (1, 68), (1, 70), (1, 72)] (by decide +kernel)
theorem iX4 : ∀ w ∈ u_ws RX4 TX4 3, w ∈ lw_good := gws [(1, 48), (1, 50), (1, 52)] (by decide +kernel)
theorem iX5 : ∀ w ∈ u_ws RX5 TX5 5, w ∈ lw_good := gws [(1, 80), (1, 82), (1, 84), (1, 86), (1, 88)] (by decide +kernel)
theorem iX6 : ∀ w ∈ u_ws RX6 TX6 11, w ∈ lw_good := gws [(1, 170), (1, 172), (1, 174), (1, 176), (1, 178), (1, 180), (1, 182), (1, 184), (1, 186), (1, 188), (1, 190)] (by decide +kernel)
theorem iX7 : ∀ w ∈ u_ws RX7 TX7 23, w ∈ lw_good := gws [(3, 72), (3, 74), (3, 76), (3, 78), (3, 80), (3, 82), (3, 84), (3, 86), (3, 88), (3, 90), (3, 92), (3, 94), (3, 96), (3, 98), (3, 100), (3, 102), (3, 104), (3, 106), (3, 108), (3, 110), (3, 112), (3, 114), (3, 116)] (by decide +kernel)
theorem pf_X0_7 : lkP RX0 7 0 0 (tyX0 0) := ⟨_, _, _, tyX0, rfl, by decide, iX0, gw1 1 138 (by decide +kernel), rfl, tyX0_ok, nmX0, rfl⟩
theorem pf_X0_13 : lkP RX0 13 0 1 (tyX0 1) := ⟨_, _, _, tyX0, rfl, by decide, iX0, gw1 1 140 (by decide +kernel), rfl, tyX0_ok, nmX0, rfl⟩
theorem pf_X0_17 : lkP RX0 17 0 2 (tyX0 2) := ⟨_, _, _, tyX0, rfl, by decide, iX0, gw1 1 142 (by decide +kernel), rfl, tyX0_ok, nmX0, rfl⟩
theorem pf_X0_20 : lkP RX0 20 0 3 (tyX0 3) := ⟨_, _, _, tyX0, rfl, by decide, iX0, gw1 1 144 (by decide +kernel), rfl, tyX0_ok, nmX0, rfl⟩
theorem pf_X0_23 : lkP RX0 23 0 4 (tyX0 4) := ⟨_, _, _, tyX0, rfl, by decide, iX0, gw1 1 146 (by decide +kernel), rfl, tyX0_ok, nmX0, rfl⟩
theorem pf_X1_9 : lkP RX1 9 1 0 (tyX1 0) := ⟨_, _, _, tyX1, rfl, by decide, iX1, gw1 1 97 (by decide +kernel), rfl, tyX1_ok, nmX1, rfl⟩
theorem pf_X1_15 : lkP RX1 15 1 1 (tyX1 1) := ⟨_, _, _, tyX1, rfl, by decide, iX1, gw1 1 99 (by decide +kernel), rfl, tyX1_ok, nmX1, rfl⟩
theorem pf_X1_18 : lkP RX1 18 1 2 (tyX1 2) := ⟨_, _, _, tyX1, rfl, by decide, iX1, gw1 1 101 (by decide +kernel), rfl, tyX1_ok, nmX1, rfl⟩
theorem gf_X2_10 : lkF RX2 10 2 0 := ⟨_, _, _, rfl, by decide, iX2, gw1 1 117 (by decide +kernel)⟩
set_option maxRecDepth 100000 in
theorem lc_X2_26 : lkV RX2 26 qX4_clear 0 := ⟨(List.forall_mem_cons.mpr ⟨gw1 2 55 (by decide +kernel), (List.forall_mem_cons.mpr ⟨gw1 2 56 (by decide +kernel), (List.forall_mem_cons.mpr ⟨gw1 2 57 (by decide +kernel), (List.forall_mem_cons.mpr ⟨gw1 1 4 (by decide +kernel), (List.forall_mem_cons.mpr ⟨gwr 2 58 rfl rfl, (fun _ h => by cases h)⟩)⟩)⟩)⟩)⟩), by decide +kernel, by decide +kernel, by decide +kernel⟩
set_option maxRecDepth 100000 in
theorem lc_X2_29 : lkV RX2 29 qX4_put 2 := ⟨(List.forall_mem_cons.mpr ⟨gw1 2 59 (by decide +kernel), (List.forall_mem_cons.mpr ⟨gw1 1 227 (by decide +kernel), (List.forall_mem_cons.mpr ⟨gw1 1 228 (by decide +kernel), (List.forall_mem_cons.mpr ⟨gw1 1 4 (by decide +kernel), (List.forall_mem_cons.mpr ⟨gwr 1 229 rfl rfl, (fun _ h => by cases h)⟩)⟩)⟩)⟩)⟩), by decide +kernel, by decide +kernel, by decide +kernel⟩
set_option maxRecDepth 100000 in
theorem lc_X2_33 : lkV RX2 33 qX2_coverWhile 3 := ⟨(List.forall_mem_cons.mpr ⟨gw1 2 60 (by decide +kernel), (List.forall_mem_cons.mpr ⟨gw1 2 61 (by decide +kernel), (List.forall_mem_cons.mpr ⟨gw1 2 62 (by decide +kernel), (List.forall_mem_cons.mpr ⟨gw1 1 6 (by decide +kernel), (List.forall_mem_cons.mpr ⟨gwr 2 63 rfl rfl, (fun _ h => by cases h)⟩)⟩)⟩)⟩)⟩), by decide +kernel, by decide +kernel, by decide +kernel⟩
theorem pf_X2_16 : lkP RX2 16 2 1 (tyX2 1) := ⟨_, _, _, tyX2, rfl, by decide, iX2, gw1 1 118 (by decide +kernel), rfl, tyX2_ok, nmX2, rfl⟩
theorem pf_X2_20 : lkP RX2 20 2 2 (tyX2 2) := ⟨_, _, _, tyX2, rfl, by decide, iX2, gw1 1 120 (by decide +kernel), rfl, tyX2_ok, nmX2, rfl⟩
theorem pf_X2_23 : lkP RX2 23 2 3 (tyX2 3) := ⟨_, _, _, tyX2, rfl, by decide, iX2, gw1 1 122 (by decide +kernel), rfl, tyX2_ok, nmX2, rfl⟩
set_option maxRecDepth 100000 in
theorem lc_X2_9 : lkIN RX2 9 qX4_init 0 := ⟨"WavePairs", (List.forall_mem_cons.mpr ⟨gw1 1 42 (by decide +kernel), (List.forall_mem_cons.mpr ⟨gw1 1 4 (by decide +kernel), (List.forall_mem_cons.mpr ⟨gwr 1 43 rfl rfl, (fun _ h => by cases h)⟩)⟩)⟩), nw1 1 116 (by decide +kernel), rfl, rfl, by decide +kernel, by decide +kernel, by decide +kernel⟩
theorem pf_X2_10 : lkPF RX2 10 2 0 (tyX2 0) := ⟨_, _, _, tyX2, rfl, by decide, iX2, gw1 1 117 (by decide +kernel), rfl, rfl, tyX2_ok, nmX2, rfl⟩
set_option maxRecDepth 100000 in
theorem lc_X3_11 : lkIN RX3 11 qX4_init 0 := ⟨"WavePairs", (List.forall_mem_cons.mpr ⟨gw1 1 42 (by decide +kernel), (List.forall_mem_cons.mpr ⟨gw1 1 4 (by decide +kernel), (List.forall_mem_cons.mpr ⟨gwr 1 43 rfl rfl, (fun _ h => by cases h)⟩)⟩)⟩), nw1 1 41 (by decide +kernel), rfl, rfl, by decide +kernel, by decide +kernel, by decide +kernel⟩
theorem pf_X3_12 : lkPF RX3 12 3 0 (tyX3 0) := ⟨_, _, _, tyX3, rfl, by decide, iX3, gw1 1 56 (by decide +kernel), rfl, rfl, tyX3_ok, nmX3, rfl⟩
theorem gf_X3_12 : lkF RX3 12 3 0 := ⟨_, _, _, rfl, by decide, iX3, gw1 1 56 (by decide +kernel)⟩
theorem pf_X3_18 : lkP RX3 18 3 1 (tyX3 1) := ⟨_, _, _, tyX3, rfl, by decide, iX3, gw1 1 57 (by decide +kernel), rfl, tyX3_ok, nmX3, rfl⟩
theorem pf_X3_21 : lkP RX3 21 3 2 (tyX3 2) := ⟨_, _, _, tyX3, rfl, by decide, iX3, gw1 1 58 (by decide +kernel), rfl, tyX3_ok, nmX3, rfl⟩
theorem pf_X3_24 : lkP RX3 24 3 3 (tyX3 3) := ⟨_, _, _, tyX3, rfl, by decide, iX3, gw1 1 59 (by decide +kernel), rfl, tyX3_ok, nmX3, rfl⟩
theorem pf_X3_28 : lkP RX3 28 3 4 (tyX3 4) := ⟨_, _, _, tyX3, rfl, by decide, iX3, gw1 1 60 (by decide +kernel), rfl, tyX3_ok, nmX3, rfl⟩
theorem pf_X3_32 : lkP RX3 32 3 5 (tyX3 5) := ⟨_, _, _, tyX3, rfl, by decide, iX3, gw1 1 61 (by decide +kernel), rfl, tyX3_ok, nmX3, rfl⟩
theorem gf_X3_32 : lkF RX3 32 3 5 := ⟨_, _, _, rfl, by decide, iX3, gw1 1 61 (by decide +kernel)⟩
theorem gf_X3_18 : lkF RX3 18 3 1 := ⟨_, _, _, rfl, by decide, iX3, gw1 1 57 (by decide +kernel)⟩
set_option maxRecDepth 100000 in
theorem lc_X3_46 : lkV RX3 46 qX4_latest 1 := ⟨(List.forall_mem_cons.mpr ⟨gw1 2 126 (by decide +kernel), (List.forall_mem_cons.mpr ⟨gw1 2 20 (by decide +kernel), (List.forall_mem_cons.mpr ⟨gw1 2 21 (by decide +kernel), (List.forall_mem_cons.mpr ⟨gw1 1 4 (by decide +kernel), (List.forall_mem_cons.mpr ⟨gwr 2 22 rfl rfl, (fun _ h => by cases h)⟩)⟩)⟩)⟩)⟩), by decide +kernel, by decide +kernel, by decide +kernel⟩
theorem gf_X3_21 : lkF RX3 21 3 2 := ⟨_, _, _, rfl, by decide, iX3, gw1 1 58 (by decide +kernel)⟩
theorem gf_X3_24 : lkF RX3 24 3 3 := ⟨_, _, _, rfl, by decide, iX3, gw1 1 59 (by decide +kernel)⟩
set_option maxRecDepth 100000 in
theorem lc_X3_50 : lkV RX3 50 qX4_valueOf 1 := ⟨(List.forall_mem_cons.mpr ⟨gw1 2 127 (by decide +kernel), (List.forall_mem_cons.mpr ⟨gw1 2 32 (by decide +kernel), (List.forall_mem_cons.mpr ⟨gw1 2 33 (by decide +kernel), (List.forall_mem_cons.mpr ⟨gw1 1 4 (by decide +kernel), (List.forall_mem_cons.mpr ⟨gwr 2 34 rfl rfl, (fun _ h => by cases h)⟩)⟩)⟩)⟩)⟩), by decide +kernel, by decide +kernel, by decide +kernel⟩
theorem gf_X3_28 : lkF RX3 28 3 4 := ⟨_, _, _, rfl, by decide, iX3, gw1 1 60 (by decide +kernel)⟩
set_option maxRecDepth 100000 in
theorem lc_X3_53 : lkSN RX3 53 qX6_agree 3 := ⟨"WavePairs", (List.forall_mem_cons.mpr ⟨gw1 2 129 (by decide +kernel), (List.forall_mem_cons.mpr ⟨gw1 1 1 (by decide +kernel), (List.forall_mem_cons.mpr ⟨gwr 2 130 rfl rfl, (fun _ h => by cases h)⟩)⟩)⟩), nw1 2 128 (by decide +kernel), by decide +kernel, by decide +kernel, by decide +kernel⟩
set_option maxRecDepth 100000 in
theorem lc_X3_57 : lkV RX3 57 qX4_tickOf 1 := ⟨(List.forall_mem_cons.mpr ⟨gw1 2 131 (by decide +kernel), (List.forall_mem_cons.mpr ⟨gw1 1 218 (by decide +kernel), (List.forall_mem_cons.mpr ⟨gw1 1 219 (by decide +kernel), (List.forall_mem_cons.mpr ⟨gw1 1 4 (by decide +kernel), (List.forall_mem_cons.mpr ⟨gwr 1 220 rfl rfl, (fun _ h => by cases h)⟩)⟩)⟩)⟩)⟩), by decide +kernel, by decide +kernel, by decide +kernel⟩
set_option maxRecDepth 100000 in
theorem lc_X3_60 : lkM RX3 60 Lib.Math.min.name Lib.Math.min.code := (List.forall_mem_cons.mpr ⟨gw1 2 132 (by decide +kernel), (List.forall_mem_cons.mpr ⟨gw1 2 90 (by decide +kernel), (List.forall_mem_cons.mpr ⟨gw1 1 9 (by decide +kernel), (List.forall_mem_cons.mpr ⟨gwr 2 91 rfl rfl, (fun _ h => by cases h)⟩)⟩)⟩)⟩)
set_option maxRecDepth 100000 in
theorem lc_X3_35 : lkV RX3 35 qX4_clear 0 := ⟨(List.forall_mem_cons.mpr ⟨gw1 2 108 (by decide +kernel), (List.forall_mem_cons.mpr ⟨gw1 2 56 (by decide +kernel), (List.forall_mem_cons.mpr ⟨gw1 2 57 (by decide +kernel), (List.forall_mem_cons.mpr ⟨gw1 1 4 (by decide +kernel), (List.forall_mem_cons.mpr ⟨gwr 2 58 rfl rfl, (fun _ h => by cases h)⟩)⟩)⟩)⟩)⟩), by decide +kernel, by decide +kernel, by decide +kernel⟩
set_option maxRecDepth 100000 in
theorem lc_X3_38 : lkV RX3 38 qX4_put 2 := ⟨(List.forall_mem_cons.mpr ⟨gw1 2 109 (by decide +kernel), (List.forall_mem_cons.mpr ⟨gw1 1 227 (by decide +kernel), (List.forall_mem_cons.mpr ⟨gw1 1 228 (by decide +kernel), (List.forall_mem_cons.mpr ⟨gw1 1 4 (by decide +kernel), (List.forall_mem_cons.mpr ⟨gwr 1 229 rfl rfl, (fun _ h => by cases h)⟩)⟩)⟩)⟩)⟩), by decide +kernel, by decide +kernel, by decide +kernel⟩
set_option maxRecDepth 100000 in
theorem lc_X3_42 : lkV RX3 42 qX3_wantValue 2 := ⟨(List.forall_mem_cons.mpr ⟨gw1 2 104 (by decide +kernel), (List.forall_mem_cons.mpr ⟨gw1 2 105 (by decide +kernel), (List.forall_mem_cons.mpr ⟨gw1 2 106 (by decide +kernel), (List.forall_mem_cons.mpr ⟨gw1 1 3 (by decide +kernel), (List.forall_mem_cons.mpr ⟨gwr 2 107 rfl rfl, (fun _ h => by cases h)⟩)⟩)⟩)⟩)⟩), by decide +kernel, by decide +kernel, by decide +kernel⟩
theorem pf_X4_18 : lkP RX4 18 4 2 (tyX4 2) := ⟨_, _, _, tyX4, rfl, by decide, iX4, gw1 1 47 (by decide +kernel), rfl, tyX4_ok, nmX4, rfl⟩
theorem gf_X4_18 : lkF RX4 18 4 2 := ⟨_, _, _, rfl, by decide, iX4, gw1 1 47 (by decide +kernel)⟩
set_option maxRecDepth 100000 in
theorem lc_X4_22 : lkV RX4 22 qX4_latest 1 := ⟨(List.forall_mem_cons.mpr ⟨gw1 2 19 (by decide +kernel), (List.forall_mem_cons.mpr ⟨gw1 2 20 (by decide +kernel), (List.forall_mem_cons.mpr ⟨gw1 2 21 (by decide +kernel), (List.forall_mem_cons.mpr ⟨gw1 1 4 (by decide +kernel), (List.forall_mem_cons.mpr ⟨gwr 2 22 rfl rfl, (fun _ h => by cases h)⟩)⟩)⟩)⟩)⟩), by decide +kernel, by decide +kernel, by decide +kernel⟩
theorem pf_X4_9 : lkPF RX4 9 4 0 (tyX4 0) := ⟨_, _, _, tyX4, rfl, by decide, iX4, gw1 1 45 (by decide +kernel), rfl, rfl, tyX4_ok, nmX4, rfl⟩
theorem pf_X4_15 : lkPF RX4 15 4 1 (tyX4 1) := ⟨_, _, _, tyX4, rfl, by decide, iX4, gw1 1 46 (by decide +kernel), rfl, rfl, tyX4_ok, nmX4, rfl⟩
set_option maxRecDepth 100000 in
theorem lc_X4_26 : lkV RX4 26 qX4_tickOf 1 := ⟨(List.forall_mem_cons.mpr ⟨gw1 1 217 (by decide +kernel), (List.forall_mem_cons.mpr ⟨gw1 1 218 (by decide +kernel), (List.forall_mem_cons.mpr ⟨gw1 1 219 (by decide +kernel), (List.forall_mem_cons.mpr ⟨gw1 1 4 (by decide +kernel), (List.forall_mem_cons.mpr ⟨gwr 1 220 rfl rfl, (fun _ h => by cases h)⟩)⟩)⟩)⟩)⟩), by decide +kernel, by decide +kernel, by decide +kernel⟩
set_option maxRecDepth 100000 in
theorem lc_X4_30 : lkV RX4 30 qX4_valueOf 1 := ⟨(List.forall_mem_cons.mpr ⟨gw1 2 31 (by decide +kernel), (List.forall_mem_cons.mpr ⟨gw1 2 32 (by decide +kernel), (List.forall_mem_cons.mpr ⟨gw1 2 33 (by decide +kernel), (List.forall_mem_cons.mpr ⟨gw1 1 4 (by decide +kernel), (List.forall_mem_cons.mpr ⟨gwr 2 34 rfl rfl, (fun _ h => by cases h)⟩)⟩)⟩)⟩)⟩), by decide +kernel, by decide +kernel, by decide +kernel⟩
set_option maxRecDepth 100000 in
theorem lc_X4_33 : lkV RX4 33 qX4_isEdge 1 := ⟨(List.forall_mem_cons.mpr ⟨gw1 2 175 (by decide +kernel), (List.forall_mem_cons.mpr ⟨gw1 2 177 (by decide +kernel), (List.forall_mem_cons.mpr ⟨gw1 0 5 (by decide +kernel), (List.forall_mem_cons.mpr ⟨gw1 1 4 (by decide +kernel), (List.forall_mem_cons.mpr ⟨gwr 2 178 rfl rfl, (fun _ h => by cases h)⟩)⟩)⟩)⟩)⟩), by decide +kernel, by decide +kernel, by decide +kernel⟩
theorem gf_X4_9 : lkF RX4 9 4 0 := ⟨_, _, _, rfl, by decide, iX4, gw1 1 45 (by decide +kernel)⟩
theorem gf_X4_15 : lkF RX4 15 4 1 := ⟨_, _, _, rfl, by decide, iX4, gw1 1 46 (by decide +kernel)⟩
set_option maxRecDepth 100000 in
theorem lc_X4_37 : lkV RX4 37 qX4_ticksWithin 3 := ⟨(List.forall_mem_cons.mpr ⟨gw1 3 17 (by decide +kernel), (List.forall_mem_cons.mpr ⟨gw1 3 19 (by decide +kernel), (List.forall_mem_cons.mpr ⟨gw1 0 13 (by decide +kernel), (List.forall_mem_cons.mpr ⟨gw1 1 4 (by decide +kernel), (List.forall_mem_cons.mpr ⟨gwr 3 20 rfl rfl, (fun _ h => by cases h)⟩)⟩)⟩)⟩)⟩), by decide +kernel, by decide +kernel, by decide +kernel⟩
set_option maxRecDepth 100000 in
theorem lc_X4_41 : lkM RX4 41 Lib.Math.min.name Lib.Math.min.code := (List.forall_mem_cons.mpr ⟨gw1 3 21 (by decide +kernel), (List.forall_mem_cons.mpr ⟨gw1 2 90 (by decide +kernel), (List.forall_mem_cons.mpr ⟨gw1 1 9 (by decide +kernel), (List.forall_mem_cons.mpr ⟨gwr 2 91 rfl rfl, (fun _ h => by cases h)⟩)⟩)⟩)⟩)
set_option maxRecDepth 100000 in
theorem lc_X4_47 : lkM RX4 47 Lib.Math.max.name Lib.Math.max.code := (List.forall_mem_cons.mpr ⟨gw1 3 22 (by decide +kernel), (List.forall_mem_cons.mpr ⟨gw1 2 205 (by decide +kernel), (List.forall_mem_cons.mpr ⟨gw1 1 9 (by decide +kernel), (List.forall_mem_cons.mpr ⟨gwr 2 206 rfl rfl, (fun _ h => by cases h)⟩)⟩)⟩)⟩)
theorem pf_X5_17 : lkP RX5 17 5 1 (tyX5 1) := ⟨_, _, _, tyX5, rfl, by decide, iX5, gw1 1 76 (by decide +kernel), rfl, tyX5_ok, nmX5, rfl⟩
theorem gf_X5_24 : lkF RX5 24 5 3 := ⟨_, _, _, rfl, by decide, iX5, gw1 1 78 (by decide +kernel)⟩
theorem gf_X5_27 : lkF RX5 27 5 4 := ⟨_, _, _, rfl, by decide, iX5, gw1 1 79 (by decide +kernel)⟩
theorem pf_X5_21 : lkP RX5 21 5 2 (tyX5 2) := ⟨_, _, _, tyX5, rfl, by decide, iX5, gw1 1 77 (by decide +kernel), rfl, tyX5_ok, nmX5, rfl⟩
set_option maxRecDepth 100000 in
theorem lc_X5_41 : lkV RX5 41 qX5_start 2 := ⟨(List.forall_mem_cons.mpr ⟨gw1 2 118 (by decide +kernel), (List.forall_mem_cons.mpr ⟨gw1 2 119 (by decide +kernel), (List.forall_mem_cons.mpr ⟨gw1 2 120 (by decide +kernel), (List.forall_mem_cons.mpr ⟨gw1 1 2 (by decide +kernel), (List.forall_mem_cons.mpr ⟨gwr 2 121 rfl rfl, (fun _ h => by cases h)⟩)⟩)⟩)⟩)⟩), by decide +kernel, by decide +kernel, by decide +kernel⟩
theorem pf_X5_24 : lkP RX5 24 5 3 (tyX5 3) := ⟨_, _, _, tyX5, rfl, by decide, iX5, gw1 1 78 (by decide +kernel), rfl, tyX5_ok, nmX5, rfl⟩
set_option maxRecDepth 100000 in
theorem lc_X5_44 : lkV RX5 44 qX5_stop 2 := ⟨(List.forall_mem_cons.mpr ⟨gw1 2 133 (by decide +kernel), (List.forall_mem_cons.mpr ⟨gw1 2 135 (by decide +kernel), (List.forall_mem_cons.mpr ⟨gw1 0 3 (by decide +kernel), (List.forall_mem_cons.mpr ⟨gw1 1 2 (by decide +kernel), (List.forall_mem_cons.mpr ⟨gwr 2 136 rfl rfl, (fun _ h => by cases h)⟩)⟩)⟩)⟩)⟩), by decide +kernel, by decide +kernel, by decide +kernel⟩
theorem pf_X5_27 : lkP RX5 27 5 4 (tyX5 4) := ⟨_, _, _, tyX5, rfl, by decide, iX5, gw1 1 79 (by decide +kernel), rfl, tyX5_ok, nmX5, rfl⟩
theorem gf_X5_21 : lkF RX5 21 5 2 := ⟨_, _, _, rfl, by decide, iX5, gw1 1 77 (by decide +kernel)⟩
set_option maxRecDepth 100000 in
theorem lc_X5_47 : lkV RX5 47 qX5_find 3 := ⟨(List.forall_mem_cons.mpr ⟨gw1 2 114 (by decide +kernel), (List.forall_mem_cons.mpr ⟨gw1 2 115 (by decide +kernel), (List.forall_mem_cons.mpr ⟨gw1 2 116 (by decide +kernel), (List.forall_mem_cons.mpr ⟨gw1 1 2 (by decide +kernel), (List.forall_mem_cons.mpr ⟨gwr 2 117 rfl rfl, (fun _ h => by cases h)⟩)⟩)⟩)⟩)⟩), by decide +kernel, by decide +kernel, by decide +kernel⟩
theorem pf_X5_11 : lkPF RX5 11 5 0 (tyX5 0) := ⟨_, _, _, tyX5, rfl, by decide, iX5, gw1 1 75 (by decide +kernel), rfl, rfl, tyX5_ok, nmX5, rfl⟩
theorem gf_X5_11 : lkF RX5 11 5 0 := ⟨_, _, _, rfl, by decide, iX5, gw1 1 75 (by decide +kernel)⟩
set_option maxRecDepth 100000 in
theorem lc_X5_30 : lkIN RX5 30 qX3_init 0 := ⟨"WavePairs", (List.forall_mem_cons.mpr ⟨gw1 1 36 (by decide +kernel), (List.forall_mem_cons.mpr ⟨gw1 1 3 (by decide +kernel), (List.forall_mem_cons.mpr ⟨gwr 1 37 rfl rfl, (fun _ h => by cases h)⟩)⟩)⟩), nw1 1 35 (by decide +kernel), rfl, rfl, by decide +kernel, by decide +kernel, by decide +kernel⟩
theorem gf_X5_17 : lkF RX5 17 5 1 := ⟨_, _, _, rfl, by decide, iX5, gw1 1 76 (by decide +kernel)⟩
set_option maxRecDepth 100000 in
theorem lc_X5_37 : lkV RX5 37 qX3_nextTick 3 := ⟨(List.forall_mem_cons.mpr ⟨gw1 2 122 (by decide +kernel), (List.forall_mem_cons.mpr ⟨gw1 2 123 (by decide +kernel), (List.forall_mem_cons.mpr ⟨gw1 2 124 (by decide +kernel), (List.forall_mem_cons.mpr ⟨gw1 1 3 (by decide +kernel), (List.forall_mem_cons.mpr ⟨gwr 2 125 rfl rfl, (fun _ h => by cases h)⟩)⟩)⟩)⟩)⟩), by decide +kernel, by decide +kernel, by decide +kernel⟩
set_option maxRecDepth 100000 in
theorem lc_X5_31 : lkM RX5 31 Lib.Math.min.name Lib.Math.min.code := (List.forall_mem_cons.mpr ⟨gw1 2 89 (by decide +kernel), (List.forall_mem_cons.mpr ⟨gw1 2 90 (by decide +kernel), (List.forall_mem_cons.mpr ⟨gw1 1 9 (by decide +kernel), (List.forall_mem_cons.mpr ⟨gwr 2 91 rfl rfl, (fun _ h => by cases h)⟩)⟩)⟩)⟩)
set_option maxRecDepth 100000 in
theorem lc_X6_69 : lkS RX6 69 qX6_outside 3 := ⟨(List.forall_mem_cons.mpr ⟨gw1 1 200 (by decide +kernel), (List.forall_mem_cons.mpr ⟨gw1 1 201 (by decide +kernel), (List.forall_mem_cons.mpr ⟨gw1 1 1 (by decide +kernel), (List.forall_mem_cons.mpr ⟨gwr 1 202 rfl rfl, (fun _ h => by cases h)⟩)⟩)⟩)⟩), rfl, by decide +kernel, by decide +kernel, by decide +kernel⟩
theorem gf_X6_33 : lkF RX6 33 6 5 := ⟨_, _, _, rfl, by decide, iX6, gw1 1 164 (by decide +kernel)⟩
theorem gf_X6_181 : lkN RX6 181 0 0 := ⟨_, _, _, "WavePairs", rfl, by decide, iX0, nw1 1 139 (by decide +kernel)⟩
set_option maxRecDepth 100000 in
theorem lc_X6_184 : lkV RX6 184 qX6_nextAct 3 := ⟨(List.forall_mem_cons.mpr ⟨gw1 2 167 (by decide +kernel), (List.forall_mem_cons.mpr ⟨gw1 2 169 (by decide +kernel), (List.forall_mem_cons.mpr ⟨gw1 0 4 (by decide +kernel), (List.forall_mem_cons.mpr ⟨gw1 1 1 (by decide +kernel), (List.forall_mem_cons.mpr ⟨gwr 2 170 rfl rfl, (fun _ h => by cases h)⟩)⟩)⟩)⟩)⟩), by decide +kernel, by decide +kernel, by decide +kernel⟩
set_option maxRecDepth 100000 in
theorem lc_X6_188 : lkV RX6 188 qX6_dataAhead 3 := ⟨(List.forall_mem_cons.mpr ⟨gw1 2 183 (by decide +kernel), (List.forall_mem_cons.mpr ⟨gw1 2 185 (by decide +kernel), (List.forall_mem_cons.mpr ⟨gw1 0 7 (by decide +kernel), (List.forall_mem_cons.mpr ⟨gw1 1 1 (by decide +kernel), (List.forall_mem_cons.mpr ⟨gwr 2 186 rfl rfl, (fun _ h => by cases h)⟩)⟩)⟩)⟩)⟩), by decide +kernel, by decide +kernel, by decide +kernel⟩
set_option maxRecDepth 100000 in
theorem lc_X6_77 : lkV RX6 77 qX6_rowOf 2 := ⟨(List.forall_mem_cons.mpr ⟨gw1 1 209 (by decide +kernel), (List.forall_mem_cons.mpr ⟨gw1 1 211 (by decide +kernel), (List.forall_mem_cons.mpr ⟨gw1 0 0 (by decide +kernel), (List.forall_mem_cons.mpr ⟨gw1 1 1 (by decide +kernel), (List.forall_mem_cons.mpr ⟨gwr 1 212 rfl rfl, (fun _ h => by cases h)⟩)⟩)⟩)⟩)⟩), by decide +kernel, by decide +kernel, by decide +kernel⟩
set_option maxRecDepth 100000 in
theorem lc_X6_110 : lkV RX6 110 qX4_valueAt 1 := ⟨(List.forall_mem_cons.mpr ⟨gw1 2 27 (by decide +kernel), (List.forall_mem_cons.mpr ⟨gw1 2 28 (by decide +kernel), (List.forall_mem_cons.mpr ⟨gw1 2 29 (by decide +kernel), (List.forall_mem_cons.mpr ⟨gw1 1 4 (by decide +kernel), (List.forall_mem_cons.mpr ⟨gwr 2 30 rfl rfl, (fun _ h => by cases h)⟩)⟩)⟩)⟩)⟩), by decide +kernel, by decide +kernel, by decide +kernel⟩
set_option maxRecDepth 100000 in
theorem lc_X6_154 : lkV RX6 154 qX6_namedRow 2 := ⟨(List.forall_mem_cons.mpr ⟨gw1 2 92 (by decide +kernel), (List.forall_mem_cons.mpr ⟨gw1 2 94 (by decide +kernel), (List.forall_mem_cons.mpr ⟨gw1 0 2 (by decide +kernel), (List.forall_mem_cons.mpr ⟨gw1 1 1 (by decide +kernel), (List.forall_mem_cons.mpr ⟨gwr 2 95 rfl rfl, (fun _ h => by cases h)⟩)⟩)⟩)⟩)⟩), by decide +kernel, by decide +kernel, by decide +kernel⟩
theorem gf_X6_57 : lkF RX6 57 6 10 := ⟨_, _, _, rfl, by decide, iX6, gw1 1 169 (by decide +kernel)⟩
set_option maxRecDepth 100000 in
theorem lc_X6_191 : lkS RX6 191 qX6_agree 3 := ⟨(List.forall_mem_cons.mpr ⟨gw1 2 191 (by decide +kernel), (List.forall_mem_cons.mpr ⟨gw1 2 129 (by decide +kernel), (List.forall_mem_cons.mpr ⟨gw1 1 1 (by decide +kernel), (List.forall_mem_cons.mpr ⟨gwr 2 130 rfl rfl, (fun _ h => by cases h)⟩)⟩)⟩)⟩), rfl, by decide +kernel, by decide +kernel, by decide +kernel⟩
set_option maxRecDepth 100000 in
theorem lc_X6_117 : lkS RX6 117 qX6_isNoSignal 1 := ⟨(List.forall_mem_cons.mpr ⟨gw1 1 203 (by decide +kernel), (List.forall_mem_cons.mpr ⟨gw1 1 204 (by decide +kernel), (List.forall_mem_cons.mpr ⟨gw1 1 1 (by decide +kernel), (List.forall_mem_cons.mpr ⟨gwr 1 205 rfl rfl, (fun _ h => by cases h)⟩)⟩)⟩)⟩), rfl, by decide +kernel, by decide +kernel, by decide +kernel⟩
theorem gf_X6_46 : lkF RX6 46 6 7 := ⟨_, _, _, rfl, by decide, iX6, gw1 1 166 (by decide +kernel)⟩
set_option maxRecDepth 100000 in
theorem lc_X6_147 : lkV RX6 147 qX5_clear 0 := ⟨(List.forall_mem_cons.mpr ⟨gw1 2 81 (by decide +kernel), (List.forall_mem_cons.mpr ⟨gw1 2 82 (by decide +kernel), (List.forall_mem_cons.mpr ⟨gw1 2 83 (by decide +kernel), (List.forall_mem_cons.mpr ⟨gw1 1 2 (by decide +kernel), (List.forall_mem_cons.mpr ⟨gwr 2 84 rfl rfl, (fun _ h => by cases h)⟩)⟩)⟩)⟩)⟩), by decide +kernel, by decide +kernel, by decide +kernel⟩
set_option maxRecDepth 100000 in
theorem lc_X6_150 : lkV RX6 150 qX5_take 0 := ⟨(List.forall_mem_cons.mpr ⟨gw1 2 85 (by decide +kernel), (List.forall_mem_cons.mpr ⟨gw1 2 86 (by decide +kernel), (List.forall_mem_cons.mpr ⟨gw1 2 87 (by decide +kernel), (List.forall_mem_cons.mpr ⟨gw1 1 2 (by decide +kernel), (List.forall_mem_cons.mpr ⟨gwr 2 88 rfl rfl, (fun _ h => by cases h)⟩)⟩)⟩)⟩)⟩), by decide +kernel, by decide +kernel, by decide +kernel⟩
set_option maxRecDepth 100000 in
theorem lc_X6_157 : lkV RX6 157 qX3_wantUnlike 4 := ⟨(List.forall_mem_cons.mpr ⟨gw1 2 96 (by decide +kernel), (List.forall_mem_cons.mpr ⟨gw1 2 97 (by decide +kernel), (List.forall_mem_cons.mpr ⟨gw1 2 98 (by decide +kernel), (List.forall_mem_cons.mpr ⟨gw1 1 3 (by decide +kernel), (List.forall_mem_cons.mpr ⟨gwr 2 99 rfl rfl, (fun _ h => by cases h)⟩)⟩)⟩)⟩)⟩), by decide +kernel, by decide +kernel, by decide +kernel⟩
theorem gf_X6_54 : lkF RX6 54 6 9 := ⟨_, _, _, rfl, by decide, iX6, gw1 1 168 (by decide +kernel)⟩
set_option maxRecDepth 100000 in
theorem lc_X6_144 : lkV RX6 144 qX5_start 2 := ⟨(List.forall_mem_cons.mpr ⟨gw1 2 154 (by decide +kernel), (List.forall_mem_cons.mpr ⟨gw1 2 119 (by decide +kernel), (List.forall_mem_cons.mpr ⟨gw1 2 120 (by decide +kernel), (List.forall_mem_cons.mpr ⟨gw1 1 2 (by decide +kernel), (List.forall_mem_cons.mpr ⟨gwr 2 121 rfl rfl, (fun _ h => by cases h)⟩)⟩)⟩)⟩)⟩), by decide +kernel, by decide +kernel, by decide +kernel⟩
set_option maxRecDepth 100000 in
theorem lc_X6_99 : lkS RX6 99 qX6_packedTicks 3 := ⟨(List.forall_mem_cons.mpr ⟨gw1 2 1 (by decide +kernel), (List.forall_mem_cons.mpr ⟨gw1 2 2 (by decide +kernel), (List.forall_mem_cons.mpr ⟨gw1 1 1 (by decide +kernel), (List.forall_mem_cons.mpr ⟨gwr 2 3 rfl rfl, (fun _ h => by cases h)⟩)⟩)⟩)⟩), rfl, by decide +kernel, by decide +kernel, by decide +kernel⟩
set_option maxRecDepth 100000 in
theorem lc_X6_103 : lkS RX6 103 qX6_packedValue 3 := ⟨(List.forall_mem_cons.mpr ⟨gw1 2 8 (by decide +kernel), (List.forall_mem_cons.mpr ⟨gw1 2 9 (by decide +kernel), (List.forall_mem_cons.mpr ⟨gw1 1 1 (by decide +kernel), (List.forall_mem_cons.mpr ⟨gwr 2 10 rfl rfl, (fun _ h => by cases h)⟩)⟩)⟩)⟩), rfl, by decide +kernel, by decide +kernel, by decide +kernel⟩
set_option maxRecDepth 100000 in
theorem lc_X6_73 : lkS RX6 73 qX6_isNoValue 1 := ⟨(List.forall_mem_cons.mpr ⟨gw1 1 206 (by decide +kernel), (List.forall_mem_cons.mpr ⟨gw1 1 207 (by decide +kernel), (List.forall_mem_cons.mpr ⟨gw1 1 1 (by decide +kernel), (List.forall_mem_cons.mpr ⟨gwr 1 208 rfl rfl, (fun _ h => by cases h)⟩)⟩)⟩)⟩), rfl, by decide +kernel, by decide +kernel, by decide +kernel⟩
theorem gf_X6_15 : lkF RX6 15 6 1 := ⟨_, _, _, rfl, by decide, iX6, gw1 1 160 (by decide +kernel)⟩
theorem gf_X6_19 : lkF RX6 19 6 2 := ⟨_, _, _, rfl, by decide, iX6, gw1 1 161 (by decide +kernel)⟩
set_option maxRecDepth 100000 in
theorem lc_X6_65 : lkS RX6 65 qX6_isNoRow 2 := ⟨(List.forall_mem_cons.mpr ⟨gw1 1 197 (by decide +kernel), (List.forall_mem_cons.mpr ⟨gw1 1 198 (by decide +kernel), (List.forall_mem_cons.mpr ⟨gw1 1 1 (by decide +kernel), (List.forall_mem_cons.mpr ⟨gwr 1 199 rfl rfl, (fun _ h => by cases h)⟩)⟩)⟩)⟩), rfl, by decide +kernel, by decide +kernel, by decide +kernel⟩
set_option maxRecDepth 100000 in
theorem lc_X6_81 : lkV RX6 81 qX4_lastTick 0 := ⟨(List.forall_mem_cons.mpr ⟨gw1 1 213 (by decide +kernel), (List.forall_mem_cons.mpr ⟨gw1 1 214 (by decide +kernel), (List.forall_mem_cons.mpr ⟨gw1 1 215 (by decide +kernel), (List.forall_mem_cons.mpr ⟨gw1 1 4 (by decide +kernel), (List.forall_mem_cons.mpr ⟨gwr 1 216 rfl rfl, (fun _ h => by cases h)⟩)⟩)⟩)⟩)⟩), by decide +kernel, by decide +kernel, by decide +kernel⟩
set_option maxRecDepth 100000 in
theorem lc_X6_85 : lkV RX6 85 qX4_lacksRoom 1 := ⟨(List.forall_mem_cons.mpr ⟨gw1 1 222 (by decide +kernel), (List.forall_mem_cons.mpr ⟨gw1 1 223 (by decide +kernel), (List.forall_mem_cons.mpr ⟨gw1 1 224 (by decide +kernel), (List.forall_mem_cons.mpr ⟨gw1 1 4 (by decide +kernel), (List.forall_mem_cons.mpr ⟨gwr 1 225 rfl rfl, (fun _ h => by cases h)⟩)⟩)⟩)⟩)⟩), by decide +kernel, by decide +kernel, by decide +kernel⟩
set_option maxRecDepth 100000 in
theorem lc_X6_88 : lkV RX6 88 qX4_put 2 := ⟨(List.forall_mem_cons.mpr ⟨gw1 1 226 (by decide +kernel), (List.forall_mem_cons.mpr ⟨gw1 1 227 (by decide +kernel), (List.forall_mem_cons.mpr ⟨gw1 1 228 (by decide +kernel), (List.forall_mem_cons.mpr ⟨gw1 1 4 (by decide +kernel), (List.forall_mem_cons.mpr ⟨gwr 1 229 rfl rfl, (fun _ h => by cases h)⟩)⟩)⟩)⟩)⟩), by decide +kernel, by decide +kernel, by decide +kernel⟩
set_option maxRecDepth 100000 in
theorem lc_X6_92 : lkV RX6 92 qX4_size 0 := ⟨(List.forall_mem_cons.mpr ⟨gw1 1 230 (by decide +kernel), (List.forall_mem_cons.mpr ⟨gw1 1 231 (by decide +kernel), (List.forall_mem_cons.mpr ⟨gw1 1 232 (by decide +kernel), (List.forall_mem_cons.mpr ⟨gw1 1 4 (by decide +kernel), (List.forall_mem_cons.mpr ⟨gwr 1 233 rfl rfl, (fun _ h => by cases h)⟩)⟩)⟩)⟩)⟩), by decide +kernel, by decide +kernel, by decide +kernel⟩
set_option maxRecDepth 100000 in
theorem lc_X6_95 : lkS RX6 95 qX6_areChanges 3 := ⟨(List.forall_mem_cons.mpr ⟨gw1 1 238 (by decide +kernel), (List.forall_mem_cons.mpr ⟨gw1 1 239 (by decide +kernel), (List.forall_mem_cons.mpr ⟨gw1 1 1 (by decide +kernel), (List.forall_mem_cons.mpr ⟨gwr 2 0 rfl rfl, (fun _ h => by cases h)⟩)⟩)⟩)⟩), rfl, by decide +kernel, by decide +kernel, by decide +kernel⟩
set_option maxRecDepth 100000 in
theorem lc_X6_177 : lkV RX6 177 qX0_tell 4 := ⟨(List.forall_mem_cons.mpr ⟨gw1 2 159 (by decide +kernel), (List.forall_mem_cons.mpr ⟨gw1 2 160 (by decide +kernel), (List.forall_mem_cons.mpr ⟨gw1 2 161 (by decide +kernel), (List.forall_mem_cons.mpr ⟨gw1 1 7 (by decide +kernel), (List.forall_mem_cons.mpr ⟨gwr 2 162 rfl rfl, (fun _ h => by cases h)⟩)⟩)⟩)⟩)⟩), by decide +kernel, by decide +kernel, by decide +kernel⟩
set_option maxRecDepth 100000 in
theorem lc_X6_263 : lkV RX6 263 qX6_countChanges 0 := ⟨(List.forall_mem_cons.mpr ⟨gw1 3 31 (by decide +kernel), (List.forall_mem_cons.mpr ⟨gw1 3 33 (by decide +kernel), (List.forall_mem_cons.mpr ⟨gw1 0 14 (by decide +kernel), (List.forall_mem_cons.mpr ⟨gw1 1 1 (by decide +kernel), (List.forall_mem_cons.mpr ⟨gwr 3 34 rfl rfl, (fun _ h => by cases h)⟩)⟩)⟩)⟩)⟩), by decide +kernel, by decide +kernel, by decide +kernel⟩
theorem gf_X6_50 : lkF RX6 50 6 8 := ⟨_, _, _, rfl, by decide, iX6, gw1 1 167 (by decide +kernel)⟩
set_option maxRecDepth 100000 in
theorem lc_X6_266 : lkV RX6 266 qX6_countChannels 0 := ⟨(List.forall_mem_cons.mpr ⟨gw1 3 35 (by decide +kernel), (List.forall_mem_cons.mpr ⟨gw1 3 37 (by decide +kernel), (List.forall_mem_cons.mpr ⟨gw1 0 15 (by decide +kernel), (List.forall_mem_cons.mpr ⟨gw1 1 1 (by decide +kernel), (List.forall_mem_cons.mpr ⟨gwr 3 38 rfl rfl, (fun _ h => by cases h)⟩)⟩)⟩)⟩)⟩), by decide +kernel, by decide +kernel, by decide +kernel⟩
set_option maxRecDepth 100000 in
theorem lc_X6_269 : lkV RX6 269 qX6_countGates 0 := ⟨(List.forall_mem_cons.mpr ⟨gw1 3 39 (by decide +kernel), (List.forall_mem_cons.mpr ⟨gw1 3 41 (by decide +kernel), (List.forall_mem_cons.mpr ⟨gw1 0 16 (by decide +kernel), (List.forall_mem_cons.mpr ⟨gw1 1 1 (by decide +kernel), (List.forall_mem_cons.mpr ⟨gwr 3 42 rfl rfl, (fun _ h => by cases h)⟩)⟩)⟩)⟩)⟩), by decide +kernel, by decide +kernel, by decide +kernel⟩
theorem gf_X6_11 : lkF RX6 11 6 0 := ⟨_, _, _, rfl, by decide, iX6, gw1 1 159 (by decide +kernel)⟩
theorem gf_X6_39 : lkF RX6 39 6 6 := ⟨_, _, _, rfl, by decide, iX6, gw1 1 165 (by decide +kernel)⟩
theorem gf_X6_227 : lkN RX6 227 1 0 := ⟨_, _, _, "WavePairs", rfl, by decide, iX1, nw1 1 98 (by decide +kernel)⟩
set_option maxRecDepth 100000 in
theorem lc_X6_106 : lkV RX6 106 qX4_dropFrom 1 := ⟨(List.forall_mem_cons.mpr ⟨gw1 2 15 (by decide +kernel), (List.forall_mem_cons.mpr ⟨gw1 2 16 (by decide +kernel), (List.forall_mem_cons.mpr ⟨gw1 2 17 (by decide +kernel), (List.forall_mem_cons.mpr ⟨gw1 1 4 (by decide +kernel), (List.forall_mem_cons.mpr ⟨gwr 2 18 rfl rfl, (fun _ h => by cases h)⟩)⟩)⟩)⟩)⟩), by decide +kernel, by decide +kernel, by decide +kernel⟩
theorem gf_X6_210 : lkN RX6 210 0 4 := ⟨_, _, _, "WavePairs", rfl, by decide, iX0, nw1 1 147 (by decide +kernel)⟩
theorem gf_X6_22 : lkF RX6 22 6 3 := ⟨_, _, _, rfl, by decide, iX6, gw1 1 162 (by decide +kernel)⟩
set_option maxRecDepth 100000 in
theorem lc_X6_128 : lkV RX6 128 qX6_seekDifferences 2 := ⟨(List.forall_mem_cons.mpr ⟨gw1 2 77 (by decide +kernel), (List.forall_mem_cons.mpr ⟨gw1 2 79 (by decide +kernel), (List.forall_mem_cons.mpr ⟨gw1 0 1 (by decide +kernel), (List.forall_mem_cons.mpr ⟨gw1 1 1 (by decide +kernel), (List.forall_mem_cons.mpr ⟨gwr 2 80 rfl rfl, (fun _ h => by cases h)⟩)⟩)⟩)⟩)⟩), by decide +kernel, by decide +kernel, by decide +kernel⟩
set_option maxRecDepth 100000 in
theorem lc_X6_135 : lkV RX6 135 qX5_find 3 := ⟨(List.forall_mem_cons.mpr ⟨gw1 2 141 (by decide +kernel), (List.forall_mem_cons.mpr ⟨gw1 2 115 (by decide +kernel), (List.forall_mem_cons.mpr ⟨gw1 2 116 (by decide +kernel), (List.forall_mem_cons.mpr ⟨gw1 1 2 (by decide +kernel), (List.forall_mem_cons.mpr ⟨gwr 2 117 rfl rfl, (fun _ h => by cases h)⟩)⟩)⟩)⟩)⟩), by decide +kernel, by decide +kernel, by decide +kernel⟩
set_option maxRecDepth 100000 in
theorem lc_X6_138 : lkV RX6 138 qX5_edgeFound 1 := ⟨(List.forall_mem_cons.mpr ⟨gw1 2 142 (by decide +kernel), (List.forall_mem_cons.mpr ⟨gw1 2 143 (by decide +kernel), (List.forall_mem_cons.mpr ⟨gw1 2 144 (by decide +kernel), (List.forall_mem_cons.mpr ⟨gw1 1 2 (by decide +kernel), (List.forall_mem_cons.mpr ⟨gwr 2 145 rfl rfl, (fun _ h => by cases h)⟩)⟩)⟩)⟩)⟩), by decide +kernel, by decide +kernel, by decide +kernel⟩
set_option maxRecDepth 100000 in
theorem lc_X6_141 : lkV RX6 141 qX5_seen 0 := ⟨(List.forall_mem_cons.mpr ⟨gw1 2 146 (by decide +kernel), (List.forall_mem_cons.mpr ⟨gw1 2 147 (by decide +kernel), (List.forall_mem_cons.mpr ⟨gw1 2 148 (by decide +kernel), (List.forall_mem_cons.mpr ⟨gw1 1 2 (by decide +kernel), (List.forall_mem_cons.mpr ⟨gwr 2 149 rfl rfl, (fun _ h => by cases h)⟩)⟩)⟩)⟩)⟩), by decide +kernel, by decide +kernel, by decide +kernel⟩
set_option maxRecDepth 100000 in
theorem lc_X6_131 : lkV RX6 131 qX5_howMany 2 := ⟨(List.forall_mem_cons.mpr ⟨gw1 2 110 (by decide +kernel), (List.forall_mem_cons.mpr ⟨gw1 2 111 (by decide +kernel), (List.forall_mem_cons.mpr ⟨gw1 2 112 (by decide +kernel), (List.forall_mem_cons.mpr ⟨gw1 1 2 (by decide +kernel), (List.forall_mem_cons.mpr ⟨gwr 2 113 rfl rfl, (fun _ h => by cases h)⟩)⟩)⟩)⟩)⟩), by decide +kernel, by decide +kernel, by decide +kernel⟩
set_option maxRecDepth 100000 in
theorem lc_X6_213 : lkV RX6 213 qX6_hasSignals 1 := ⟨(List.forall_mem_cons.mpr ⟨gw1 2 196 (by decide +kernel), (List.forall_mem_cons.mpr ⟨gw1 2 198 (by decide +kernel), (List.forall_mem_cons.mpr ⟨gw1 0 8 (by decide +kernel), (List.forall_mem_cons.mpr ⟨gw1 1 1 (by decide +kernel), (List.forall_mem_cons.mpr ⟨gwr 2 199 rfl rfl, (fun _ h => by cases h)⟩)⟩)⟩)⟩)⟩), by decide +kernel, by decide +kernel, by decide +kernel⟩
set_option maxRecDepth 100000 in
theorem lc_X6_216 : lkV RX6 216 qX6_fitsBy 2 := ⟨(List.forall_mem_cons.mpr ⟨gw1 2 200 (by decide +kernel), (List.forall_mem_cons.mpr ⟨gw1 2 202 (by decide +kernel), (List.forall_mem_cons.mpr ⟨gw1 0 9 (by decide +kernel), (List.forall_mem_cons.mpr ⟨gw1 1 1 (by decide +kernel), (List.forall_mem_cons.mpr ⟨gwr 2 203 rfl rfl, (fun _ h => by cases h)⟩)⟩)⟩)⟩)⟩), by decide +kernel, by decide +kernel, by decide +kernel⟩
set_option maxRecDepth 100000 in
theorem lc_X6_219 : lkM RX6 219 Lib.Math.max.name Lib.Math.max.code := (List.forall_mem_cons.mpr ⟨gw1 2 204 (by decide +kernel), (List.forall_mem_cons.mpr ⟨gw1 2 205 (by decide +kernel), (List.forall_mem_cons.mpr ⟨gw1 1 9 (by decide +kernel), (List.forall_mem_cons.mpr ⟨gwr 2 206 rfl rfl, (fun _ h => by cases h)⟩)⟩)⟩)⟩)
set_option maxRecDepth 100000 in
theorem lc_X6_224 : lkM RX6 224 Lib.Math.min.name Lib.Math.min.code := (List.forall_mem_cons.mpr ⟨gw1 2 207 (by decide +kernel), (List.forall_mem_cons.mpr ⟨gw1 2 90 (by decide +kernel), (List.forall_mem_cons.mpr ⟨gw1 1 9 (by decide +kernel), (List.forall_mem_cons.mpr ⟨gwr 2 91 rfl rfl, (fun _ h => by cases h)⟩)⟩)⟩)⟩)
set_option maxRecDepth 100000 in
theorem lc_X6_230 : lkV RX6 230 qX1_tell 3 := ⟨(List.forall_mem_cons.mpr ⟨gw1 2 212 (by decide +kernel), (List.forall_mem_cons.mpr ⟨gw1 2 213 (by decide +kernel), (List.forall_mem_cons.mpr ⟨gw1 2 214 (by decide +kernel), (List.forall_mem_cons.mpr ⟨gw1 1 5 (by decide +kernel), (List.forall_mem_cons.mpr ⟨gwr 2 215 rfl rfl, (fun _ h => by cases h)⟩)⟩)⟩)⟩)⟩), by decide +kernel, by decide +kernel, by decide +kernel⟩
set_option maxRecDepth 100000 in
theorem lc_X6_232 : lkV RX6 232 qX6_agreeAt 2 := ⟨(List.forall_mem_cons.mpr ⟨gw1 2 220 (by decide +kernel), (List.forall_mem_cons.mpr ⟨gw1 2 222 (by decide +kernel), (List.forall_mem_cons.mpr ⟨gw1 0 10 (by decide +kernel), (List.forall_mem_cons.mpr ⟨gw1 1 1 (by decide +kernel), (List.forall_mem_cons.mpr ⟨gwr 2 223 rfl rfl, (fun _ h => by cases h)⟩)⟩)⟩)⟩)⟩), by decide +kernel, by decide +kernel, by decide +kernel⟩
set_option maxRecDepth 100000 in
theorem lc_X6_235 : lkV RX6 235 qX6_inputsAgree 2 := ⟨(List.forall_mem_cons.mpr ⟨gw1 2 224 (by decide +kernel), (List.forall_mem_cons.mpr ⟨gw1 2 226 (by decide +kernel), (List.forall_mem_cons.mpr ⟨gw1 0 11 (by decide +kernel), (List.forall_mem_cons.mpr ⟨gw1 1 1 (by decide +kernel), (List.forall_mem_cons.mpr ⟨gwr 2 227 rfl rfl, (fun _ h => by cases h)⟩)⟩)⟩)⟩)⟩), by decide +kernel, by decide +kernel, by decide +kernel⟩
set_option maxRecDepth 100000 in
theorem lc_X6_251 : lkV RX6 251 qX3_wantValue 2 := ⟨(List.forall_mem_cons.mpr ⟨gw1 3 4 (by decide +kernel), (List.forall_mem_cons.mpr ⟨gw1 2 105 (by decide +kernel), (List.forall_mem_cons.mpr ⟨gw1 2 106 (by decide +kernel), (List.forall_mem_cons.mpr ⟨gw1 1 3 (by decide +kernel), (List.forall_mem_cons.mpr ⟨gwr 2 107 rfl rfl, (fun _ h => by cases h)⟩)⟩)⟩)⟩)⟩), by decide +kernel, by decide +kernel, by decide +kernel⟩
set_option maxRecDepth 100000 in
theorem lc_X6_173 : lkV RX6 173 qX3_wantValueNot 2 := ⟨(List.forall_mem_cons.mpr ⟨gw1 2 100 (by decide +kernel), (List.forall_mem_cons.mpr ⟨gw1 2 101 (by decide +kernel), (List.forall_mem_cons.mpr ⟨gw1 2 102 (by decide +kernel), (List.forall_mem_cons.mpr ⟨gw1 1 3 (by decide +kernel), (List.forall_mem_cons.mpr ⟨gwr 2 103 rfl rfl, (fun _ h => by cases h)⟩)⟩)⟩)⟩)⟩), by decide +kernel, by decide +kernel, by decide +kernel⟩
theorem pf_X6_11 : lkPF RX6 11 6 0 (tyX6 0) := ⟨_, _, _, tyX6, rfl, by decide, iX6, gw1 1 159 (by decide +kernel), rfl, rfl, tyX6_ok, nmX6, rfl⟩
theorem pf_X6_15 : lkPF RX6 15 6 1 (tyX6 1) := ⟨_, _, _, tyX6, rfl, by decide, iX6, gw1 1 160 (by decide +kernel), rfl, rfl, tyX6_ok, nmX6, rfl⟩
theorem pf_X6_19 : lkPF RX6 19 6 2 (tyX6 2) := ⟨_, _, _, tyX6, rfl, by decide, iX6, gw1 1 161 (by decide +kernel), rfl, rfl, tyX6_ok, nmX6, rfl⟩
theorem pf_X6_22 : lkPF RX6 22 6 3 (tyX6 3) := ⟨_, _, _, tyX6, rfl, by decide, iX6, gw1 1 162 (by decide +kernel), rfl, rfl, tyX6_ok, nmX6, rfl⟩
theorem pf_X6_27 : lkPF RX6 27 6 4 (tyX6 4) := ⟨_, _, _, tyX6, rfl, by decide, iX6, gw1 1 163 (by decide +kernel), rfl, rfl, tyX6_ok, nmX6, rfl⟩
theorem pf_X6_33 : lkPF RX6 33 6 5 (tyX6 5) := ⟨_, _, _, tyX6, rfl, by decide, iX6, gw1 1 164 (by decide +kernel), rfl, rfl, tyX6_ok, nmX6, rfl⟩
theorem pf_X6_39 : lkPF RX6 39 6 6 (tyX6 6) := ⟨_, _, _, tyX6, rfl, by decide, iX6, gw1 1 165 (by decide +kernel), rfl, rfl, tyX6_ok, nmX6, rfl⟩
set_option maxRecDepth 100000 in
theorem lc_X6_45 : lkI RX6 45 qX5_init 0 := ⟨(List.forall_mem_cons.mpr ⟨gw1 1 28 (by decide +kernel), (List.forall_mem_cons.mpr ⟨gw1 1 29 (by decide +kernel), (List.forall_mem_cons.mpr ⟨gw1 1 2 (by decide +kernel), (List.forall_mem_cons.mpr ⟨gwr 1 30 rfl rfl, (fun _ h => by cases h)⟩)⟩)⟩)⟩), rfl, rfl, by decide +kernel, by decide +kernel, by decide +kernel⟩
theorem pf_X6_46 : lkPF RX6 46 6 7 (tyX6 7) := ⟨_, _, _, tyX6, rfl, by decide, iX6, gw1 1 166 (by decide +kernel), rfl, rfl, tyX6_ok, nmX6, rfl⟩
theorem pf_X6_50 : lkP RX6 50 6 8 (tyX6 8) := ⟨_, _, _, tyX6, rfl, by decide, iX6, gw1 1 167 (by decide +kernel), rfl, tyX6_ok, nmX6, rfl⟩
theorem pf_X6_54 : lkP RX6 54 6 9 (tyX6 9) := ⟨_, _, _, tyX6, rfl, by decide, iX6, gw1 1 168 (by decide +kernel), rfl, tyX6_ok, nmX6, rfl⟩
theorem pf_X6_57 : lkP RX6 57 6 10 (tyX6 10) := ⟨_, _, _, tyX6, rfl, by decide, iX6, gw1 1 169 (by decide +kernel), rfl, tyX6_ok, nmX6, rfl⟩
set_option maxRecDepth 100000 in
theorem lc_X6_61 : lkIN RX6 61 qX4_init 0 := ⟨"WavePairs", (List.forall_mem_cons.mpr ⟨gw1 1 42 (by decide +kernel), (List.forall_mem_cons.mpr ⟨gw1 1 4 (by decide +kernel), (List.forall_mem_cons.mpr ⟨gwr 1 43 rfl rfl, (fun _ h => by cases h)⟩)⟩)⟩), nw1 1 91 (by decide +kernel), rfl, rfl, by decide +kernel, by decide +kernel, by decide +kernel⟩
set_option maxRecDepth 100000 in
theorem lc_X6_62 : lkIN RX6 62 qX1_init 0 := ⟨"WavePairs", (List.forall_mem_cons.mpr ⟨gw1 1 94 (by decide +kernel), (List.forall_mem_cons.mpr ⟨gw1 1 5 (by decide +kernel), (List.forall_mem_cons.mpr ⟨gwr 1 95 rfl rfl, (fun _ h => by cases h)⟩)⟩)⟩), nw1 1 93 (by decide +kernel), rfl, rfl, by decide +kernel, by decide +kernel, by decide +kernel⟩
theorem gf_X6_27 : lkF RX6 27 6 4 := ⟨_, _, _, rfl, by decide, iX6, gw1 1 163 (by decide +kernel)⟩
set_option maxRecDepth 100000 in
theorem lc_X6_63 : lkIN RX6 63 qX2_init 0 := ⟨"WavePairs", (List.forall_mem_cons.mpr ⟨gw1 1 112 (by decide +kernel), (List.forall_mem_cons.mpr ⟨gw1 1 6 (by decide +kernel), (List.forall_mem_cons.mpr ⟨gwr 1 113 rfl rfl, (fun _ h => by cases h)⟩)⟩)⟩), nw1 1 111 (by decide +kernel), rfl, rfl, by decide +kernel, by decide +kernel, by decide +kernel⟩
set_option maxRecDepth 100000 in
theorem lc_X6_64 : lkIN RX6 64 qX0_init 0 := ⟨"WavePairs", (List.forall_mem_cons.mpr ⟨gw1 1 135 (by decide +kernel), (List.forall_mem_cons.mpr ⟨gw1 1 7 (by decide +kernel), (List.forall_mem_cons.mpr ⟨gwr 1 136 rfl rfl, (fun _ h => by cases h)⟩)⟩)⟩), nw1 1 134 (by decide +kernel), rfl, rfl, by decide +kernel, by decide +kernel, by decide +kernel⟩
set_option maxRecDepth 100000 in
theorem lc_X6_239 : lkV RX6 239 qX6_storedAgree 2 := ⟨(List.forall_mem_cons.mpr ⟨gw1 2 228 (by decide +kernel), (List.forall_mem_cons.mpr ⟨gw1 2 230 (by decide +kernel), (List.forall_mem_cons.mpr ⟨gw1 0 12 (by decide +kernel), (List.forall_mem_cons.mpr ⟨gw1 1 1 (by decide +kernel), (List.forall_mem_cons.mpr ⟨gwr 2 231 rfl rfl, (fun _ h => by cases h)⟩)⟩)⟩)⟩)⟩), by decide +kernel, by decide +kernel, by decide +kernel⟩
theorem gf_X6_242 : lkN RX6 242 1 1 := ⟨_, _, _, "WavePairs", rfl, by decide, iX1, nw1 1 100 (by decide +kernel)⟩
theorem gf_X6_245 : lkN RX6 245 1 2 := ⟨_, _, _, "WavePairs", rfl, by decide, iX1, nw1 1 102 (by decide +kernel)⟩
set_option maxRecDepth 100000 in
theorem lc_X6_120 : lkV RX6 120 qX2_coverTicks 3 := ⟨(List.forall_mem_cons.mpr ⟨gw1 2 51 (by decide +kernel), (List.forall_mem_cons.mpr ⟨gw1 2 52 (by decide +kernel), (List.forall_mem_cons.mpr ⟨gw1 2 53 (by decide +kernel), (List.forall_mem_cons.mpr ⟨gw1 1 6 (by decide +kernel), (List.forall_mem_cons.mpr ⟨gwr 2 54 rfl rfl, (fun _ h => by cases h)⟩)⟩)⟩)⟩)⟩), by decide +kernel, by decide +kernel, by decide +kernel⟩
set_option maxRecDepth 100000 in
theorem lc_X6_124 : lkV RX6 124 qX2_coverWhile 3 := ⟨(List.forall_mem_cons.mpr ⟨gw1 2 68 (by decide +kernel), (List.forall_mem_cons.mpr ⟨gw1 2 61 (by decide +kernel), (List.forall_mem_cons.mpr ⟨gw1 2 62 (by decide +kernel), (List.forall_mem_cons.mpr ⟨gw1 1 6 (by decide +kernel), (List.forall_mem_cons.mpr ⟨gwr 2 63 rfl rfl, (fun _ h => by cases h)⟩)⟩)⟩)⟩)⟩), by decide +kernel, by decide +kernel, by decide +kernel⟩
theorem gf_X6_195 : lkN RX6 195 0 1 := ⟨_, _, _, "WavePairs", rfl, by decide, iX0, nw1 1 141 (by decide +kernel)⟩
set_option maxRecDepth 100000 in
theorem lc_X6_198 : lkV RX6 198 qX4_nextEdge 2 := ⟨(List.forall_mem_cons.mpr ⟨gw1 2 171 (by decide +kernel), (List.forall_mem_cons.mpr ⟨gw1 2 172 (by decide +kernel), (List.forall_mem_cons.mpr ⟨gw1 2 173 (by decide +kernel), (List.forall_mem_cons.mpr ⟨gw1 1 4 (by decide +kernel), (List.forall_mem_cons.mpr ⟨gwr 2 174 rfl rfl, (fun _ h => by cases h)⟩)⟩)⟩)⟩)⟩), by decide +kernel, by decide +kernel, by decide +kernel⟩
theorem gf_X6_201 : lkN RX6 201 0 2 := ⟨_, _, _, "WavePairs", rfl, by decide, iX0, nw1 1 143 (by decide +kernel)⟩
set_option maxRecDepth 100000 in
theorem lc_X6_204 : lkV RX6 204 qX6_hadOneAhead 3 := ⟨(List.forall_mem_cons.mpr ⟨gw1 2 179 (by decide +kernel), (List.forall_mem_cons.mpr ⟨gw1 2 181 (by decide +kernel), (List.forall_mem_cons.mpr ⟨gw1 0 6 (by decide +kernel), (List.forall_mem_cons.mpr ⟨gw1 1 1 (by decide +kernel), (List.forall_mem_cons.mpr ⟨gwr 2 182 rfl rfl, (fun _ h => by cases h)⟩)⟩)⟩)⟩)⟩), by decide +kernel, by decide +kernel, by decide +kernel⟩
theorem gf_X6_207 : lkN RX6 207 0 3 := ⟨_, _, _, "WavePairs", rfl, by decide, iX0, nw1 1 145 (by decide +kernel)⟩
set_option maxRecDepth 100000 in
theorem lc_X6_113 : lkS RX6 113 qX6_packed 3 := ⟨(List.forall_mem_cons.mpr ⟨gw1 2 4 (by decide +kernel), (List.forall_mem_cons.mpr ⟨gw1 2 5 (by decide +kernel), (List.forall_mem_cons.mpr ⟨gw1 1 1 (by decide +kernel), (List.forall_mem_cons.mpr ⟨gwr 2 6 rfl rfl, (fun _ h => by cases h)⟩)⟩)⟩)⟩), rfl, by decide +kernel, by decide +kernel, by decide +kernel⟩
theorem gf_X6_163 : lkN RX6 163 2 1 := ⟨_, _, _, "WavePairs", rfl, by decide, iX2, nw1 1 119 (by decide +kernel)⟩
theorem gf_X6_166 : lkN RX6 166 2 2 := ⟨_, _, _, "WavePairs", rfl, by decide, iX2, nw1 1 121 (by decide +kernel)⟩
theorem gf_X6_170 : lkN RX6 170 2 3 := ⟨_, _, _, "WavePairs", rfl, by decide, iX2, nw1 1 123 (by decide +kernel)⟩
set_option maxRecDepth 100000 in
theorem lc_X6_248 : lkV RX6 248 qX4_latestEdge 1 := ⟨(List.forall_mem_cons.mpr ⟨gw1 2 232 (by decide +kernel), (List.forall_mem_cons.mpr ⟨gw1 2 233 (by decide +kernel), (List.forall_mem_cons.mpr ⟨gw1 2 234 (by decide +kernel), (List.forall_mem_cons.mpr ⟨gw1 1 4 (by decide +kernel), (List.forall_mem_cons.mpr ⟨gwr 2 235 rfl rfl, (fun _ h => by cases h)⟩)⟩)⟩)⟩)⟩), by decide +kernel, by decide +kernel, by decide +kernel⟩
set_option maxRecDepth 100000 in
theorem lc_X6_254 : lkV RX6 254 qX4_turns 2 := ⟨(List.forall_mem_cons.mpr ⟨gw1 3 9 (by decide +kernel), (List.forall_mem_cons.mpr ⟨gw1 3 10 (by decide +kernel), (List.forall_mem_cons.mpr ⟨gw1 3 11 (by decide +kernel), (List.forall_mem_cons.mpr ⟨gw1 1 4 (by decide +kernel), (List.forall_mem_cons.mpr ⟨gwr 3 12 rfl rfl, (fun _ h => by cases h)⟩)⟩)⟩)⟩)⟩), by decide +kernel, by decide +kernel, by decide +kernel⟩
set_option maxRecDepth 100000 in
theorem lc_X6_257 : lkV RX6 257 qX4_ticksNotKnown 2 := ⟨(List.forall_mem_cons.mpr ⟨gw1 3 13 (by decide +kernel), (List.forall_mem_cons.mpr ⟨gw1 3 14 (by decide +kernel), (List.forall_mem_cons.mpr ⟨gw1 3 15 (by decide +kernel), (List.forall_mem_cons.mpr ⟨gw1 1 4 (by decide +kernel), (List.forall_mem_cons.mpr ⟨gwr 3 16 rfl rfl, (fun _ h => by cases h)⟩)⟩)⟩)⟩)⟩), by decide +kernel, by decide +kernel, by decide +kernel⟩
set_option maxRecDepth 100000 in
theorem lc_X6_260 : lkV RX6 260 qX4_sumKnown 2 := ⟨(List.forall_mem_cons.mpr ⟨gw1 3 23 (by decide +kernel), (List.forall_mem_cons.mpr ⟨gw1 3 24 (by decide +kernel), (List.forall_mem_cons.mpr ⟨gw1 3 25 (by decide +kernel), (List.forall_mem_cons.mpr ⟨gw1 1 4 (by decide +kernel), (List.forall_mem_cons.mpr ⟨gwr 3 26 rfl rfl, (fun _ h => by cases h)⟩)⟩)⟩)⟩)⟩), by decide +kernel, by decide +kernel, by decide +kernel⟩
set_option maxRecDepth 100000 in
theorem lc_X7_60 : lkS RX7 60 qX7_in 3 := ⟨(List.forall_mem_cons.mpr ⟨gw1 3 127 (by decide +kernel), (List.forall_mem_cons.mpr ⟨gw1 3 128 (by decide +kernel), (List.forall_mem_cons.mpr ⟨gw1 1 8 (by decide +kernel), (List.forall_mem_cons.mpr ⟨gwr 3 129 rfl rfl, (fun _ h => by cases h)⟩)⟩)⟩)⟩), rfl, by decide +kernel, by decide +kernel, by decide +kernel⟩
theorem gf_X7_44 : lkF RX7 44 7 13 := ⟨_, _, _, rfl, by decide, iX7, gw1 3 62 (by decide +kernel)⟩
set_option maxRecDepth 100000 in
theorem lc_X7_144 : lkV RX7 144 qX7_acts 3 := ⟨(List.forall_mem_cons.mpr ⟨gw1 3 238 (by decide +kernel), (List.forall_mem_cons.mpr ⟨gw1 4 0 (by decide +kernel), (List.forall_mem_cons.mpr ⟨gw1 0 28 (by decide +kernel), (List.forall_mem_cons.mpr ⟨gw1 1 8 (by decide +kernel), (List.forall_mem_cons.mpr ⟨gwr 4 1 rfl rfl, (fun _ h => by cases h)⟩)⟩)⟩)⟩)⟩), by decide +kernel, by decide +kernel, by decide +kernel⟩
theorem gf_X7_138 : lkF RX7 138 7 21 := ⟨_, _, _, rfl, by decide, iX7, gw1 3 70 (by decide +kernel)⟩
theorem gf_X7_141 : lkF RX7 141 7 22 := ⟨_, _, _, rfl, by decide, iX7, gw1 3 71 (by decide +kernel)⟩
theorem gf_X7_48 : lkF RX7 48 7 14 := ⟨_, _, _, rfl, by decide, iX7, gw1 3 63 (by decide +kernel)⟩
set_option maxRecDepth 100000 in
theorem lc_X7_132 : lkV RX7 132 qX7_called 2 := ⟨(List.forall_mem_cons.mpr ⟨gw1 4 2 (by decide +kernel), (List.forall_mem_cons.mpr ⟨gw1 4 4 (by decide +kernel), (List.forall_mem_cons.mpr ⟨gw1 0 29 (by decide +kernel), (List.forall_mem_cons.mpr ⟨gw1 1 8 (by decide +kernel), (List.forall_mem_cons.mpr ⟨gwr 4 5 rfl rfl, (fun _ h => by cases h)⟩)⟩)⟩)⟩)⟩), by decide +kernel, by decide +kernel, by decide +kernel⟩
set_option maxRecDepth 100000 in
theorem lc_X7_103 : lkV RX7 103 qX7_nextChange 3 := ⟨(List.forall_mem_cons.mpr ⟨gw1 3 214 (by decide +kernel), (List.forall_mem_cons.mpr ⟨gw1 3 216 (by decide +kernel), (List.forall_mem_cons.mpr ⟨gw1 0 27 (by decide +kernel), (List.forall_mem_cons.mpr ⟨gw1 1 8 (by decide +kernel), (List.forall_mem_cons.mpr ⟨gwr 3 217 rfl rfl, (fun _ h => by cases h)⟩)⟩)⟩)⟩)⟩), by decide +kernel, by decide +kernel, by decide +kernel⟩
theorem gf_X7_7 : lkF RX7 7 7 0 := ⟨_, _, _, rfl, by decide, iX7, gw1 3 49 (by decide +kernel)⟩
set_option maxRecDepth 100000 in
theorem lc_X7_135 : lkV RX7 135 qX7_isEdge 3 := ⟨(List.forall_mem_cons.mpr ⟨gw1 4 6 (by decide +kernel), (List.forall_mem_cons.mpr ⟨gw1 4 8 (by decide +kernel), (List.forall_mem_cons.mpr ⟨gw1 0 30 (by decide +kernel), (List.forall_mem_cons.mpr ⟨gw1 1 8 (by decide +kernel), (List.forall_mem_cons.mpr ⟨gwr 4 9 rfl rfl, (fun _ h => by cases h)⟩)⟩)⟩)⟩)⟩), by decide +kernel, by decide +kernel, by decide +kernel⟩
set_option maxRecDepth 100000 in
theorem lc_X7_83 : lkV RX7 83 qX7_at 3 := ⟨(List.forall_mem_cons.mpr ⟨gw1 3 154 (by decide +kernel), (List.forall_mem_cons.mpr ⟨gw1 3 156 (by decide +kernel), (List.forall_mem_cons.mpr ⟨gw1 0 19 (by decide +kernel), (List.forall_mem_cons.mpr ⟨gw1 1 8 (by decide +kernel), (List.forall_mem_cons.mpr ⟨gwr 3 157 rfl rfl, (fun _ h => by cases h)⟩)⟩)⟩)⟩)⟩), by decide +kernel, by decide +kernel, by decide +kernel⟩
theorem pf_X7_138 : lkP RX7 138 7 21 (tyX7 21) := ⟨_, _, _, tyX7, rfl, by decide, iX7, gw1 3 70 (by decide +kernel), rfl, tyX7_ok, nmX7, rfl⟩
theorem pf_X7_141 : lkP RX7 141 7 22 (tyX7 22) := ⟨_, _, _, tyX7, rfl, by decide, iX7, gw1 3 71 (by decide +kernel), rfl, tyX7_ok, nmX7, rfl⟩
theorem gf_X7_87 : lkF RX7 87 7 1 := ⟨_, _, _, rfl, by decide, iX7, gw1 3 50 (by decide +kernel)⟩
theorem gf_X7_23 : lkF RX7 23 7 5 := ⟨_, _, _, rfl, by decide, iX7, gw1 3 54 (by decide +kernel)⟩
set_option maxRecDepth 100000 in
theorem lc_X7_97 : lkV RX7 97 qX7_agree 2 := ⟨(List.forall_mem_cons.mpr ⟨gw1 3 198 (by decide +kernel), (List.forall_mem_cons.mpr ⟨gw1 3 200 (by decide +kernel), (List.forall_mem_cons.mpr ⟨gw1 0 23 (by decide +kernel), (List.forall_mem_cons.mpr ⟨gw1 1 8 (by decide +kernel), (List.forall_mem_cons.mpr ⟨gwr 3 201 rfl rfl, (fun _ h => by cases h)⟩)⟩)⟩)⟩)⟩), by decide +kernel, by decide +kernel, by decide +kernel⟩
set_option maxRecDepth 100000 in
theorem lc_X7_64 : lkS RX7 64 qX7_isSignal 1 := ⟨(List.forall_mem_cons.mpr ⟨gw1 3 130 (by decide +kernel), (List.forall_mem_cons.mpr ⟨gw1 3 131 (by decide +kernel), (List.forall_mem_cons.mpr ⟨gw1 1 8 (by decide +kernel), (List.forall_mem_cons.mpr ⟨gwr 3 132 rfl rfl, (fun _ h => by cases h)⟩)⟩)⟩)⟩), rfl, by decide +kernel, by decide +kernel, by decide +kernel⟩
set_option maxRecDepth 100000 in
theorem lc_X7_159 : lkV RX7 159 qX7_behave 2 := ⟨(List.forall_mem_cons.mpr ⟨gw1 4 46 (by decide +kernel), (List.forall_mem_cons.mpr ⟨gw1 4 48 (by decide +kernel), (List.forall_mem_cons.mpr ⟨gw1 0 35 (by decide +kernel), (List.forall_mem_cons.mpr ⟨gw1 1 8 (by decide +kernel), (List.forall_mem_cons.mpr ⟨gwr 4 49 rfl rfl, (fun _ h => by cases h)⟩)⟩)⟩)⟩)⟩), by decide +kernel, by decide +kernel, by decide +kernel⟩
theorem gf_X7_13 : lkF RX7 13 7 2 := ⟨_, _, _, rfl, by decide, iX7, gw1 3 51 (by decide +kernel)⟩
theorem gf_X7_17 : lkF RX7 17 7 3 := ⟨_, _, _, rfl, by decide, iX7, gw1 3 52 (by decide +kernel)⟩
theorem gf_X7_20 : lkF RX7 20 7 4 := ⟨_, _, _, rfl, by decide, iX7, gw1 3 53 (by decide +kernel)⟩
set_option maxRecDepth 100000 in
theorem lc_X7_106 : lkS RX7 106 qX7_least 2 := ⟨(List.forall_mem_cons.mpr ⟨gw1 3 219 (by decide +kernel), (List.forall_mem_cons.mpr ⟨gw1 3 220 (by decide +kernel), (List.forall_mem_cons.mpr ⟨gw1 1 8 (by decide +kernel), (List.forall_mem_cons.mpr ⟨gwr 3 221 rfl rfl, (fun _ h => by cases h)⟩)⟩)⟩)⟩), rfl, by decide +kernel, by decide +kernel, by decide +kernel⟩
theorem gf_X7_26 : lkF RX7 26 7 6 := ⟨_, _, _, rfl, by decide, iX7, gw1 3 55 (by decide +kernel)⟩
set_option maxRecDepth 100000 in
theorem lc_X7_68 : lkS RX7 68 qX7_isRow 2 := ⟨(List.forall_mem_cons.mpr ⟨gw1 3 124 (by decide +kernel), (List.forall_mem_cons.mpr ⟨gw1 3 125 (by decide +kernel), (List.forall_mem_cons.mpr ⟨gw1 1 8 (by decide +kernel), (List.forall_mem_cons.mpr ⟨gwr 3 126 rfl rfl, (fun _ h => by cases h)⟩)⟩)⟩)⟩), rfl, by decide +kernel, by decide +kernel, by decide +kernel⟩
set_option maxRecDepth 100000 in
theorem lc_X7_72 : lkV RX7 72 qX7_last 1 := ⟨(List.forall_mem_cons.mpr ⟨gw1 3 133 (by decide +kernel), (List.forall_mem_cons.mpr ⟨gw1 3 135 (by decide +kernel), (List.forall_mem_cons.mpr ⟨gw1 0 17 (by decide +kernel), (List.forall_mem_cons.mpr ⟨gw1 1 8 (by decide +kernel), (List.forall_mem_cons.mpr ⟨gwr 3 136 rfl rfl, (fun _ h => by cases h)⟩)⟩)⟩)⟩)⟩), by decide +kernel, by decide +kernel, by decide +kernel⟩
set_option maxRecDepth 100000 in
theorem lc_X7_76 : lkV RX7 76 qX7_lays 3 := ⟨(List.forall_mem_cons.mpr ⟨gw1 3 137 (by decide +kernel), (List.forall_mem_cons.mpr ⟨gw1 3 139 (by decide +kernel), (List.forall_mem_cons.mpr ⟨gw1 0 18 (by decide +kernel), (List.forall_mem_cons.mpr ⟨gw1 1 8 (by decide +kernel), (List.forall_mem_cons.mpr ⟨gwr 3 140 rfl rfl, (fun _ h => by cases h)⟩)⟩)⟩)⟩)⟩), by decide +kernel, by decide +kernel, by decide +kernel⟩
theorem gf_X7_51 : lkF RX7 51 7 15 := ⟨_, _, _, rfl, by decide, iX7, gw1 3 64 (by decide +kernel)⟩
theorem gf_X7_90 : lkF RX7 90 7 8 := ⟨_, _, _, rfl, by decide, iX7, gw1 3 57 (by decide +kernel)⟩
set_option maxRecDepth 100000 in
theorem lc_X7_129 : lkV RX7 129 qX7_spans 1 := ⟨(List.forall_mem_cons.mpr ⟨gw1 3 190 (by decide +kernel), (List.forall_mem_cons.mpr ⟨gw1 3 192 (by decide +kernel), (List.forall_mem_cons.mpr ⟨gw1 0 21 (by decide +kernel), (List.forall_mem_cons.mpr ⟨gw1 1 8 (by decide +kernel), (List.forall_mem_cons.mpr ⟨gwr 3 193 rfl rfl, (fun _ h => by cases h)⟩)⟩)⟩)⟩)⟩), by decide +kernel, by decide +kernel, by decide +kernel⟩
theorem gf_X7_120 : lkF RX7 120 7 18 := ⟨_, _, _, rfl, by decide, iX7, gw1 3 67 (by decide +kernel)⟩
theorem gf_X7_123 : lkF RX7 123 7 19 := ⟨_, _, _, rfl, by decide, iX7, gw1 3 68 (by decide +kernel)⟩
theorem gf_X7_126 : lkF RX7 126 7 20 := ⟨_, _, _, rfl, by decide, iX7, gw1 3 69 (by decide +kernel)⟩
set_option maxRecDepth 100000 in
theorem lc_X7_100 : lkV RX7 100 qX7_isMasked 2 := ⟨(List.forall_mem_cons.mpr ⟨gw1 3 202 (by decide +kernel), (List.forall_mem_cons.mpr ⟨gw1 3 204 (by decide +kernel), (List.forall_mem_cons.mpr ⟨gw1 0 24 (by decide +kernel), (List.forall_mem_cons.mpr ⟨gw1 1 8 (by decide +kernel), (List.forall_mem_cons.mpr ⟨gwr 3 205 rfl rfl, (fun _ h => by cases h)⟩)⟩)⟩)⟩)⟩), by decide +kernel, by decide +kernel, by decide +kernel⟩
theorem gf_X7_29 : lkF RX7 29 7 7 := ⟨_, _, _, rfl, by decide, iX7, gw1 3 56 (by decide +kernel)⟩
set_option maxRecDepth 100000 in
theorem lc_X7_110 : lkV RX7 110 qX7_differs 3 := ⟨(List.forall_mem_cons.mpr ⟨gw1 3 194 (by decide +kernel), (List.forall_mem_cons.mpr ⟨gw1 3 196 (by decide +kernel), (List.forall_mem_cons.mpr ⟨gw1 0 22 (by decide +kernel), (List.forall_mem_cons.mpr ⟨gw1 1 8 (by decide +kernel), (List.forall_mem_cons.mpr ⟨gwr 3 197 rfl rfl, (fun _ h => by cases h)⟩)⟩)⟩)⟩)⟩), by decide +kernel, by decide +kernel, by decide +kernel⟩
set_option maxRecDepth 100000 in
theorem lc_X7_117 : lkV RX7 117 qX7_next 3 := ⟨(List.forall_mem_cons.mpr ⟨gw1 3 210 (by decide +kernel), (List.forall_mem_cons.mpr ⟨gw1 3 212 (by decide +kernel), (List.forall_mem_cons.mpr ⟨gw1 0 26 (by decide +kernel), (List.forall_mem_cons.mpr ⟨gw1 1 8 (by decide +kernel), (List.forall_mem_cons.mpr ⟨gwr 3 213 rfl rfl, (fun _ h => by cases h)⟩)⟩)⟩)⟩)⟩), by decide +kernel, by decide +kernel, by decide +kernel⟩
set_option maxRecDepth 100000 in
theorem lc_X7_147 : lkV RX7 147 qX7_fits 2 := ⟨(List.forall_mem_cons.mpr ⟨gw1 4 18 (by decide +kernel), (List.forall_mem_cons.mpr ⟨gw1 4 20 (by decide +kernel), (List.forall_mem_cons.mpr ⟨gw1 0 31 (by decide +kernel), (List.forall_mem_cons.mpr ⟨gw1 1 8 (by decide +kernel), (List.forall_mem_cons.mpr ⟨gwr 4 21 rfl rfl, (fun _ h => by cases h)⟩)⟩)⟩)⟩)⟩), by decide +kernel, by decide +kernel, by decide +kernel⟩
theorem pf_X7_120 : lkP RX7 120 7 18 (tyX7 18) := ⟨_, _, _, tyX7, rfl, by decide, iX7, gw1 3 67 (by decide +kernel), rfl, tyX7_ok, nmX7, rfl⟩
theorem pf_X7_123 : lkP RX7 123 7 19 (tyX7 19) := ⟨_, _, _, tyX7, rfl, by decide, iX7, gw1 3 68 (by decide +kernel), rfl, tyX7_ok, nmX7, rfl⟩
theorem pf_X7_126 : lkP RX7 126 7 20 (tyX7 20) := ⟨_, _, _, tyX7, rfl, by decide, iX7, gw1 3 69 (by decide +kernel), rfl, tyX7_ok, nmX7, rfl⟩
theorem gf_X7_54 : lkF RX7 54 7 16 := ⟨_, _, _, rfl, by decide, iX7, gw1 3 65 (by decide +kernel)⟩
theorem gf_X7_57 : lkF RX7 57 7 17 := ⟨_, _, _, rfl, by decide, iX7, gw1 3 66 (by decide +kernel)⟩
set_option maxRecDepth 100000 in
theorem lc_X7_150 : lkV RX7 150 qX7_agreeAt 2 := ⟨(List.forall_mem_cons.mpr ⟨gw1 4 30 (by decide +kernel), (List.forall_mem_cons.mpr ⟨gw1 4 32 (by decide +kernel), (List.forall_mem_cons.mpr ⟨gw1 0 32 (by decide +kernel), (List.forall_mem_cons.mpr ⟨gw1 1 8 (by decide +kernel), (List.forall_mem_cons.mpr ⟨gwr 4 33 rfl rfl, (fun _ h => by cases h)⟩)⟩)⟩)⟩)⟩), by decide +kernel, by decide +kernel, by decide +kernel⟩
set_option maxRecDepth 100000 in
theorem lc_X7_156 : lkV RX7 156 qX7_inputsAgree 2 := ⟨(List.forall_mem_cons.mpr ⟨gw1 4 34 (by decide +kernel), (List.forall_mem_cons.mpr ⟨gw1 4 36 (by decide +kernel), (List.forall_mem_cons.mpr ⟨gw1 0 33 (by decide +kernel), (List.forall_mem_cons.mpr ⟨gw1 1 8 (by decide +kernel), (List.forall_mem_cons.mpr ⟨gwr 4 37 rfl rfl, (fun _ h => by cases h)⟩)⟩)⟩)⟩)⟩), by decide +kernel, by decide +kernel, by decide +kernel⟩
theorem pf_X7_7 : lkP RX7 7 7 0 (tyX7 0) := ⟨_, _, _, tyX7, rfl, by decide, iX7, gw1 3 49 (by decide +kernel), rfl, tyX7_ok, nmX7, rfl⟩
theorem pf_X7_13 : lkPF RX7 13 7 2 (tyX7 2) := ⟨_, _, _, tyX7, rfl, by decide, iX7, gw1 3 51 (by decide +kernel), rfl, rfl, tyX7_ok, nmX7, rfl⟩
theorem pf_X7_17 : lkPF RX7 17 7 3 (tyX7 3) := ⟨_, _, _, tyX7, rfl, by decide, iX7, gw1 3 52 (by decide +kernel), rfl, rfl, tyX7_ok, nmX7, rfl⟩
theorem pf_X7_20 : lkPF RX7 20 7 4 (tyX7 4) := ⟨_, _, _, tyX7, rfl, by decide, iX7, gw1 3 53 (by decide +kernel), rfl, rfl, tyX7_ok, nmX7, rfl⟩
theorem pf_X7_23 : lkPF RX7 23 7 5 (tyX7 5) := ⟨_, _, _, tyX7, rfl, by decide, iX7, gw1 3 54 (by decide +kernel), rfl, rfl, tyX7_ok, nmX7, rfl⟩
theorem pf_X7_26 : lkPF RX7 26 7 6 (tyX7 6) := ⟨_, _, _, tyX7, rfl, by decide, iX7, gw1 3 55 (by decide +kernel), rfl, rfl, tyX7_ok, nmX7, rfl⟩
theorem pf_X7_29 : lkPF RX7 29 7 7 (tyX7 7) := ⟨_, _, _, tyX7, rfl, by decide, iX7, gw1 3 56 (by decide +kernel), rfl, rfl, tyX7_ok, nmX7, rfl⟩
theorem pf_X7_32 : lkPF RX7 32 7 9 (tyX7 9) := ⟨_, _, _, tyX7, rfl, by decide, iX7, gw1 3 58 (by decide +kernel), rfl, rfl, tyX7_ok, nmX7, rfl⟩
theorem pf_X7_35 : lkPF RX7 35 7 10 (tyX7 10) := ⟨_, _, _, tyX7, rfl, by decide, iX7, gw1 3 59 (by decide +kernel), rfl, rfl, tyX7_ok, nmX7, rfl⟩
theorem pf_X7_38 : lkPF RX7 38 7 11 (tyX7 11) := ⟨_, _, _, tyX7, rfl, by decide, iX7, gw1 3 60 (by decide +kernel), rfl, rfl, tyX7_ok, nmX7, rfl⟩
theorem pf_X7_41 : lkPF RX7 41 7 12 (tyX7 12) := ⟨_, _, _, tyX7, rfl, by decide, iX7, gw1 3 61 (by decide +kernel), rfl, rfl, tyX7_ok, nmX7, rfl⟩
theorem pf_X7_44 : lkPF RX7 44 7 13 (tyX7 13) := ⟨_, _, _, tyX7, rfl, by decide, iX7, gw1 3 62 (by decide +kernel), rfl, rfl, tyX7_ok, nmX7, rfl⟩
theorem pf_X7_48 : lkPF RX7 48 7 14 (tyX7 14) := ⟨_, _, _, tyX7, rfl, by decide, iX7, gw1 3 63 (by decide +kernel), rfl, rfl, tyX7_ok, nmX7, rfl⟩
theorem pf_X7_51 : lkPF RX7 51 7 15 (tyX7 15) := ⟨_, _, _, tyX7, rfl, by decide, iX7, gw1 3 64 (by decide +kernel), rfl, rfl, tyX7_ok, nmX7, rfl⟩
theorem pf_X7_54 : lkPF RX7 54 7 16 (tyX7 16) := ⟨_, _, _, tyX7, rfl, by decide, iX7, gw1 3 65 (by decide +kernel), rfl, rfl, tyX7_ok, nmX7, rfl⟩
theorem pf_X7_57 : lkPF RX7 57 7 17 (tyX7 17) := ⟨_, _, _, tyX7, rfl, by decide, iX7, gw1 3 66 (by decide +kernel), rfl, rfl, tyX7_ok, nmX7, rfl⟩
set_option maxRecDepth 100000 in
theorem lc_X7_153 : lkV RX7 153 qX7_edge 3 := ⟨(List.forall_mem_cons.mpr ⟨gw1 4 38 (by decide +kernel), (List.forall_mem_cons.mpr ⟨gw1 4 40 (by decide +kernel), (List.forall_mem_cons.mpr ⟨gw1 0 34 (by decide +kernel), (List.forall_mem_cons.mpr ⟨gw1 1 8 (by decide +kernel), (List.forall_mem_cons.mpr ⟨gwr 4 41 rfl rfl, (fun _ h => by cases h)⟩)⟩)⟩)⟩)⟩), by decide +kernel, by decide +kernel, by decide +kernel⟩
theorem gf_X7_32 : lkF RX7 32 7 9 := ⟨_, _, _, rfl, by decide, iX7, gw1 3 58 (by decide +kernel)⟩
theorem gf_X7_41 : lkF RX7 41 7 12 := ⟨_, _, _, rfl, by decide, iX7, gw1 3 61 (by decide +kernel)⟩
theorem gf_X7_35 : lkF RX7 35 7 10 := ⟨_, _, _, rfl, by decide, iX7, gw1 3 59 (by decide +kernel)⟩
theorem gf_X7_38 : lkF RX7 38 7 11 := ⟨_, _, _, rfl, by decide, iX7, gw1 3 60 (by decide +kernel)⟩
set_option maxRecDepth 100000 in
theorem lc_X7_93 : lkV RX7 93 qX7_masked 4 := ⟨(List.forall_mem_cons.mpr ⟨gw1 3 174 (by decide +kernel), (List.forall_mem_cons.mpr ⟨gw1 3 176 (by decide +kernel), (List.forall_mem_cons.mpr ⟨gw1 0 20 (by decide +kernel), (List.forall_mem_cons.mpr ⟨gw1 1 8 (by decide +kernel), (List.forall_mem_cons.mpr ⟨gwr 3 177 rfl rfl, (fun _ h => by cases h)⟩)⟩)⟩)⟩)⟩), by decide +kernel, by decide +kernel, by decide +kernel⟩
theorem pf_X7_90 : lkP RX7 90 7 8 (tyX7 8) := ⟨_, _, _, tyX7, rfl, by decide, iX7, gw1 3 57 (by decide +kernel), rfl, tyX7_ok, nmX7, rfl⟩
theorem pf_X7_87 : lkP RX7 87 7 1 (tyX7 1) := ⟨_, _, _, tyX7, rfl, by decide, iX7, gw1 3 50 (by decide +kernel), rfl, tyX7_ok, nmX7, rfl⟩
set_option maxRecDepth 100000 in
theorem lc_X7_113 : lkV RX7 113 qX7_found 5 := ⟨(List.forall_mem_cons.mpr ⟨gw1 3 206 (by decide +kernel), (List.forall_mem_cons.mpr ⟨gw1 3 208 (by decide +kernel), (List.forall_mem_cons.mpr ⟨gw1 0 25 (by decide +kernel), (List.forall_mem_cons.mpr ⟨gw1 1 8 (by decide +kernel), (List.forall_mem_cons.mpr ⟨gwr 3 209 rfl rfl, (fun _ h => by cases h)⟩)⟩)⟩)⟩)⟩), by decide +kernel, by decide +kernel, by decide +kernel⟩
