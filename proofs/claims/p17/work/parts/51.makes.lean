theorem lo_X4 : lkO RX4 3 := by unfold lkO; decide +kernel
theorem lo_X2 : lkO RX2 1 := by unfold lkO; decide +kernel
theorem ln_X2_7 : lkC RX2 7 4 [.null, .null, .int (gI 0)] 3 := ⟨RX4, TX4, tyX4, rfl, iX4, tyX4_ok, by decide +kernel, fun j hj => by rcases (show j = 0 ∨ j = 1 ∨ j = 2 by omega) with rfl | rfl | rfl <;> rfl⟩
theorem lo_X0 : lkO RX0 1 := by unfold lkO; decide +kernel
theorem lo_X1 : lkO RX1 3 := by unfold lkO; decide +kernel
theorem lo_X3 : lkO RX3 3 := by unfold lkO; decide +kernel
theorem ln_X3_9 : lkC RX3 9 4 [.null, .null, .int (gI 0)] 3 := ⟨RX4, TX4, tyX4, rfl, iX4, tyX4_ok, by decide +kernel, fun j hj => by rcases (show j = 0 ∨ j = 1 ∨ j = 2 by omega) with rfl | rfl | rfl <;> rfl⟩
theorem lo_X5 : lkO RX5 3 := by unfold lkO; decide +kernel
theorem lq_X5_9 : Cond.classLink RX5 9 "WavePairs$Pair" ∈ lw_good := by decide +kernel
theorem ln_X5_9 : lkC RX5 9 3 [.null, .null, .null, .int (gI 0), .int (gI 0), .int (gI 0)] 6 := ⟨RX3, TX3, tyX3, rfl, iX3, tyX3_ok, by decide +kernel, fun j hj => by rcases (show j = 0 ∨ j = 1 ∨ j = 2 ∨ j = 3 ∨ j = 4 ∨ j = 5 by omega) with rfl | rfl | rfl | rfl | rfl | rfl <;> rfl⟩
theorem lo_X6 : lkO RX6 1 := by unfold lkO; decide +kernel
theorem lq_X6_9 : Cond.classLink RX6 9 "WavePairs$Row" ∈ lw_good := by decide +kernel
theorem lq_X6_25 : Cond.classLink RX6 25 "WavePairs$Mask" ∈ lw_good := by decide +kernel
theorem lq_X6_31 : Cond.classLink RX6 31 "WavePairs$Channel" ∈ lw_good := by decide +kernel
theorem lq_X6_37 : Cond.classLink RX6 37 "WavePairs$Gate" ∈ lw_good := by decide +kernel
theorem ln_X6_43 : lkC RX6 43 5 [.null, .int (gI 0), .int (gI 0), .int (gI 0), .int (gI 0)] 5 := ⟨RX5, TX5, tyX5, rfl, iX5, tyX5_ok, by decide +kernel, fun j hj => by rcases (show j = 0 ∨ j = 1 ∨ j = 2 ∨ j = 3 ∨ j = 4 by omega) with rfl | rfl | rfl | rfl | rfl <;> rfl⟩
theorem ln_X6_9 : lkC RX6 9 4 [.null, .null, .int (gI 0)] 3 := ⟨RX4, TX4, tyX4, rfl, iX4, tyX4_ok, by decide +kernel, fun j hj => by rcases (show j = 0 ∨ j = 1 ∨ j = 2 by omega) with rfl | rfl | rfl <;> rfl⟩
theorem ln_X6_37 : lkC RX6 37 1 [.int (gI 0), .int (gI 0), .int (gI 0)] 3 := ⟨RX1, TX1, tyX1, rfl, iX1, tyX1_ok, by decide +kernel, fun j hj => by rcases (show j = 0 ∨ j = 1 ∨ j = 2 by omega) with rfl | rfl | rfl <;> rfl⟩
theorem ln_X6_25 : lkC RX6 25 2 [.null, .int (gI 0), .null, .int (gI 0)] 4 := ⟨RX2, TX2, tyX2, rfl, iX2, tyX2_ok, by decide +kernel, fun j hj => by rcases (show j = 0 ∨ j = 1 ∨ j = 2 ∨ j = 3 by omega) with rfl | rfl | rfl | rfl <;> rfl⟩
theorem ln_X6_31 : lkC RX6 31 0 [.int (gI 0), .int (gI 0), .int (gI 0), .int (gI 0), .int (gI 0)] 5 := ⟨RX0, TX0, tyX0, rfl, iX0, tyX0_ok, by decide +kernel, fun j hj => by rcases (show j = 0 ∨ j = 1 ∨ j = 2 ∨ j = 3 ∨ j = 4 by omega) with rfl | rfl | rfl | rfl | rfl <;> rfl⟩
theorem lo_X7 : lkO RX7 1 := by unfold lkO; decide +kernel
theorem lao_Row : Cond.arrayOver (.object "WavePairs$Row") ∈ lw_nest := by decide +kernel
theorem lao_Mask : Cond.arrayOver (.object "WavePairs$Mask") ∈ lw_nest := by decide +kernel
theorem lao_Channel : Cond.arrayOver (.object "WavePairs$Channel") ∈ lw_nest := by decide +kernel
theorem lao_Gate : Cond.arrayOver (.object "WavePairs$Gate") ∈ lw_nest := by decide +kernel
theorem lao_Pair : Cond.arrayOver (.object "WavePairs$Pair") ∈ lw_nest := by decide +kernel
theorem lai_I : Cond.arrayClass .int ∈ lw_good := by decide +kernel
theorem lai_Z : Cond.arrayClass .boolean ∈ lw_good := by decide +kernel
