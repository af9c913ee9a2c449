theorem db_dX0_init_0 : decode cX0_init 0 = .ok (.aload_n 0, 1) ∧ decode cX0_init 1 = .ok (.invokespecial 1, 3) ∧ decode cX0_init 4 = .ok (.aload_n 0, 1) ∧ decode cX0_init 5 = .ok (.iconst 0, 1) ∧ decode cX0_init 6 = .ok (.putfield 7, 3) ∧ decode cX0_init 9 = .ok (.aload_n 0, 1) ∧ decode cX0_init 10 = .ok (.iconst 0, 1) ∧ decode cX0_init 11 = .ok (.putfield 13, 3) := by decide +kernel
theorem dX0_init_0 : decode cX0_init 0 = .ok (.aload_n 0, 1) := db_dX0_init_0.1
theorem dX0_init_1 : decode cX0_init 1 = .ok (.invokespecial 1, 3) := db_dX0_init_0.2.1
theorem dX0_init_4 : decode cX0_init 4 = .ok (.aload_n 0, 1) := db_dX0_init_0.2.2.1
theorem dX0_init_5 : decode cX0_init 5 = .ok (.iconst 0, 1) := db_dX0_init_0.2.2.2.1
theorem dX0_init_6 : decode cX0_init 6 = .ok (.putfield 7, 3) := db_dX0_init_0.2.2.2.2.1
theorem dX0_init_9 : decode cX0_init 9 = .ok (.aload_n 0, 1) := db_dX0_init_0.2.2.2.2.2.1
theorem dX0_init_10 : decode cX0_init 10 = .ok (.iconst 0, 1) := db_dX0_init_0.2.2.2.2.2.2.1
theorem dX0_init_11 : decode cX0_init 11 = .ok (.putfield 13, 3) := db_dX0_init_0.2.2.2.2.2.2.2
theorem db_dX0_init_14 : decode cX0_init 14 = .ok (.aload_n 0, 1) ∧ decode cX0_init 15 = .ok (.iconst 0, 1) ∧ decode cX0_init 16 = .ok (.putfield 17, 3) ∧ decode cX0_init 19 = .ok (.aload_n 0, 1) ∧ decode cX0_init 20 = .ok (.iconst 0, 1) ∧ decode cX0_init 21 = .ok (.putfield 20, 3) ∧ decode cX0_init 24 = .ok (.aload_n 0, 1) ∧ decode cX0_init 25 = .ok (.iconst 0, 1) := by decide +kernel
theorem dX0_init_14 : decode cX0_init 14 = .ok (.aload_n 0, 1) := db_dX0_init_14.1
theorem dX0_init_15 : decode cX0_init 15 = .ok (.iconst 0, 1) := db_dX0_init_14.2.1
theorem dX0_init_16 : decode cX0_init 16 = .ok (.putfield 17, 3) := db_dX0_init_14.2.2.1
theorem dX0_init_19 : decode cX0_init 19 = .ok (.aload_n 0, 1) := db_dX0_init_14.2.2.2.1
theorem dX0_init_20 : decode cX0_init 20 = .ok (.iconst 0, 1) := db_dX0_init_14.2.2.2.2.1
theorem dX0_init_21 : decode cX0_init 21 = .ok (.putfield 20, 3) := db_dX0_init_14.2.2.2.2.2.1
theorem dX0_init_24 : decode cX0_init 24 = .ok (.aload_n 0, 1) := db_dX0_init_14.2.2.2.2.2.2.1
theorem dX0_init_25 : decode cX0_init 25 = .ok (.iconst 0, 1) := db_dX0_init_14.2.2.2.2.2.2.2
theorem db_dX0_init_26 : decode cX0_init 26 = .ok (.putfield 23, 3) ∧ decode cX0_init 29 = .ok (.return_, 1) := by decide +kernel
theorem dX0_init_26 : decode cX0_init 26 = .ok (.putfield 23, 3) := db_dX0_init_26.1
theorem dX0_init_29 : decode cX0_init 29 = .ok (.return_, 1) := db_dX0_init_26.2
theorem db_dX0_tell_0 : decode cX0_tell 0 = .ok (.aload_n 0, 1) ∧ decode cX0_tell 1 = .ok (.iconst 1, 1) ∧ decode cX0_tell 2 = .ok (.putfield 7, 3) ∧ decode cX0_tell 5 = .ok (.aload_n 0, 1) ∧ decode cX0_tell 6 = .ok (.iload_n 1, 1) ∧ decode cX0_tell 7 = .ok (.putfield 13, 3) ∧ decode cX0_tell 10 = .ok (.aload_n 0, 1) ∧ decode cX0_tell 11 = .ok (.iload_n 2, 1) := by decide +kernel
theorem dX0_tell_0 : decode cX0_tell 0 = .ok (.aload_n 0, 1) := db_dX0_tell_0.1
theorem dX0_tell_1 : decode cX0_tell 1 = .ok (.iconst 1, 1) := db_dX0_tell_0.2.1
theorem dX0_tell_2 : decode cX0_tell 2 = .ok (.putfield 7, 3) := db_dX0_tell_0.2.2.1
theorem dX0_tell_5 : decode cX0_tell 5 = .ok (.aload_n 0, 1) := db_dX0_tell_0.2.2.2.1
theorem dX0_tell_6 : decode cX0_tell 6 = .ok (.iload_n 1, 1) := db_dX0_tell_0.2.2.2.2.1
theorem dX0_tell_7 : decode cX0_tell 7 = .ok (.putfield 13, 3) := db_dX0_tell_0.2.2.2.2.2.1
theorem dX0_tell_10 : decode cX0_tell 10 = .ok (.aload_n 0, 1) := db_dX0_tell_0.2.2.2.2.2.2.1
theorem dX0_tell_11 : decode cX0_tell 11 = .ok (.iload_n 2, 1) := db_dX0_tell_0.2.2.2.2.2.2.2
theorem db_dX0_tell_12 : decode cX0_tell 12 = .ok (.putfield 17, 3) ∧ decode cX0_tell 15 = .ok (.aload_n 0, 1) ∧ decode cX0_tell 16 = .ok (.iload_n 3, 1) ∧ decode cX0_tell 17 = .ok (.putfield 20, 3) ∧ decode cX0_tell 20 = .ok (.aload_n 0, 1) ∧ decode cX0_tell 21 = .ok (.iload 4, 2) ∧ decode cX0_tell 23 = .ok (.putfield 23, 3) ∧ decode cX0_tell 26 = .ok (.return_, 1) := by decide +kernel
theorem dX0_tell_12 : decode cX0_tell 12 = .ok (.putfield 17, 3) := db_dX0_tell_12.1
theorem dX0_tell_15 : decode cX0_tell 15 = .ok (.aload_n 0, 1) := db_dX0_tell_12.2.1
theorem dX0_tell_16 : decode cX0_tell 16 = .ok (.iload_n 3, 1) := db_dX0_tell_12.2.2.1
theorem dX0_tell_17 : decode cX0_tell 17 = .ok (.putfield 20, 3) := db_dX0_tell_12.2.2.2.1
theorem dX0_tell_20 : decode cX0_tell 20 = .ok (.aload_n 0, 1) := db_dX0_tell_12.2.2.2.2.1
theorem dX0_tell_21 : decode cX0_tell 21 = .ok (.iload 4, 2) := db_dX0_tell_12.2.2.2.2.2.1
theorem dX0_tell_23 : decode cX0_tell 23 = .ok (.putfield 23, 3) := db_dX0_tell_12.2.2.2.2.2.2.1
theorem dX0_tell_26 : decode cX0_tell 26 = .ok (.return_, 1) := db_dX0_tell_12.2.2.2.2.2.2.2
theorem db_dX1_init_0 : decode cX1_init 0 = .ok (.aload_n 0, 1) ∧ decode cX1_init 1 = .ok (.invokespecial 3, 3) ∧ decode cX1_init 4 = .ok (.aload_n 0, 1) ∧ decode cX1_init 5 = .ok (.iconst 0, 1) ∧ decode cX1_init 6 = .ok (.putfield 9, 3) ∧ decode cX1_init 9 = .ok (.aload_n 0, 1) ∧ decode cX1_init 10 = .ok (.iconst 0, 1) ∧ decode cX1_init 11 = .ok (.putfield 15, 3) := by decide +kernel
theorem dX1_init_0 : decode cX1_init 0 = .ok (.aload_n 0, 1) := db_dX1_init_0.1
theorem dX1_init_1 : decode cX1_init 1 = .ok (.invokespecial 3, 3) := db_dX1_init_0.2.1
theorem dX1_init_4 : decode cX1_init 4 = .ok (.aload_n 0, 1) := db_dX1_init_0.2.2.1
theorem dX1_init_5 : decode cX1_init 5 = .ok (.iconst 0, 1) := db_dX1_init_0.2.2.2.1
theorem dX1_init_6 : decode cX1_init 6 = .ok (.putfield 9, 3) := db_dX1_init_0.2.2.2.2.1
theorem dX1_init_9 : decode cX1_init 9 = .ok (.aload_n 0, 1) := db_dX1_init_0.2.2.2.2.2.1
theorem dX1_init_10 : decode cX1_init 10 = .ok (.iconst 0, 1) := db_dX1_init_0.2.2.2.2.2.2.1
theorem dX1_init_11 : decode cX1_init 11 = .ok (.putfield 15, 3) := db_dX1_init_0.2.2.2.2.2.2.2
theorem db_dX1_init_14 : decode cX1_init 14 = .ok (.aload_n 0, 1) ∧ decode cX1_init 15 = .ok (.iconst 0, 1) ∧ decode cX1_init 16 = .ok (.putfield 18, 3) ∧ decode cX1_init 19 = .ok (.return_, 1) := by decide +kernel
theorem dX1_init_14 : decode cX1_init 14 = .ok (.aload_n 0, 1) := db_dX1_init_14.1
theorem dX1_init_15 : decode cX1_init 15 = .ok (.iconst 0, 1) := db_dX1_init_14.2.1
theorem dX1_init_16 : decode cX1_init 16 = .ok (.putfield 18, 3) := db_dX1_init_14.2.2.1
theorem dX1_init_19 : decode cX1_init 19 = .ok (.return_, 1) := db_dX1_init_14.2.2.2
theorem db_dX1_tell_0 : decode cX1_tell 0 = .ok (.aload_n 0, 1) ∧ decode cX1_tell 1 = .ok (.iload_n 1, 1) ∧ decode cX1_tell 2 = .ok (.putfield 9, 3) ∧ decode cX1_tell 5 = .ok (.aload_n 0, 1) ∧ decode cX1_tell 6 = .ok (.iload_n 2, 1) ∧ decode cX1_tell 7 = .ok (.putfield 15, 3) ∧ decode cX1_tell 10 = .ok (.aload_n 0, 1) ∧ decode cX1_tell 11 = .ok (.iload_n 3, 1) := by decide +kernel
theorem dX1_tell_0 : decode cX1_tell 0 = .ok (.aload_n 0, 1) := db_dX1_tell_0.1
theorem dX1_tell_1 : decode cX1_tell 1 = .ok (.iload_n 1, 1) := db_dX1_tell_0.2.1
theorem dX1_tell_2 : decode cX1_tell 2 = .ok (.putfield 9, 3) := db_dX1_tell_0.2.2.1
theorem dX1_tell_5 : decode cX1_tell 5 = .ok (.aload_n 0, 1) := db_dX1_tell_0.2.2.2.1
theorem dX1_tell_6 : decode cX1_tell 6 = .ok (.iload_n 2, 1) := db_dX1_tell_0.2.2.2.2.1
theorem dX1_tell_7 : decode cX1_tell 7 = .ok (.putfield 15, 3) := db_dX1_tell_0.2.2.2.2.2.1
theorem dX1_tell_10 : decode cX1_tell 10 = .ok (.aload_n 0, 1) := db_dX1_tell_0.2.2.2.2.2.2.1
theorem dX1_tell_11 : decode cX1_tell 11 = .ok (.iload_n 3, 1) := db_dX1_tell_0.2.2.2.2.2.2.2
theorem db_dX1_tell_12 : decode cX1_tell 12 = .ok (.putfield 18, 3) ∧ decode cX1_tell 15 = .ok (.return_, 1) := by decide +kernel
theorem dX1_tell_12 : decode cX1_tell 12 = .ok (.putfield 18, 3) := db_dX1_tell_12.1
theorem dX1_tell_15 : decode cX1_tell 15 = .ok (.return_, 1) := db_dX1_tell_12.2
theorem db_dX2_init_0 : decode cX2_init 0 = .ok (.aload_n 0, 1) ∧ decode cX2_init 1 = .ok (.invokespecial 1, 3) ∧ decode cX2_init 4 = .ok (.aload_n 0, 1) ∧ decode cX2_init 5 = .ok (.new 7, 3) ∧ decode cX2_init 8 = .ok (.dup, 1) ∧ decode cX2_init 9 = .ok (.invokespecial 9, 3) ∧ decode cX2_init 12 = .ok (.putfield 10, 3) ∧ decode cX2_init 15 = .ok (.aload_n 0, 1) := by decide +kernel
theorem dX2_init_0 : decode cX2_init 0 = .ok (.aload_n 0, 1) := db_dX2_init_0.1
theorem dX2_init_1 : decode cX2_init 1 = .ok (.invokespecial 1, 3) := db_dX2_init_0.2.1
theorem dX2_init_4 : decode cX2_init 4 = .ok (.aload_n 0, 1) := db_dX2_init_0.2.2.1
theorem dX2_init_5 : decode cX2_init 5 = .ok (.new 7, 3) := db_dX2_init_0.2.2.2.1
theorem dX2_init_8 : decode cX2_init 8 = .ok (.dup, 1) := db_dX2_init_0.2.2.2.2.1
theorem dX2_init_9 : decode cX2_init 9 = .ok (.invokespecial 9, 3) := db_dX2_init_0.2.2.2.2.2.1
theorem dX2_init_12 : decode cX2_init 12 = .ok (.putfield 10, 3) := db_dX2_init_0.2.2.2.2.2.2.1
theorem dX2_init_15 : decode cX2_init 15 = .ok (.aload_n 0, 1) := db_dX2_init_0.2.2.2.2.2.2.2
theorem db_dX2_init_16 : decode cX2_init 16 = .ok (.iconst 0, 1) ∧ decode cX2_init 17 = .ok (.putfield 16, 3) ∧ decode cX2_init 20 = .ok (.aload_n 0, 1) ∧ decode cX2_init 21 = .ok (.aload_n 0, 1) ∧ decode cX2_init 22 = .ok (.getfield 10, 3) ∧ decode cX2_init 25 = .ok (.putfield 20, 3) ∧ decode cX2_init 28 = .ok (.aload_n 0, 1) ∧ decode cX2_init 29 = .ok (.iconst 1, 1) := by decide +kernel
theorem dX2_init_16 : decode cX2_init 16 = .ok (.iconst 0, 1) := db_dX2_init_16.1
theorem dX2_init_17 : decode cX2_init 17 = .ok (.putfield 16, 3) := db_dX2_init_16.2.1
theorem dX2_init_20 : decode cX2_init 20 = .ok (.aload_n 0, 1) := db_dX2_init_16.2.2.1
theorem dX2_init_21 : decode cX2_init 21 = .ok (.aload_n 0, 1) := db_dX2_init_16.2.2.2.1
theorem dX2_init_22 : decode cX2_init 22 = .ok (.getfield 10, 3) := db_dX2_init_16.2.2.2.2.1
theorem dX2_init_25 : decode cX2_init 25 = .ok (.putfield 20, 3) := db_dX2_init_16.2.2.2.2.2.1
theorem dX2_init_28 : decode cX2_init 28 = .ok (.aload_n 0, 1) := db_dX2_init_16.2.2.2.2.2.2.1
theorem dX2_init_29 : decode cX2_init 29 = .ok (.iconst 1, 1) := db_dX2_init_16.2.2.2.2.2.2.2
theorem db_dX2_init_30 : decode cX2_init 30 = .ok (.putfield 23, 3) ∧ decode cX2_init 33 = .ok (.return_, 1) := by decide +kernel
theorem dX2_init_30 : decode cX2_init 30 = .ok (.putfield 23, 3) := db_dX2_init_30.1
theorem dX2_init_33 : decode cX2_init 33 = .ok (.return_, 1) := db_dX2_init_30.2
theorem db_dX2_coverTicks_0 : decode cX2_coverTicks 0 = .ok (.aload_n 0, 1) ∧ decode cX2_coverTicks 1 = .ok (.getfield 10, 3) ∧ decode cX2_coverTicks 4 = .ok (.invokevirtual 26, 3) ∧ decode cX2_coverTicks 7 = .ok (.aload_n 0, 1) ∧ decode cX2_coverTicks 8 = .ok (.getfield 10, 3) ∧ decode cX2_coverTicks 11 = .ok (.iload_n 2, 1) ∧ decode cX2_coverTicks 12 = .ok (.iconst 1, 1) ∧ decode cX2_coverTicks 13 = .ok (.invokevirtual 29, 3) := by decide +kernel
theorem dX2_coverTicks_0 : decode cX2_coverTicks 0 = .ok (.aload_n 0, 1) := db_dX2_coverTicks_0.1
theorem dX2_coverTicks_1 : decode cX2_coverTicks 1 = .ok (.getfield 10, 3) := db_dX2_coverTicks_0.2.1
theorem dX2_coverTicks_4 : decode cX2_coverTicks 4 = .ok (.invokevirtual 26, 3) := db_dX2_coverTicks_0.2.2.1
theorem dX2_coverTicks_7 : decode cX2_coverTicks 7 = .ok (.aload_n 0, 1) := db_dX2_coverTicks_0.2.2.2.1
theorem dX2_coverTicks_8 : decode cX2_coverTicks 8 = .ok (.getfield 10, 3) := db_dX2_coverTicks_0.2.2.2.2.1
theorem dX2_coverTicks_11 : decode cX2_coverTicks 11 = .ok (.iload_n 2, 1) := db_dX2_coverTicks_0.2.2.2.2.2.1
theorem dX2_coverTicks_12 : decode cX2_coverTicks 12 = .ok (.iconst 1, 1) := db_dX2_coverTicks_0.2.2.2.2.2.2.1
theorem dX2_coverTicks_13 : decode cX2_coverTicks 13 = .ok (.invokevirtual 29, 3) := db_dX2_coverTicks_0.2.2.2.2.2.2.2
theorem db_dX2_coverTicks_16 : decode cX2_coverTicks 16 = .ok (.aload_n 0, 1) ∧ decode cX2_coverTicks 17 = .ok (.getfield 10, 3) ∧ decode cX2_coverTicks 20 = .ok (.iload_n 3, 1) ∧ decode cX2_coverTicks 21 = .ok (.iconst 0, 1) ∧ decode cX2_coverTicks 22 = .ok (.invokevirtual 29, 3) ∧ decode cX2_coverTicks 25 = .ok (.aload_n 0, 1) ∧ decode cX2_coverTicks 26 = .ok (.iload_n 1, 1) ∧ decode cX2_coverTicks 27 = .ok (.aload_n 0, 1) := by decide +kernel
theorem dX2_coverTicks_16 : decode cX2_coverTicks 16 = .ok (.aload_n 0, 1) := db_dX2_coverTicks_16.1
theorem dX2_coverTicks_17 : decode cX2_coverTicks 17 = .ok (.getfield 10, 3) := db_dX2_coverTicks_16.2.1
theorem dX2_coverTicks_20 : decode cX2_coverTicks 20 = .ok (.iload_n 3, 1) := db_dX2_coverTicks_16.2.2.1
theorem dX2_coverTicks_21 : decode cX2_coverTicks 21 = .ok (.iconst 0, 1) := db_dX2_coverTicks_16.2.2.2.1
theorem dX2_coverTicks_22 : decode cX2_coverTicks 22 = .ok (.invokevirtual 29, 3) := db_dX2_coverTicks_16.2.2.2.2.1
theorem dX2_coverTicks_25 : decode cX2_coverTicks 25 = .ok (.aload_n 0, 1) := db_dX2_coverTicks_16.2.2.2.2.2.1
theorem dX2_coverTicks_26 : decode cX2_coverTicks 26 = .ok (.iload_n 1, 1) := db_dX2_coverTicks_16.2.2.2.2.2.2.1
theorem dX2_coverTicks_27 : decode cX2_coverTicks 27 = .ok (.aload_n 0, 1) := db_dX2_coverTicks_16.2.2.2.2.2.2.2
theorem db_dX2_coverTicks_28 : decode cX2_coverTicks 28 = .ok (.getfield 10, 3) ∧ decode cX2_coverTicks 31 = .ok (.iconst 1, 1) ∧ decode cX2_coverTicks 32 = .ok (.invokevirtual 33, 3) ∧ decode cX2_coverTicks 35 = .ok (.return_, 1) := by decide +kernel
theorem dX2_coverTicks_28 : decode cX2_coverTicks 28 = .ok (.getfield 10, 3) := db_dX2_coverTicks_28.1
theorem dX2_coverTicks_31 : decode cX2_coverTicks 31 = .ok (.iconst 1, 1) := db_dX2_coverTicks_28.2.1
theorem dX2_coverTicks_32 : decode cX2_coverTicks 32 = .ok (.invokevirtual 33, 3) := db_dX2_coverTicks_28.2.2.1
theorem dX2_coverTicks_35 : decode cX2_coverTicks 35 = .ok (.return_, 1) := db_dX2_coverTicks_28.2.2.2
theorem db_dX2_coverWhile_0 : decode cX2_coverWhile 0 = .ok (.aload_n 0, 1) ∧ decode cX2_coverWhile 1 = .ok (.iload_n 1, 1) ∧ decode cX2_coverWhile 2 = .ok (.putfield 16, 3) ∧ decode cX2_coverWhile 5 = .ok (.aload_n 0, 1) ∧ decode cX2_coverWhile 6 = .ok (.aload_n 2, 1) ∧ decode cX2_coverWhile 7 = .ok (.putfield 20, 3) ∧ decode cX2_coverWhile 10 = .ok (.aload_n 0, 1) ∧ decode cX2_coverWhile 11 = .ok (.iload_n 3, 1) := by decide +kernel
theorem dX2_coverWhile_0 : decode cX2_coverWhile 0 = .ok (.aload_n 0, 1) := db_dX2_coverWhile_0.1
theorem dX2_coverWhile_1 : decode cX2_coverWhile 1 = .ok (.iload_n 1, 1) := db_dX2_coverWhile_0.2.1
theorem dX2_coverWhile_2 : decode cX2_coverWhile 2 = .ok (.putfield 16, 3) := db_dX2_coverWhile_0.2.2.1
theorem dX2_coverWhile_5 : decode cX2_coverWhile 5 = .ok (.aload_n 0, 1) := db_dX2_coverWhile_0.2.2.2.1
theorem dX2_coverWhile_6 : decode cX2_coverWhile 6 = .ok (.aload_n 2, 1) := db_dX2_coverWhile_0.2.2.2.2.1
theorem dX2_coverWhile_7 : decode cX2_coverWhile 7 = .ok (.putfield 20, 3) := db_dX2_coverWhile_0.2.2.2.2.2.1
theorem dX2_coverWhile_10 : decode cX2_coverWhile 10 = .ok (.aload_n 0, 1) := db_dX2_coverWhile_0.2.2.2.2.2.2.1
theorem dX2_coverWhile_11 : decode cX2_coverWhile 11 = .ok (.iload_n 3, 1) := db_dX2_coverWhile_0.2.2.2.2.2.2.2
theorem db_dX2_coverWhile_12 : decode cX2_coverWhile 12 = .ok (.putfield 23, 3) ∧ decode cX2_coverWhile 15 = .ok (.return_, 1) := by decide +kernel
theorem dX2_coverWhile_12 : decode cX2_coverWhile 12 = .ok (.putfield 23, 3) := db_dX2_coverWhile_12.1
theorem dX2_coverWhile_15 : decode cX2_coverWhile 15 = .ok (.return_, 1) := db_dX2_coverWhile_12.2
theorem db_dX3_init_0 : decode cX3_init 0 = .ok (.aload_n 0, 1) ∧ decode cX3_init 1 = .ok (.invokespecial 3, 3) ∧ decode cX3_init 4 = .ok (.aload_n 0, 1) ∧ decode cX3_init 5 = .ok (.new 9, 3) ∧ decode cX3_init 8 = .ok (.dup, 1) ∧ decode cX3_init 9 = .ok (.invokespecial 11, 3) ∧ decode cX3_init 12 = .ok (.putfield 12, 3) ∧ decode cX3_init 15 = .ok (.aload_n 0, 1) := by decide +kernel
theorem dX3_init_0 : decode cX3_init 0 = .ok (.aload_n 0, 1) := db_dX3_init_0.1
theorem dX3_init_1 : decode cX3_init 1 = .ok (.invokespecial 3, 3) := db_dX3_init_0.2.1
theorem dX3_init_4 : decode cX3_init 4 = .ok (.aload_n 0, 1) := db_dX3_init_0.2.2.1
theorem dX3_init_5 : decode cX3_init 5 = .ok (.new 9, 3) := db_dX3_init_0.2.2.2.1
theorem dX3_init_8 : decode cX3_init 8 = .ok (.dup, 1) := db_dX3_init_0.2.2.2.2.1
theorem dX3_init_9 : decode cX3_init 9 = .ok (.invokespecial 11, 3) := db_dX3_init_0.2.2.2.2.2.1
theorem dX3_init_12 : decode cX3_init 12 = .ok (.putfield 12, 3) := db_dX3_init_0.2.2.2.2.2.2.1
theorem dX3_init_15 : decode cX3_init 15 = .ok (.aload_n 0, 1) := db_dX3_init_0.2.2.2.2.2.2.2
theorem db_dX3_init_16 : decode cX3_init 16 = .ok (.aload_n 0, 1) ∧ decode cX3_init 17 = .ok (.getfield 12, 3) ∧ decode cX3_init 20 = .ok (.putfield 18, 3) ∧ decode cX3_init 23 = .ok (.aload_n 0, 1) ∧ decode cX3_init 24 = .ok (.aload_n 0, 1) ∧ decode cX3_init 25 = .ok (.getfield 12, 3) ∧ decode cX3_init 28 = .ok (.putfield 21, 3) ∧ decode cX3_init 31 = .ok (.aload_n 0, 1) := by decide +kernel
theorem dX3_init_16 : decode cX3_init 16 = .ok (.aload_n 0, 1) := db_dX3_init_16.1
theorem dX3_init_17 : decode cX3_init 17 = .ok (.getfield 12, 3) := db_dX3_init_16.2.1
theorem dX3_init_20 : decode cX3_init 20 = .ok (.putfield 18, 3) := db_dX3_init_16.2.2.1
theorem dX3_init_23 : decode cX3_init 23 = .ok (.aload_n 0, 1) := db_dX3_init_16.2.2.2.1
theorem dX3_init_24 : decode cX3_init 24 = .ok (.aload_n 0, 1) := db_dX3_init_16.2.2.2.2.1
theorem dX3_init_25 : decode cX3_init 25 = .ok (.getfield 12, 3) := db_dX3_init_16.2.2.2.2.2.1
theorem dX3_init_28 : decode cX3_init 28 = .ok (.putfield 21, 3) := db_dX3_init_16.2.2.2.2.2.2.1
theorem dX3_init_31 : decode cX3_init 31 = .ok (.aload_n 0, 1) := db_dX3_init_16.2.2.2.2.2.2.2
theorem db_dX3_init_32 : decode cX3_init 32 = .ok (.iconst 0, 1) ∧ decode cX3_init 33 = .ok (.putfield 24, 3) ∧ decode cX3_init 36 = .ok (.aload_n 0, 1) ∧ decode cX3_init 37 = .ok (.iconst 0, 1) ∧ decode cX3_init 38 = .ok (.putfield 28, 3) ∧ decode cX3_init 41 = .ok (.aload_n 0, 1) ∧ decode cX3_init 42 = .ok (.iconst 1, 1) ∧ decode cX3_init 43 = .ok (.putfield 32, 3) := by decide +kernel
theorem dX3_init_32 : decode cX3_init 32 = .ok (.iconst 0, 1) := db_dX3_init_32.1
theorem dX3_init_33 : decode cX3_init 33 = .ok (.putfield 24, 3) := db_dX3_init_32.2.1
theorem dX3_init_36 : decode cX3_init 36 = .ok (.aload_n 0, 1) := db_dX3_init_32.2.2.1
theorem dX3_init_37 : decode cX3_init 37 = .ok (.iconst 0, 1) := db_dX3_init_32.2.2.2.1
theorem dX3_init_38 : decode cX3_init 38 = .ok (.putfield 28, 3) := db_dX3_init_32.2.2.2.2.1
theorem dX3_init_41 : decode cX3_init 41 = .ok (.aload_n 0, 1) := db_dX3_init_32.2.2.2.2.2.1
theorem dX3_init_42 : decode cX3_init 42 = .ok (.iconst 1, 1) := db_dX3_init_32.2.2.2.2.2.2.1
theorem dX3_init_43 : decode cX3_init 43 = .ok (.putfield 32, 3) := db_dX3_init_32.2.2.2.2.2.2.2
theorem dX3_init_46 : decode cX3_init 46 = .ok (.return_, 1) := by decide +kernel
theorem db_dX3_wantUnlike_0 : decode cX3_wantUnlike 0 = .ok (.aload_n 0, 1) ∧ decode cX3_wantUnlike 1 = .ok (.aload_n 1, 1) ∧ decode cX3_wantUnlike 2 = .ok (.putfield 18, 3) ∧ decode cX3_wantUnlike 5 = .ok (.aload_n 0, 1) ∧ decode cX3_wantUnlike 6 = .ok (.aload_n 2, 1) ∧ decode cX3_wantUnlike 7 = .ok (.putfield 21, 3) ∧ decode cX3_wantUnlike 10 = .ok (.aload_n 0, 1) ∧ decode cX3_wantUnlike 11 = .ok (.iload_n 3, 1) := by decide +kernel
theorem dX3_wantUnlike_0 : decode cX3_wantUnlike 0 = .ok (.aload_n 0, 1) := db_dX3_wantUnlike_0.1
theorem dX3_wantUnlike_1 : decode cX3_wantUnlike 1 = .ok (.aload_n 1, 1) := db_dX3_wantUnlike_0.2.1
theorem dX3_wantUnlike_2 : decode cX3_wantUnlike 2 = .ok (.putfield 18, 3) := db_dX3_wantUnlike_0.2.2.1
theorem dX3_wantUnlike_5 : decode cX3_wantUnlike 5 = .ok (.aload_n 0, 1) := db_dX3_wantUnlike_0.2.2.2.1
theorem dX3_wantUnlike_6 : decode cX3_wantUnlike 6 = .ok (.aload_n 2, 1) := db_dX3_wantUnlike_0.2.2.2.2.1
theorem dX3_wantUnlike_7 : decode cX3_wantUnlike 7 = .ok (.putfield 21, 3) := db_dX3_wantUnlike_0.2.2.2.2.2.1
theorem dX3_wantUnlike_10 : decode cX3_wantUnlike 10 = .ok (.aload_n 0, 1) := db_dX3_wantUnlike_0.2.2.2.2.2.2.1
theorem dX3_wantUnlike_11 : decode cX3_wantUnlike 11 = .ok (.iload_n 3, 1) := db_dX3_wantUnlike_0.2.2.2.2.2.2.2
theorem db_dX3_wantUnlike_12 : decode cX3_wantUnlike 12 = .ok (.putfield 24, 3) ∧ decode cX3_wantUnlike 15 = .ok (.aload_n 0, 1) ∧ decode cX3_wantUnlike 16 = .ok (.iload 4, 2) ∧ decode cX3_wantUnlike 18 = .ok (.putfield 28, 3) ∧ decode cX3_wantUnlike 21 = .ok (.aload_n 0, 1) ∧ decode cX3_wantUnlike 22 = .ok (.iconst 0, 1) ∧ decode cX3_wantUnlike 23 = .ok (.putfield 32, 3) ∧ decode cX3_wantUnlike 26 = .ok (.return_, 1) := by decide +kernel
theorem dX3_wantUnlike_12 : decode cX3_wantUnlike 12 = .ok (.putfield 24, 3) := db_dX3_wantUnlike_12.1
theorem dX3_wantUnlike_15 : decode cX3_wantUnlike 15 = .ok (.aload_n 0, 1) := db_dX3_wantUnlike_12.2.1
theorem dX3_wantUnlike_16 : decode cX3_wantUnlike 16 = .ok (.iload 4, 2) := db_dX3_wantUnlike_12.2.2.1
theorem dX3_wantUnlike_18 : decode cX3_wantUnlike 18 = .ok (.putfield 28, 3) := db_dX3_wantUnlike_12.2.2.2.1
theorem dX3_wantUnlike_21 : decode cX3_wantUnlike 21 = .ok (.aload_n 0, 1) := db_dX3_wantUnlike_12.2.2.2.2.1
theorem dX3_wantUnlike_22 : decode cX3_wantUnlike 22 = .ok (.iconst 0, 1) := db_dX3_wantUnlike_12.2.2.2.2.2.1
theorem dX3_wantUnlike_23 : decode cX3_wantUnlike 23 = .ok (.putfield 32, 3) := db_dX3_wantUnlike_12.2.2.2.2.2.2.1
theorem dX3_wantUnlike_26 : decode cX3_wantUnlike 26 = .ok (.return_, 1) := db_dX3_wantUnlike_12.2.2.2.2.2.2.2
theorem db_dX3_wantValue_0 : decode cX3_wantValue 0 = .ok (.aload_n 0, 1) ∧ decode cX3_wantValue 1 = .ok (.getfield 12, 3) ∧ decode cX3_wantValue 4 = .ok (.invokevirtual 35, 3) ∧ decode cX3_wantValue 7 = .ok (.aload_n 0, 1) ∧ decode cX3_wantValue 8 = .ok (.getfield 12, 3) ∧ decode cX3_wantValue 11 = .ok (.iconst 0, 1) ∧ decode cX3_wantValue 12 = .ok (.iload_n 2, 1) ∧ decode cX3_wantValue 13 = .ok (.invokevirtual 38, 3) := by decide +kernel
theorem dX3_wantValue_0 : decode cX3_wantValue 0 = .ok (.aload_n 0, 1) := db_dX3_wantValue_0.1
theorem dX3_wantValue_1 : decode cX3_wantValue 1 = .ok (.getfield 12, 3) := db_dX3_wantValue_0.2.1
theorem dX3_wantValue_4 : decode cX3_wantValue 4 = .ok (.invokevirtual 35, 3) := db_dX3_wantValue_0.2.2.1
theorem dX3_wantValue_7 : decode cX3_wantValue 7 = .ok (.aload_n 0, 1) := db_dX3_wantValue_0.2.2.2.1
theorem dX3_wantValue_8 : decode cX3_wantValue 8 = .ok (.getfield 12, 3) := db_dX3_wantValue_0.2.2.2.2.1
theorem dX3_wantValue_11 : decode cX3_wantValue 11 = .ok (.iconst 0, 1) := db_dX3_wantValue_0.2.2.2.2.2.1
theorem dX3_wantValue_12 : decode cX3_wantValue 12 = .ok (.iload_n 2, 1) := db_dX3_wantValue_0.2.2.2.2.2.2.1
theorem dX3_wantValue_13 : decode cX3_wantValue 13 = .ok (.invokevirtual 38, 3) := db_dX3_wantValue_0.2.2.2.2.2.2.2
theorem db_dX3_wantValue_16 : decode cX3_wantValue 16 = .ok (.aload_n 0, 1) ∧ decode cX3_wantValue 17 = .ok (.aload_n 1, 1) ∧ decode cX3_wantValue 18 = .ok (.putfield 18, 3) ∧ decode cX3_wantValue 21 = .ok (.aload_n 0, 1) ∧ decode cX3_wantValue 22 = .ok (.aload_n 0, 1) ∧ decode cX3_wantValue 23 = .ok (.getfield 12, 3) ∧ decode cX3_wantValue 26 = .ok (.putfield 21, 3) ∧ decode cX3_wantValue 29 = .ok (.aload_n 0, 1) := by decide +kernel
theorem dX3_wantValue_16 : decode cX3_wantValue 16 = .ok (.aload_n 0, 1) := db_dX3_wantValue_16.1
theorem dX3_wantValue_17 : decode cX3_wantValue 17 = .ok (.aload_n 1, 1) := db_dX3_wantValue_16.2.1
theorem dX3_wantValue_18 : decode cX3_wantValue 18 = .ok (.putfield 18, 3) := db_dX3_wantValue_16.2.2.1
theorem dX3_wantValue_21 : decode cX3_wantValue 21 = .ok (.aload_n 0, 1) := db_dX3_wantValue_16.2.2.2.1
theorem dX3_wantValue_22 : decode cX3_wantValue 22 = .ok (.aload_n 0, 1) := db_dX3_wantValue_16.2.2.2.2.1
theorem dX3_wantValue_23 : decode cX3_wantValue 23 = .ok (.getfield 12, 3) := db_dX3_wantValue_16.2.2.2.2.2.1
theorem dX3_wantValue_26 : decode cX3_wantValue 26 = .ok (.putfield 21, 3) := db_dX3_wantValue_16.2.2.2.2.2.2.1
theorem dX3_wantValue_29 : decode cX3_wantValue 29 = .ok (.aload_n 0, 1) := db_dX3_wantValue_16.2.2.2.2.2.2.2
theorem db_dX3_wantValue_30 : decode cX3_wantValue 30 = .ok (.iconst 0, 1) ∧ decode cX3_wantValue 31 = .ok (.putfield 24, 3) ∧ decode cX3_wantValue 34 = .ok (.aload_n 0, 1) ∧ decode cX3_wantValue 35 = .ok (.iconst 0, 1) ∧ decode cX3_wantValue 36 = .ok (.putfield 28, 3) ∧ decode cX3_wantValue 39 = .ok (.aload_n 0, 1) ∧ decode cX3_wantValue 40 = .ok (.iconst 1, 1) ∧ decode cX3_wantValue 41 = .ok (.putfield 32, 3) := by decide +kernel
theorem dX3_wantValue_30 : decode cX3_wantValue 30 = .ok (.iconst 0, 1) := db_dX3_wantValue_30.1
theorem dX3_wantValue_31 : decode cX3_wantValue 31 = .ok (.putfield 24, 3) := db_dX3_wantValue_30.2.1
theorem dX3_wantValue_34 : decode cX3_wantValue 34 = .ok (.aload_n 0, 1) := db_dX3_wantValue_30.2.2.1
theorem dX3_wantValue_35 : decode cX3_wantValue 35 = .ok (.iconst 0, 1) := db_dX3_wantValue_30.2.2.2.1
theorem dX3_wantValue_36 : decode cX3_wantValue 36 = .ok (.putfield 28, 3) := db_dX3_wantValue_30.2.2.2.2.1
theorem dX3_wantValue_39 : decode cX3_wantValue 39 = .ok (.aload_n 0, 1) := db_dX3_wantValue_30.2.2.2.2.2.1
theorem dX3_wantValue_40 : decode cX3_wantValue 40 = .ok (.iconst 1, 1) := db_dX3_wantValue_30.2.2.2.2.2.2.1
theorem dX3_wantValue_41 : decode cX3_wantValue 41 = .ok (.putfield 32, 3) := db_dX3_wantValue_30.2.2.2.2.2.2.2
theorem dX3_wantValue_44 : decode cX3_wantValue 44 = .ok (.return_, 1) := by decide +kernel
theorem db_dX3_wantValueNot_0 : decode cX3_wantValueNot 0 = .ok (.aload_n 0, 1) ∧ decode cX3_wantValueNot 1 = .ok (.aload_n 1, 1) ∧ decode cX3_wantValueNot 2 = .ok (.iload_n 2, 1) ∧ decode cX3_wantValueNot 3 = .ok (.invokevirtual 42, 3) ∧ decode cX3_wantValueNot 6 = .ok (.aload_n 0, 1) ∧ decode cX3_wantValueNot 7 = .ok (.iconst 0, 1) ∧ decode cX3_wantValueNot 8 = .ok (.putfield 32, 3) ∧ decode cX3_wantValueNot 11 = .ok (.return_, 1) := by decide +kernel
theorem dX3_wantValueNot_0 : decode cX3_wantValueNot 0 = .ok (.aload_n 0, 1) := db_dX3_wantValueNot_0.1
theorem dX3_wantValueNot_1 : decode cX3_wantValueNot 1 = .ok (.aload_n 1, 1) := db_dX3_wantValueNot_0.2.1
theorem dX3_wantValueNot_2 : decode cX3_wantValueNot 2 = .ok (.iload_n 2, 1) := db_dX3_wantValueNot_0.2.2.1
theorem dX3_wantValueNot_3 : decode cX3_wantValueNot 3 = .ok (.invokevirtual 42, 3) := db_dX3_wantValueNot_0.2.2.2.1
theorem dX3_wantValueNot_6 : decode cX3_wantValueNot 6 = .ok (.aload_n 0, 1) := db_dX3_wantValueNot_0.2.2.2.2.1
theorem dX3_wantValueNot_7 : decode cX3_wantValueNot 7 = .ok (.iconst 0, 1) := db_dX3_wantValueNot_0.2.2.2.2.2.1
theorem dX3_wantValueNot_8 : decode cX3_wantValueNot 8 = .ok (.putfield 32, 3) := db_dX3_wantValueNot_0.2.2.2.2.2.2.1
theorem dX3_wantValueNot_11 : decode cX3_wantValueNot 11 = .ok (.return_, 1) := db_dX3_wantValueNot_0.2.2.2.2.2.2.2
theorem db_dX3_nextTick_0 : decode cX3_nextTick 0 = .ok (.aload_n 0, 1) ∧ decode cX3_nextTick 1 = .ok (.getfield 32, 3) ∧ decode cX3_nextTick 4 = .ok (.iload_n 3, 1) ∧ decode cX3_nextTick 5 = .ok (.if_icmp .ne 7, 3) ∧ decode cX3_nextTick 8 = .ok (.iconst 1, 1) ∧ decode cX3_nextTick 9 = .ok (.goto 4, 3) ∧ decode cX3_nextTick 12 = .ok (.iconst 0, 1) ∧ decode cX3_nextTick 13 = .ok (.istore 4, 2) := by decide +kernel
theorem dX3_nextTick_0 : decode cX3_nextTick 0 = .ok (.aload_n 0, 1) := db_dX3_nextTick_0.1
theorem dX3_nextTick_1 : decode cX3_nextTick 1 = .ok (.getfield 32, 3) := db_dX3_nextTick_0.2.1
theorem dX3_nextTick_4 : decode cX3_nextTick 4 = .ok (.iload_n 3, 1) := db_dX3_nextTick_0.2.2.1
theorem dX3_nextTick_5 : decode cX3_nextTick 5 = .ok (.if_icmp .ne 7, 3) := db_dX3_nextTick_0.2.2.2.1
theorem dX3_nextTick_8 : decode cX3_nextTick 8 = .ok (.iconst 1, 1) := db_dX3_nextTick_0.2.2.2.2.1
theorem dX3_nextTick_9 : decode cX3_nextTick 9 = .ok (.goto 4, 3) := db_dX3_nextTick_0.2.2.2.2.2.1
theorem dX3_nextTick_12 : decode cX3_nextTick 12 = .ok (.iconst 0, 1) := db_dX3_nextTick_0.2.2.2.2.2.2.1
theorem dX3_nextTick_13 : decode cX3_nextTick 13 = .ok (.istore 4, 2) := db_dX3_nextTick_0.2.2.2.2.2.2.2
theorem db_dX3_nextTick_15 : decode cX3_nextTick 15 = .ok (.aload_n 0, 1) ∧ decode cX3_nextTick 16 = .ok (.getfield 18, 3) ∧ decode cX3_nextTick 19 = .ok (.iload_n 1, 1) ∧ decode cX3_nextTick 20 = .ok (.invokevirtual 46, 3) ∧ decode cX3_nextTick 23 = .ok (.istore 5, 2) ∧ decode cX3_nextTick 25 = .ok (.aload_n 0, 1) ∧ decode cX3_nextTick 26 = .ok (.getfield 21, 3) ∧ decode cX3_nextTick 29 = .ok (.iload_n 1, 1) := by decide +kernel
theorem dX3_nextTick_15 : decode cX3_nextTick 15 = .ok (.aload_n 0, 1) := db_dX3_nextTick_15.1
theorem dX3_nextTick_16 : decode cX3_nextTick 16 = .ok (.getfield 18, 3) := db_dX3_nextTick_15.2.1
theorem dX3_nextTick_19 : decode cX3_nextTick 19 = .ok (.iload_n 1, 1) := db_dX3_nextTick_15.2.2.1
theorem dX3_nextTick_20 : decode cX3_nextTick 20 = .ok (.invokevirtual 46, 3) := db_dX3_nextTick_15.2.2.2.1
theorem dX3_nextTick_23 : decode cX3_nextTick 23 = .ok (.istore 5, 2) := db_dX3_nextTick_15.2.2.2.2.1
theorem dX3_nextTick_25 : decode cX3_nextTick 25 = .ok (.aload_n 0, 1) := db_dX3_nextTick_15.2.2.2.2.2.1
theorem dX3_nextTick_26 : decode cX3_nextTick 26 = .ok (.getfield 21, 3) := db_dX3_nextTick_15.2.2.2.2.2.2.1
theorem dX3_nextTick_29 : decode cX3_nextTick 29 = .ok (.iload_n 1, 1) := db_dX3_nextTick_15.2.2.2.2.2.2.2
theorem db_dX3_nextTick_30 : decode cX3_nextTick 30 = .ok (.aload_n 0, 1) ∧ decode cX3_nextTick 31 = .ok (.getfield 24, 3) ∧ decode cX3_nextTick 34 = .ok (.iadd, 1) ∧ decode cX3_nextTick 35 = .ok (.invokevirtual 46, 3) ∧ decode cX3_nextTick 38 = .ok (.istore 6, 2) ∧ decode cX3_nextTick 40 = .ok (.iload_n 1, 1) ∧ decode cX3_nextTick 41 = .ok (.istore 7, 2) ∧ decode cX3_nextTick 43 = .ok (.iconst 0, 1) := by decide +kernel
theorem dX3_nextTick_30 : decode cX3_nextTick 30 = .ok (.aload_n 0, 1) := db_dX3_nextTick_30.1
theorem dX3_nextTick_31 : decode cX3_nextTick 31 = .ok (.getfield 24, 3) := db_dX3_nextTick_30.2.1
theorem dX3_nextTick_34 : decode cX3_nextTick 34 = .ok (.iadd, 1) := db_dX3_nextTick_30.2.2.1
theorem dX3_nextTick_35 : decode cX3_nextTick 35 = .ok (.invokevirtual 46, 3) := db_dX3_nextTick_30.2.2.2.1
theorem dX3_nextTick_38 : decode cX3_nextTick 38 = .ok (.istore 6, 2) := db_dX3_nextTick_30.2.2.2.2.1
theorem dX3_nextTick_40 : decode cX3_nextTick 40 = .ok (.iload_n 1, 1) := db_dX3_nextTick_30.2.2.2.2.2.1
theorem dX3_nextTick_41 : decode cX3_nextTick 41 = .ok (.istore 7, 2) := db_dX3_nextTick_30.2.2.2.2.2.2.1
theorem dX3_nextTick_43 : decode cX3_nextTick 43 = .ok (.iconst 0, 1) := db_dX3_nextTick_30.2.2.2.2.2.2.2
theorem db_dX3_nextTick_44 : decode cX3_nextTick 44 = .ok (.istore 8, 2) ∧ decode cX3_nextTick 46 = .ok (.iload 8, 2) ∧ decode cX3_nextTick 48 = .ok (.bipush 100, 2) ∧ decode cX3_nextTick 50 = .ok (.if_icmp .gt 122, 3) ∧ decode cX3_nextTick 53 = .ok (.iload 7, 2) ∧ decode cX3_nextTick 55 = .ok (.iload_n 2, 1) ∧ decode cX3_nextTick 56 = .ok (.if_icmp .ge 116, 3) ∧ decode cX3_nextTick 59 = .ok (.aload_n 0, 1) := by decide +kernel
theorem dX3_nextTick_44 : decode cX3_nextTick 44 = .ok (.istore 8, 2) := db_dX3_nextTick_44.1
theorem dX3_nextTick_46 : decode cX3_nextTick 46 = .ok (.iload 8, 2) := db_dX3_nextTick_44.2.1
theorem dX3_nextTick_48 : decode cX3_nextTick 48 = .ok (.bipush 100, 2) := db_dX3_nextTick_44.2.2.1
theorem dX3_nextTick_50 : decode cX3_nextTick 50 = .ok (.if_icmp .gt 122, 3) := db_dX3_nextTick_44.2.2.2.1
theorem dX3_nextTick_53 : decode cX3_nextTick 53 = .ok (.iload 7, 2) := db_dX3_nextTick_44.2.2.2.2.1
theorem dX3_nextTick_55 : decode cX3_nextTick 55 = .ok (.iload_n 2, 1) := db_dX3_nextTick_44.2.2.2.2.2.1
theorem dX3_nextTick_56 : decode cX3_nextTick 56 = .ok (.if_icmp .ge 116, 3) := db_dX3_nextTick_44.2.2.2.2.2.2.1
theorem dX3_nextTick_59 : decode cX3_nextTick 59 = .ok (.aload_n 0, 1) := db_dX3_nextTick_44.2.2.2.2.2.2.2
theorem db_dX3_nextTick_60 : decode cX3_nextTick 60 = .ok (.getfield 18, 3) ∧ decode cX3_nextTick 63 = .ok (.iload 5, 2) ∧ decode cX3_nextTick 65 = .ok (.invokevirtual 50, 3) ∧ decode cX3_nextTick 68 = .ok (.aload_n 0, 1) ∧ decode cX3_nextTick 69 = .ok (.getfield 21, 3) ∧ decode cX3_nextTick 72 = .ok (.iload 6, 2) ∧ decode cX3_nextTick 74 = .ok (.invokevirtual 50, 3) ∧ decode cX3_nextTick 77 = .ok (.aload_n 0, 1) := by decide +kernel
theorem dX3_nextTick_60 : decode cX3_nextTick 60 = .ok (.getfield 18, 3) := db_dX3_nextTick_60.1
theorem dX3_nextTick_63 : decode cX3_nextTick 63 = .ok (.iload 5, 2) := db_dX3_nextTick_60.2.1
theorem dX3_nextTick_65 : decode cX3_nextTick 65 = .ok (.invokevirtual 50, 3) := db_dX3_nextTick_60.2.2.1
theorem dX3_nextTick_68 : decode cX3_nextTick 68 = .ok (.aload_n 0, 1) := db_dX3_nextTick_60.2.2.2.1
theorem dX3_nextTick_69 : decode cX3_nextTick 69 = .ok (.getfield 21, 3) := db_dX3_nextTick_60.2.2.2.2.1
theorem dX3_nextTick_72 : decode cX3_nextTick 72 = .ok (.iload 6, 2) := db_dX3_nextTick_60.2.2.2.2.2.1
theorem dX3_nextTick_74 : decode cX3_nextTick 74 = .ok (.invokevirtual 50, 3) := db_dX3_nextTick_60.2.2.2.2.2.2.1
theorem dX3_nextTick_77 : decode cX3_nextTick 77 = .ok (.aload_n 0, 1) := db_dX3_nextTick_60.2.2.2.2.2.2.2
theorem db_dX3_nextTick_78 : decode cX3_nextTick 78 = .ok (.getfield 28, 3) ∧ decode cX3_nextTick 81 = .ok (.invokestatic 53, 3) ∧ decode cX3_nextTick 84 = .ok (.iload 4, 2) ∧ decode cX3_nextTick 86 = .ok (.if_icmp .ne 6, 3) ∧ decode cX3_nextTick 89 = .ok (.iload 7, 2) ∧ decode cX3_nextTick 91 = .ok (.ireturn, 1) ∧ decode cX3_nextTick 92 = .ok (.aload_n 0, 1) ∧ decode cX3_nextTick 93 = .ok (.getfield 18, 3) := by decide +kernel
theorem dX3_nextTick_78 : decode cX3_nextTick 78 = .ok (.getfield 28, 3) := db_dX3_nextTick_78.1
theorem dX3_nextTick_81 : decode cX3_nextTick 81 = .ok (.invokestatic 53, 3) := db_dX3_nextTick_78.2.1
theorem dX3_nextTick_84 : decode cX3_nextTick 84 = .ok (.iload 4, 2) := db_dX3_nextTick_78.2.2.1
theorem dX3_nextTick_86 : decode cX3_nextTick 86 = .ok (.if_icmp .ne 6, 3) := db_dX3_nextTick_78.2.2.2.1
theorem dX3_nextTick_89 : decode cX3_nextTick 89 = .ok (.iload 7, 2) := db_dX3_nextTick_78.2.2.2.2.1
theorem dX3_nextTick_91 : decode cX3_nextTick 91 = .ok (.ireturn, 1) := db_dX3_nextTick_78.2.2.2.2.2.1
theorem dX3_nextTick_92 : decode cX3_nextTick 92 = .ok (.aload_n 0, 1) := db_dX3_nextTick_78.2.2.2.2.2.2.1
theorem dX3_nextTick_93 : decode cX3_nextTick 93 = .ok (.getfield 18, 3) := db_dX3_nextTick_78.2.2.2.2.2.2.2
theorem db_dX3_nextTick_96 : decode cX3_nextTick 96 = .ok (.iload 5, 2) ∧ decode cX3_nextTick 98 = .ok (.iconst 1, 1) ∧ decode cX3_nextTick 99 = .ok (.iadd, 1) ∧ decode cX3_nextTick 100 = .ok (.invokevirtual 57, 3) ∧ decode cX3_nextTick 103 = .ok (.istore 9, 2) ∧ decode cX3_nextTick 105 = .ok (.aload_n 0, 1) ∧ decode cX3_nextTick 106 = .ok (.getfield 21, 3) ∧ decode cX3_nextTick 109 = .ok (.iload 6, 2) := by decide +kernel
theorem dX3_nextTick_96 : decode cX3_nextTick 96 = .ok (.iload 5, 2) := db_dX3_nextTick_96.1
theorem dX3_nextTick_98 : decode cX3_nextTick 98 = .ok (.iconst 1, 1) := db_dX3_nextTick_96.2.1
theorem dX3_nextTick_99 : decode cX3_nextTick 99 = .ok (.iadd, 1) := db_dX3_nextTick_96.2.2.1
theorem dX3_nextTick_100 : decode cX3_nextTick 100 = .ok (.invokevirtual 57, 3) := db_dX3_nextTick_96.2.2.2.1
theorem dX3_nextTick_103 : decode cX3_nextTick 103 = .ok (.istore 9, 2) := db_dX3_nextTick_96.2.2.2.2.1
theorem dX3_nextTick_105 : decode cX3_nextTick 105 = .ok (.aload_n 0, 1) := db_dX3_nextTick_96.2.2.2.2.2.1
theorem dX3_nextTick_106 : decode cX3_nextTick 106 = .ok (.getfield 21, 3) := db_dX3_nextTick_96.2.2.2.2.2.2.1
theorem dX3_nextTick_109 : decode cX3_nextTick 109 = .ok (.iload 6, 2) := db_dX3_nextTick_96.2.2.2.2.2.2.2
theorem db_dX3_nextTick_111 : decode cX3_nextTick 111 = .ok (.iconst 1, 1) ∧ decode cX3_nextTick 112 = .ok (.iadd, 1) ∧ decode cX3_nextTick 113 = .ok (.invokevirtual 57, 3) ∧ decode cX3_nextTick 116 = .ok (.aload_n 0, 1) ∧ decode cX3_nextTick 117 = .ok (.getfield 24, 3) ∧ decode cX3_nextTick 120 = .ok (.isub, 1) ∧ decode cX3_nextTick 121 = .ok (.istore 10, 2) ∧ decode cX3_nextTick 123 = .ok (.iload 9, 2) := by decide +kernel
theorem dX3_nextTick_111 : decode cX3_nextTick 111 = .ok (.iconst 1, 1) := db_dX3_nextTick_111.1
theorem dX3_nextTick_112 : decode cX3_nextTick 112 = .ok (.iadd, 1) := db_dX3_nextTick_111.2.1
theorem dX3_nextTick_113 : decode cX3_nextTick 113 = .ok (.invokevirtual 57, 3) := db_dX3_nextTick_111.2.2.1
theorem dX3_nextTick_116 : decode cX3_nextTick 116 = .ok (.aload_n 0, 1) := db_dX3_nextTick_111.2.2.2.1
theorem dX3_nextTick_117 : decode cX3_nextTick 117 = .ok (.getfield 24, 3) := db_dX3_nextTick_111.2.2.2.2.1
theorem dX3_nextTick_120 : decode cX3_nextTick 120 = .ok (.isub, 1) := db_dX3_nextTick_111.2.2.2.2.2.1
theorem dX3_nextTick_121 : decode cX3_nextTick 121 = .ok (.istore 10, 2) := db_dX3_nextTick_111.2.2.2.2.2.2.1
theorem dX3_nextTick_123 : decode cX3_nextTick 123 = .ok (.iload 9, 2) := db_dX3_nextTick_111.2.2.2.2.2.2.2
theorem db_dX3_nextTick_125 : decode cX3_nextTick 125 = .ok (.iload 10, 2) ∧ decode cX3_nextTick 127 = .ok (.invokestatic 60, 3) ∧ decode cX3_nextTick 130 = .ok (.istore 7, 2) ∧ decode cX3_nextTick 132 = .ok (.iload 5, 2) ∧ decode cX3_nextTick 134 = .ok (.iload 9, 2) ∧ decode cX3_nextTick 136 = .ok (.iload 7, 2) ∧ decode cX3_nextTick 138 = .ok (.if_icmp .ne 7, 3) ∧ decode cX3_nextTick 141 = .ok (.iconst 1, 1) := by decide +kernel
theorem dX3_nextTick_125 : decode cX3_nextTick 125 = .ok (.iload 10, 2) := db_dX3_nextTick_125.1
theorem dX3_nextTick_127 : decode cX3_nextTick 127 = .ok (.invokestatic 60, 3) := db_dX3_nextTick_125.2.1
theorem dX3_nextTick_130 : decode cX3_nextTick 130 = .ok (.istore 7, 2) := db_dX3_nextTick_125.2.2.1
theorem dX3_nextTick_132 : decode cX3_nextTick 132 = .ok (.iload 5, 2) := db_dX3_nextTick_125.2.2.2.1
theorem dX3_nextTick_134 : decode cX3_nextTick 134 = .ok (.iload 9, 2) := db_dX3_nextTick_125.2.2.2.2.1
theorem dX3_nextTick_136 : decode cX3_nextTick 136 = .ok (.iload 7, 2) := db_dX3_nextTick_125.2.2.2.2.2.1
theorem dX3_nextTick_138 : decode cX3_nextTick 138 = .ok (.if_icmp .ne 7, 3) := db_dX3_nextTick_125.2.2.2.2.2.2.1
theorem dX3_nextTick_141 : decode cX3_nextTick 141 = .ok (.iconst 1, 1) := db_dX3_nextTick_125.2.2.2.2.2.2.2
theorem db_dX3_nextTick_142 : decode cX3_nextTick 142 = .ok (.goto 4, 3) ∧ decode cX3_nextTick 145 = .ok (.iconst 0, 1) ∧ decode cX3_nextTick 146 = .ok (.iadd, 1) ∧ decode cX3_nextTick 147 = .ok (.istore 5, 2) ∧ decode cX3_nextTick 149 = .ok (.iload 6, 2) ∧ decode cX3_nextTick 151 = .ok (.iload 10, 2) ∧ decode cX3_nextTick 153 = .ok (.iload 7, 2) ∧ decode cX3_nextTick 155 = .ok (.if_icmp .ne 7, 3) := by decide +kernel
theorem dX3_nextTick_142 : decode cX3_nextTick 142 = .ok (.goto 4, 3) := db_dX3_nextTick_142.1
theorem dX3_nextTick_145 : decode cX3_nextTick 145 = .ok (.iconst 0, 1) := db_dX3_nextTick_142.2.1
theorem dX3_nextTick_146 : decode cX3_nextTick 146 = .ok (.iadd, 1) := db_dX3_nextTick_142.2.2.1
theorem dX3_nextTick_147 : decode cX3_nextTick 147 = .ok (.istore 5, 2) := db_dX3_nextTick_142.2.2.2.1
theorem dX3_nextTick_149 : decode cX3_nextTick 149 = .ok (.iload 6, 2) := db_dX3_nextTick_142.2.2.2.2.1
theorem dX3_nextTick_151 : decode cX3_nextTick 151 = .ok (.iload 10, 2) := db_dX3_nextTick_142.2.2.2.2.2.1
theorem dX3_nextTick_153 : decode cX3_nextTick 153 = .ok (.iload 7, 2) := db_dX3_nextTick_142.2.2.2.2.2.2.1
theorem dX3_nextTick_155 : decode cX3_nextTick 155 = .ok (.if_icmp .ne 7, 3) := db_dX3_nextTick_142.2.2.2.2.2.2.2
theorem db_dX3_nextTick_158 : decode cX3_nextTick 158 = .ok (.iconst 1, 1) ∧ decode cX3_nextTick 159 = .ok (.goto 4, 3) ∧ decode cX3_nextTick 162 = .ok (.iconst 0, 1) ∧ decode cX3_nextTick 163 = .ok (.iadd, 1) ∧ decode cX3_nextTick 164 = .ok (.istore 6, 2) ∧ decode cX3_nextTick 166 = .ok (.iinc 8 1, 3) ∧ decode cX3_nextTick 169 = .ok (.goto (-123), 3) ∧ decode cX3_nextTick 172 = .ok (.iload_n 2, 1) := by decide +kernel
theorem dX3_nextTick_158 : decode cX3_nextTick 158 = .ok (.iconst 1, 1) := db_dX3_nextTick_158.1
theorem dX3_nextTick_159 : decode cX3_nextTick 159 = .ok (.goto 4, 3) := db_dX3_nextTick_158.2.1
theorem dX3_nextTick_162 : decode cX3_nextTick 162 = .ok (.iconst 0, 1) := db_dX3_nextTick_158.2.2.1
theorem dX3_nextTick_163 : decode cX3_nextTick 163 = .ok (.iadd, 1) := db_dX3_nextTick_158.2.2.2.1
theorem dX3_nextTick_164 : decode cX3_nextTick 164 = .ok (.istore 6, 2) := db_dX3_nextTick_158.2.2.2.2.1
theorem dX3_nextTick_166 : decode cX3_nextTick 166 = .ok (.iinc 8 1, 3) := db_dX3_nextTick_158.2.2.2.2.2.1
theorem dX3_nextTick_169 : decode cX3_nextTick 169 = .ok (.goto (-123), 3) := db_dX3_nextTick_158.2.2.2.2.2.2.1
theorem dX3_nextTick_172 : decode cX3_nextTick 172 = .ok (.iload_n 2, 1) := db_dX3_nextTick_158.2.2.2.2.2.2.2
theorem dX3_nextTick_173 : decode cX3_nextTick 173 = .ok (.ireturn, 1) := by decide +kernel
theorem db_dX5_init_0 : decode cX5_init 0 = .ok (.aload_n 0, 1) ∧ decode cX5_init 1 = .ok (.invokespecial 3, 3) ∧ decode cX5_init 4 = .ok (.aload_n 0, 1) ∧ decode cX5_init 5 = .ok (.bipush 11, 2) ∧ decode cX5_init 7 = .ok (.anewarray 9, 3) ∧ decode cX5_init 10 = .ok (.putfield 11, 3) ∧ decode cX5_init 13 = .ok (.aload_n 0, 1) ∧ decode cX5_init 14 = .ok (.iconst 0, 1) := by decide +kernel
theorem dX5_init_0 : decode cX5_init 0 = .ok (.aload_n 0, 1) := db_dX5_init_0.1
theorem dX5_init_1 : decode cX5_init 1 = .ok (.invokespecial 3, 3) := db_dX5_init_0.2.1
theorem dX5_init_4 : decode cX5_init 4 = .ok (.aload_n 0, 1) := db_dX5_init_0.2.2.1
theorem dX5_init_5 : decode cX5_init 5 = .ok (.bipush 11, 2) := db_dX5_init_0.2.2.2.1
theorem dX5_init_7 : decode cX5_init 7 = .ok (.anewarray 9, 3) := db_dX5_init_0.2.2.2.2.1
theorem dX5_init_10 : decode cX5_init 10 = .ok (.putfield 11, 3) := db_dX5_init_0.2.2.2.2.2.1
theorem dX5_init_13 : decode cX5_init 13 = .ok (.aload_n 0, 1) := db_dX5_init_0.2.2.2.2.2.2.1
theorem dX5_init_14 : decode cX5_init 14 = .ok (.iconst 0, 1) := db_dX5_init_0.2.2.2.2.2.2.2
theorem db_dX5_init_15 : decode cX5_init 15 = .ok (.putfield 17, 3) ∧ decode cX5_init 18 = .ok (.aload_n 0, 1) ∧ decode cX5_init 19 = .ok (.iconst 0, 1) ∧ decode cX5_init 20 = .ok (.putfield 21, 3) ∧ decode cX5_init 23 = .ok (.aload_n 0, 1) ∧ decode cX5_init 24 = .ok (.iconst 0, 1) ∧ decode cX5_init 25 = .ok (.putfield 24, 3) ∧ decode cX5_init 28 = .ok (.aload_n 0, 1) := by decide +kernel
theorem dX5_init_15 : decode cX5_init 15 = .ok (.putfield 17, 3) := db_dX5_init_15.1
theorem dX5_init_18 : decode cX5_init 18 = .ok (.aload_n 0, 1) := db_dX5_init_15.2.1
theorem dX5_init_19 : decode cX5_init 19 = .ok (.iconst 0, 1) := db_dX5_init_15.2.2.1
theorem dX5_init_20 : decode cX5_init 20 = .ok (.putfield 21, 3) := db_dX5_init_15.2.2.2.1
theorem dX5_init_23 : decode cX5_init 23 = .ok (.aload_n 0, 1) := db_dX5_init_15.2.2.2.2.1
theorem dX5_init_24 : decode cX5_init 24 = .ok (.iconst 0, 1) := db_dX5_init_15.2.2.2.2.2.1
theorem dX5_init_25 : decode cX5_init 25 = .ok (.putfield 24, 3) := db_dX5_init_15.2.2.2.2.2.2.1
theorem dX5_init_28 : decode cX5_init 28 = .ok (.aload_n 0, 1) := db_dX5_init_15.2.2.2.2.2.2.2
theorem db_dX5_init_29 : decode cX5_init 29 = .ok (.iconst 0, 1) ∧ decode cX5_init 30 = .ok (.putfield 27, 3) ∧ decode cX5_init 33 = .ok (.iconst 0, 1) ∧ decode cX5_init 34 = .ok (.istore_n 1, 1) ∧ decode cX5_init 35 = .ok (.iload_n 1, 1) ∧ decode cX5_init 36 = .ok (.aload_n 0, 1) ∧ decode cX5_init 37 = .ok (.getfield 11, 3) ∧ decode cX5_init 40 = .ok (.arraylength, 1) := by decide +kernel
theorem dX5_init_29 : decode cX5_init 29 = .ok (.iconst 0, 1) := db_dX5_init_29.1
theorem dX5_init_30 : decode cX5_init 30 = .ok (.putfield 27, 3) := db_dX5_init_29.2.1
theorem dX5_init_33 : decode cX5_init 33 = .ok (.iconst 0, 1) := db_dX5_init_29.2.2.1
theorem dX5_init_34 : decode cX5_init 34 = .ok (.istore_n 1, 1) := db_dX5_init_29.2.2.2.1
theorem dX5_init_35 : decode cX5_init 35 = .ok (.iload_n 1, 1) := db_dX5_init_29.2.2.2.2.1
theorem dX5_init_36 : decode cX5_init 36 = .ok (.aload_n 0, 1) := db_dX5_init_29.2.2.2.2.2.1
theorem dX5_init_37 : decode cX5_init 37 = .ok (.getfield 11, 3) := db_dX5_init_29.2.2.2.2.2.2.1
theorem dX5_init_40 : decode cX5_init 40 = .ok (.arraylength, 1) := db_dX5_init_29.2.2.2.2.2.2.2
theorem db_dX5_init_41 : decode cX5_init 41 = .ok (.if_icmp .ge 22, 3) ∧ decode cX5_init 44 = .ok (.aload_n 0, 1) ∧ decode cX5_init 45 = .ok (.getfield 11, 3) ∧ decode cX5_init 48 = .ok (.iload_n 1, 1) ∧ decode cX5_init 49 = .ok (.new 9, 3) ∧ decode cX5_init 52 = .ok (.dup, 1) ∧ decode cX5_init 53 = .ok (.invokespecial 30, 3) ∧ decode cX5_init 56 = .ok (.aastore, 1) := by decide +kernel
theorem dX5_init_41 : decode cX5_init 41 = .ok (.if_icmp .ge 22, 3) := db_dX5_init_41.1
theorem dX5_init_44 : decode cX5_init 44 = .ok (.aload_n 0, 1) := db_dX5_init_41.2.1
theorem dX5_init_45 : decode cX5_init 45 = .ok (.getfield 11, 3) := db_dX5_init_41.2.2.1
theorem dX5_init_48 : decode cX5_init 48 = .ok (.iload_n 1, 1) := db_dX5_init_41.2.2.2.1
theorem dX5_init_49 : decode cX5_init 49 = .ok (.new 9, 3) := db_dX5_init_41.2.2.2.2.1
theorem dX5_init_52 : decode cX5_init 52 = .ok (.dup, 1) := db_dX5_init_41.2.2.2.2.2.1
theorem dX5_init_53 : decode cX5_init 53 = .ok (.invokespecial 30, 3) := db_dX5_init_41.2.2.2.2.2.2.1
theorem dX5_init_56 : decode cX5_init 56 = .ok (.aastore, 1) := db_dX5_init_41.2.2.2.2.2.2.2
theorem db_dX5_init_57 : decode cX5_init 57 = .ok (.iinc 1 1, 3) ∧ decode cX5_init 60 = .ok (.goto (-25), 3) ∧ decode cX5_init 63 = .ok (.return_, 1) := by decide +kernel
theorem dX5_init_57 : decode cX5_init 57 = .ok (.iinc 1 1, 3) := db_dX5_init_57.1
theorem dX5_init_60 : decode cX5_init 60 = .ok (.goto (-25), 3) := db_dX5_init_57.2.1
theorem dX5_init_63 : decode cX5_init 63 = .ok (.return_, 1) := db_dX5_init_57.2.2
theorem db_dX5_clear_0 : decode cX5_clear 0 = .ok (.aload_n 0, 1) ∧ decode cX5_clear 1 = .ok (.iconst 0, 1) ∧ decode cX5_clear 2 = .ok (.putfield 17, 3) ∧ decode cX5_clear 5 = .ok (.return_, 1) := by decide +kernel
theorem dX5_clear_0 : decode cX5_clear 0 = .ok (.aload_n 0, 1) := db_dX5_clear_0.1
theorem dX5_clear_1 : decode cX5_clear 1 = .ok (.iconst 0, 1) := db_dX5_clear_0.2.1
theorem dX5_clear_2 : decode cX5_clear 2 = .ok (.putfield 17, 3) := db_dX5_clear_0.2.2.1
theorem dX5_clear_5 : decode cX5_clear 5 = .ok (.return_, 1) := db_dX5_clear_0.2.2.2
theorem db_dX5_take_0 : decode cX5_take 0 = .ok (.aload_n 0, 1) ∧ decode cX5_take 1 = .ok (.getfield 17, 3) ∧ decode cX5_take 4 = .ok (.aload_n 0, 1) ∧ decode cX5_take 5 = .ok (.getfield 11, 3) ∧ decode cX5_take 8 = .ok (.arraylength, 1) ∧ decode cX5_take 9 = .ok (.iconst 1, 1) ∧ decode cX5_take 10 = .ok (.isub, 1) ∧ decode cX5_take 11 = .ok (.invokestatic 31, 3) := by decide +kernel
theorem dX5_take_0 : decode cX5_take 0 = .ok (.aload_n 0, 1) := db_dX5_take_0.1
theorem dX5_take_1 : decode cX5_take 1 = .ok (.getfield 17, 3) := db_dX5_take_0.2.1
theorem dX5_take_4 : decode cX5_take 4 = .ok (.aload_n 0, 1) := db_dX5_take_0.2.2.1
theorem dX5_take_5 : decode cX5_take 5 = .ok (.getfield 11, 3) := db_dX5_take_0.2.2.2.1
theorem dX5_take_8 : decode cX5_take 8 = .ok (.arraylength, 1) := db_dX5_take_0.2.2.2.2.1
theorem dX5_take_9 : decode cX5_take 9 = .ok (.iconst 1, 1) := db_dX5_take_0.2.2.2.2.2.1
theorem dX5_take_10 : decode cX5_take 10 = .ok (.isub, 1) := db_dX5_take_0.2.2.2.2.2.2.1
theorem dX5_take_11 : decode cX5_take 11 = .ok (.invokestatic 31, 3) := db_dX5_take_0.2.2.2.2.2.2.2
theorem db_dX5_take_14 : decode cX5_take 14 = .ok (.istore_n 1, 1) ∧ decode cX5_take 15 = .ok (.aload_n 0, 1) ∧ decode cX5_take 16 = .ok (.iload_n 1, 1) ∧ decode cX5_take 17 = .ok (.iconst 1, 1) ∧ decode cX5_take 18 = .ok (.iadd, 1) ∧ decode cX5_take 19 = .ok (.putfield 17, 3) ∧ decode cX5_take 22 = .ok (.aload_n 0, 1) ∧ decode cX5_take 23 = .ok (.getfield 11, 3) := by decide +kernel
theorem dX5_take_14 : decode cX5_take 14 = .ok (.istore_n 1, 1) := db_dX5_take_14.1
theorem dX5_take_15 : decode cX5_take 15 = .ok (.aload_n 0, 1) := db_dX5_take_14.2.1
theorem dX5_take_16 : decode cX5_take 16 = .ok (.iload_n 1, 1) := db_dX5_take_14.2.2.1
theorem dX5_take_17 : decode cX5_take 17 = .ok (.iconst 1, 1) := db_dX5_take_14.2.2.2.1
theorem dX5_take_18 : decode cX5_take 18 = .ok (.iadd, 1) := db_dX5_take_14.2.2.2.2.1
theorem dX5_take_19 : decode cX5_take 19 = .ok (.putfield 17, 3) := db_dX5_take_14.2.2.2.2.2.1
theorem dX5_take_22 : decode cX5_take 22 = .ok (.aload_n 0, 1) := db_dX5_take_14.2.2.2.2.2.2.1
theorem dX5_take_23 : decode cX5_take 23 = .ok (.getfield 11, 3) := db_dX5_take_14.2.2.2.2.2.2.2
theorem db_dX5_take_26 : decode cX5_take 26 = .ok (.iload_n 1, 1) ∧ decode cX5_take 27 = .ok (.aaload, 1) ∧ decode cX5_take 28 = .ok (.areturn, 1) := by decide +kernel
theorem dX5_take_26 : decode cX5_take 26 = .ok (.iload_n 1, 1) := db_dX5_take_26.1
theorem dX5_take_27 : decode cX5_take 27 = .ok (.aaload, 1) := db_dX5_take_26.2.1
theorem dX5_take_28 : decode cX5_take 28 = .ok (.areturn, 1) := db_dX5_take_26.2.2
theorem db_dX5_start_0 : decode cX5_start 0 = .ok (.iload_n 1, 1) ∧ decode cX5_start 1 = .ok (.istore_n 3, 1) ∧ decode cX5_start 2 = .ok (.iconst 0, 1) ∧ decode cX5_start 3 = .ok (.istore 4, 2) ∧ decode cX5_start 5 = .ok (.iload 4, 2) ∧ decode cX5_start 7 = .ok (.sipush 4000, 3) ∧ decode cX5_start 10 = .ok (.if_icmp .gt 62, 3) ∧ decode cX5_start 13 = .ok (.iload_n 3, 1) := by decide +kernel
theorem dX5_start_0 : decode cX5_start 0 = .ok (.iload_n 1, 1) := db_dX5_start_0.1
theorem dX5_start_1 : decode cX5_start 1 = .ok (.istore_n 3, 1) := db_dX5_start_0.2.1
theorem dX5_start_2 : decode cX5_start 2 = .ok (.iconst 0, 1) := db_dX5_start_0.2.2.1
theorem dX5_start_3 : decode cX5_start 3 = .ok (.istore 4, 2) := db_dX5_start_0.2.2.2.1
theorem dX5_start_5 : decode cX5_start 5 = .ok (.iload 4, 2) := db_dX5_start_0.2.2.2.2.1
theorem dX5_start_7 : decode cX5_start 7 = .ok (.sipush 4000, 3) := db_dX5_start_0.2.2.2.2.2.1
theorem dX5_start_10 : decode cX5_start 10 = .ok (.if_icmp .gt 62, 3) := db_dX5_start_0.2.2.2.2.2.2.1
theorem dX5_start_13 : decode cX5_start 13 = .ok (.iload_n 3, 1) := db_dX5_start_0.2.2.2.2.2.2.2
theorem db_dX5_start_14 : decode cX5_start 14 = .ok (.iload_n 2, 1) ∧ decode cX5_start 15 = .ok (.if_icmp .ge 57, 3) ∧ decode cX5_start 18 = .ok (.iload_n 3, 1) ∧ decode cX5_start 19 = .ok (.istore 5, 2) ∧ decode cX5_start 21 = .ok (.iconst 0, 1) ∧ decode cX5_start 22 = .ok (.istore 6, 2) ∧ decode cX5_start 24 = .ok (.iload 6, 2) ∧ decode cX5_start 26 = .ok (.aload_n 0, 1) := by decide +kernel
theorem dX5_start_14 : decode cX5_start 14 = .ok (.iload_n 2, 1) := db_dX5_start_14.1
theorem dX5_start_15 : decode cX5_start 15 = .ok (.if_icmp .ge 57, 3) := db_dX5_start_14.2.1
theorem dX5_start_18 : decode cX5_start 18 = .ok (.iload_n 3, 1) := db_dX5_start_14.2.2.1
theorem dX5_start_19 : decode cX5_start 19 = .ok (.istore 5, 2) := db_dX5_start_14.2.2.2.1
theorem dX5_start_21 : decode cX5_start 21 = .ok (.iconst 0, 1) := db_dX5_start_14.2.2.2.2.1
theorem dX5_start_22 : decode cX5_start 22 = .ok (.istore 6, 2) := db_dX5_start_14.2.2.2.2.2.1
theorem dX5_start_24 : decode cX5_start 24 = .ok (.iload 6, 2) := db_dX5_start_14.2.2.2.2.2.2.1
theorem dX5_start_26 : decode cX5_start 26 = .ok (.aload_n 0, 1) := db_dX5_start_14.2.2.2.2.2.2.2
theorem db_dX5_start_27 : decode cX5_start 27 = .ok (.getfield 17, 3) ∧ decode cX5_start 30 = .ok (.if_icmp .ge 28, 3) ∧ decode cX5_start 33 = .ok (.iload_n 3, 1) ∧ decode cX5_start 34 = .ok (.iload_n 2, 1) ∧ decode cX5_start 35 = .ok (.if_icmp .ge 23, 3) ∧ decode cX5_start 38 = .ok (.aload_n 0, 1) ∧ decode cX5_start 39 = .ok (.getfield 11, 3) ∧ decode cX5_start 42 = .ok (.iload 6, 2) := by decide +kernel
theorem dX5_start_27 : decode cX5_start 27 = .ok (.getfield 17, 3) := db_dX5_start_27.1
theorem dX5_start_30 : decode cX5_start 30 = .ok (.if_icmp .ge 28, 3) := db_dX5_start_27.2.1
theorem dX5_start_33 : decode cX5_start 33 = .ok (.iload_n 3, 1) := db_dX5_start_27.2.2.1
theorem dX5_start_34 : decode cX5_start 34 = .ok (.iload_n 2, 1) := db_dX5_start_27.2.2.2.1
theorem dX5_start_35 : decode cX5_start 35 = .ok (.if_icmp .ge 23, 3) := db_dX5_start_27.2.2.2.2.1
theorem dX5_start_38 : decode cX5_start 38 = .ok (.aload_n 0, 1) := db_dX5_start_27.2.2.2.2.2.1
theorem dX5_start_39 : decode cX5_start 39 = .ok (.getfield 11, 3) := db_dX5_start_27.2.2.2.2.2.2.1
theorem dX5_start_42 : decode cX5_start 42 = .ok (.iload 6, 2) := db_dX5_start_27.2.2.2.2.2.2.2
theorem db_dX5_start_44 : decode cX5_start 44 = .ok (.aaload, 1) ∧ decode cX5_start 45 = .ok (.iload_n 3, 1) ∧ decode cX5_start 46 = .ok (.iload_n 2, 1) ∧ decode cX5_start 47 = .ok (.iconst 1, 1) ∧ decode cX5_start 48 = .ok (.invokevirtual 37, 3) ∧ decode cX5_start 51 = .ok (.istore_n 3, 1) ∧ decode cX5_start 52 = .ok (.iinc 6 1, 3) ∧ decode cX5_start 55 = .ok (.goto (-31), 3) := by decide +kernel
theorem dX5_start_44 : decode cX5_start 44 = .ok (.aaload, 1) := db_dX5_start_44.1
theorem dX5_start_45 : decode cX5_start 45 = .ok (.iload_n 3, 1) := db_dX5_start_44.2.1
theorem dX5_start_46 : decode cX5_start 46 = .ok (.iload_n 2, 1) := db_dX5_start_44.2.2.1
theorem dX5_start_47 : decode cX5_start 47 = .ok (.iconst 1, 1) := db_dX5_start_44.2.2.2.1
theorem dX5_start_48 : decode cX5_start 48 = .ok (.invokevirtual 37, 3) := db_dX5_start_44.2.2.2.2.1
theorem dX5_start_51 : decode cX5_start 51 = .ok (.istore_n 3, 1) := db_dX5_start_44.2.2.2.2.2.1
theorem dX5_start_52 : decode cX5_start 52 = .ok (.iinc 6 1, 3) := db_dX5_start_44.2.2.2.2.2.2.1
theorem dX5_start_55 : decode cX5_start 55 = .ok (.goto (-31), 3) := db_dX5_start_44.2.2.2.2.2.2.2
theorem db_dX5_start_58 : decode cX5_start 58 = .ok (.iload_n 3, 1) ∧ decode cX5_start 59 = .ok (.iload 5, 2) ∧ decode cX5_start 61 = .ok (.if_icmp .ne 5, 3) ∧ decode cX5_start 64 = .ok (.iload_n 3, 1) ∧ decode cX5_start 65 = .ok (.ireturn, 1) ∧ decode cX5_start 66 = .ok (.iinc 4 1, 3) ∧ decode cX5_start 69 = .ok (.goto (-64), 3) ∧ decode cX5_start 72 = .ok (.iload_n 2, 1) := by decide +kernel
theorem dX5_start_58 : decode cX5_start 58 = .ok (.iload_n 3, 1) := db_dX5_start_58.1
theorem dX5_start_59 : decode cX5_start 59 = .ok (.iload 5, 2) := db_dX5_start_58.2.1
theorem dX5_start_61 : decode cX5_start 61 = .ok (.if_icmp .ne 5, 3) := db_dX5_start_58.2.2.1
theorem dX5_start_64 : decode cX5_start 64 = .ok (.iload_n 3, 1) := db_dX5_start_58.2.2.2.1
theorem dX5_start_65 : decode cX5_start 65 = .ok (.ireturn, 1) := db_dX5_start_58.2.2.2.2.1
theorem dX5_start_66 : decode cX5_start 66 = .ok (.iinc 4 1, 3) := db_dX5_start_58.2.2.2.2.2.1
theorem dX5_start_69 : decode cX5_start 69 = .ok (.goto (-64), 3) := db_dX5_start_58.2.2.2.2.2.2.1
theorem dX5_start_72 : decode cX5_start 72 = .ok (.iload_n 2, 1) := db_dX5_start_58.2.2.2.2.2.2.2
theorem dX5_start_73 : decode cX5_start 73 = .ok (.ireturn, 1) := by decide +kernel
theorem db_dX5_stop_0 : decode cX5_stop 0 = .ok (.iload_n 2, 1) ∧ decode cX5_stop 1 = .ok (.istore_n 3, 1) ∧ decode cX5_stop 2 = .ok (.iconst 0, 1) ∧ decode cX5_stop 3 = .ok (.istore 4, 2) ∧ decode cX5_stop 5 = .ok (.iload 4, 2) ∧ decode cX5_stop 7 = .ok (.aload_n 0, 1) ∧ decode cX5_stop 8 = .ok (.getfield 17, 3) ∧ decode cX5_stop 11 = .ok (.if_icmp .ge 23, 3) := by decide +kernel
theorem dX5_stop_0 : decode cX5_stop 0 = .ok (.iload_n 2, 1) := db_dX5_stop_0.1
theorem dX5_stop_1 : decode cX5_stop 1 = .ok (.istore_n 3, 1) := db_dX5_stop_0.2.1
theorem dX5_stop_2 : decode cX5_stop 2 = .ok (.iconst 0, 1) := db_dX5_stop_0.2.2.1
theorem dX5_stop_3 : decode cX5_stop 3 = .ok (.istore 4, 2) := db_dX5_stop_0.2.2.2.1
theorem dX5_stop_5 : decode cX5_stop 5 = .ok (.iload 4, 2) := db_dX5_stop_0.2.2.2.2.1
theorem dX5_stop_7 : decode cX5_stop 7 = .ok (.aload_n 0, 1) := db_dX5_stop_0.2.2.2.2.2.1
theorem dX5_stop_8 : decode cX5_stop 8 = .ok (.getfield 17, 3) := db_dX5_stop_0.2.2.2.2.2.2.1
theorem dX5_stop_11 : decode cX5_stop 11 = .ok (.if_icmp .ge 23, 3) := db_dX5_stop_0.2.2.2.2.2.2.2
theorem db_dX5_stop_14 : decode cX5_stop 14 = .ok (.aload_n 0, 1) ∧ decode cX5_stop 15 = .ok (.getfield 11, 3) ∧ decode cX5_stop 18 = .ok (.iload 4, 2) ∧ decode cX5_stop 20 = .ok (.aaload, 1) ∧ decode cX5_stop 21 = .ok (.iload_n 1, 1) ∧ decode cX5_stop 22 = .ok (.iload_n 3, 1) ∧ decode cX5_stop 23 = .ok (.iconst 0, 1) ∧ decode cX5_stop 24 = .ok (.invokevirtual 37, 3) := by decide +kernel
theorem dX5_stop_14 : decode cX5_stop 14 = .ok (.aload_n 0, 1) := db_dX5_stop_14.1
theorem dX5_stop_15 : decode cX5_stop 15 = .ok (.getfield 11, 3) := db_dX5_stop_14.2.1
theorem dX5_stop_18 : decode cX5_stop 18 = .ok (.iload 4, 2) := db_dX5_stop_14.2.2.1
theorem dX5_stop_20 : decode cX5_stop 20 = .ok (.aaload, 1) := db_dX5_stop_14.2.2.2.1
theorem dX5_stop_21 : decode cX5_stop 21 = .ok (.iload_n 1, 1) := db_dX5_stop_14.2.2.2.2.1
theorem dX5_stop_22 : decode cX5_stop 22 = .ok (.iload_n 3, 1) := db_dX5_stop_14.2.2.2.2.2.1
theorem dX5_stop_23 : decode cX5_stop 23 = .ok (.iconst 0, 1) := db_dX5_stop_14.2.2.2.2.2.2.1
theorem dX5_stop_24 : decode cX5_stop 24 = .ok (.invokevirtual 37, 3) := db_dX5_stop_14.2.2.2.2.2.2.2
theorem db_dX5_stop_27 : decode cX5_stop 27 = .ok (.istore_n 3, 1) ∧ decode cX5_stop 28 = .ok (.iinc 4 1, 3) ∧ decode cX5_stop 31 = .ok (.goto (-26), 3) ∧ decode cX5_stop 34 = .ok (.iload_n 3, 1) ∧ decode cX5_stop 35 = .ok (.ireturn, 1) := by decide +kernel
theorem dX5_stop_27 : decode cX5_stop 27 = .ok (.istore_n 3, 1) := db_dX5_stop_27.1
theorem dX5_stop_28 : decode cX5_stop 28 = .ok (.iinc 4 1, 3) := db_dX5_stop_27.2.1
theorem dX5_stop_31 : decode cX5_stop 31 = .ok (.goto (-26), 3) := db_dX5_stop_27.2.2.1
theorem dX5_stop_34 : decode cX5_stop 34 = .ok (.iload_n 3, 1) := db_dX5_stop_27.2.2.2.1
theorem dX5_stop_35 : decode cX5_stop 35 = .ok (.ireturn, 1) := db_dX5_stop_27.2.2.2.2
theorem db_dX5_find_0 : decode cX5_find 0 = .ok (.aload_n 0, 1) ∧ decode cX5_find 1 = .ok (.iconst 0, 1) ∧ decode cX5_find 2 = .ok (.putfield 21, 3) ∧ decode cX5_find 5 = .ok (.aload_n 0, 1) ∧ decode cX5_find 6 = .ok (.aload_n 0, 1) ∧ decode cX5_find 7 = .ok (.iconst 0, 1) ∧ decode cX5_find 8 = .ok (.iload_n 3, 1) ∧ decode cX5_find 9 = .ok (.invokevirtual 41, 3) := by decide +kernel
theorem dX5_find_0 : decode cX5_find 0 = .ok (.aload_n 0, 1) := db_dX5_find_0.1
theorem dX5_find_1 : decode cX5_find 1 = .ok (.iconst 0, 1) := db_dX5_find_0.2.1
theorem dX5_find_2 : decode cX5_find 2 = .ok (.putfield 21, 3) := db_dX5_find_0.2.2.1
theorem dX5_find_5 : decode cX5_find 5 = .ok (.aload_n 0, 1) := db_dX5_find_0.2.2.2.1
theorem dX5_find_6 : decode cX5_find 6 = .ok (.aload_n 0, 1) := db_dX5_find_0.2.2.2.2.1
theorem dX5_find_7 : decode cX5_find 7 = .ok (.iconst 0, 1) := db_dX5_find_0.2.2.2.2.2.1
theorem dX5_find_8 : decode cX5_find 8 = .ok (.iload_n 3, 1) := db_dX5_find_0.2.2.2.2.2.2.1
theorem dX5_find_9 : decode cX5_find 9 = .ok (.invokevirtual 41, 3) := db_dX5_find_0.2.2.2.2.2.2.2
theorem db_dX5_find_12 : decode cX5_find 12 = .ok (.putfield 24, 3) ∧ decode cX5_find 15 = .ok (.iconst 0, 1) ∧ decode cX5_find 16 = .ok (.istore 4, 2) ∧ decode cX5_find 18 = .ok (.iload 4, 2) ∧ decode cX5_find 20 = .ok (.sipush 4000, 3) ∧ decode cX5_find 23 = .ok (.if_icmp .gt 76, 3) ∧ decode cX5_find 26 = .ok (.aload_n 0, 1) ∧ decode cX5_find 27 = .ok (.getfield 24, 3) := by decide +kernel
theorem dX5_find_12 : decode cX5_find 12 = .ok (.putfield 24, 3) := db_dX5_find_12.1
theorem dX5_find_15 : decode cX5_find 15 = .ok (.iconst 0, 1) := db_dX5_find_12.2.1
theorem dX5_find_16 : decode cX5_find 16 = .ok (.istore 4, 2) := db_dX5_find_12.2.2.1
theorem dX5_find_18 : decode cX5_find 18 = .ok (.iload 4, 2) := db_dX5_find_12.2.2.2.1
theorem dX5_find_20 : decode cX5_find 20 = .ok (.sipush 4000, 3) := db_dX5_find_12.2.2.2.2.1
theorem dX5_find_23 : decode cX5_find 23 = .ok (.if_icmp .gt 76, 3) := db_dX5_find_12.2.2.2.2.2.1
theorem dX5_find_26 : decode cX5_find 26 = .ok (.aload_n 0, 1) := db_dX5_find_12.2.2.2.2.2.2.1
theorem dX5_find_27 : decode cX5_find 27 = .ok (.getfield 24, 3) := db_dX5_find_12.2.2.2.2.2.2.2
theorem db_dX5_find_30 : decode cX5_find 30 = .ok (.iload_n 3, 1) ∧ decode cX5_find 31 = .ok (.if_icmp .ge 68, 3) ∧ decode cX5_find 34 = .ok (.aload_n 0, 1) ∧ decode cX5_find 35 = .ok (.aload_n 0, 1) ∧ decode cX5_find 36 = .ok (.aload_n 0, 1) ∧ decode cX5_find 37 = .ok (.getfield 24, 3) ∧ decode cX5_find 40 = .ok (.iload_n 3, 1) ∧ decode cX5_find 41 = .ok (.invokevirtual 44, 3) := by decide +kernel
theorem dX5_find_30 : decode cX5_find 30 = .ok (.iload_n 3, 1) := db_dX5_find_30.1
theorem dX5_find_31 : decode cX5_find 31 = .ok (.if_icmp .ge 68, 3) := db_dX5_find_30.2.1
theorem dX5_find_34 : decode cX5_find 34 = .ok (.aload_n 0, 1) := db_dX5_find_30.2.2.1
theorem dX5_find_35 : decode cX5_find 35 = .ok (.aload_n 0, 1) := db_dX5_find_30.2.2.2.1
theorem dX5_find_36 : decode cX5_find 36 = .ok (.aload_n 0, 1) := db_dX5_find_30.2.2.2.2.1
theorem dX5_find_37 : decode cX5_find 37 = .ok (.getfield 24, 3) := db_dX5_find_30.2.2.2.2.2.1
theorem dX5_find_40 : decode cX5_find 40 = .ok (.iload_n 3, 1) := db_dX5_find_30.2.2.2.2.2.2.1
theorem dX5_find_41 : decode cX5_find 41 = .ok (.invokevirtual 44, 3) := db_dX5_find_30.2.2.2.2.2.2.2
theorem db_dX5_find_44 : decode cX5_find 44 = .ok (.putfield 27, 3) ∧ decode cX5_find 47 = .ok (.aload_n 0, 1) ∧ decode cX5_find 48 = .ok (.getfield 27, 3) ∧ decode cX5_find 51 = .ok (.aload_n 0, 1) ∧ decode cX5_find 52 = .ok (.getfield 24, 3) ∧ decode cX5_find 55 = .ok (.isub, 1) ∧ decode cX5_find 56 = .ok (.iload_n 2, 1) ∧ decode cX5_find 57 = .ok (.if_icmp .lt 23, 3) := by decide +kernel
theorem dX5_find_44 : decode cX5_find 44 = .ok (.putfield 27, 3) := db_dX5_find_44.1
theorem dX5_find_47 : decode cX5_find 47 = .ok (.aload_n 0, 1) := db_dX5_find_44.2.1
theorem dX5_find_48 : decode cX5_find 48 = .ok (.getfield 27, 3) := db_dX5_find_44.2.2.1
theorem dX5_find_51 : decode cX5_find 51 = .ok (.aload_n 0, 1) := db_dX5_find_44.2.2.2.1
theorem dX5_find_52 : decode cX5_find 52 = .ok (.getfield 24, 3) := db_dX5_find_44.2.2.2.2.1
theorem dX5_find_55 : decode cX5_find 55 = .ok (.isub, 1) := db_dX5_find_44.2.2.2.2.2.1
theorem dX5_find_56 : decode cX5_find 56 = .ok (.iload_n 2, 1) := db_dX5_find_44.2.2.2.2.2.2.1
theorem dX5_find_57 : decode cX5_find 57 = .ok (.if_icmp .lt 23, 3) := db_dX5_find_44.2.2.2.2.2.2.2
theorem db_dX5_find_60 : decode cX5_find 60 = .ok (.aload_n 0, 1) ∧ decode cX5_find 61 = .ok (.getfield 21, 3) ∧ decode cX5_find 64 = .ok (.iload_n 1, 1) ∧ decode cX5_find 65 = .ok (.if_icmp .ne 5, 3) ∧ decode cX5_find 68 = .ok (.iconst 1, 1) ∧ decode cX5_find 69 = .ok (.ireturn, 1) ∧ decode cX5_find 70 = .ok (.aload_n 0, 1) ∧ decode cX5_find 71 = .ok (.dup, 1) := by decide +kernel
theorem dX5_find_60 : decode cX5_find 60 = .ok (.aload_n 0, 1) := db_dX5_find_60.1
theorem dX5_find_61 : decode cX5_find 61 = .ok (.getfield 21, 3) := db_dX5_find_60.2.1
theorem dX5_find_64 : decode cX5_find 64 = .ok (.iload_n 1, 1) := db_dX5_find_60.2.2.1
theorem dX5_find_65 : decode cX5_find 65 = .ok (.if_icmp .ne 5, 3) := db_dX5_find_60.2.2.2.1
theorem dX5_find_68 : decode cX5_find 68 = .ok (.iconst 1, 1) := db_dX5_find_60.2.2.2.2.1
theorem dX5_find_69 : decode cX5_find 69 = .ok (.ireturn, 1) := db_dX5_find_60.2.2.2.2.2.1
theorem dX5_find_70 : decode cX5_find 70 = .ok (.aload_n 0, 1) := db_dX5_find_60.2.2.2.2.2.2.1
theorem dX5_find_71 : decode cX5_find 71 = .ok (.dup, 1) := db_dX5_find_60.2.2.2.2.2.2.2
theorem db_dX5_find_72 : decode cX5_find 72 = .ok (.getfield 21, 3) ∧ decode cX5_find 75 = .ok (.iconst 1, 1) ∧ decode cX5_find 76 = .ok (.iadd, 1) ∧ decode cX5_find 77 = .ok (.putfield 21, 3) ∧ decode cX5_find 80 = .ok (.aload_n 0, 1) ∧ decode cX5_find 81 = .ok (.aload_n 0, 1) ∧ decode cX5_find 82 = .ok (.aload_n 0, 1) ∧ decode cX5_find 83 = .ok (.getfield 27, 3) := by decide +kernel
theorem dX5_find_72 : decode cX5_find 72 = .ok (.getfield 21, 3) := db_dX5_find_72.1
theorem dX5_find_75 : decode cX5_find 75 = .ok (.iconst 1, 1) := db_dX5_find_72.2.1
theorem dX5_find_76 : decode cX5_find 76 = .ok (.iadd, 1) := db_dX5_find_72.2.2.1
theorem dX5_find_77 : decode cX5_find 77 = .ok (.putfield 21, 3) := db_dX5_find_72.2.2.2.1
theorem dX5_find_80 : decode cX5_find 80 = .ok (.aload_n 0, 1) := db_dX5_find_72.2.2.2.2.1
theorem dX5_find_81 : decode cX5_find 81 = .ok (.aload_n 0, 1) := db_dX5_find_72.2.2.2.2.2.1
theorem dX5_find_82 : decode cX5_find 82 = .ok (.aload_n 0, 1) := db_dX5_find_72.2.2.2.2.2.2.1
theorem dX5_find_83 : decode cX5_find 83 = .ok (.getfield 27, 3) := db_dX5_find_72.2.2.2.2.2.2.2
theorem db_dX5_find_86 : decode cX5_find 86 = .ok (.iload_n 3, 1) ∧ decode cX5_find 87 = .ok (.invokevirtual 41, 3) ∧ decode cX5_find 90 = .ok (.putfield 24, 3) ∧ decode cX5_find 93 = .ok (.iinc 4 1, 3) ∧ decode cX5_find 96 = .ok (.goto (-78), 3) ∧ decode cX5_find 99 = .ok (.iconst 0, 1) ∧ decode cX5_find 100 = .ok (.ireturn, 1) := by decide +kernel
theorem dX5_find_86 : decode cX5_find 86 = .ok (.iload_n 3, 1) := db_dX5_find_86.1
theorem dX5_find_87 : decode cX5_find 87 = .ok (.invokevirtual 41, 3) := db_dX5_find_86.2.1
theorem dX5_find_90 : decode cX5_find 90 = .ok (.putfield 24, 3) := db_dX5_find_86.2.2.1
theorem dX5_find_93 : decode cX5_find 93 = .ok (.iinc 4 1, 3) := db_dX5_find_86.2.2.2.1
theorem dX5_find_96 : decode cX5_find 96 = .ok (.goto (-78), 3) := db_dX5_find_86.2.2.2.2.1
theorem dX5_find_99 : decode cX5_find 99 = .ok (.iconst 0, 1) := db_dX5_find_86.2.2.2.2.2.1
theorem dX5_find_100 : decode cX5_find 100 = .ok (.ireturn, 1) := db_dX5_find_86.2.2.2.2.2.2
theorem db_dX5_howMany_0 : decode cX5_howMany 0 = .ok (.aload_n 0, 1) ∧ decode cX5_howMany 1 = .ok (.iconst (-1), 1) ∧ decode cX5_howMany 2 = .ok (.iload_n 1, 1) ∧ decode cX5_howMany 3 = .ok (.iload_n 2, 1) ∧ decode cX5_howMany 4 = .ok (.invokevirtual 47, 3) ∧ decode cX5_howMany 7 = .ok (.pop, 1) ∧ decode cX5_howMany 8 = .ok (.aload_n 0, 1) ∧ decode cX5_howMany 9 = .ok (.getfield 21, 3) := by decide +kernel
theorem dX5_howMany_0 : decode cX5_howMany 0 = .ok (.aload_n 0, 1) := db_dX5_howMany_0.1
theorem dX5_howMany_1 : decode cX5_howMany 1 = .ok (.iconst (-1), 1) := db_dX5_howMany_0.2.1
theorem dX5_howMany_2 : decode cX5_howMany 2 = .ok (.iload_n 1, 1) := db_dX5_howMany_0.2.2.1
theorem dX5_howMany_3 : decode cX5_howMany 3 = .ok (.iload_n 2, 1) := db_dX5_howMany_0.2.2.2.1
theorem dX5_howMany_4 : decode cX5_howMany 4 = .ok (.invokevirtual 47, 3) := db_dX5_howMany_0.2.2.2.2.1
theorem dX5_howMany_7 : decode cX5_howMany 7 = .ok (.pop, 1) := db_dX5_howMany_0.2.2.2.2.2.1
theorem dX5_howMany_8 : decode cX5_howMany 8 = .ok (.aload_n 0, 1) := db_dX5_howMany_0.2.2.2.2.2.2.1
theorem dX5_howMany_9 : decode cX5_howMany 9 = .ok (.getfield 21, 3) := db_dX5_howMany_0.2.2.2.2.2.2.2
theorem dX5_howMany_12 : decode cX5_howMany 12 = .ok (.ireturn, 1) := by decide +kernel
theorem db_dX5_seen_0 : decode cX5_seen 0 = .ok (.aload_n 0, 1) ∧ decode cX5_seen 1 = .ok (.getfield 21, 3) ∧ decode cX5_seen 4 = .ok (.ireturn, 1) := by decide +kernel
theorem dX5_seen_0 : decode cX5_seen 0 = .ok (.aload_n 0, 1) := db_dX5_seen_0.1
theorem dX5_seen_1 : decode cX5_seen 1 = .ok (.getfield 21, 3) := db_dX5_seen_0.2.1
theorem dX5_seen_4 : decode cX5_seen 4 = .ok (.ireturn, 1) := db_dX5_seen_0.2.2
theorem db_dX5_edgeFound_0 : decode cX5_edgeFound 0 = .ok (.iload_n 1, 1) ∧ decode cX5_edgeFound 1 = .ok (.ifCond .ne 10, 3) ∧ decode cX5_edgeFound 4 = .ok (.aload_n 0, 1) ∧ decode cX5_edgeFound 5 = .ok (.getfield 24, 3) ∧ decode cX5_edgeFound 8 = .ok (.goto 7, 3) ∧ decode cX5_edgeFound 11 = .ok (.aload_n 0, 1) ∧ decode cX5_edgeFound 12 = .ok (.getfield 27, 3) ∧ decode cX5_edgeFound 15 = .ok (.ireturn, 1) := by decide +kernel
theorem dX5_edgeFound_0 : decode cX5_edgeFound 0 = .ok (.iload_n 1, 1) := db_dX5_edgeFound_0.1
theorem dX5_edgeFound_1 : decode cX5_edgeFound 1 = .ok (.ifCond .ne 10, 3) := db_dX5_edgeFound_0.2.1
theorem dX5_edgeFound_4 : decode cX5_edgeFound 4 = .ok (.aload_n 0, 1) := db_dX5_edgeFound_0.2.2.1
theorem dX5_edgeFound_5 : decode cX5_edgeFound 5 = .ok (.getfield 24, 3) := db_dX5_edgeFound_0.2.2.2.1
theorem dX5_edgeFound_8 : decode cX5_edgeFound 8 = .ok (.goto 7, 3) := db_dX5_edgeFound_0.2.2.2.2.1
theorem dX5_edgeFound_11 : decode cX5_edgeFound 11 = .ok (.aload_n 0, 1) := db_dX5_edgeFound_0.2.2.2.2.2.1
theorem dX5_edgeFound_12 : decode cX5_edgeFound 12 = .ok (.getfield 27, 3) := db_dX5_edgeFound_0.2.2.2.2.2.2.1
theorem dX5_edgeFound_15 : decode cX5_edgeFound 15 = .ok (.ireturn, 1) := db_dX5_edgeFound_0.2.2.2.2.2.2.2
