theorem db_dX4_init_0 : decode cX4_init 0 = .ok (.aload_n 0, 1) ∧ decode cX4_init 1 = .ok (.invokespecial 3, 3) ∧ decode cX4_init 4 = .ok (.aload_n 0, 1) ∧ decode cX4_init 5 = .ok (.bipush 50, 2) ∧ decode cX4_init 7 = .ok (.newarray .int, 2) ∧ decode cX4_init 9 = .ok (.putfield 9, 3) ∧ decode cX4_init 12 = .ok (.aload_n 0, 1) ∧ decode cX4_init 13 = .ok (.bipush 50, 2) := by decide +kernel
theorem dX4_init_0 : decode cX4_init 0 = .ok (.aload_n 0, 1) := db_dX4_init_0.1
theorem dX4_init_1 : decode cX4_init 1 = .ok (.invokespecial 3, 3) := db_dX4_init_0.2.1
theorem dX4_init_4 : decode cX4_init 4 = .ok (.aload_n 0, 1) := db_dX4_init_0.2.2.1
theorem dX4_init_5 : decode cX4_init 5 = .ok (.bipush 50, 2) := db_dX4_init_0.2.2.2.1
theorem dX4_init_7 : decode cX4_init 7 = .ok (.newarray .int, 2) := db_dX4_init_0.2.2.2.2.1
theorem dX4_init_9 : decode cX4_init 9 = .ok (.putfield 9, 3) := db_dX4_init_0.2.2.2.2.2.1
theorem dX4_init_12 : decode cX4_init 12 = .ok (.aload_n 0, 1) := db_dX4_init_0.2.2.2.2.2.2.1
theorem dX4_init_13 : decode cX4_init 13 = .ok (.bipush 50, 2) := db_dX4_init_0.2.2.2.2.2.2.2
theorem db_dX4_init_15 : decode cX4_init 15 = .ok (.newarray .int, 2) ∧ decode cX4_init 17 = .ok (.putfield 15, 3) ∧ decode cX4_init 20 = .ok (.aload_n 0, 1) ∧ decode cX4_init 21 = .ok (.iconst 0, 1) ∧ decode cX4_init 22 = .ok (.putfield 18, 3) ∧ decode cX4_init 25 = .ok (.return_, 1) := by decide +kernel
theorem dX4_init_15 : decode cX4_init 15 = .ok (.newarray .int, 2) := db_dX4_init_15.1
theorem dX4_init_17 : decode cX4_init 17 = .ok (.putfield 15, 3) := db_dX4_init_15.2.1
theorem dX4_init_20 : decode cX4_init 20 = .ok (.aload_n 0, 1) := db_dX4_init_15.2.2.1
theorem dX4_init_21 : decode cX4_init 21 = .ok (.iconst 0, 1) := db_dX4_init_15.2.2.2.1
theorem dX4_init_22 : decode cX4_init 22 = .ok (.putfield 18, 3) := db_dX4_init_15.2.2.2.2.1
theorem dX4_init_25 : decode cX4_init 25 = .ok (.return_, 1) := db_dX4_init_15.2.2.2.2.2
theorem db_dX4_size_0 : decode cX4_size 0 = .ok (.aload_n 0, 1) ∧ decode cX4_size 1 = .ok (.getfield 18, 3) ∧ decode cX4_size 4 = .ok (.ireturn, 1) := by decide +kernel
theorem dX4_size_0 : decode cX4_size 0 = .ok (.aload_n 0, 1) := db_dX4_size_0.1
theorem dX4_size_1 : decode cX4_size 1 = .ok (.getfield 18, 3) := db_dX4_size_0.2.1
theorem dX4_size_4 : decode cX4_size 4 = .ok (.ireturn, 1) := db_dX4_size_0.2.2
theorem db_dX4_lacksRoom_0 : decode cX4_lacksRoom 0 = .ok (.aload_n 0, 1) ∧ decode cX4_lacksRoom 1 = .ok (.getfield 18, 3) ∧ decode cX4_lacksRoom 4 = .ok (.iload_n 1, 1) ∧ decode cX4_lacksRoom 5 = .ok (.iadd, 1) ∧ decode cX4_lacksRoom 6 = .ok (.bipush 50, 2) ∧ decode cX4_lacksRoom 8 = .ok (.if_icmp .le 7, 3) ∧ decode cX4_lacksRoom 11 = .ok (.iconst 1, 1) ∧ decode cX4_lacksRoom 12 = .ok (.goto 4, 3) := by decide +kernel
theorem dX4_lacksRoom_0 : decode cX4_lacksRoom 0 = .ok (.aload_n 0, 1) := db_dX4_lacksRoom_0.1
theorem dX4_lacksRoom_1 : decode cX4_lacksRoom 1 = .ok (.getfield 18, 3) := db_dX4_lacksRoom_0.2.1
theorem dX4_lacksRoom_4 : decode cX4_lacksRoom 4 = .ok (.iload_n 1, 1) := db_dX4_lacksRoom_0.2.2.1
theorem dX4_lacksRoom_5 : decode cX4_lacksRoom 5 = .ok (.iadd, 1) := db_dX4_lacksRoom_0.2.2.2.1
theorem dX4_lacksRoom_6 : decode cX4_lacksRoom 6 = .ok (.bipush 50, 2) := db_dX4_lacksRoom_0.2.2.2.2.1
theorem dX4_lacksRoom_8 : decode cX4_lacksRoom 8 = .ok (.if_icmp .le 7, 3) := db_dX4_lacksRoom_0.2.2.2.2.2.1
theorem dX4_lacksRoom_11 : decode cX4_lacksRoom 11 = .ok (.iconst 1, 1) := db_dX4_lacksRoom_0.2.2.2.2.2.2.1
theorem dX4_lacksRoom_12 : decode cX4_lacksRoom 12 = .ok (.goto 4, 3) := db_dX4_lacksRoom_0.2.2.2.2.2.2.2
theorem db_dX4_lacksRoom_15 : decode cX4_lacksRoom 15 = .ok (.iconst 0, 1) ∧ decode cX4_lacksRoom 16 = .ok (.ireturn, 1) := by decide +kernel
theorem dX4_lacksRoom_15 : decode cX4_lacksRoom 15 = .ok (.iconst 0, 1) := db_dX4_lacksRoom_15.1
theorem dX4_lacksRoom_16 : decode cX4_lacksRoom 16 = .ok (.ireturn, 1) := db_dX4_lacksRoom_15.2
theorem db_dX4_put_0 : decode cX4_put 0 = .ok (.aload_n 0, 1) ∧ decode cX4_put 1 = .ok (.getfield 18, 3) ∧ decode cX4_put 4 = .ok (.bipush 50, 2) ∧ decode cX4_put 6 = .ok (.if_icmp .ge 33, 3) ∧ decode cX4_put 9 = .ok (.aload_n 0, 1) ∧ decode cX4_put 10 = .ok (.getfield 9, 3) ∧ decode cX4_put 13 = .ok (.aload_n 0, 1) ∧ decode cX4_put 14 = .ok (.getfield 18, 3) := by decide +kernel
theorem dX4_put_0 : decode cX4_put 0 = .ok (.aload_n 0, 1) := db_dX4_put_0.1
theorem dX4_put_1 : decode cX4_put 1 = .ok (.getfield 18, 3) := db_dX4_put_0.2.1
theorem dX4_put_4 : decode cX4_put 4 = .ok (.bipush 50, 2) := db_dX4_put_0.2.2.1
theorem dX4_put_6 : decode cX4_put 6 = .ok (.if_icmp .ge 33, 3) := db_dX4_put_0.2.2.2.1
theorem dX4_put_9 : decode cX4_put 9 = .ok (.aload_n 0, 1) := db_dX4_put_0.2.2.2.2.1
theorem dX4_put_10 : decode cX4_put 10 = .ok (.getfield 9, 3) := db_dX4_put_0.2.2.2.2.2.1
theorem dX4_put_13 : decode cX4_put 13 = .ok (.aload_n 0, 1) := db_dX4_put_0.2.2.2.2.2.2.1
theorem dX4_put_14 : decode cX4_put 14 = .ok (.getfield 18, 3) := db_dX4_put_0.2.2.2.2.2.2.2
theorem db_dX4_put_17 : decode cX4_put 17 = .ok (.iload_n 1, 1) ∧ decode cX4_put 18 = .ok (.iastore, 1) ∧ decode cX4_put 19 = .ok (.aload_n 0, 1) ∧ decode cX4_put 20 = .ok (.getfield 15, 3) ∧ decode cX4_put 23 = .ok (.aload_n 0, 1) ∧ decode cX4_put 24 = .ok (.getfield 18, 3) ∧ decode cX4_put 27 = .ok (.iload_n 2, 1) ∧ decode cX4_put 28 = .ok (.iastore, 1) := by decide +kernel
theorem dX4_put_17 : decode cX4_put 17 = .ok (.iload_n 1, 1) := db_dX4_put_17.1
theorem dX4_put_18 : decode cX4_put 18 = .ok (.iastore, 1) := db_dX4_put_17.2.1
theorem dX4_put_19 : decode cX4_put 19 = .ok (.aload_n 0, 1) := db_dX4_put_17.2.2.1
theorem dX4_put_20 : decode cX4_put 20 = .ok (.getfield 15, 3) := db_dX4_put_17.2.2.2.1
theorem dX4_put_23 : decode cX4_put 23 = .ok (.aload_n 0, 1) := db_dX4_put_17.2.2.2.2.1
theorem dX4_put_24 : decode cX4_put 24 = .ok (.getfield 18, 3) := db_dX4_put_17.2.2.2.2.2.1
theorem dX4_put_27 : decode cX4_put 27 = .ok (.iload_n 2, 1) := db_dX4_put_17.2.2.2.2.2.2.1
theorem dX4_put_28 : decode cX4_put 28 = .ok (.iastore, 1) := db_dX4_put_17.2.2.2.2.2.2.2
theorem db_dX4_put_29 : decode cX4_put 29 = .ok (.aload_n 0, 1) ∧ decode cX4_put 30 = .ok (.dup, 1) ∧ decode cX4_put 31 = .ok (.getfield 18, 3) ∧ decode cX4_put 34 = .ok (.iconst 1, 1) ∧ decode cX4_put 35 = .ok (.iadd, 1) ∧ decode cX4_put 36 = .ok (.putfield 18, 3) ∧ decode cX4_put 39 = .ok (.return_, 1) := by decide +kernel
theorem dX4_put_29 : decode cX4_put 29 = .ok (.aload_n 0, 1) := db_dX4_put_29.1
theorem dX4_put_30 : decode cX4_put 30 = .ok (.dup, 1) := db_dX4_put_29.2.1
theorem dX4_put_31 : decode cX4_put 31 = .ok (.getfield 18, 3) := db_dX4_put_29.2.2.1
theorem dX4_put_34 : decode cX4_put 34 = .ok (.iconst 1, 1) := db_dX4_put_29.2.2.2.1
theorem dX4_put_35 : decode cX4_put 35 = .ok (.iadd, 1) := db_dX4_put_29.2.2.2.2.1
theorem dX4_put_36 : decode cX4_put 36 = .ok (.putfield 18, 3) := db_dX4_put_29.2.2.2.2.2.1
theorem dX4_put_39 : decode cX4_put 39 = .ok (.return_, 1) := db_dX4_put_29.2.2.2.2.2.2
theorem db_dX4_clear_0 : decode cX4_clear 0 = .ok (.aload_n 0, 1) ∧ decode cX4_clear 1 = .ok (.iconst 0, 1) ∧ decode cX4_clear 2 = .ok (.putfield 18, 3) ∧ decode cX4_clear 5 = .ok (.return_, 1) := by decide +kernel
theorem dX4_clear_0 : decode cX4_clear 0 = .ok (.aload_n 0, 1) := db_dX4_clear_0.1
theorem dX4_clear_1 : decode cX4_clear 1 = .ok (.iconst 0, 1) := db_dX4_clear_0.2.1
theorem dX4_clear_2 : decode cX4_clear 2 = .ok (.putfield 18, 3) := db_dX4_clear_0.2.2.1
theorem dX4_clear_5 : decode cX4_clear 5 = .ok (.return_, 1) := db_dX4_clear_0.2.2.2
theorem db_dX4_dropFrom_0 : decode cX4_dropFrom 0 = .ok (.aload_n 0, 1) ∧ decode cX4_dropFrom 1 = .ok (.getfield 18, 3) ∧ decode cX4_dropFrom 4 = .ok (.istore_n 2, 1) ∧ decode cX4_dropFrom 5 = .ok (.aload_n 0, 1) ∧ decode cX4_dropFrom 6 = .ok (.aload_n 0, 1) ∧ decode cX4_dropFrom 7 = .ok (.iload_n 1, 1) ∧ decode cX4_dropFrom 8 = .ok (.iconst 1, 1) ∧ decode cX4_dropFrom 9 = .ok (.isub, 1) := by decide +kernel
theorem dX4_dropFrom_0 : decode cX4_dropFrom 0 = .ok (.aload_n 0, 1) := db_dX4_dropFrom_0.1
theorem dX4_dropFrom_1 : decode cX4_dropFrom 1 = .ok (.getfield 18, 3) := db_dX4_dropFrom_0.2.1
theorem dX4_dropFrom_4 : decode cX4_dropFrom 4 = .ok (.istore_n 2, 1) := db_dX4_dropFrom_0.2.2.1
theorem dX4_dropFrom_5 : decode cX4_dropFrom 5 = .ok (.aload_n 0, 1) := db_dX4_dropFrom_0.2.2.2.1
theorem dX4_dropFrom_6 : decode cX4_dropFrom 6 = .ok (.aload_n 0, 1) := db_dX4_dropFrom_0.2.2.2.2.1
theorem dX4_dropFrom_7 : decode cX4_dropFrom 7 = .ok (.iload_n 1, 1) := db_dX4_dropFrom_0.2.2.2.2.2.1
theorem dX4_dropFrom_8 : decode cX4_dropFrom 8 = .ok (.iconst 1, 1) := db_dX4_dropFrom_0.2.2.2.2.2.2.1
theorem dX4_dropFrom_9 : decode cX4_dropFrom 9 = .ok (.isub, 1) := db_dX4_dropFrom_0.2.2.2.2.2.2.2
theorem db_dX4_dropFrom_10 : decode cX4_dropFrom 10 = .ok (.invokevirtual 22, 3) ∧ decode cX4_dropFrom 13 = .ok (.iconst 1, 1) ∧ decode cX4_dropFrom 14 = .ok (.iadd, 1) ∧ decode cX4_dropFrom 15 = .ok (.putfield 18, 3) ∧ decode cX4_dropFrom 18 = .ok (.iload_n 2, 1) ∧ decode cX4_dropFrom 19 = .ok (.aload_n 0, 1) ∧ decode cX4_dropFrom 20 = .ok (.getfield 18, 3) ∧ decode cX4_dropFrom 23 = .ok (.isub, 1) := by decide +kernel
theorem dX4_dropFrom_10 : decode cX4_dropFrom 10 = .ok (.invokevirtual 22, 3) := db_dX4_dropFrom_10.1
theorem dX4_dropFrom_13 : decode cX4_dropFrom 13 = .ok (.iconst 1, 1) := db_dX4_dropFrom_10.2.1
theorem dX4_dropFrom_14 : decode cX4_dropFrom 14 = .ok (.iadd, 1) := db_dX4_dropFrom_10.2.2.1
theorem dX4_dropFrom_15 : decode cX4_dropFrom 15 = .ok (.putfield 18, 3) := db_dX4_dropFrom_10.2.2.2.1
theorem dX4_dropFrom_18 : decode cX4_dropFrom 18 = .ok (.iload_n 2, 1) := db_dX4_dropFrom_10.2.2.2.2.1
theorem dX4_dropFrom_19 : decode cX4_dropFrom 19 = .ok (.aload_n 0, 1) := db_dX4_dropFrom_10.2.2.2.2.2.1
theorem dX4_dropFrom_20 : decode cX4_dropFrom 20 = .ok (.getfield 18, 3) := db_dX4_dropFrom_10.2.2.2.2.2.2.1
theorem dX4_dropFrom_23 : decode cX4_dropFrom 23 = .ok (.isub, 1) := db_dX4_dropFrom_10.2.2.2.2.2.2.2
theorem dX4_dropFrom_24 : decode cX4_dropFrom 24 = .ok (.ireturn, 1) := by decide +kernel
theorem db_dX4_lastTick_0 : decode cX4_lastTick 0 = .ok (.aload_n 0, 1) ∧ decode cX4_lastTick 1 = .ok (.aload_n 0, 1) ∧ decode cX4_lastTick 2 = .ok (.getfield 18, 3) ∧ decode cX4_lastTick 5 = .ok (.iconst 1, 1) ∧ decode cX4_lastTick 6 = .ok (.isub, 1) ∧ decode cX4_lastTick 7 = .ok (.invokevirtual 26, 3) ∧ decode cX4_lastTick 10 = .ok (.ireturn, 1) := by decide +kernel
theorem dX4_lastTick_0 : decode cX4_lastTick 0 = .ok (.aload_n 0, 1) := db_dX4_lastTick_0.1
theorem dX4_lastTick_1 : decode cX4_lastTick 1 = .ok (.aload_n 0, 1) := db_dX4_lastTick_0.2.1
theorem dX4_lastTick_2 : decode cX4_lastTick 2 = .ok (.getfield 18, 3) := db_dX4_lastTick_0.2.2.1
theorem dX4_lastTick_5 : decode cX4_lastTick 5 = .ok (.iconst 1, 1) := db_dX4_lastTick_0.2.2.2.1
theorem dX4_lastTick_6 : decode cX4_lastTick 6 = .ok (.isub, 1) := db_dX4_lastTick_0.2.2.2.2.1
theorem dX4_lastTick_7 : decode cX4_lastTick 7 = .ok (.invokevirtual 26, 3) := db_dX4_lastTick_0.2.2.2.2.2.1
theorem dX4_lastTick_10 : decode cX4_lastTick 10 = .ok (.ireturn, 1) := db_dX4_lastTick_0.2.2.2.2.2.2
theorem db_dX4_tickOf_0 : decode cX4_tickOf 0 = .ok (.iload_n 1, 1) ∧ decode cX4_tickOf 1 = .ok (.ifCond .ge 5, 3) ∧ decode cX4_tickOf 4 = .ok (.iconst (-1), 1) ∧ decode cX4_tickOf 5 = .ok (.ireturn, 1) ∧ decode cX4_tickOf 6 = .ok (.iload_n 1, 1) ∧ decode cX4_tickOf 7 = .ok (.aload_n 0, 1) ∧ decode cX4_tickOf 8 = .ok (.getfield 18, 3) ∧ decode cX4_tickOf 11 = .ok (.if_icmp .ge 12, 3) := by decide +kernel
theorem dX4_tickOf_0 : decode cX4_tickOf 0 = .ok (.iload_n 1, 1) := db_dX4_tickOf_0.1
theorem dX4_tickOf_1 : decode cX4_tickOf 1 = .ok (.ifCond .ge 5, 3) := db_dX4_tickOf_0.2.1
theorem dX4_tickOf_4 : decode cX4_tickOf 4 = .ok (.iconst (-1), 1) := db_dX4_tickOf_0.2.2.1
theorem dX4_tickOf_5 : decode cX4_tickOf 5 = .ok (.ireturn, 1) := db_dX4_tickOf_0.2.2.2.1
theorem dX4_tickOf_6 : decode cX4_tickOf 6 = .ok (.iload_n 1, 1) := db_dX4_tickOf_0.2.2.2.2.1
theorem dX4_tickOf_7 : decode cX4_tickOf 7 = .ok (.aload_n 0, 1) := db_dX4_tickOf_0.2.2.2.2.2.1
theorem dX4_tickOf_8 : decode cX4_tickOf 8 = .ok (.getfield 18, 3) := db_dX4_tickOf_0.2.2.2.2.2.2.1
theorem dX4_tickOf_11 : decode cX4_tickOf 11 = .ok (.if_icmp .ge 12, 3) := db_dX4_tickOf_0.2.2.2.2.2.2.2
theorem db_dX4_tickOf_14 : decode cX4_tickOf 14 = .ok (.aload_n 0, 1) ∧ decode cX4_tickOf 15 = .ok (.getfield 9, 3) ∧ decode cX4_tickOf 18 = .ok (.iload_n 1, 1) ∧ decode cX4_tickOf 19 = .ok (.iaload, 1) ∧ decode cX4_tickOf 20 = .ok (.goto 5, 3) ∧ decode cX4_tickOf 23 = .ok (.ldc 29, 2) ∧ decode cX4_tickOf 25 = .ok (.ireturn, 1) := by decide +kernel
theorem dX4_tickOf_14 : decode cX4_tickOf 14 = .ok (.aload_n 0, 1) := db_dX4_tickOf_14.1
theorem dX4_tickOf_15 : decode cX4_tickOf 15 = .ok (.getfield 9, 3) := db_dX4_tickOf_14.2.1
theorem dX4_tickOf_18 : decode cX4_tickOf 18 = .ok (.iload_n 1, 1) := db_dX4_tickOf_14.2.2.1
theorem dX4_tickOf_19 : decode cX4_tickOf 19 = .ok (.iaload, 1) := db_dX4_tickOf_14.2.2.2.1
theorem dX4_tickOf_20 : decode cX4_tickOf 20 = .ok (.goto 5, 3) := db_dX4_tickOf_14.2.2.2.2.1
theorem dX4_tickOf_23 : decode cX4_tickOf 23 = .ok (.ldc 29, 2) := db_dX4_tickOf_14.2.2.2.2.2.1
theorem dX4_tickOf_25 : decode cX4_tickOf 25 = .ok (.ireturn, 1) := db_dX4_tickOf_14.2.2.2.2.2.2
theorem db_dX4_valueOf_0 : decode cX4_valueOf 0 = .ok (.iload_n 1, 1) ∧ decode cX4_valueOf 1 = .ok (.ifCond .lt 20, 3) ∧ decode cX4_valueOf 4 = .ok (.iload_n 1, 1) ∧ decode cX4_valueOf 5 = .ok (.aload_n 0, 1) ∧ decode cX4_valueOf 6 = .ok (.getfield 18, 3) ∧ decode cX4_valueOf 9 = .ok (.if_icmp .ge 12, 3) ∧ decode cX4_valueOf 12 = .ok (.aload_n 0, 1) ∧ decode cX4_valueOf 13 = .ok (.getfield 15, 3) := by decide +kernel
theorem dX4_valueOf_0 : decode cX4_valueOf 0 = .ok (.iload_n 1, 1) := db_dX4_valueOf_0.1
theorem dX4_valueOf_1 : decode cX4_valueOf 1 = .ok (.ifCond .lt 20, 3) := db_dX4_valueOf_0.2.1
theorem dX4_valueOf_4 : decode cX4_valueOf 4 = .ok (.iload_n 1, 1) := db_dX4_valueOf_0.2.2.1
theorem dX4_valueOf_5 : decode cX4_valueOf 5 = .ok (.aload_n 0, 1) := db_dX4_valueOf_0.2.2.2.1
theorem dX4_valueOf_6 : decode cX4_valueOf 6 = .ok (.getfield 18, 3) := db_dX4_valueOf_0.2.2.2.2.1
theorem dX4_valueOf_9 : decode cX4_valueOf 9 = .ok (.if_icmp .ge 12, 3) := db_dX4_valueOf_0.2.2.2.2.2.1
theorem dX4_valueOf_12 : decode cX4_valueOf 12 = .ok (.aload_n 0, 1) := db_dX4_valueOf_0.2.2.2.2.2.2.1
theorem dX4_valueOf_13 : decode cX4_valueOf 13 = .ok (.getfield 15, 3) := db_dX4_valueOf_0.2.2.2.2.2.2.2
theorem db_dX4_valueOf_16 : decode cX4_valueOf 16 = .ok (.iload_n 1, 1) ∧ decode cX4_valueOf 17 = .ok (.iaload, 1) ∧ decode cX4_valueOf 18 = .ok (.goto 6, 3) ∧ decode cX4_valueOf 21 = .ok (.sipush 256, 3) ∧ decode cX4_valueOf 24 = .ok (.ireturn, 1) := by decide +kernel
theorem dX4_valueOf_16 : decode cX4_valueOf 16 = .ok (.iload_n 1, 1) := db_dX4_valueOf_16.1
theorem dX4_valueOf_17 : decode cX4_valueOf 17 = .ok (.iaload, 1) := db_dX4_valueOf_16.2.1
theorem dX4_valueOf_18 : decode cX4_valueOf 18 = .ok (.goto 6, 3) := db_dX4_valueOf_16.2.2.1
theorem dX4_valueOf_21 : decode cX4_valueOf 21 = .ok (.sipush 256, 3) := db_dX4_valueOf_16.2.2.2.1
theorem dX4_valueOf_24 : decode cX4_valueOf 24 = .ok (.ireturn, 1) := db_dX4_valueOf_16.2.2.2.2
theorem db_dX4_valueAt_0 : decode cX4_valueAt 0 = .ok (.aload_n 0, 1) ∧ decode cX4_valueAt 1 = .ok (.aload_n 0, 1) ∧ decode cX4_valueAt 2 = .ok (.iload_n 1, 1) ∧ decode cX4_valueAt 3 = .ok (.invokevirtual 22, 3) ∧ decode cX4_valueAt 6 = .ok (.invokevirtual 30, 3) ∧ decode cX4_valueAt 9 = .ok (.ireturn, 1) := by decide +kernel
theorem dX4_valueAt_0 : decode cX4_valueAt 0 = .ok (.aload_n 0, 1) := db_dX4_valueAt_0.1
theorem dX4_valueAt_1 : decode cX4_valueAt 1 = .ok (.aload_n 0, 1) := db_dX4_valueAt_0.2.1
theorem dX4_valueAt_2 : decode cX4_valueAt 2 = .ok (.iload_n 1, 1) := db_dX4_valueAt_0.2.2.1
theorem dX4_valueAt_3 : decode cX4_valueAt 3 = .ok (.invokevirtual 22, 3) := db_dX4_valueAt_0.2.2.2.1
theorem dX4_valueAt_6 : decode cX4_valueAt 6 = .ok (.invokevirtual 30, 3) := db_dX4_valueAt_0.2.2.2.2.1
theorem dX4_valueAt_9 : decode cX4_valueAt 9 = .ok (.ireturn, 1) := db_dX4_valueAt_0.2.2.2.2.2
theorem db_dX4_latest_0 : decode cX4_latest 0 = .ok (.iconst 0, 1) ∧ decode cX4_latest 1 = .ok (.istore_n 2, 1) ∧ decode cX4_latest 2 = .ok (.aload_n 0, 1) ∧ decode cX4_latest 3 = .ok (.getfield 18, 3) ∧ decode cX4_latest 6 = .ok (.istore_n 3, 1) ∧ decode cX4_latest 7 = .ok (.iconst 0, 1) ∧ decode cX4_latest 8 = .ok (.istore 4, 2) ∧ decode cX4_latest 10 = .ok (.iload 4, 2) := by decide +kernel
theorem dX4_latest_0 : decode cX4_latest 0 = .ok (.iconst 0, 1) := db_dX4_latest_0.1
theorem dX4_latest_1 : decode cX4_latest 1 = .ok (.istore_n 2, 1) := db_dX4_latest_0.2.1
theorem dX4_latest_2 : decode cX4_latest 2 = .ok (.aload_n 0, 1) := db_dX4_latest_0.2.2.1
theorem dX4_latest_3 : decode cX4_latest 3 = .ok (.getfield 18, 3) := db_dX4_latest_0.2.2.2.1
theorem dX4_latest_6 : decode cX4_latest 6 = .ok (.istore_n 3, 1) := db_dX4_latest_0.2.2.2.2.1
theorem dX4_latest_7 : decode cX4_latest 7 = .ok (.iconst 0, 1) := db_dX4_latest_0.2.2.2.2.2.1
theorem dX4_latest_8 : decode cX4_latest 8 = .ok (.istore 4, 2) := db_dX4_latest_0.2.2.2.2.2.2.1
theorem dX4_latest_10 : decode cX4_latest 10 = .ok (.iload 4, 2) := db_dX4_latest_0.2.2.2.2.2.2.2
theorem db_dX4_latest_12 : decode cX4_latest 12 = .ok (.bipush 50, 2) ∧ decode cX4_latest 14 = .ok (.if_icmp .gt 42, 3) ∧ decode cX4_latest 17 = .ok (.iload_n 2, 1) ∧ decode cX4_latest 18 = .ok (.iload_n 3, 1) ∧ decode cX4_latest 19 = .ok (.if_icmp .ge 37, 3) ∧ decode cX4_latest 22 = .ok (.iload_n 2, 1) ∧ decode cX4_latest 23 = .ok (.iload_n 3, 1) ∧ decode cX4_latest 24 = .ok (.iadd, 1) := by decide +kernel
theorem dX4_latest_12 : decode cX4_latest 12 = .ok (.bipush 50, 2) := db_dX4_latest_12.1
theorem dX4_latest_14 : decode cX4_latest 14 = .ok (.if_icmp .gt 42, 3) := db_dX4_latest_12.2.1
theorem dX4_latest_17 : decode cX4_latest 17 = .ok (.iload_n 2, 1) := db_dX4_latest_12.2.2.1
theorem dX4_latest_18 : decode cX4_latest 18 = .ok (.iload_n 3, 1) := db_dX4_latest_12.2.2.2.1
theorem dX4_latest_19 : decode cX4_latest 19 = .ok (.if_icmp .ge 37, 3) := db_dX4_latest_12.2.2.2.2.1
theorem dX4_latest_22 : decode cX4_latest 22 = .ok (.iload_n 2, 1) := db_dX4_latest_12.2.2.2.2.2.1
theorem dX4_latest_23 : decode cX4_latest 23 = .ok (.iload_n 3, 1) := db_dX4_latest_12.2.2.2.2.2.2.1
theorem dX4_latest_24 : decode cX4_latest 24 = .ok (.iadd, 1) := db_dX4_latest_12.2.2.2.2.2.2.2
theorem db_dX4_latest_25 : decode cX4_latest 25 = .ok (.iconst 2, 1) ∧ decode cX4_latest 26 = .ok (.idiv, 1) ∧ decode cX4_latest 27 = .ok (.istore 5, 2) ∧ decode cX4_latest 29 = .ok (.aload_n 0, 1) ∧ decode cX4_latest 30 = .ok (.iload 5, 2) ∧ decode cX4_latest 32 = .ok (.invokevirtual 26, 3) ∧ decode cX4_latest 35 = .ok (.iload_n 1, 1) ∧ decode cX4_latest 36 = .ok (.if_icmp .gt 11, 3) := by decide +kernel
theorem dX4_latest_25 : decode cX4_latest 25 = .ok (.iconst 2, 1) := db_dX4_latest_25.1
theorem dX4_latest_26 : decode cX4_latest 26 = .ok (.idiv, 1) := db_dX4_latest_25.2.1
theorem dX4_latest_27 : decode cX4_latest 27 = .ok (.istore 5, 2) := db_dX4_latest_25.2.2.1
theorem dX4_latest_29 : decode cX4_latest 29 = .ok (.aload_n 0, 1) := db_dX4_latest_25.2.2.2.1
theorem dX4_latest_30 : decode cX4_latest 30 = .ok (.iload 5, 2) := db_dX4_latest_25.2.2.2.2.1
theorem dX4_latest_32 : decode cX4_latest 32 = .ok (.invokevirtual 26, 3) := db_dX4_latest_25.2.2.2.2.2.1
theorem dX4_latest_35 : decode cX4_latest 35 = .ok (.iload_n 1, 1) := db_dX4_latest_25.2.2.2.2.2.2.1
theorem dX4_latest_36 : decode cX4_latest 36 = .ok (.if_icmp .gt 11, 3) := db_dX4_latest_25.2.2.2.2.2.2.2
theorem db_dX4_latest_39 : decode cX4_latest 39 = .ok (.iload 5, 2) ∧ decode cX4_latest 41 = .ok (.iconst 1, 1) ∧ decode cX4_latest 42 = .ok (.iadd, 1) ∧ decode cX4_latest 43 = .ok (.istore_n 2, 1) ∧ decode cX4_latest 44 = .ok (.goto 6, 3) ∧ decode cX4_latest 47 = .ok (.iload 5, 2) ∧ decode cX4_latest 49 = .ok (.istore_n 3, 1) ∧ decode cX4_latest 50 = .ok (.iinc 4 1, 3) := by decide +kernel
theorem dX4_latest_39 : decode cX4_latest 39 = .ok (.iload 5, 2) := db_dX4_latest_39.1
theorem dX4_latest_41 : decode cX4_latest 41 = .ok (.iconst 1, 1) := db_dX4_latest_39.2.1
theorem dX4_latest_42 : decode cX4_latest 42 = .ok (.iadd, 1) := db_dX4_latest_39.2.2.1
theorem dX4_latest_43 : decode cX4_latest 43 = .ok (.istore_n 2, 1) := db_dX4_latest_39.2.2.2.1
theorem dX4_latest_44 : decode cX4_latest 44 = .ok (.goto 6, 3) := db_dX4_latest_39.2.2.2.2.1
theorem dX4_latest_47 : decode cX4_latest 47 = .ok (.iload 5, 2) := db_dX4_latest_39.2.2.2.2.2.1
theorem dX4_latest_49 : decode cX4_latest 49 = .ok (.istore_n 3, 1) := db_dX4_latest_39.2.2.2.2.2.2.1
theorem dX4_latest_50 : decode cX4_latest 50 = .ok (.iinc 4 1, 3) := db_dX4_latest_39.2.2.2.2.2.2.2
theorem db_dX4_latest_53 : decode cX4_latest 53 = .ok (.goto (-43), 3) ∧ decode cX4_latest 56 = .ok (.iload_n 2, 1) ∧ decode cX4_latest 57 = .ok (.iconst 1, 1) ∧ decode cX4_latest 58 = .ok (.isub, 1) ∧ decode cX4_latest 59 = .ok (.ireturn, 1) := by decide +kernel
theorem dX4_latest_53 : decode cX4_latest 53 = .ok (.goto (-43), 3) := db_dX4_latest_53.1
theorem dX4_latest_56 : decode cX4_latest 56 = .ok (.iload_n 2, 1) := db_dX4_latest_53.2.1
theorem dX4_latest_57 : decode cX4_latest 57 = .ok (.iconst 1, 1) := db_dX4_latest_53.2.2.1
theorem dX4_latest_58 : decode cX4_latest 58 = .ok (.isub, 1) := db_dX4_latest_53.2.2.2.1
theorem dX4_latest_59 : decode cX4_latest 59 = .ok (.ireturn, 1) := db_dX4_latest_53.2.2.2.2
theorem db_dX4_isEdge_0 : decode cX4_isEdge 0 = .ok (.aload_n 0, 1) ∧ decode cX4_isEdge 1 = .ok (.iload_n 1, 1) ∧ decode cX4_isEdge 2 = .ok (.invokevirtual 26, 3) ∧ decode cX4_isEdge 5 = .ok (.ifCond .le 27, 3) ∧ decode cX4_isEdge 8 = .ok (.aload_n 0, 1) ∧ decode cX4_isEdge 9 = .ok (.iload_n 1, 1) ∧ decode cX4_isEdge 10 = .ok (.invokevirtual 30, 3) ∧ decode cX4_isEdge 13 = .ok (.iconst 1, 1) := by decide +kernel
theorem dX4_isEdge_0 : decode cX4_isEdge 0 = .ok (.aload_n 0, 1) := db_dX4_isEdge_0.1
theorem dX4_isEdge_1 : decode cX4_isEdge 1 = .ok (.iload_n 1, 1) := db_dX4_isEdge_0.2.1
theorem dX4_isEdge_2 : decode cX4_isEdge 2 = .ok (.invokevirtual 26, 3) := db_dX4_isEdge_0.2.2.1
theorem dX4_isEdge_5 : decode cX4_isEdge 5 = .ok (.ifCond .le 27, 3) := db_dX4_isEdge_0.2.2.2.1
theorem dX4_isEdge_8 : decode cX4_isEdge 8 = .ok (.aload_n 0, 1) := db_dX4_isEdge_0.2.2.2.2.1
theorem dX4_isEdge_9 : decode cX4_isEdge 9 = .ok (.iload_n 1, 1) := db_dX4_isEdge_0.2.2.2.2.2.1
theorem dX4_isEdge_10 : decode cX4_isEdge 10 = .ok (.invokevirtual 30, 3) := db_dX4_isEdge_0.2.2.2.2.2.2.1
theorem dX4_isEdge_13 : decode cX4_isEdge 13 = .ok (.iconst 1, 1) := db_dX4_isEdge_0.2.2.2.2.2.2.2
theorem db_dX4_isEdge_14 : decode cX4_isEdge 14 = .ok (.if_icmp .ne 18, 3) ∧ decode cX4_isEdge 17 = .ok (.aload_n 0, 1) ∧ decode cX4_isEdge 18 = .ok (.iload_n 1, 1) ∧ decode cX4_isEdge 19 = .ok (.iconst 1, 1) ∧ decode cX4_isEdge 20 = .ok (.isub, 1) ∧ decode cX4_isEdge 21 = .ok (.invokevirtual 30, 3) ∧ decode cX4_isEdge 24 = .ok (.iconst 1, 1) ∧ decode cX4_isEdge 25 = .ok (.if_icmp .eq 7, 3) := by decide +kernel
theorem dX4_isEdge_14 : decode cX4_isEdge 14 = .ok (.if_icmp .ne 18, 3) := db_dX4_isEdge_14.1
theorem dX4_isEdge_17 : decode cX4_isEdge 17 = .ok (.aload_n 0, 1) := db_dX4_isEdge_14.2.1
theorem dX4_isEdge_18 : decode cX4_isEdge 18 = .ok (.iload_n 1, 1) := db_dX4_isEdge_14.2.2.1
theorem dX4_isEdge_19 : decode cX4_isEdge 19 = .ok (.iconst 1, 1) := db_dX4_isEdge_14.2.2.2.1
theorem dX4_isEdge_20 : decode cX4_isEdge 20 = .ok (.isub, 1) := db_dX4_isEdge_14.2.2.2.2.1
theorem dX4_isEdge_21 : decode cX4_isEdge 21 = .ok (.invokevirtual 30, 3) := db_dX4_isEdge_14.2.2.2.2.2.1
theorem dX4_isEdge_24 : decode cX4_isEdge 24 = .ok (.iconst 1, 1) := db_dX4_isEdge_14.2.2.2.2.2.2.1
theorem dX4_isEdge_25 : decode cX4_isEdge 25 = .ok (.if_icmp .eq 7, 3) := db_dX4_isEdge_14.2.2.2.2.2.2.2
theorem db_dX4_isEdge_28 : decode cX4_isEdge 28 = .ok (.iconst 1, 1) ∧ decode cX4_isEdge 29 = .ok (.goto 4, 3) ∧ decode cX4_isEdge 32 = .ok (.iconst 0, 1) ∧ decode cX4_isEdge 33 = .ok (.ireturn, 1) := by decide +kernel
theorem dX4_isEdge_28 : decode cX4_isEdge 28 = .ok (.iconst 1, 1) := db_dX4_isEdge_28.1
theorem dX4_isEdge_29 : decode cX4_isEdge 29 = .ok (.goto 4, 3) := db_dX4_isEdge_28.2.1
theorem dX4_isEdge_32 : decode cX4_isEdge 32 = .ok (.iconst 0, 1) := db_dX4_isEdge_28.2.2.1
theorem dX4_isEdge_33 : decode cX4_isEdge 33 = .ok (.ireturn, 1) := db_dX4_isEdge_28.2.2.2
theorem db_dX4_nextEdge_0 : decode cX4_nextEdge 0 = .ok (.aload_n 0, 1) ∧ decode cX4_nextEdge 1 = .ok (.iload_n 1, 1) ∧ decode cX4_nextEdge 2 = .ok (.invokevirtual 22, 3) ∧ decode cX4_nextEdge 5 = .ok (.iconst 1, 1) ∧ decode cX4_nextEdge 6 = .ok (.iadd, 1) ∧ decode cX4_nextEdge 7 = .ok (.istore_n 3, 1) ∧ decode cX4_nextEdge 8 = .ok (.iload_n 3, 1) ∧ decode cX4_nextEdge 9 = .ok (.aload_n 0, 1) := by decide +kernel
theorem dX4_nextEdge_0 : decode cX4_nextEdge 0 = .ok (.aload_n 0, 1) := db_dX4_nextEdge_0.1
theorem dX4_nextEdge_1 : decode cX4_nextEdge 1 = .ok (.iload_n 1, 1) := db_dX4_nextEdge_0.2.1
theorem dX4_nextEdge_2 : decode cX4_nextEdge 2 = .ok (.invokevirtual 22, 3) := db_dX4_nextEdge_0.2.2.1
theorem dX4_nextEdge_5 : decode cX4_nextEdge 5 = .ok (.iconst 1, 1) := db_dX4_nextEdge_0.2.2.2.1
theorem dX4_nextEdge_6 : decode cX4_nextEdge 6 = .ok (.iadd, 1) := db_dX4_nextEdge_0.2.2.2.2.1
theorem dX4_nextEdge_7 : decode cX4_nextEdge 7 = .ok (.istore_n 3, 1) := db_dX4_nextEdge_0.2.2.2.2.2.1
theorem dX4_nextEdge_8 : decode cX4_nextEdge 8 = .ok (.iload_n 3, 1) := db_dX4_nextEdge_0.2.2.2.2.2.2.1
theorem dX4_nextEdge_9 : decode cX4_nextEdge 9 = .ok (.aload_n 0, 1) := db_dX4_nextEdge_0.2.2.2.2.2.2.2
theorem db_dX4_nextEdge_10 : decode cX4_nextEdge 10 = .ok (.getfield 18, 3) ∧ decode cX4_nextEdge 13 = .ok (.if_icmp .ge 32, 3) ∧ decode cX4_nextEdge 16 = .ok (.aload_n 0, 1) ∧ decode cX4_nextEdge 17 = .ok (.iload_n 3, 1) ∧ decode cX4_nextEdge 18 = .ok (.invokevirtual 26, 3) ∧ decode cX4_nextEdge 21 = .ok (.iload_n 2, 1) ∧ decode cX4_nextEdge 22 = .ok (.if_icmp .ge 23, 3) ∧ decode cX4_nextEdge 25 = .ok (.aload_n 0, 1) := by decide +kernel
theorem dX4_nextEdge_10 : decode cX4_nextEdge 10 = .ok (.getfield 18, 3) := db_dX4_nextEdge_10.1
theorem dX4_nextEdge_13 : decode cX4_nextEdge 13 = .ok (.if_icmp .ge 32, 3) := db_dX4_nextEdge_10.2.1
theorem dX4_nextEdge_16 : decode cX4_nextEdge 16 = .ok (.aload_n 0, 1) := db_dX4_nextEdge_10.2.2.1
theorem dX4_nextEdge_17 : decode cX4_nextEdge 17 = .ok (.iload_n 3, 1) := db_dX4_nextEdge_10.2.2.2.1
theorem dX4_nextEdge_18 : decode cX4_nextEdge 18 = .ok (.invokevirtual 26, 3) := db_dX4_nextEdge_10.2.2.2.2.1
theorem dX4_nextEdge_21 : decode cX4_nextEdge 21 = .ok (.iload_n 2, 1) := db_dX4_nextEdge_10.2.2.2.2.2.1
theorem dX4_nextEdge_22 : decode cX4_nextEdge 22 = .ok (.if_icmp .ge 23, 3) := db_dX4_nextEdge_10.2.2.2.2.2.2.1
theorem dX4_nextEdge_25 : decode cX4_nextEdge 25 = .ok (.aload_n 0, 1) := db_dX4_nextEdge_10.2.2.2.2.2.2.2
theorem db_dX4_nextEdge_26 : decode cX4_nextEdge 26 = .ok (.iload_n 3, 1) ∧ decode cX4_nextEdge 27 = .ok (.invokevirtual 33, 3) ∧ decode cX4_nextEdge 30 = .ok (.ifCond .eq 9, 3) ∧ decode cX4_nextEdge 33 = .ok (.aload_n 0, 1) ∧ decode cX4_nextEdge 34 = .ok (.iload_n 3, 1) ∧ decode cX4_nextEdge 35 = .ok (.invokevirtual 26, 3) ∧ decode cX4_nextEdge 38 = .ok (.ireturn, 1) ∧ decode cX4_nextEdge 39 = .ok (.iinc 3 1, 3) := by decide +kernel
theorem dX4_nextEdge_26 : decode cX4_nextEdge 26 = .ok (.iload_n 3, 1) := db_dX4_nextEdge_26.1
theorem dX4_nextEdge_27 : decode cX4_nextEdge 27 = .ok (.invokevirtual 33, 3) := db_dX4_nextEdge_26.2.1
theorem dX4_nextEdge_30 : decode cX4_nextEdge 30 = .ok (.ifCond .eq 9, 3) := db_dX4_nextEdge_26.2.2.1
theorem dX4_nextEdge_33 : decode cX4_nextEdge 33 = .ok (.aload_n 0, 1) := db_dX4_nextEdge_26.2.2.2.1
theorem dX4_nextEdge_34 : decode cX4_nextEdge 34 = .ok (.iload_n 3, 1) := db_dX4_nextEdge_26.2.2.2.2.1
theorem dX4_nextEdge_35 : decode cX4_nextEdge 35 = .ok (.invokevirtual 26, 3) := db_dX4_nextEdge_26.2.2.2.2.2.1
theorem dX4_nextEdge_38 : decode cX4_nextEdge 38 = .ok (.ireturn, 1) := db_dX4_nextEdge_26.2.2.2.2.2.2.1
theorem dX4_nextEdge_39 : decode cX4_nextEdge 39 = .ok (.iinc 3 1, 3) := db_dX4_nextEdge_26.2.2.2.2.2.2.2
theorem db_dX4_nextEdge_42 : decode cX4_nextEdge 42 = .ok (.goto (-34), 3) ∧ decode cX4_nextEdge 45 = .ok (.bipush (-4), 2) ∧ decode cX4_nextEdge 47 = .ok (.ireturn, 1) := by decide +kernel
theorem dX4_nextEdge_42 : decode cX4_nextEdge 42 = .ok (.goto (-34), 3) := db_dX4_nextEdge_42.1
theorem dX4_nextEdge_45 : decode cX4_nextEdge 45 = .ok (.bipush (-4), 2) := db_dX4_nextEdge_42.2.1
theorem dX4_nextEdge_47 : decode cX4_nextEdge 47 = .ok (.ireturn, 1) := db_dX4_nextEdge_42.2.2
theorem db_dX4_latestEdge_0 : decode cX4_latestEdge 0 = .ok (.aload_n 0, 1) ∧ decode cX4_latestEdge 1 = .ok (.iload_n 1, 1) ∧ decode cX4_latestEdge 2 = .ok (.invokevirtual 22, 3) ∧ decode cX4_latestEdge 5 = .ok (.istore_n 2, 1) ∧ decode cX4_latestEdge 6 = .ok (.iload_n 2, 1) ∧ decode cX4_latestEdge 7 = .ok (.ifCond .lt 23, 3) ∧ decode cX4_latestEdge 10 = .ok (.aload_n 0, 1) ∧ decode cX4_latestEdge 11 = .ok (.iload_n 2, 1) := by decide +kernel
theorem dX4_latestEdge_0 : decode cX4_latestEdge 0 = .ok (.aload_n 0, 1) := db_dX4_latestEdge_0.1
theorem dX4_latestEdge_1 : decode cX4_latestEdge 1 = .ok (.iload_n 1, 1) := db_dX4_latestEdge_0.2.1
theorem dX4_latestEdge_2 : decode cX4_latestEdge 2 = .ok (.invokevirtual 22, 3) := db_dX4_latestEdge_0.2.2.1
theorem dX4_latestEdge_5 : decode cX4_latestEdge 5 = .ok (.istore_n 2, 1) := db_dX4_latestEdge_0.2.2.2.1
theorem dX4_latestEdge_6 : decode cX4_latestEdge 6 = .ok (.iload_n 2, 1) := db_dX4_latestEdge_0.2.2.2.2.1
theorem dX4_latestEdge_7 : decode cX4_latestEdge 7 = .ok (.ifCond .lt 23, 3) := db_dX4_latestEdge_0.2.2.2.2.2.1
theorem dX4_latestEdge_10 : decode cX4_latestEdge 10 = .ok (.aload_n 0, 1) := db_dX4_latestEdge_0.2.2.2.2.2.2.1
theorem dX4_latestEdge_11 : decode cX4_latestEdge 11 = .ok (.iload_n 2, 1) := db_dX4_latestEdge_0.2.2.2.2.2.2.2
theorem db_dX4_latestEdge_12 : decode cX4_latestEdge 12 = .ok (.invokevirtual 33, 3) ∧ decode cX4_latestEdge 15 = .ok (.ifCond .eq 9, 3) ∧ decode cX4_latestEdge 18 = .ok (.aload_n 0, 1) ∧ decode cX4_latestEdge 19 = .ok (.iload_n 2, 1) ∧ decode cX4_latestEdge 20 = .ok (.invokevirtual 26, 3) ∧ decode cX4_latestEdge 23 = .ok (.ireturn, 1) ∧ decode cX4_latestEdge 24 = .ok (.iinc 2 (-1), 3) ∧ decode cX4_latestEdge 27 = .ok (.goto (-21), 3) := by decide +kernel
theorem dX4_latestEdge_12 : decode cX4_latestEdge 12 = .ok (.invokevirtual 33, 3) := db_dX4_latestEdge_12.1
theorem dX4_latestEdge_15 : decode cX4_latestEdge 15 = .ok (.ifCond .eq 9, 3) := db_dX4_latestEdge_12.2.1
theorem dX4_latestEdge_18 : decode cX4_latestEdge 18 = .ok (.aload_n 0, 1) := db_dX4_latestEdge_12.2.2.1
theorem dX4_latestEdge_19 : decode cX4_latestEdge 19 = .ok (.iload_n 2, 1) := db_dX4_latestEdge_12.2.2.2.1
theorem dX4_latestEdge_20 : decode cX4_latestEdge 20 = .ok (.invokevirtual 26, 3) := db_dX4_latestEdge_12.2.2.2.2.1
theorem dX4_latestEdge_23 : decode cX4_latestEdge 23 = .ok (.ireturn, 1) := db_dX4_latestEdge_12.2.2.2.2.2.1
theorem dX4_latestEdge_24 : decode cX4_latestEdge 24 = .ok (.iinc 2 (-1), 3) := db_dX4_latestEdge_12.2.2.2.2.2.2.1
theorem dX4_latestEdge_27 : decode cX4_latestEdge 27 = .ok (.goto (-21), 3) := db_dX4_latestEdge_12.2.2.2.2.2.2.2
theorem db_dX4_latestEdge_30 : decode cX4_latestEdge 30 = .ok (.bipush (-4), 2) ∧ decode cX4_latestEdge 32 = .ok (.ireturn, 1) := by decide +kernel
theorem dX4_latestEdge_30 : decode cX4_latestEdge 30 = .ok (.bipush (-4), 2) := db_dX4_latestEdge_30.1
theorem dX4_latestEdge_32 : decode cX4_latestEdge 32 = .ok (.ireturn, 1) := db_dX4_latestEdge_30.2
theorem db_dX4_turns_0 : decode cX4_turns 0 = .ok (.iconst 0, 1) ∧ decode cX4_turns 1 = .ok (.istore_n 3, 1) ∧ decode cX4_turns 2 = .ok (.aload_n 0, 1) ∧ decode cX4_turns 3 = .ok (.iload_n 1, 1) ∧ decode cX4_turns 4 = .ok (.iconst 1, 1) ∧ decode cX4_turns 5 = .ok (.isub, 1) ∧ decode cX4_turns 6 = .ok (.invokevirtual 22, 3) ∧ decode cX4_turns 9 = .ok (.iconst 1, 1) := by decide +kernel
theorem dX4_turns_0 : decode cX4_turns 0 = .ok (.iconst 0, 1) := db_dX4_turns_0.1
theorem dX4_turns_1 : decode cX4_turns 1 = .ok (.istore_n 3, 1) := db_dX4_turns_0.2.1
theorem dX4_turns_2 : decode cX4_turns 2 = .ok (.aload_n 0, 1) := db_dX4_turns_0.2.2.1
theorem dX4_turns_3 : decode cX4_turns 3 = .ok (.iload_n 1, 1) := db_dX4_turns_0.2.2.2.1
theorem dX4_turns_4 : decode cX4_turns 4 = .ok (.iconst 1, 1) := db_dX4_turns_0.2.2.2.2.1
theorem dX4_turns_5 : decode cX4_turns 5 = .ok (.isub, 1) := db_dX4_turns_0.2.2.2.2.2.1
theorem dX4_turns_6 : decode cX4_turns 6 = .ok (.invokevirtual 22, 3) := db_dX4_turns_0.2.2.2.2.2.2.1
theorem dX4_turns_9 : decode cX4_turns 9 = .ok (.iconst 1, 1) := db_dX4_turns_0.2.2.2.2.2.2.2
theorem db_dX4_turns_10 : decode cX4_turns 10 = .ok (.iadd, 1) ∧ decode cX4_turns 11 = .ok (.istore 4, 2) ∧ decode cX4_turns 13 = .ok (.iload 4, 2) ∧ decode cX4_turns 15 = .ok (.aload_n 0, 1) ∧ decode cX4_turns 16 = .ok (.getfield 18, 3) ∧ decode cX4_turns 19 = .ok (.if_icmp .ge 44, 3) ∧ decode cX4_turns 22 = .ok (.aload_n 0, 1) ∧ decode cX4_turns 23 = .ok (.iload 4, 2) := by decide +kernel
theorem dX4_turns_10 : decode cX4_turns 10 = .ok (.iadd, 1) := db_dX4_turns_10.1
theorem dX4_turns_11 : decode cX4_turns 11 = .ok (.istore 4, 2) := db_dX4_turns_10.2.1
theorem dX4_turns_13 : decode cX4_turns 13 = .ok (.iload 4, 2) := db_dX4_turns_10.2.2.1
theorem dX4_turns_15 : decode cX4_turns 15 = .ok (.aload_n 0, 1) := db_dX4_turns_10.2.2.2.1
theorem dX4_turns_16 : decode cX4_turns 16 = .ok (.getfield 18, 3) := db_dX4_turns_10.2.2.2.2.1
theorem dX4_turns_19 : decode cX4_turns 19 = .ok (.if_icmp .ge 44, 3) := db_dX4_turns_10.2.2.2.2.2.1
theorem dX4_turns_22 : decode cX4_turns 22 = .ok (.aload_n 0, 1) := db_dX4_turns_10.2.2.2.2.2.2.1
theorem dX4_turns_23 : decode cX4_turns 23 = .ok (.iload 4, 2) := db_dX4_turns_10.2.2.2.2.2.2.2
theorem db_dX4_turns_25 : decode cX4_turns 25 = .ok (.invokevirtual 26, 3) ∧ decode cX4_turns 28 = .ok (.iload_n 2, 1) ∧ decode cX4_turns 29 = .ok (.if_icmp .ge 34, 3) ∧ decode cX4_turns 32 = .ok (.iload_n 3, 1) ∧ decode cX4_turns 33 = .ok (.aload_n 0, 1) ∧ decode cX4_turns 34 = .ok (.iload 4, 2) ∧ decode cX4_turns 36 = .ok (.invokevirtual 30, 3) ∧ decode cX4_turns 39 = .ok (.aload_n 0, 1) := by decide +kernel
theorem dX4_turns_25 : decode cX4_turns 25 = .ok (.invokevirtual 26, 3) := db_dX4_turns_25.1
theorem dX4_turns_28 : decode cX4_turns 28 = .ok (.iload_n 2, 1) := db_dX4_turns_25.2.1
theorem dX4_turns_29 : decode cX4_turns 29 = .ok (.if_icmp .ge 34, 3) := db_dX4_turns_25.2.2.1
theorem dX4_turns_32 : decode cX4_turns 32 = .ok (.iload_n 3, 1) := db_dX4_turns_25.2.2.2.1
theorem dX4_turns_33 : decode cX4_turns 33 = .ok (.aload_n 0, 1) := db_dX4_turns_25.2.2.2.2.1
theorem dX4_turns_34 : decode cX4_turns 34 = .ok (.iload 4, 2) := db_dX4_turns_25.2.2.2.2.2.1
theorem dX4_turns_36 : decode cX4_turns 36 = .ok (.invokevirtual 30, 3) := db_dX4_turns_25.2.2.2.2.2.2.1
theorem dX4_turns_39 : decode cX4_turns 39 = .ok (.aload_n 0, 1) := db_dX4_turns_25.2.2.2.2.2.2.2
theorem db_dX4_turns_40 : decode cX4_turns 40 = .ok (.iload 4, 2) ∧ decode cX4_turns 42 = .ok (.iconst 1, 1) ∧ decode cX4_turns 43 = .ok (.isub, 1) ∧ decode cX4_turns 44 = .ok (.invokevirtual 30, 3) ∧ decode cX4_turns 47 = .ok (.if_icmp .eq 7, 3) ∧ decode cX4_turns 50 = .ok (.iconst 1, 1) ∧ decode cX4_turns 51 = .ok (.goto 4, 3) ∧ decode cX4_turns 54 = .ok (.iconst 0, 1) := by decide +kernel
theorem dX4_turns_40 : decode cX4_turns 40 = .ok (.iload 4, 2) := db_dX4_turns_40.1
theorem dX4_turns_42 : decode cX4_turns 42 = .ok (.iconst 1, 1) := db_dX4_turns_40.2.1
theorem dX4_turns_43 : decode cX4_turns 43 = .ok (.isub, 1) := db_dX4_turns_40.2.2.1
theorem dX4_turns_44 : decode cX4_turns 44 = .ok (.invokevirtual 30, 3) := db_dX4_turns_40.2.2.2.1
theorem dX4_turns_47 : decode cX4_turns 47 = .ok (.if_icmp .eq 7, 3) := db_dX4_turns_40.2.2.2.2.1
theorem dX4_turns_50 : decode cX4_turns 50 = .ok (.iconst 1, 1) := db_dX4_turns_40.2.2.2.2.2.1
theorem dX4_turns_51 : decode cX4_turns 51 = .ok (.goto 4, 3) := db_dX4_turns_40.2.2.2.2.2.2.1
theorem dX4_turns_54 : decode cX4_turns 54 = .ok (.iconst 0, 1) := db_dX4_turns_40.2.2.2.2.2.2.2
theorem db_dX4_turns_55 : decode cX4_turns 55 = .ok (.iadd, 1) ∧ decode cX4_turns 56 = .ok (.istore_n 3, 1) ∧ decode cX4_turns 57 = .ok (.iinc 4 1, 3) ∧ decode cX4_turns 60 = .ok (.goto (-47), 3) ∧ decode cX4_turns 63 = .ok (.iload_n 3, 1) ∧ decode cX4_turns 64 = .ok (.ireturn, 1) := by decide +kernel
theorem dX4_turns_55 : decode cX4_turns 55 = .ok (.iadd, 1) := db_dX4_turns_55.1
theorem dX4_turns_56 : decode cX4_turns 56 = .ok (.istore_n 3, 1) := db_dX4_turns_55.2.1
theorem dX4_turns_57 : decode cX4_turns 57 = .ok (.iinc 4 1, 3) := db_dX4_turns_55.2.2.1
theorem dX4_turns_60 : decode cX4_turns 60 = .ok (.goto (-47), 3) := db_dX4_turns_55.2.2.2.1
theorem dX4_turns_63 : decode cX4_turns 63 = .ok (.iload_n 3, 1) := db_dX4_turns_55.2.2.2.2.1
theorem dX4_turns_64 : decode cX4_turns 64 = .ok (.ireturn, 1) := db_dX4_turns_55.2.2.2.2.2
theorem db_dX4_ticksNotKnown_0 : decode cX4_ticksNotKnown 0 = .ok (.iconst 0, 1) ∧ decode cX4_ticksNotKnown 1 = .ok (.istore_n 3, 1) ∧ decode cX4_ticksNotKnown 2 = .ok (.aload_n 0, 1) ∧ decode cX4_ticksNotKnown 3 = .ok (.iload_n 1, 1) ∧ decode cX4_ticksNotKnown 4 = .ok (.invokevirtual 22, 3) ∧ decode cX4_ticksNotKnown 7 = .ok (.istore 4, 2) ∧ decode cX4_ticksNotKnown 9 = .ok (.iload 4, 2) ∧ decode cX4_ticksNotKnown 11 = .ok (.aload_n 0, 1) := by decide +kernel
theorem dX4_ticksNotKnown_0 : decode cX4_ticksNotKnown 0 = .ok (.iconst 0, 1) := db_dX4_ticksNotKnown_0.1
theorem dX4_ticksNotKnown_1 : decode cX4_ticksNotKnown 1 = .ok (.istore_n 3, 1) := db_dX4_ticksNotKnown_0.2.1
theorem dX4_ticksNotKnown_2 : decode cX4_ticksNotKnown 2 = .ok (.aload_n 0, 1) := db_dX4_ticksNotKnown_0.2.2.1
theorem dX4_ticksNotKnown_3 : decode cX4_ticksNotKnown 3 = .ok (.iload_n 1, 1) := db_dX4_ticksNotKnown_0.2.2.2.1
theorem dX4_ticksNotKnown_4 : decode cX4_ticksNotKnown 4 = .ok (.invokevirtual 22, 3) := db_dX4_ticksNotKnown_0.2.2.2.2.1
theorem dX4_ticksNotKnown_7 : decode cX4_ticksNotKnown 7 = .ok (.istore 4, 2) := db_dX4_ticksNotKnown_0.2.2.2.2.2.1
theorem dX4_ticksNotKnown_9 : decode cX4_ticksNotKnown 9 = .ok (.iload 4, 2) := db_dX4_ticksNotKnown_0.2.2.2.2.2.2.1
theorem dX4_ticksNotKnown_11 : decode cX4_ticksNotKnown 11 = .ok (.aload_n 0, 1) := db_dX4_ticksNotKnown_0.2.2.2.2.2.2.2
theorem db_dX4_ticksNotKnown_12 : decode cX4_ticksNotKnown 12 = .ok (.getfield 18, 3) ∧ decode cX4_ticksNotKnown 15 = .ok (.if_icmp .ge 46, 3) ∧ decode cX4_ticksNotKnown 18 = .ok (.aload_n 0, 1) ∧ decode cX4_ticksNotKnown 19 = .ok (.iload 4, 2) ∧ decode cX4_ticksNotKnown 21 = .ok (.invokevirtual 26, 3) ∧ decode cX4_ticksNotKnown 24 = .ok (.iload_n 2, 1) ∧ decode cX4_ticksNotKnown 25 = .ok (.if_icmp .ge 36, 3) ∧ decode cX4_ticksNotKnown 28 = .ok (.iload_n 3, 1) := by decide +kernel
theorem dX4_ticksNotKnown_12 : decode cX4_ticksNotKnown 12 = .ok (.getfield 18, 3) := db_dX4_ticksNotKnown_12.1
theorem dX4_ticksNotKnown_15 : decode cX4_ticksNotKnown 15 = .ok (.if_icmp .ge 46, 3) := db_dX4_ticksNotKnown_12.2.1
theorem dX4_ticksNotKnown_18 : decode cX4_ticksNotKnown 18 = .ok (.aload_n 0, 1) := db_dX4_ticksNotKnown_12.2.2.1
theorem dX4_ticksNotKnown_19 : decode cX4_ticksNotKnown 19 = .ok (.iload 4, 2) := db_dX4_ticksNotKnown_12.2.2.2.1
theorem dX4_ticksNotKnown_21 : decode cX4_ticksNotKnown 21 = .ok (.invokevirtual 26, 3) := db_dX4_ticksNotKnown_12.2.2.2.2.1
theorem dX4_ticksNotKnown_24 : decode cX4_ticksNotKnown 24 = .ok (.iload_n 2, 1) := db_dX4_ticksNotKnown_12.2.2.2.2.2.1
theorem dX4_ticksNotKnown_25 : decode cX4_ticksNotKnown 25 = .ok (.if_icmp .ge 36, 3) := db_dX4_ticksNotKnown_12.2.2.2.2.2.2.1
theorem dX4_ticksNotKnown_28 : decode cX4_ticksNotKnown 28 = .ok (.iload_n 3, 1) := db_dX4_ticksNotKnown_12.2.2.2.2.2.2.2
theorem db_dX4_ticksNotKnown_29 : decode cX4_ticksNotKnown 29 = .ok (.aload_n 0, 1) ∧ decode cX4_ticksNotKnown 30 = .ok (.iload 4, 2) ∧ decode cX4_ticksNotKnown 32 = .ok (.invokevirtual 30, 3) ∧ decode cX4_ticksNotKnown 35 = .ok (.sipush 256, 3) ∧ decode cX4_ticksNotKnown 38 = .ok (.if_icmp .ne 14, 3) ∧ decode cX4_ticksNotKnown 41 = .ok (.aload_n 0, 1) ∧ decode cX4_ticksNotKnown 42 = .ok (.iload 4, 2) ∧ decode cX4_ticksNotKnown 44 = .ok (.iload_n 1, 1) := by decide +kernel
theorem dX4_ticksNotKnown_29 : decode cX4_ticksNotKnown 29 = .ok (.aload_n 0, 1) := db_dX4_ticksNotKnown_29.1
theorem dX4_ticksNotKnown_30 : decode cX4_ticksNotKnown 30 = .ok (.iload 4, 2) := db_dX4_ticksNotKnown_29.2.1
theorem dX4_ticksNotKnown_32 : decode cX4_ticksNotKnown 32 = .ok (.invokevirtual 30, 3) := db_dX4_ticksNotKnown_29.2.2.1
theorem dX4_ticksNotKnown_35 : decode cX4_ticksNotKnown 35 = .ok (.sipush 256, 3) := db_dX4_ticksNotKnown_29.2.2.2.1
theorem dX4_ticksNotKnown_38 : decode cX4_ticksNotKnown 38 = .ok (.if_icmp .ne 14, 3) := db_dX4_ticksNotKnown_29.2.2.2.2.1
theorem dX4_ticksNotKnown_41 : decode cX4_ticksNotKnown 41 = .ok (.aload_n 0, 1) := db_dX4_ticksNotKnown_29.2.2.2.2.2.1
theorem dX4_ticksNotKnown_42 : decode cX4_ticksNotKnown 42 = .ok (.iload 4, 2) := db_dX4_ticksNotKnown_29.2.2.2.2.2.2.1
theorem dX4_ticksNotKnown_44 : decode cX4_ticksNotKnown 44 = .ok (.iload_n 1, 1) := db_dX4_ticksNotKnown_29.2.2.2.2.2.2.2
theorem db_dX4_ticksNotKnown_45 : decode cX4_ticksNotKnown 45 = .ok (.iload_n 2, 1) ∧ decode cX4_ticksNotKnown 46 = .ok (.invokevirtual 37, 3) ∧ decode cX4_ticksNotKnown 49 = .ok (.goto 4, 3) ∧ decode cX4_ticksNotKnown 52 = .ok (.iconst 0, 1) ∧ decode cX4_ticksNotKnown 53 = .ok (.iadd, 1) ∧ decode cX4_ticksNotKnown 54 = .ok (.istore_n 3, 1) ∧ decode cX4_ticksNotKnown 55 = .ok (.iinc 4 1, 3) ∧ decode cX4_ticksNotKnown 58 = .ok (.goto (-49), 3) := by decide +kernel
theorem dX4_ticksNotKnown_45 : decode cX4_ticksNotKnown 45 = .ok (.iload_n 2, 1) := db_dX4_ticksNotKnown_45.1
theorem dX4_ticksNotKnown_46 : decode cX4_ticksNotKnown 46 = .ok (.invokevirtual 37, 3) := db_dX4_ticksNotKnown_45.2.1
theorem dX4_ticksNotKnown_49 : decode cX4_ticksNotKnown 49 = .ok (.goto 4, 3) := db_dX4_ticksNotKnown_45.2.2.1
theorem dX4_ticksNotKnown_52 : decode cX4_ticksNotKnown 52 = .ok (.iconst 0, 1) := db_dX4_ticksNotKnown_45.2.2.2.1
theorem dX4_ticksNotKnown_53 : decode cX4_ticksNotKnown 53 = .ok (.iadd, 1) := db_dX4_ticksNotKnown_45.2.2.2.2.1
theorem dX4_ticksNotKnown_54 : decode cX4_ticksNotKnown 54 = .ok (.istore_n 3, 1) := db_dX4_ticksNotKnown_45.2.2.2.2.2.1
theorem dX4_ticksNotKnown_55 : decode cX4_ticksNotKnown 55 = .ok (.iinc 4 1, 3) := db_dX4_ticksNotKnown_45.2.2.2.2.2.2.1
theorem dX4_ticksNotKnown_58 : decode cX4_ticksNotKnown 58 = .ok (.goto (-49), 3) := db_dX4_ticksNotKnown_45.2.2.2.2.2.2.2
theorem db_dX4_ticksNotKnown_61 : decode cX4_ticksNotKnown 61 = .ok (.iload_n 3, 1) ∧ decode cX4_ticksNotKnown 62 = .ok (.ireturn, 1) := by decide +kernel
theorem dX4_ticksNotKnown_61 : decode cX4_ticksNotKnown 61 = .ok (.iload_n 3, 1) := db_dX4_ticksNotKnown_61.1
theorem dX4_ticksNotKnown_62 : decode cX4_ticksNotKnown 62 = .ok (.ireturn, 1) := db_dX4_ticksNotKnown_61.2
theorem db_dX4_sumKnown_0 : decode cX4_sumKnown 0 = .ok (.iconst 0, 1) ∧ decode cX4_sumKnown 1 = .ok (.istore_n 3, 1) ∧ decode cX4_sumKnown 2 = .ok (.aload_n 0, 1) ∧ decode cX4_sumKnown 3 = .ok (.iload_n 1, 1) ∧ decode cX4_sumKnown 4 = .ok (.invokevirtual 22, 3) ∧ decode cX4_sumKnown 7 = .ok (.istore 4, 2) ∧ decode cX4_sumKnown 9 = .ok (.iload 4, 2) ∧ decode cX4_sumKnown 11 = .ok (.aload_n 0, 1) := by decide +kernel
theorem dX4_sumKnown_0 : decode cX4_sumKnown 0 = .ok (.iconst 0, 1) := db_dX4_sumKnown_0.1
theorem dX4_sumKnown_1 : decode cX4_sumKnown 1 = .ok (.istore_n 3, 1) := db_dX4_sumKnown_0.2.1
theorem dX4_sumKnown_2 : decode cX4_sumKnown 2 = .ok (.aload_n 0, 1) := db_dX4_sumKnown_0.2.2.1
theorem dX4_sumKnown_3 : decode cX4_sumKnown 3 = .ok (.iload_n 1, 1) := db_dX4_sumKnown_0.2.2.2.1
theorem dX4_sumKnown_4 : decode cX4_sumKnown 4 = .ok (.invokevirtual 22, 3) := db_dX4_sumKnown_0.2.2.2.2.1
theorem dX4_sumKnown_7 : decode cX4_sumKnown 7 = .ok (.istore 4, 2) := db_dX4_sumKnown_0.2.2.2.2.2.1
theorem dX4_sumKnown_9 : decode cX4_sumKnown 9 = .ok (.iload 4, 2) := db_dX4_sumKnown_0.2.2.2.2.2.2.1
theorem dX4_sumKnown_11 : decode cX4_sumKnown 11 = .ok (.aload_n 0, 1) := db_dX4_sumKnown_0.2.2.2.2.2.2.2
theorem db_dX4_sumKnown_12 : decode cX4_sumKnown 12 = .ok (.getfield 18, 3) ∧ decode cX4_sumKnown 15 = .ok (.if_icmp .ge 53, 3) ∧ decode cX4_sumKnown 18 = .ok (.aload_n 0, 1) ∧ decode cX4_sumKnown 19 = .ok (.iload 4, 2) ∧ decode cX4_sumKnown 21 = .ok (.invokevirtual 26, 3) ∧ decode cX4_sumKnown 24 = .ok (.iload_n 2, 1) ∧ decode cX4_sumKnown 25 = .ok (.if_icmp .ge 43, 3) ∧ decode cX4_sumKnown 28 = .ok (.iload_n 3, 1) := by decide +kernel
theorem dX4_sumKnown_12 : decode cX4_sumKnown 12 = .ok (.getfield 18, 3) := db_dX4_sumKnown_12.1
theorem dX4_sumKnown_15 : decode cX4_sumKnown 15 = .ok (.if_icmp .ge 53, 3) := db_dX4_sumKnown_12.2.1
theorem dX4_sumKnown_18 : decode cX4_sumKnown 18 = .ok (.aload_n 0, 1) := db_dX4_sumKnown_12.2.2.1
theorem dX4_sumKnown_19 : decode cX4_sumKnown 19 = .ok (.iload 4, 2) := db_dX4_sumKnown_12.2.2.2.1
theorem dX4_sumKnown_21 : decode cX4_sumKnown 21 = .ok (.invokevirtual 26, 3) := db_dX4_sumKnown_12.2.2.2.2.1
theorem dX4_sumKnown_24 : decode cX4_sumKnown 24 = .ok (.iload_n 2, 1) := db_dX4_sumKnown_12.2.2.2.2.2.1
theorem dX4_sumKnown_25 : decode cX4_sumKnown 25 = .ok (.if_icmp .ge 43, 3) := db_dX4_sumKnown_12.2.2.2.2.2.2.1
theorem dX4_sumKnown_28 : decode cX4_sumKnown 28 = .ok (.iload_n 3, 1) := db_dX4_sumKnown_12.2.2.2.2.2.2.2
theorem db_dX4_sumKnown_29 : decode cX4_sumKnown 29 = .ok (.aload_n 0, 1) ∧ decode cX4_sumKnown 30 = .ok (.iload 4, 2) ∧ decode cX4_sumKnown 32 = .ok (.invokevirtual 30, 3) ∧ decode cX4_sumKnown 35 = .ok (.sipush 256, 3) ∧ decode cX4_sumKnown 38 = .ok (.if_icmp .eq 21, 3) ∧ decode cX4_sumKnown 41 = .ok (.aload_n 0, 1) ∧ decode cX4_sumKnown 42 = .ok (.iload 4, 2) ∧ decode cX4_sumKnown 44 = .ok (.invokevirtual 30, 3) := by decide +kernel
theorem dX4_sumKnown_29 : decode cX4_sumKnown 29 = .ok (.aload_n 0, 1) := db_dX4_sumKnown_29.1
theorem dX4_sumKnown_30 : decode cX4_sumKnown 30 = .ok (.iload 4, 2) := db_dX4_sumKnown_29.2.1
theorem dX4_sumKnown_32 : decode cX4_sumKnown 32 = .ok (.invokevirtual 30, 3) := db_dX4_sumKnown_29.2.2.1
theorem dX4_sumKnown_35 : decode cX4_sumKnown 35 = .ok (.sipush 256, 3) := db_dX4_sumKnown_29.2.2.2.1
theorem dX4_sumKnown_38 : decode cX4_sumKnown 38 = .ok (.if_icmp .eq 21, 3) := db_dX4_sumKnown_29.2.2.2.2.1
theorem dX4_sumKnown_41 : decode cX4_sumKnown 41 = .ok (.aload_n 0, 1) := db_dX4_sumKnown_29.2.2.2.2.2.1
theorem dX4_sumKnown_42 : decode cX4_sumKnown 42 = .ok (.iload 4, 2) := db_dX4_sumKnown_29.2.2.2.2.2.2.1
theorem dX4_sumKnown_44 : decode cX4_sumKnown 44 = .ok (.invokevirtual 30, 3) := db_dX4_sumKnown_29.2.2.2.2.2.2.2
theorem db_dX4_sumKnown_47 : decode cX4_sumKnown 47 = .ok (.aload_n 0, 1) ∧ decode cX4_sumKnown 48 = .ok (.iload 4, 2) ∧ decode cX4_sumKnown 50 = .ok (.iload_n 1, 1) ∧ decode cX4_sumKnown 51 = .ok (.iload_n 2, 1) ∧ decode cX4_sumKnown 52 = .ok (.invokevirtual 37, 3) ∧ decode cX4_sumKnown 55 = .ok (.imul, 1) ∧ decode cX4_sumKnown 56 = .ok (.goto 4, 3) ∧ decode cX4_sumKnown 59 = .ok (.iconst 0, 1) := by decide +kernel
theorem dX4_sumKnown_47 : decode cX4_sumKnown 47 = .ok (.aload_n 0, 1) := db_dX4_sumKnown_47.1
theorem dX4_sumKnown_48 : decode cX4_sumKnown 48 = .ok (.iload 4, 2) := db_dX4_sumKnown_47.2.1
theorem dX4_sumKnown_50 : decode cX4_sumKnown 50 = .ok (.iload_n 1, 1) := db_dX4_sumKnown_47.2.2.1
theorem dX4_sumKnown_51 : decode cX4_sumKnown 51 = .ok (.iload_n 2, 1) := db_dX4_sumKnown_47.2.2.2.1
theorem dX4_sumKnown_52 : decode cX4_sumKnown 52 = .ok (.invokevirtual 37, 3) := db_dX4_sumKnown_47.2.2.2.2.1
theorem dX4_sumKnown_55 : decode cX4_sumKnown 55 = .ok (.imul, 1) := db_dX4_sumKnown_47.2.2.2.2.2.1
theorem dX4_sumKnown_56 : decode cX4_sumKnown 56 = .ok (.goto 4, 3) := db_dX4_sumKnown_47.2.2.2.2.2.2.1
theorem dX4_sumKnown_59 : decode cX4_sumKnown 59 = .ok (.iconst 0, 1) := db_dX4_sumKnown_47.2.2.2.2.2.2.2
theorem db_dX4_sumKnown_60 : decode cX4_sumKnown 60 = .ok (.iadd, 1) ∧ decode cX4_sumKnown 61 = .ok (.istore_n 3, 1) ∧ decode cX4_sumKnown 62 = .ok (.iinc 4 1, 3) ∧ decode cX4_sumKnown 65 = .ok (.goto (-56), 3) ∧ decode cX4_sumKnown 68 = .ok (.iload_n 3, 1) ∧ decode cX4_sumKnown 69 = .ok (.ireturn, 1) := by decide +kernel
theorem dX4_sumKnown_60 : decode cX4_sumKnown 60 = .ok (.iadd, 1) := db_dX4_sumKnown_60.1
theorem dX4_sumKnown_61 : decode cX4_sumKnown 61 = .ok (.istore_n 3, 1) := db_dX4_sumKnown_60.2.1
theorem dX4_sumKnown_62 : decode cX4_sumKnown 62 = .ok (.iinc 4 1, 3) := db_dX4_sumKnown_60.2.2.1
theorem dX4_sumKnown_65 : decode cX4_sumKnown 65 = .ok (.goto (-56), 3) := db_dX4_sumKnown_60.2.2.2.1
theorem dX4_sumKnown_68 : decode cX4_sumKnown 68 = .ok (.iload_n 3, 1) := db_dX4_sumKnown_60.2.2.2.2.1
theorem dX4_sumKnown_69 : decode cX4_sumKnown 69 = .ok (.ireturn, 1) := db_dX4_sumKnown_60.2.2.2.2.2
theorem db_dX4_ticksWithin_0 : decode cX4_ticksWithin 0 = .ok (.iload_n 3, 1) ∧ decode cX4_ticksWithin 1 = .ok (.aload_n 0, 1) ∧ decode cX4_ticksWithin 2 = .ok (.iload_n 1, 1) ∧ decode cX4_ticksWithin 3 = .ok (.iconst 1, 1) ∧ decode cX4_ticksWithin 4 = .ok (.iadd, 1) ∧ decode cX4_ticksWithin 5 = .ok (.invokevirtual 26, 3) ∧ decode cX4_ticksWithin 8 = .ok (.invokestatic 41, 3) ∧ decode cX4_ticksWithin 11 = .ok (.iload_n 2, 1) := by decide +kernel
theorem dX4_ticksWithin_0 : decode cX4_ticksWithin 0 = .ok (.iload_n 3, 1) := db_dX4_ticksWithin_0.1
theorem dX4_ticksWithin_1 : decode cX4_ticksWithin 1 = .ok (.aload_n 0, 1) := db_dX4_ticksWithin_0.2.1
theorem dX4_ticksWithin_2 : decode cX4_ticksWithin 2 = .ok (.iload_n 1, 1) := db_dX4_ticksWithin_0.2.2.1
theorem dX4_ticksWithin_3 : decode cX4_ticksWithin 3 = .ok (.iconst 1, 1) := db_dX4_ticksWithin_0.2.2.2.1
theorem dX4_ticksWithin_4 : decode cX4_ticksWithin 4 = .ok (.iadd, 1) := db_dX4_ticksWithin_0.2.2.2.2.1
theorem dX4_ticksWithin_5 : decode cX4_ticksWithin 5 = .ok (.invokevirtual 26, 3) := db_dX4_ticksWithin_0.2.2.2.2.2.1
theorem dX4_ticksWithin_8 : decode cX4_ticksWithin 8 = .ok (.invokestatic 41, 3) := db_dX4_ticksWithin_0.2.2.2.2.2.2.1
theorem dX4_ticksWithin_11 : decode cX4_ticksWithin 11 = .ok (.iload_n 2, 1) := db_dX4_ticksWithin_0.2.2.2.2.2.2.2
theorem db_dX4_ticksWithin_12 : decode cX4_ticksWithin 12 = .ok (.aload_n 0, 1) ∧ decode cX4_ticksWithin 13 = .ok (.iload_n 1, 1) ∧ decode cX4_ticksWithin 14 = .ok (.invokevirtual 26, 3) ∧ decode cX4_ticksWithin 17 = .ok (.invokestatic 47, 3) ∧ decode cX4_ticksWithin 20 = .ok (.isub, 1) ∧ decode cX4_ticksWithin 21 = .ok (.ireturn, 1) := by decide +kernel
theorem dX4_ticksWithin_12 : decode cX4_ticksWithin 12 = .ok (.aload_n 0, 1) := db_dX4_ticksWithin_12.1
theorem dX4_ticksWithin_13 : decode cX4_ticksWithin 13 = .ok (.iload_n 1, 1) := db_dX4_ticksWithin_12.2.1
theorem dX4_ticksWithin_14 : decode cX4_ticksWithin 14 = .ok (.invokevirtual 26, 3) := db_dX4_ticksWithin_12.2.2.1
theorem dX4_ticksWithin_17 : decode cX4_ticksWithin 17 = .ok (.invokestatic 47, 3) := db_dX4_ticksWithin_12.2.2.2.1
theorem dX4_ticksWithin_20 : decode cX4_ticksWithin 20 = .ok (.isub, 1) := db_dX4_ticksWithin_12.2.2.2.2.1
theorem dX4_ticksWithin_21 : decode cX4_ticksWithin 21 = .ok (.ireturn, 1) := db_dX4_ticksWithin_12.2.2.2.2.2
