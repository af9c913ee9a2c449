theorem db_dX7_init_0 : decode cX7_init 0 = .ok (.aload_n 0, 1) ∧ decode cX7_init 1 = .ok (.invokespecial 1, 3) ∧ decode cX7_init 4 = .ok (.aload_n 0, 1) ∧ decode cX7_init 5 = .ok (.sipush 1000, 3) ∧ decode cX7_init 8 = .ok (.putfield 7, 3) ∧ decode cX7_init 11 = .ok (.aload_n 0, 1) ∧ decode cX7_init 12 = .ok (.bipush 24, 2) ∧ decode cX7_init 14 = .ok (.newarray .int, 2) := by decide +kernel
theorem dX7_init_0 : decode cX7_init 0 = .ok (.aload_n 0, 1) := db_dX7_init_0.1
theorem dX7_init_1 : decode cX7_init 1 = .ok (.invokespecial 1, 3) := db_dX7_init_0.2.1
theorem dX7_init_4 : decode cX7_init 4 = .ok (.aload_n 0, 1) := db_dX7_init_0.2.2.1
theorem dX7_init_5 : decode cX7_init 5 = .ok (.sipush 1000, 3) := db_dX7_init_0.2.2.2.1
theorem dX7_init_8 : decode cX7_init 8 = .ok (.putfield 7, 3) := db_dX7_init_0.2.2.2.2.1
theorem dX7_init_11 : decode cX7_init 11 = .ok (.aload_n 0, 1) := db_dX7_init_0.2.2.2.2.2.1
theorem dX7_init_12 : decode cX7_init 12 = .ok (.bipush 24, 2) := db_dX7_init_0.2.2.2.2.2.2.1
theorem dX7_init_14 : decode cX7_init 14 = .ok (.newarray .int, 2) := db_dX7_init_0.2.2.2.2.2.2.2
theorem db_dX7_init_16 : decode cX7_init 16 = .ok (.putfield 13, 3) ∧ decode cX7_init 19 = .ok (.aload_n 0, 1) ∧ decode cX7_init 20 = .ok (.sipush 1200, 3) ∧ decode cX7_init 23 = .ok (.newarray .int, 2) ∧ decode cX7_init 25 = .ok (.putfield 17, 3) ∧ decode cX7_init 28 = .ok (.aload_n 0, 1) ∧ decode cX7_init 29 = .ok (.sipush 1200, 3) ∧ decode cX7_init 32 = .ok (.newarray .int, 2) := by decide +kernel
theorem dX7_init_16 : decode cX7_init 16 = .ok (.putfield 13, 3) := db_dX7_init_16.1
theorem dX7_init_19 : decode cX7_init 19 = .ok (.aload_n 0, 1) := db_dX7_init_16.2.1
theorem dX7_init_20 : decode cX7_init 20 = .ok (.sipush 1200, 3) := db_dX7_init_16.2.2.1
theorem dX7_init_23 : decode cX7_init 23 = .ok (.newarray .int, 2) := db_dX7_init_16.2.2.2.1
theorem dX7_init_25 : decode cX7_init 25 = .ok (.putfield 17, 3) := db_dX7_init_16.2.2.2.2.1
theorem dX7_init_28 : decode cX7_init 28 = .ok (.aload_n 0, 1) := db_dX7_init_16.2.2.2.2.2.1
theorem dX7_init_29 : decode cX7_init 29 = .ok (.sipush 1200, 3) := db_dX7_init_16.2.2.2.2.2.2.1
theorem dX7_init_32 : decode cX7_init 32 = .ok (.newarray .int, 2) := db_dX7_init_16.2.2.2.2.2.2.2
theorem db_dX7_init_34 : decode cX7_init 34 = .ok (.putfield 20, 3) ∧ decode cX7_init 37 = .ok (.aload_n 0, 1) ∧ decode cX7_init 38 = .ok (.bipush 12, 2) ∧ decode cX7_init 40 = .ok (.newarray .int, 2) ∧ decode cX7_init 42 = .ok (.putfield 23, 3) ∧ decode cX7_init 45 = .ok (.aload_n 0, 1) ∧ decode cX7_init 46 = .ok (.bipush 12, 2) ∧ decode cX7_init 48 = .ok (.newarray .int, 2) := by decide +kernel
theorem dX7_init_34 : decode cX7_init 34 = .ok (.putfield 20, 3) := db_dX7_init_34.1
theorem dX7_init_37 : decode cX7_init 37 = .ok (.aload_n 0, 1) := db_dX7_init_34.2.1
theorem dX7_init_38 : decode cX7_init 38 = .ok (.bipush 12, 2) := db_dX7_init_34.2.2.1
theorem dX7_init_40 : decode cX7_init 40 = .ok (.newarray .int, 2) := db_dX7_init_34.2.2.2.1
theorem dX7_init_42 : decode cX7_init 42 = .ok (.putfield 23, 3) := db_dX7_init_34.2.2.2.2.1
theorem dX7_init_45 : decode cX7_init 45 = .ok (.aload_n 0, 1) := db_dX7_init_34.2.2.2.2.2.1
theorem dX7_init_46 : decode cX7_init 46 = .ok (.bipush 12, 2) := db_dX7_init_34.2.2.2.2.2.2.1
theorem dX7_init_48 : decode cX7_init 48 = .ok (.newarray .int, 2) := db_dX7_init_34.2.2.2.2.2.2.2
theorem db_dX7_init_50 : decode cX7_init 50 = .ok (.putfield 26, 3) ∧ decode cX7_init 53 = .ok (.aload_n 0, 1) ∧ decode cX7_init 54 = .ok (.iconst 4, 1) ∧ decode cX7_init 55 = .ok (.newarray .int, 2) ∧ decode cX7_init 57 = .ok (.putfield 29, 3) ∧ decode cX7_init 60 = .ok (.aload_n 0, 1) ∧ decode cX7_init 61 = .ok (.bipush 10, 2) ∧ decode cX7_init 63 = .ok (.newarray .int, 2) := by decide +kernel
theorem dX7_init_50 : decode cX7_init 50 = .ok (.putfield 26, 3) := db_dX7_init_50.1
theorem dX7_init_53 : decode cX7_init 53 = .ok (.aload_n 0, 1) := db_dX7_init_50.2.1
theorem dX7_init_54 : decode cX7_init 54 = .ok (.iconst 4, 1) := db_dX7_init_50.2.2.1
theorem dX7_init_55 : decode cX7_init 55 = .ok (.newarray .int, 2) := db_dX7_init_50.2.2.2.1
theorem dX7_init_57 : decode cX7_init 57 = .ok (.putfield 29, 3) := db_dX7_init_50.2.2.2.2.1
theorem dX7_init_60 : decode cX7_init 60 = .ok (.aload_n 0, 1) := db_dX7_init_50.2.2.2.2.2.1
theorem dX7_init_61 : decode cX7_init 61 = .ok (.bipush 10, 2) := db_dX7_init_50.2.2.2.2.2.2.1
theorem dX7_init_63 : decode cX7_init 63 = .ok (.newarray .int, 2) := db_dX7_init_50.2.2.2.2.2.2.2
theorem db_dX7_init_65 : decode cX7_init 65 = .ok (.putfield 32, 3) ∧ decode cX7_init 68 = .ok (.aload_n 0, 1) ∧ decode cX7_init 69 = .ok (.bipush 10, 2) ∧ decode cX7_init 71 = .ok (.newarray .int, 2) ∧ decode cX7_init 73 = .ok (.putfield 35, 3) ∧ decode cX7_init 76 = .ok (.aload_n 0, 1) ∧ decode cX7_init 77 = .ok (.bipush 10, 2) ∧ decode cX7_init 79 = .ok (.newarray .int, 2) := by decide +kernel
theorem dX7_init_65 : decode cX7_init 65 = .ok (.putfield 32, 3) := db_dX7_init_65.1
theorem dX7_init_68 : decode cX7_init 68 = .ok (.aload_n 0, 1) := db_dX7_init_65.2.1
theorem dX7_init_69 : decode cX7_init 69 = .ok (.bipush 10, 2) := db_dX7_init_65.2.2.1
theorem dX7_init_71 : decode cX7_init 71 = .ok (.newarray .int, 2) := db_dX7_init_65.2.2.2.1
theorem dX7_init_73 : decode cX7_init 73 = .ok (.putfield 35, 3) := db_dX7_init_65.2.2.2.2.1
theorem dX7_init_76 : decode cX7_init 76 = .ok (.aload_n 0, 1) := db_dX7_init_65.2.2.2.2.2.1
theorem dX7_init_77 : decode cX7_init 77 = .ok (.bipush 10, 2) := db_dX7_init_65.2.2.2.2.2.2.1
theorem dX7_init_79 : decode cX7_init 79 = .ok (.newarray .int, 2) := db_dX7_init_65.2.2.2.2.2.2.2
theorem db_dX7_init_81 : decode cX7_init 81 = .ok (.putfield 38, 3) ∧ decode cX7_init 84 = .ok (.aload_n 0, 1) ∧ decode cX7_init 85 = .ok (.bipush 10, 2) ∧ decode cX7_init 87 = .ok (.newarray .int, 2) ∧ decode cX7_init 89 = .ok (.putfield 41, 3) ∧ decode cX7_init 92 = .ok (.aload_n 0, 1) ∧ decode cX7_init 93 = .ok (.iconst 4, 1) ∧ decode cX7_init 94 = .ok (.newarray .boolean, 2) := by decide +kernel
theorem dX7_init_81 : decode cX7_init 81 = .ok (.putfield 38, 3) := db_dX7_init_81.1
theorem dX7_init_84 : decode cX7_init 84 = .ok (.aload_n 0, 1) := db_dX7_init_81.2.1
theorem dX7_init_85 : decode cX7_init 85 = .ok (.bipush 10, 2) := db_dX7_init_81.2.2.1
theorem dX7_init_87 : decode cX7_init 87 = .ok (.newarray .int, 2) := db_dX7_init_81.2.2.2.1
theorem dX7_init_89 : decode cX7_init 89 = .ok (.putfield 41, 3) := db_dX7_init_81.2.2.2.2.1
theorem dX7_init_92 : decode cX7_init 92 = .ok (.aload_n 0, 1) := db_dX7_init_81.2.2.2.2.2.1
theorem dX7_init_93 : decode cX7_init 93 = .ok (.iconst 4, 1) := db_dX7_init_81.2.2.2.2.2.2.1
theorem dX7_init_94 : decode cX7_init 94 = .ok (.newarray .boolean, 2) := db_dX7_init_81.2.2.2.2.2.2.2
theorem db_dX7_init_96 : decode cX7_init 96 = .ok (.putfield 44, 3) ∧ decode cX7_init 99 = .ok (.aload_n 0, 1) ∧ decode cX7_init 100 = .ok (.bipush 16, 2) ∧ decode cX7_init 102 = .ok (.newarray .int, 2) ∧ decode cX7_init 104 = .ok (.putfield 48, 3) ∧ decode cX7_init 107 = .ok (.aload_n 0, 1) ∧ decode cX7_init 108 = .ok (.bipush 12, 2) ∧ decode cX7_init 110 = .ok (.newarray .int, 2) := by decide +kernel
theorem dX7_init_96 : decode cX7_init 96 = .ok (.putfield 44, 3) := db_dX7_init_96.1
theorem dX7_init_99 : decode cX7_init 99 = .ok (.aload_n 0, 1) := db_dX7_init_96.2.1
theorem dX7_init_100 : decode cX7_init 100 = .ok (.bipush 16, 2) := db_dX7_init_96.2.2.1
theorem dX7_init_102 : decode cX7_init 102 = .ok (.newarray .int, 2) := db_dX7_init_96.2.2.2.1
theorem dX7_init_104 : decode cX7_init 104 = .ok (.putfield 48, 3) := db_dX7_init_96.2.2.2.2.1
theorem dX7_init_107 : decode cX7_init 107 = .ok (.aload_n 0, 1) := db_dX7_init_96.2.2.2.2.2.1
theorem dX7_init_108 : decode cX7_init 108 = .ok (.bipush 12, 2) := db_dX7_init_96.2.2.2.2.2.2.1
theorem dX7_init_110 : decode cX7_init 110 = .ok (.newarray .int, 2) := db_dX7_init_96.2.2.2.2.2.2.2
theorem db_dX7_init_112 : decode cX7_init 112 = .ok (.putfield 51, 3) ∧ decode cX7_init 115 = .ok (.aload_n 0, 1) ∧ decode cX7_init 116 = .ok (.bipush 12, 2) ∧ decode cX7_init 118 = .ok (.newarray .int, 2) ∧ decode cX7_init 120 = .ok (.putfield 54, 3) ∧ decode cX7_init 123 = .ok (.aload_n 0, 1) ∧ decode cX7_init 124 = .ok (.bipush 12, 2) ∧ decode cX7_init 126 = .ok (.newarray .int, 2) := by decide +kernel
theorem dX7_init_112 : decode cX7_init 112 = .ok (.putfield 51, 3) := db_dX7_init_112.1
theorem dX7_init_115 : decode cX7_init 115 = .ok (.aload_n 0, 1) := db_dX7_init_112.2.1
theorem dX7_init_116 : decode cX7_init 116 = .ok (.bipush 12, 2) := db_dX7_init_112.2.2.1
theorem dX7_init_118 : decode cX7_init 118 = .ok (.newarray .int, 2) := db_dX7_init_112.2.2.2.1
theorem dX7_init_120 : decode cX7_init 120 = .ok (.putfield 54, 3) := db_dX7_init_112.2.2.2.2.1
theorem dX7_init_123 : decode cX7_init 123 = .ok (.aload_n 0, 1) := db_dX7_init_112.2.2.2.2.2.1
theorem dX7_init_124 : decode cX7_init 124 = .ok (.bipush 12, 2) := db_dX7_init_112.2.2.2.2.2.2.1
theorem dX7_init_126 : decode cX7_init 126 = .ok (.newarray .int, 2) := db_dX7_init_112.2.2.2.2.2.2.2
theorem db_dX7_init_128 : decode cX7_init 128 = .ok (.putfield 57, 3) ∧ decode cX7_init 131 = .ok (.iconst 0, 1) ∧ decode cX7_init 132 = .ok (.istore_n 1, 1) ∧ decode cX7_init 133 = .ok (.iload_n 1, 1) ∧ decode cX7_init 134 = .ok (.bipush 12, 2) ∧ decode cX7_init 136 = .ok (.if_icmp .ge 16, 3) ∧ decode cX7_init 139 = .ok (.aload_n 0, 1) ∧ decode cX7_init 140 = .ok (.getfield 23, 3) := by decide +kernel
theorem dX7_init_128 : decode cX7_init 128 = .ok (.putfield 57, 3) := db_dX7_init_128.1
theorem dX7_init_131 : decode cX7_init 131 = .ok (.iconst 0, 1) := db_dX7_init_128.2.1
theorem dX7_init_132 : decode cX7_init 132 = .ok (.istore_n 1, 1) := db_dX7_init_128.2.2.1
theorem dX7_init_133 : decode cX7_init 133 = .ok (.iload_n 1, 1) := db_dX7_init_128.2.2.2.1
theorem dX7_init_134 : decode cX7_init 134 = .ok (.bipush 12, 2) := db_dX7_init_128.2.2.2.2.1
theorem dX7_init_136 : decode cX7_init 136 = .ok (.if_icmp .ge 16, 3) := db_dX7_init_128.2.2.2.2.2.1
theorem dX7_init_139 : decode cX7_init 139 = .ok (.aload_n 0, 1) := db_dX7_init_128.2.2.2.2.2.2.1
theorem dX7_init_140 : decode cX7_init 140 = .ok (.getfield 23, 3) := db_dX7_init_128.2.2.2.2.2.2.2
theorem db_dX7_init_143 : decode cX7_init 143 = .ok (.iload_n 1, 1) ∧ decode cX7_init 144 = .ok (.iload_n 1, 1) ∧ decode cX7_init 145 = .ok (.iastore, 1) ∧ decode cX7_init 146 = .ok (.iinc 1 1, 3) ∧ decode cX7_init 149 = .ok (.goto (-16), 3) ∧ decode cX7_init 152 = .ok (.return_, 1) := by decide +kernel
theorem dX7_init_143 : decode cX7_init 143 = .ok (.iload_n 1, 1) := db_dX7_init_143.1
theorem dX7_init_144 : decode cX7_init 144 = .ok (.iload_n 1, 1) := db_dX7_init_143.2.1
theorem dX7_init_145 : decode cX7_init 145 = .ok (.iastore, 1) := db_dX7_init_143.2.2.1
theorem dX7_init_146 : decode cX7_init 146 = .ok (.iinc 1 1, 3) := db_dX7_init_143.2.2.2.1
theorem dX7_init_149 : decode cX7_init 149 = .ok (.goto (-16), 3) := db_dX7_init_143.2.2.2.2.1
theorem dX7_init_152 : decode cX7_init 152 = .ok (.return_, 1) := db_dX7_init_143.2.2.2.2.2
theorem db_dX7_in_0 : decode cX7_in 0 = .ok (.iload_n 0, 1) ∧ decode cX7_in 1 = .ok (.iload_n 1, 1) ∧ decode cX7_in 2 = .ok (.if_icmp .lt 12, 3) ∧ decode cX7_in 5 = .ok (.iload_n 0, 1) ∧ decode cX7_in 6 = .ok (.iload_n 2, 1) ∧ decode cX7_in 7 = .ok (.if_icmp .gt 7, 3) ∧ decode cX7_in 10 = .ok (.iconst 1, 1) ∧ decode cX7_in 11 = .ok (.goto 4, 3) := by decide +kernel
theorem dX7_in_0 : decode cX7_in 0 = .ok (.iload_n 0, 1) := db_dX7_in_0.1
theorem dX7_in_1 : decode cX7_in 1 = .ok (.iload_n 1, 1) := db_dX7_in_0.2.1
theorem dX7_in_2 : decode cX7_in 2 = .ok (.if_icmp .lt 12, 3) := db_dX7_in_0.2.2.1
theorem dX7_in_5 : decode cX7_in 5 = .ok (.iload_n 0, 1) := db_dX7_in_0.2.2.2.1
theorem dX7_in_6 : decode cX7_in 6 = .ok (.iload_n 2, 1) := db_dX7_in_0.2.2.2.2.1
theorem dX7_in_7 : decode cX7_in 7 = .ok (.if_icmp .gt 7, 3) := db_dX7_in_0.2.2.2.2.2.1
theorem dX7_in_10 : decode cX7_in 10 = .ok (.iconst 1, 1) := db_dX7_in_0.2.2.2.2.2.2.1
theorem dX7_in_11 : decode cX7_in 11 = .ok (.goto 4, 3) := db_dX7_in_0.2.2.2.2.2.2.2
theorem db_dX7_in_14 : decode cX7_in 14 = .ok (.iconst 0, 1) ∧ decode cX7_in 15 = .ok (.ireturn, 1) := by decide +kernel
theorem dX7_in_14 : decode cX7_in 14 = .ok (.iconst 0, 1) := db_dX7_in_14.1
theorem dX7_in_15 : decode cX7_in 15 = .ok (.ireturn, 1) := db_dX7_in_14.2
theorem db_dX7_isSignal_0 : decode cX7_isSignal 0 = .ok (.iload_n 0, 1) ∧ decode cX7_isSignal 1 = .ok (.iconst 0, 1) ∧ decode cX7_isSignal 2 = .ok (.bipush 11, 2) ∧ decode cX7_isSignal 4 = .ok (.invokestatic 60, 3) ∧ decode cX7_isSignal 7 = .ok (.ireturn, 1) := by decide +kernel
theorem dX7_isSignal_0 : decode cX7_isSignal 0 = .ok (.iload_n 0, 1) := db_dX7_isSignal_0.1
theorem dX7_isSignal_1 : decode cX7_isSignal 1 = .ok (.iconst 0, 1) := db_dX7_isSignal_0.2.1
theorem dX7_isSignal_2 : decode cX7_isSignal 2 = .ok (.bipush 11, 2) := db_dX7_isSignal_0.2.2.1
theorem dX7_isSignal_4 : decode cX7_isSignal 4 = .ok (.invokestatic 60, 3) := db_dX7_isSignal_0.2.2.2.1
theorem dX7_isSignal_7 : decode cX7_isSignal 7 = .ok (.ireturn, 1) := db_dX7_isSignal_0.2.2.2.2
theorem db_dX7_isRow_0 : decode cX7_isRow 0 = .ok (.iload_n 0, 1) ∧ decode cX7_isRow 1 = .ok (.iconst 0, 1) ∧ decode cX7_isRow 2 = .ok (.iconst 1, 1) ∧ decode cX7_isRow 3 = .ok (.invokestatic 60, 3) ∧ decode cX7_isRow 6 = .ok (.ifCond .eq 14, 3) ∧ decode cX7_isRow 9 = .ok (.iload_n 1, 1) ∧ decode cX7_isRow 10 = .ok (.invokestatic 64, 3) ∧ decode cX7_isRow 13 = .ok (.ifCond .eq 7, 3) := by decide +kernel
theorem dX7_isRow_0 : decode cX7_isRow 0 = .ok (.iload_n 0, 1) := db_dX7_isRow_0.1
theorem dX7_isRow_1 : decode cX7_isRow 1 = .ok (.iconst 0, 1) := db_dX7_isRow_0.2.1
theorem dX7_isRow_2 : decode cX7_isRow 2 = .ok (.iconst 1, 1) := db_dX7_isRow_0.2.2.1
theorem dX7_isRow_3 : decode cX7_isRow 3 = .ok (.invokestatic 60, 3) := db_dX7_isRow_0.2.2.2.1
theorem dX7_isRow_6 : decode cX7_isRow 6 = .ok (.ifCond .eq 14, 3) := db_dX7_isRow_0.2.2.2.2.1
theorem dX7_isRow_9 : decode cX7_isRow 9 = .ok (.iload_n 1, 1) := db_dX7_isRow_0.2.2.2.2.2.1
theorem dX7_isRow_10 : decode cX7_isRow 10 = .ok (.invokestatic 64, 3) := db_dX7_isRow_0.2.2.2.2.2.2.1
theorem dX7_isRow_13 : decode cX7_isRow 13 = .ok (.ifCond .eq 7, 3) := db_dX7_isRow_0.2.2.2.2.2.2.2
theorem db_dX7_isRow_16 : decode cX7_isRow 16 = .ok (.iconst 1, 1) ∧ decode cX7_isRow 17 = .ok (.goto 4, 3) ∧ decode cX7_isRow 20 = .ok (.iconst 0, 1) ∧ decode cX7_isRow 21 = .ok (.ireturn, 1) := by decide +kernel
theorem dX7_isRow_16 : decode cX7_isRow 16 = .ok (.iconst 1, 1) := db_dX7_isRow_16.1
theorem dX7_isRow_17 : decode cX7_isRow 17 = .ok (.goto 4, 3) := db_dX7_isRow_16.2.1
theorem dX7_isRow_20 : decode cX7_isRow 20 = .ok (.iconst 0, 1) := db_dX7_isRow_16.2.2.1
theorem dX7_isRow_21 : decode cX7_isRow 21 = .ok (.ireturn, 1) := db_dX7_isRow_16.2.2.2
theorem db_dX7_last_0 : decode cX7_last 0 = .ok (.aload_n 0, 1) ∧ decode cX7_last 1 = .ok (.getfield 13, 3) ∧ decode cX7_last 4 = .ok (.iload_n 1, 1) ∧ decode cX7_last 5 = .ok (.iaload, 1) ∧ decode cX7_last 6 = .ok (.ifCond .ne 7, 3) ∧ decode cX7_last 9 = .ok (.iconst (-1), 1) ∧ decode cX7_last 10 = .ok (.goto 21, 3) ∧ decode cX7_last 13 = .ok (.aload_n 0, 1) := by decide +kernel
theorem dX7_last_0 : decode cX7_last 0 = .ok (.aload_n 0, 1) := db_dX7_last_0.1
theorem dX7_last_1 : decode cX7_last 1 = .ok (.getfield 13, 3) := db_dX7_last_0.2.1
theorem dX7_last_4 : decode cX7_last 4 = .ok (.iload_n 1, 1) := db_dX7_last_0.2.2.1
theorem dX7_last_5 : decode cX7_last 5 = .ok (.iaload, 1) := db_dX7_last_0.2.2.2.1
theorem dX7_last_6 : decode cX7_last 6 = .ok (.ifCond .ne 7, 3) := db_dX7_last_0.2.2.2.2.1
theorem dX7_last_9 : decode cX7_last 9 = .ok (.iconst (-1), 1) := db_dX7_last_0.2.2.2.2.2.1
theorem dX7_last_10 : decode cX7_last 10 = .ok (.goto 21, 3) := db_dX7_last_0.2.2.2.2.2.2.1
theorem dX7_last_13 : decode cX7_last 13 = .ok (.aload_n 0, 1) := db_dX7_last_0.2.2.2.2.2.2.2
theorem db_dX7_last_14 : decode cX7_last 14 = .ok (.getfield 17, 3) ∧ decode cX7_last 17 = .ok (.bipush 50, 2) ∧ decode cX7_last 19 = .ok (.iload_n 1, 1) ∧ decode cX7_last 20 = .ok (.imul, 1) ∧ decode cX7_last 21 = .ok (.aload_n 0, 1) ∧ decode cX7_last 22 = .ok (.getfield 13, 3) ∧ decode cX7_last 25 = .ok (.iload_n 1, 1) ∧ decode cX7_last 26 = .ok (.iaload, 1) := by decide +kernel
theorem dX7_last_14 : decode cX7_last 14 = .ok (.getfield 17, 3) := db_dX7_last_14.1
theorem dX7_last_17 : decode cX7_last 17 = .ok (.bipush 50, 2) := db_dX7_last_14.2.1
theorem dX7_last_19 : decode cX7_last 19 = .ok (.iload_n 1, 1) := db_dX7_last_14.2.2.1
theorem dX7_last_20 : decode cX7_last 20 = .ok (.imul, 1) := db_dX7_last_14.2.2.2.1
theorem dX7_last_21 : decode cX7_last 21 = .ok (.aload_n 0, 1) := db_dX7_last_14.2.2.2.2.1
theorem dX7_last_22 : decode cX7_last 22 = .ok (.getfield 13, 3) := db_dX7_last_14.2.2.2.2.2.1
theorem dX7_last_25 : decode cX7_last 25 = .ok (.iload_n 1, 1) := db_dX7_last_14.2.2.2.2.2.2.1
theorem dX7_last_26 : decode cX7_last 26 = .ok (.iaload, 1) := db_dX7_last_14.2.2.2.2.2.2.2
theorem db_dX7_last_27 : decode cX7_last 27 = .ok (.iadd, 1) ∧ decode cX7_last 28 = .ok (.iconst 1, 1) ∧ decode cX7_last 29 = .ok (.isub, 1) ∧ decode cX7_last 30 = .ok (.iaload, 1) ∧ decode cX7_last 31 = .ok (.ireturn, 1) := by decide +kernel
theorem dX7_last_27 : decode cX7_last 27 = .ok (.iadd, 1) := db_dX7_last_27.1
theorem dX7_last_28 : decode cX7_last 28 = .ok (.iconst 1, 1) := db_dX7_last_27.2.1
theorem dX7_last_29 : decode cX7_last 29 = .ok (.isub, 1) := db_dX7_last_27.2.2.1
theorem dX7_last_30 : decode cX7_last 30 = .ok (.iaload, 1) := db_dX7_last_27.2.2.2.1
theorem dX7_last_31 : decode cX7_last 31 = .ok (.ireturn, 1) := db_dX7_last_27.2.2.2.2
theorem db_dX7_lays_0 : decode cX7_lays 0 = .ok (.aload_n 0, 1) ∧ decode cX7_lays 1 = .ok (.getfield 17, 3) ∧ decode cX7_lays 4 = .ok (.bipush 50, 2) ∧ decode cX7_lays 6 = .ok (.iload_n 1, 1) ∧ decode cX7_lays 7 = .ok (.imul, 1) ∧ decode cX7_lays 8 = .ok (.aload_n 0, 1) ∧ decode cX7_lays 9 = .ok (.getfield 13, 3) ∧ decode cX7_lays 12 = .ok (.iload_n 1, 1) := by decide +kernel
theorem dX7_lays_0 : decode cX7_lays 0 = .ok (.aload_n 0, 1) := db_dX7_lays_0.1
theorem dX7_lays_1 : decode cX7_lays 1 = .ok (.getfield 17, 3) := db_dX7_lays_0.2.1
theorem dX7_lays_4 : decode cX7_lays 4 = .ok (.bipush 50, 2) := db_dX7_lays_0.2.2.1
theorem dX7_lays_6 : decode cX7_lays 6 = .ok (.iload_n 1, 1) := db_dX7_lays_0.2.2.2.1
theorem dX7_lays_7 : decode cX7_lays 7 = .ok (.imul, 1) := db_dX7_lays_0.2.2.2.2.1
theorem dX7_lays_8 : decode cX7_lays 8 = .ok (.aload_n 0, 1) := db_dX7_lays_0.2.2.2.2.2.1
theorem dX7_lays_9 : decode cX7_lays 9 = .ok (.getfield 13, 3) := db_dX7_lays_0.2.2.2.2.2.2.1
theorem dX7_lays_12 : decode cX7_lays 12 = .ok (.iload_n 1, 1) := db_dX7_lays_0.2.2.2.2.2.2.2
theorem db_dX7_lays_13 : decode cX7_lays 13 = .ok (.iaload, 1) ∧ decode cX7_lays 14 = .ok (.iadd, 1) ∧ decode cX7_lays 15 = .ok (.iload_n 2, 1) ∧ decode cX7_lays 16 = .ok (.iastore, 1) ∧ decode cX7_lays 17 = .ok (.aload_n 0, 1) ∧ decode cX7_lays 18 = .ok (.getfield 20, 3) ∧ decode cX7_lays 21 = .ok (.bipush 50, 2) ∧ decode cX7_lays 23 = .ok (.iload_n 1, 1) := by decide +kernel
theorem dX7_lays_13 : decode cX7_lays 13 = .ok (.iaload, 1) := db_dX7_lays_13.1
theorem dX7_lays_14 : decode cX7_lays 14 = .ok (.iadd, 1) := db_dX7_lays_13.2.1
theorem dX7_lays_15 : decode cX7_lays 15 = .ok (.iload_n 2, 1) := db_dX7_lays_13.2.2.1
theorem dX7_lays_16 : decode cX7_lays 16 = .ok (.iastore, 1) := db_dX7_lays_13.2.2.2.1
theorem dX7_lays_17 : decode cX7_lays 17 = .ok (.aload_n 0, 1) := db_dX7_lays_13.2.2.2.2.1
theorem dX7_lays_18 : decode cX7_lays 18 = .ok (.getfield 20, 3) := db_dX7_lays_13.2.2.2.2.2.1
theorem dX7_lays_21 : decode cX7_lays 21 = .ok (.bipush 50, 2) := db_dX7_lays_13.2.2.2.2.2.2.1
theorem dX7_lays_23 : decode cX7_lays 23 = .ok (.iload_n 1, 1) := db_dX7_lays_13.2.2.2.2.2.2.2
theorem db_dX7_lays_24 : decode cX7_lays 24 = .ok (.imul, 1) ∧ decode cX7_lays 25 = .ok (.aload_n 0, 1) ∧ decode cX7_lays 26 = .ok (.getfield 13, 3) ∧ decode cX7_lays 29 = .ok (.iload_n 1, 1) ∧ decode cX7_lays 30 = .ok (.iaload, 1) ∧ decode cX7_lays 31 = .ok (.iadd, 1) ∧ decode cX7_lays 32 = .ok (.iload_n 3, 1) ∧ decode cX7_lays 33 = .ok (.iastore, 1) := by decide +kernel
theorem dX7_lays_24 : decode cX7_lays 24 = .ok (.imul, 1) := db_dX7_lays_24.1
theorem dX7_lays_25 : decode cX7_lays 25 = .ok (.aload_n 0, 1) := db_dX7_lays_24.2.1
theorem dX7_lays_26 : decode cX7_lays 26 = .ok (.getfield 13, 3) := db_dX7_lays_24.2.2.1
theorem dX7_lays_29 : decode cX7_lays 29 = .ok (.iload_n 1, 1) := db_dX7_lays_24.2.2.2.1
theorem dX7_lays_30 : decode cX7_lays 30 = .ok (.iaload, 1) := db_dX7_lays_24.2.2.2.2.1
theorem dX7_lays_31 : decode cX7_lays 31 = .ok (.iadd, 1) := db_dX7_lays_24.2.2.2.2.2.1
theorem dX7_lays_32 : decode cX7_lays 32 = .ok (.iload_n 3, 1) := db_dX7_lays_24.2.2.2.2.2.2.1
theorem dX7_lays_33 : decode cX7_lays 33 = .ok (.iastore, 1) := db_dX7_lays_24.2.2.2.2.2.2.2
theorem db_dX7_lays_34 : decode cX7_lays 34 = .ok (.aload_n 0, 1) ∧ decode cX7_lays 35 = .ok (.getfield 13, 3) ∧ decode cX7_lays 38 = .ok (.iload_n 1, 1) ∧ decode cX7_lays 39 = .ok (.dup2, 1) ∧ decode cX7_lays 40 = .ok (.iaload, 1) ∧ decode cX7_lays 41 = .ok (.iconst 1, 1) ∧ decode cX7_lays 42 = .ok (.iadd, 1) ∧ decode cX7_lays 43 = .ok (.iastore, 1) := by decide +kernel
theorem dX7_lays_34 : decode cX7_lays 34 = .ok (.aload_n 0, 1) := db_dX7_lays_34.1
theorem dX7_lays_35 : decode cX7_lays 35 = .ok (.getfield 13, 3) := db_dX7_lays_34.2.1
theorem dX7_lays_38 : decode cX7_lays 38 = .ok (.iload_n 1, 1) := db_dX7_lays_34.2.2.1
theorem dX7_lays_39 : decode cX7_lays 39 = .ok (.dup2, 1) := db_dX7_lays_34.2.2.2.1
theorem dX7_lays_40 : decode cX7_lays 40 = .ok (.iaload, 1) := db_dX7_lays_34.2.2.2.2.1
theorem dX7_lays_41 : decode cX7_lays 41 = .ok (.iconst 1, 1) := db_dX7_lays_34.2.2.2.2.2.1
theorem dX7_lays_42 : decode cX7_lays 42 = .ok (.iadd, 1) := db_dX7_lays_34.2.2.2.2.2.2.1
theorem dX7_lays_43 : decode cX7_lays 43 = .ok (.iastore, 1) := db_dX7_lays_34.2.2.2.2.2.2.2
theorem dX7_lays_44 : decode cX7_lays 44 = .ok (.return_, 1) := by decide +kernel
theorem db_dX7_change_0 : decode cX7_change 0 = .ok (.iload_n 1, 1) ∧ decode cX7_change 1 = .ok (.iload_n 2, 1) ∧ decode cX7_change 2 = .ok (.invokestatic 68, 3) ∧ decode cX7_change 5 = .ok (.ifCond .eq 26, 3) ∧ decode cX7_change 8 = .ok (.iload_n 3, 1) ∧ decode cX7_change 9 = .ok (.iconst 0, 1) ∧ decode cX7_change 10 = .ok (.sipush 3999, 3) ∧ decode cX7_change 13 = .ok (.invokestatic 60, 3) := by decide +kernel
theorem dX7_change_0 : decode cX7_change 0 = .ok (.iload_n 1, 1) := db_dX7_change_0.1
theorem dX7_change_1 : decode cX7_change 1 = .ok (.iload_n 2, 1) := db_dX7_change_0.2.1
theorem dX7_change_2 : decode cX7_change 2 = .ok (.invokestatic 68, 3) := db_dX7_change_0.2.2.1
theorem dX7_change_5 : decode cX7_change 5 = .ok (.ifCond .eq 26, 3) := db_dX7_change_0.2.2.2.1
theorem dX7_change_8 : decode cX7_change 8 = .ok (.iload_n 3, 1) := db_dX7_change_0.2.2.2.2.1
theorem dX7_change_9 : decode cX7_change 9 = .ok (.iconst 0, 1) := db_dX7_change_0.2.2.2.2.2.1
theorem dX7_change_10 : decode cX7_change 10 = .ok (.sipush 3999, 3) := db_dX7_change_0.2.2.2.2.2.2.1
theorem dX7_change_13 : decode cX7_change 13 = .ok (.invokestatic 60, 3) := db_dX7_change_0.2.2.2.2.2.2.2
theorem db_dX7_change_16 : decode cX7_change 16 = .ok (.ifCond .eq 15, 3) ∧ decode cX7_change 19 = .ok (.iload 4, 2) ∧ decode cX7_change 21 = .ok (.iconst 0, 1) ∧ decode cX7_change 22 = .ok (.sipush 256, 3) ∧ decode cX7_change 25 = .ok (.invokestatic 60, 3) ∧ decode cX7_change 28 = .ok (.ifCond .ne 5, 3) ∧ decode cX7_change 31 = .ok (.iconst (-1), 1) ∧ decode cX7_change 32 = .ok (.ireturn, 1) := by decide +kernel
theorem dX7_change_16 : decode cX7_change 16 = .ok (.ifCond .eq 15, 3) := db_dX7_change_16.1
theorem dX7_change_19 : decode cX7_change 19 = .ok (.iload 4, 2) := db_dX7_change_16.2.1
theorem dX7_change_21 : decode cX7_change 21 = .ok (.iconst 0, 1) := db_dX7_change_16.2.2.1
theorem dX7_change_22 : decode cX7_change 22 = .ok (.sipush 256, 3) := db_dX7_change_16.2.2.2.1
theorem dX7_change_25 : decode cX7_change 25 = .ok (.invokestatic 60, 3) := db_dX7_change_16.2.2.2.2.1
theorem dX7_change_28 : decode cX7_change 28 = .ok (.ifCond .ne 5, 3) := db_dX7_change_16.2.2.2.2.2.1
theorem dX7_change_31 : decode cX7_change 31 = .ok (.iconst (-1), 1) := db_dX7_change_16.2.2.2.2.2.2.1
theorem dX7_change_32 : decode cX7_change 32 = .ok (.ireturn, 1) := db_dX7_change_16.2.2.2.2.2.2.2
theorem db_dX7_change_33 : decode cX7_change 33 = .ok (.bipush 12, 2) ∧ decode cX7_change 35 = .ok (.iload_n 1, 1) ∧ decode cX7_change 36 = .ok (.imul, 1) ∧ decode cX7_change 37 = .ok (.iload_n 2, 1) ∧ decode cX7_change 38 = .ok (.iadd, 1) ∧ decode cX7_change 39 = .ok (.istore 5, 2) ∧ decode cX7_change 41 = .ok (.iload_n 3, 1) ∧ decode cX7_change 42 = .ok (.aload_n 0, 1) := by decide +kernel
theorem dX7_change_33 : decode cX7_change 33 = .ok (.bipush 12, 2) := db_dX7_change_33.1
theorem dX7_change_35 : decode cX7_change 35 = .ok (.iload_n 1, 1) := db_dX7_change_33.2.1
theorem dX7_change_36 : decode cX7_change 36 = .ok (.imul, 1) := db_dX7_change_33.2.2.1
theorem dX7_change_37 : decode cX7_change 37 = .ok (.iload_n 2, 1) := db_dX7_change_33.2.2.2.1
theorem dX7_change_38 : decode cX7_change 38 = .ok (.iadd, 1) := db_dX7_change_33.2.2.2.2.1
theorem dX7_change_39 : decode cX7_change 39 = .ok (.istore 5, 2) := db_dX7_change_33.2.2.2.2.2.1
theorem dX7_change_41 : decode cX7_change 41 = .ok (.iload_n 3, 1) := db_dX7_change_33.2.2.2.2.2.2.1
theorem dX7_change_42 : decode cX7_change 42 = .ok (.aload_n 0, 1) := db_dX7_change_33.2.2.2.2.2.2.2
theorem db_dX7_change_43 : decode cX7_change 43 = .ok (.iload 5, 2) ∧ decode cX7_change 45 = .ok (.invokevirtual 72, 3) ∧ decode cX7_change 48 = .ok (.if_icmp .gt 6, 3) ∧ decode cX7_change 51 = .ok (.bipush (-2), 2) ∧ decode cX7_change 53 = .ok (.ireturn, 1) ∧ decode cX7_change 54 = .ok (.aload_n 0, 1) ∧ decode cX7_change 55 = .ok (.getfield 13, 3) ∧ decode cX7_change 58 = .ok (.iload 5, 2) := by decide +kernel
theorem dX7_change_43 : decode cX7_change 43 = .ok (.iload 5, 2) := db_dX7_change_43.1
theorem dX7_change_45 : decode cX7_change 45 = .ok (.invokevirtual 72, 3) := db_dX7_change_43.2.1
theorem dX7_change_48 : decode cX7_change 48 = .ok (.if_icmp .gt 6, 3) := db_dX7_change_43.2.2.1
theorem dX7_change_51 : decode cX7_change 51 = .ok (.bipush (-2), 2) := db_dX7_change_43.2.2.2.1
theorem dX7_change_53 : decode cX7_change 53 = .ok (.ireturn, 1) := db_dX7_change_43.2.2.2.2.1
theorem dX7_change_54 : decode cX7_change 54 = .ok (.aload_n 0, 1) := db_dX7_change_43.2.2.2.2.2.1
theorem dX7_change_55 : decode cX7_change 55 = .ok (.getfield 13, 3) := db_dX7_change_43.2.2.2.2.2.2.1
theorem dX7_change_58 : decode cX7_change 58 = .ok (.iload 5, 2) := db_dX7_change_43.2.2.2.2.2.2.2
theorem db_dX7_change_60 : decode cX7_change 60 = .ok (.iaload, 1) ∧ decode cX7_change 61 = .ok (.bipush 50, 2) ∧ decode cX7_change 63 = .ok (.if_icmp .ne 6, 3) ∧ decode cX7_change 66 = .ok (.bipush (-3), 2) ∧ decode cX7_change 68 = .ok (.ireturn, 1) ∧ decode cX7_change 69 = .ok (.aload_n 0, 1) ∧ decode cX7_change 70 = .ok (.iload 5, 2) ∧ decode cX7_change 72 = .ok (.iload_n 3, 1) := by decide +kernel
theorem dX7_change_60 : decode cX7_change 60 = .ok (.iaload, 1) := db_dX7_change_60.1
theorem dX7_change_61 : decode cX7_change 61 = .ok (.bipush 50, 2) := db_dX7_change_60.2.1
theorem dX7_change_63 : decode cX7_change 63 = .ok (.if_icmp .ne 6, 3) := db_dX7_change_60.2.2.1
theorem dX7_change_66 : decode cX7_change 66 = .ok (.bipush (-3), 2) := db_dX7_change_60.2.2.2.1
theorem dX7_change_68 : decode cX7_change 68 = .ok (.ireturn, 1) := db_dX7_change_60.2.2.2.2.1
theorem dX7_change_69 : decode cX7_change 69 = .ok (.aload_n 0, 1) := db_dX7_change_60.2.2.2.2.2.1
theorem dX7_change_70 : decode cX7_change 70 = .ok (.iload 5, 2) := db_dX7_change_60.2.2.2.2.2.2.1
theorem dX7_change_72 : decode cX7_change 72 = .ok (.iload_n 3, 1) := db_dX7_change_60.2.2.2.2.2.2.2
theorem db_dX7_change_73 : decode cX7_change 73 = .ok (.iload 4, 2) ∧ decode cX7_change 75 = .ok (.invokevirtual 76, 3) ∧ decode cX7_change 78 = .ok (.aload_n 0, 1) ∧ decode cX7_change 79 = .ok (.getfield 13, 3) ∧ decode cX7_change 82 = .ok (.iload 5, 2) ∧ decode cX7_change 84 = .ok (.iaload, 1) ∧ decode cX7_change 85 = .ok (.ireturn, 1) := by decide +kernel
theorem dX7_change_73 : decode cX7_change 73 = .ok (.iload 4, 2) := db_dX7_change_73.1
theorem dX7_change_75 : decode cX7_change 75 = .ok (.invokevirtual 76, 3) := db_dX7_change_73.2.1
theorem dX7_change_78 : decode cX7_change 78 = .ok (.aload_n 0, 1) := db_dX7_change_73.2.2.1
theorem dX7_change_79 : decode cX7_change 79 = .ok (.getfield 13, 3) := db_dX7_change_73.2.2.2.1
theorem dX7_change_82 : decode cX7_change 82 = .ok (.iload 5, 2) := db_dX7_change_73.2.2.2.2.1
theorem dX7_change_84 : decode cX7_change 84 = .ok (.iaload, 1) := db_dX7_change_73.2.2.2.2.2.1
theorem dX7_change_85 : decode cX7_change 85 = .ok (.ireturn, 1) := db_dX7_change_73.2.2.2.2.2.2
theorem db_dX7_changes_0 : decode cX7_changes 0 = .ok (.iload_n 1, 1) ∧ decode cX7_changes 1 = .ok (.iload_n 2, 1) ∧ decode cX7_changes 2 = .ok (.invokestatic 68, 3) ∧ decode cX7_changes 5 = .ok (.ifCond .eq 12, 3) ∧ decode cX7_changes 8 = .ok (.iload_n 3, 1) ∧ decode cX7_changes 9 = .ok (.iconst 1, 1) ∧ decode cX7_changes 10 = .ok (.iconst 4, 1) ∧ decode cX7_changes 11 = .ok (.invokestatic 60, 3) := by decide +kernel
theorem dX7_changes_0 : decode cX7_changes 0 = .ok (.iload_n 1, 1) := db_dX7_changes_0.1
theorem dX7_changes_1 : decode cX7_changes 1 = .ok (.iload_n 2, 1) := db_dX7_changes_0.2.1
theorem dX7_changes_2 : decode cX7_changes 2 = .ok (.invokestatic 68, 3) := db_dX7_changes_0.2.2.1
theorem dX7_changes_5 : decode cX7_changes 5 = .ok (.ifCond .eq 12, 3) := db_dX7_changes_0.2.2.2.1
theorem dX7_changes_8 : decode cX7_changes 8 = .ok (.iload_n 3, 1) := db_dX7_changes_0.2.2.2.2.1
theorem dX7_changes_9 : decode cX7_changes 9 = .ok (.iconst 1, 1) := db_dX7_changes_0.2.2.2.2.2.1
theorem dX7_changes_10 : decode cX7_changes 10 = .ok (.iconst 4, 1) := db_dX7_changes_0.2.2.2.2.2.2.1
theorem dX7_changes_11 : decode cX7_changes 11 = .ok (.invokestatic 60, 3) := db_dX7_changes_0.2.2.2.2.2.2.2
theorem db_dX7_changes_14 : decode cX7_changes 14 = .ok (.ifCond .ne 5, 3) ∧ decode cX7_changes 17 = .ok (.iconst (-1), 1) ∧ decode cX7_changes 18 = .ok (.ireturn, 1) ∧ decode cX7_changes 19 = .ok (.bipush 12, 2) ∧ decode cX7_changes 21 = .ok (.iload_n 1, 1) ∧ decode cX7_changes 22 = .ok (.imul, 1) ∧ decode cX7_changes 23 = .ok (.iload_n 2, 1) ∧ decode cX7_changes 24 = .ok (.iadd, 1) := by decide +kernel
theorem dX7_changes_14 : decode cX7_changes 14 = .ok (.ifCond .ne 5, 3) := db_dX7_changes_14.1
theorem dX7_changes_17 : decode cX7_changes 17 = .ok (.iconst (-1), 1) := db_dX7_changes_14.2.1
theorem dX7_changes_18 : decode cX7_changes 18 = .ok (.ireturn, 1) := db_dX7_changes_14.2.2.1
theorem dX7_changes_19 : decode cX7_changes 19 = .ok (.bipush 12, 2) := db_dX7_changes_14.2.2.2.1
theorem dX7_changes_21 : decode cX7_changes 21 = .ok (.iload_n 1, 1) := db_dX7_changes_14.2.2.2.2.1
theorem dX7_changes_22 : decode cX7_changes 22 = .ok (.imul, 1) := db_dX7_changes_14.2.2.2.2.2.1
theorem dX7_changes_23 : decode cX7_changes 23 = .ok (.iload_n 2, 1) := db_dX7_changes_14.2.2.2.2.2.2.1
theorem dX7_changes_24 : decode cX7_changes 24 = .ok (.iadd, 1) := db_dX7_changes_14.2.2.2.2.2.2.2
theorem db_dX7_changes_25 : decode cX7_changes 25 = .ok (.istore 6, 2) ∧ decode cX7_changes 27 = .ok (.aload_n 0, 1) ∧ decode cX7_changes 28 = .ok (.iload 6, 2) ∧ decode cX7_changes 30 = .ok (.invokevirtual 72, 3) ∧ decode cX7_changes 33 = .ok (.istore 7, 2) ∧ decode cX7_changes 35 = .ok (.iload_n 3, 1) ∧ decode cX7_changes 36 = .ok (.iconst 1, 1) ∧ decode cX7_changes 37 = .ok (.isub, 1) := by decide +kernel
theorem dX7_changes_25 : decode cX7_changes 25 = .ok (.istore 6, 2) := db_dX7_changes_25.1
theorem dX7_changes_27 : decode cX7_changes 27 = .ok (.aload_n 0, 1) := db_dX7_changes_25.2.1
theorem dX7_changes_28 : decode cX7_changes 28 = .ok (.iload 6, 2) := db_dX7_changes_25.2.2.1
theorem dX7_changes_30 : decode cX7_changes 30 = .ok (.invokevirtual 72, 3) := db_dX7_changes_25.2.2.2.1
theorem dX7_changes_33 : decode cX7_changes 33 = .ok (.istore 7, 2) := db_dX7_changes_25.2.2.2.2.1
theorem dX7_changes_35 : decode cX7_changes 35 = .ok (.iload_n 3, 1) := db_dX7_changes_25.2.2.2.2.2.1
theorem dX7_changes_36 : decode cX7_changes 36 = .ok (.iconst 1, 1) := db_dX7_changes_25.2.2.2.2.2.2.1
theorem dX7_changes_37 : decode cX7_changes 37 = .ok (.isub, 1) := db_dX7_changes_25.2.2.2.2.2.2.2
theorem db_dX7_changes_38 : decode cX7_changes 38 = .ok (.istore 8, 2) ∧ decode cX7_changes 40 = .ok (.iload 8, 2) ∧ decode cX7_changes 42 = .ok (.ifCond .lt 64, 3) ∧ decode cX7_changes 45 = .ok (.lload 4, 2) ∧ decode cX7_changes 47 = .ok (.bipush 16, 2) ∧ decode cX7_changes 49 = .ok (.iload 8, 2) ∧ decode cX7_changes 51 = .ok (.imul, 1) ∧ decode cX7_changes 52 = .ok (.lshr, 1) := by decide +kernel
theorem dX7_changes_38 : decode cX7_changes 38 = .ok (.istore 8, 2) := db_dX7_changes_38.1
theorem dX7_changes_40 : decode cX7_changes 40 = .ok (.iload 8, 2) := db_dX7_changes_38.2.1
theorem dX7_changes_42 : decode cX7_changes 42 = .ok (.ifCond .lt 64, 3) := db_dX7_changes_38.2.2.1
theorem dX7_changes_45 : decode cX7_changes 45 = .ok (.lload 4, 2) := db_dX7_changes_38.2.2.2.1
theorem dX7_changes_47 : decode cX7_changes 47 = .ok (.bipush 16, 2) := db_dX7_changes_38.2.2.2.2.1
theorem dX7_changes_49 : decode cX7_changes 49 = .ok (.iload 8, 2) := db_dX7_changes_38.2.2.2.2.2.1
theorem dX7_changes_51 : decode cX7_changes 51 = .ok (.imul, 1) := db_dX7_changes_38.2.2.2.2.2.2.1
theorem dX7_changes_52 : decode cX7_changes 52 = .ok (.lshr, 1) := db_dX7_changes_38.2.2.2.2.2.2.2
theorem db_dX7_changes_53 : decode cX7_changes 53 = .ok (.ldc2_w 80, 3) ∧ decode cX7_changes 56 = .ok (.land, 1) ∧ decode cX7_changes 57 = .ok (.l2i, 1) ∧ decode cX7_changes 58 = .ok (.istore 9, 2) ∧ decode cX7_changes 60 = .ok (.iload 7, 2) ∧ decode cX7_changes 62 = .ok (.iload 9, 2) ∧ decode cX7_changes 64 = .ok (.bipush 9, 2) ∧ decode cX7_changes 66 = .ok (.ishr, 1) := by decide +kernel
theorem dX7_changes_53 : decode cX7_changes 53 = .ok (.ldc2_w 80, 3) := db_dX7_changes_53.1
theorem dX7_changes_56 : decode cX7_changes 56 = .ok (.land, 1) := db_dX7_changes_53.2.1
theorem dX7_changes_57 : decode cX7_changes 57 = .ok (.l2i, 1) := db_dX7_changes_53.2.2.1
theorem dX7_changes_58 : decode cX7_changes 58 = .ok (.istore 9, 2) := db_dX7_changes_53.2.2.2.1
theorem dX7_changes_60 : decode cX7_changes 60 = .ok (.iload 7, 2) := db_dX7_changes_53.2.2.2.2.1
theorem dX7_changes_62 : decode cX7_changes 62 = .ok (.iload 9, 2) := db_dX7_changes_53.2.2.2.2.2.1
theorem dX7_changes_64 : decode cX7_changes 64 = .ok (.bipush 9, 2) := db_dX7_changes_53.2.2.2.2.2.2.1
theorem dX7_changes_66 : decode cX7_changes 66 = .ok (.ishr, 1) := db_dX7_changes_53.2.2.2.2.2.2.2
theorem db_dX7_changes_67 : decode cX7_changes 67 = .ok (.iadd, 1) ∧ decode cX7_changes 68 = .ok (.istore 7, 2) ∧ decode cX7_changes 70 = .ok (.iload 9, 2) ∧ decode cX7_changes 72 = .ok (.bipush 9, 2) ∧ decode cX7_changes 74 = .ok (.ishr, 1) ∧ decode cX7_changes 75 = .ok (.ifCond .eq 23, 3) ∧ decode cX7_changes 78 = .ok (.iload 9, 2) ∧ decode cX7_changes 80 = .ok (.sipush 511, 3) := by decide +kernel
theorem dX7_changes_67 : decode cX7_changes 67 = .ok (.iadd, 1) := db_dX7_changes_67.1
theorem dX7_changes_68 : decode cX7_changes 68 = .ok (.istore 7, 2) := db_dX7_changes_67.2.1
theorem dX7_changes_70 : decode cX7_changes 70 = .ok (.iload 9, 2) := db_dX7_changes_67.2.2.1
theorem dX7_changes_72 : decode cX7_changes 72 = .ok (.bipush 9, 2) := db_dX7_changes_67.2.2.2.1
theorem dX7_changes_74 : decode cX7_changes 74 = .ok (.ishr, 1) := db_dX7_changes_67.2.2.2.2.1
theorem dX7_changes_75 : decode cX7_changes 75 = .ok (.ifCond .eq 23, 3) := db_dX7_changes_67.2.2.2.2.2.1
theorem dX7_changes_78 : decode cX7_changes 78 = .ok (.iload 9, 2) := db_dX7_changes_67.2.2.2.2.2.2.1
theorem dX7_changes_80 : decode cX7_changes 80 = .ok (.sipush 511, 3) := db_dX7_changes_67.2.2.2.2.2.2.2
theorem db_dX7_changes_83 : decode cX7_changes 83 = .ok (.iand, 1) ∧ decode cX7_changes 84 = .ok (.sipush 256, 3) ∧ decode cX7_changes 87 = .ok (.if_icmp .gt 11, 3) ∧ decode cX7_changes 90 = .ok (.iload 7, 2) ∧ decode cX7_changes 92 = .ok (.sipush 3999, 3) ∧ decode cX7_changes 95 = .ok (.if_icmp .le 5, 3) ∧ decode cX7_changes 98 = .ok (.iconst (-1), 1) ∧ decode cX7_changes 99 = .ok (.ireturn, 1) := by decide +kernel
theorem dX7_changes_83 : decode cX7_changes 83 = .ok (.iand, 1) := db_dX7_changes_83.1
theorem dX7_changes_84 : decode cX7_changes 84 = .ok (.sipush 256, 3) := db_dX7_changes_83.2.1
theorem dX7_changes_87 : decode cX7_changes 87 = .ok (.if_icmp .gt 11, 3) := db_dX7_changes_83.2.2.1
theorem dX7_changes_90 : decode cX7_changes 90 = .ok (.iload 7, 2) := db_dX7_changes_83.2.2.2.1
theorem dX7_changes_92 : decode cX7_changes 92 = .ok (.sipush 3999, 3) := db_dX7_changes_83.2.2.2.2.1
theorem dX7_changes_95 : decode cX7_changes 95 = .ok (.if_icmp .le 5, 3) := db_dX7_changes_83.2.2.2.2.2.1
theorem dX7_changes_98 : decode cX7_changes 98 = .ok (.iconst (-1), 1) := db_dX7_changes_83.2.2.2.2.2.2.1
theorem dX7_changes_99 : decode cX7_changes 99 = .ok (.ireturn, 1) := db_dX7_changes_83.2.2.2.2.2.2.2
theorem db_dX7_changes_100 : decode cX7_changes 100 = .ok (.iinc 8 (-1), 3) ∧ decode cX7_changes 103 = .ok (.goto (-63), 3) ∧ decode cX7_changes 106 = .ok (.aload_n 0, 1) ∧ decode cX7_changes 107 = .ok (.getfield 13, 3) ∧ decode cX7_changes 110 = .ok (.iload 6, 2) ∧ decode cX7_changes 112 = .ok (.iaload, 1) ∧ decode cX7_changes 113 = .ok (.iload_n 3, 1) ∧ decode cX7_changes 114 = .ok (.iadd, 1) := by decide +kernel
theorem dX7_changes_100 : decode cX7_changes 100 = .ok (.iinc 8 (-1), 3) := db_dX7_changes_100.1
theorem dX7_changes_103 : decode cX7_changes 103 = .ok (.goto (-63), 3) := db_dX7_changes_100.2.1
theorem dX7_changes_106 : decode cX7_changes 106 = .ok (.aload_n 0, 1) := db_dX7_changes_100.2.2.1
theorem dX7_changes_107 : decode cX7_changes 107 = .ok (.getfield 13, 3) := db_dX7_changes_100.2.2.2.1
theorem dX7_changes_110 : decode cX7_changes 110 = .ok (.iload 6, 2) := db_dX7_changes_100.2.2.2.2.1
theorem dX7_changes_112 : decode cX7_changes 112 = .ok (.iaload, 1) := db_dX7_changes_100.2.2.2.2.2.1
theorem dX7_changes_113 : decode cX7_changes 113 = .ok (.iload_n 3, 1) := db_dX7_changes_100.2.2.2.2.2.2.1
theorem dX7_changes_114 : decode cX7_changes 114 = .ok (.iadd, 1) := db_dX7_changes_100.2.2.2.2.2.2.2
theorem db_dX7_changes_115 : decode cX7_changes 115 = .ok (.bipush 50, 2) ∧ decode cX7_changes 117 = .ok (.if_icmp .le 6, 3) ∧ decode cX7_changes 120 = .ok (.bipush (-3), 2) ∧ decode cX7_changes 122 = .ok (.ireturn, 1) ∧ decode cX7_changes 123 = .ok (.iload_n 3, 1) ∧ decode cX7_changes 124 = .ok (.iconst 1, 1) ∧ decode cX7_changes 125 = .ok (.isub, 1) ∧ decode cX7_changes 126 = .ok (.istore 8, 2) := by decide +kernel
theorem dX7_changes_115 : decode cX7_changes 115 = .ok (.bipush 50, 2) := db_dX7_changes_115.1
theorem dX7_changes_117 : decode cX7_changes 117 = .ok (.if_icmp .le 6, 3) := db_dX7_changes_115.2.1
theorem dX7_changes_120 : decode cX7_changes 120 = .ok (.bipush (-3), 2) := db_dX7_changes_115.2.2.1
theorem dX7_changes_122 : decode cX7_changes 122 = .ok (.ireturn, 1) := db_dX7_changes_115.2.2.2.1
theorem dX7_changes_123 : decode cX7_changes 123 = .ok (.iload_n 3, 1) := db_dX7_changes_115.2.2.2.2.1
theorem dX7_changes_124 : decode cX7_changes 124 = .ok (.iconst 1, 1) := db_dX7_changes_115.2.2.2.2.2.1
theorem dX7_changes_125 : decode cX7_changes 125 = .ok (.isub, 1) := db_dX7_changes_115.2.2.2.2.2.2.1
theorem dX7_changes_126 : decode cX7_changes 126 = .ok (.istore 8, 2) := db_dX7_changes_115.2.2.2.2.2.2.2
theorem db_dX7_changes_128 : decode cX7_changes 128 = .ok (.iload 8, 2) ∧ decode cX7_changes 130 = .ok (.ifCond .lt 48, 3) ∧ decode cX7_changes 133 = .ok (.lload 4, 2) ∧ decode cX7_changes 135 = .ok (.bipush 16, 2) ∧ decode cX7_changes 137 = .ok (.iload 8, 2) ∧ decode cX7_changes 139 = .ok (.imul, 1) ∧ decode cX7_changes 140 = .ok (.lshr, 1) ∧ decode cX7_changes 141 = .ok (.ldc2_w 80, 3) := by decide +kernel
theorem dX7_changes_128 : decode cX7_changes 128 = .ok (.iload 8, 2) := db_dX7_changes_128.1
theorem dX7_changes_130 : decode cX7_changes 130 = .ok (.ifCond .lt 48, 3) := db_dX7_changes_128.2.1
theorem dX7_changes_133 : decode cX7_changes 133 = .ok (.lload 4, 2) := db_dX7_changes_128.2.2.1
theorem dX7_changes_135 : decode cX7_changes 135 = .ok (.bipush 16, 2) := db_dX7_changes_128.2.2.2.1
theorem dX7_changes_137 : decode cX7_changes 137 = .ok (.iload 8, 2) := db_dX7_changes_128.2.2.2.2.1
theorem dX7_changes_139 : decode cX7_changes 139 = .ok (.imul, 1) := db_dX7_changes_128.2.2.2.2.2.1
theorem dX7_changes_140 : decode cX7_changes 140 = .ok (.lshr, 1) := db_dX7_changes_128.2.2.2.2.2.2.1
theorem dX7_changes_141 : decode cX7_changes 141 = .ok (.ldc2_w 80, 3) := db_dX7_changes_128.2.2.2.2.2.2.2
theorem db_dX7_changes_144 : decode cX7_changes 144 = .ok (.land, 1) ∧ decode cX7_changes 145 = .ok (.l2i, 1) ∧ decode cX7_changes 146 = .ok (.istore 9, 2) ∧ decode cX7_changes 148 = .ok (.aload_n 0, 1) ∧ decode cX7_changes 149 = .ok (.iload 6, 2) ∧ decode cX7_changes 151 = .ok (.aload_n 0, 1) ∧ decode cX7_changes 152 = .ok (.iload 6, 2) ∧ decode cX7_changes 154 = .ok (.invokevirtual 72, 3) := by decide +kernel
theorem dX7_changes_144 : decode cX7_changes 144 = .ok (.land, 1) := db_dX7_changes_144.1
theorem dX7_changes_145 : decode cX7_changes 145 = .ok (.l2i, 1) := db_dX7_changes_144.2.1
theorem dX7_changes_146 : decode cX7_changes 146 = .ok (.istore 9, 2) := db_dX7_changes_144.2.2.1
theorem dX7_changes_148 : decode cX7_changes 148 = .ok (.aload_n 0, 1) := db_dX7_changes_144.2.2.2.1
theorem dX7_changes_149 : decode cX7_changes 149 = .ok (.iload 6, 2) := db_dX7_changes_144.2.2.2.2.1
theorem dX7_changes_151 : decode cX7_changes 151 = .ok (.aload_n 0, 1) := db_dX7_changes_144.2.2.2.2.2.1
theorem dX7_changes_152 : decode cX7_changes 152 = .ok (.iload 6, 2) := db_dX7_changes_144.2.2.2.2.2.2.1
theorem dX7_changes_154 : decode cX7_changes 154 = .ok (.invokevirtual 72, 3) := db_dX7_changes_144.2.2.2.2.2.2.2
theorem db_dX7_changes_157 : decode cX7_changes 157 = .ok (.iload 9, 2) ∧ decode cX7_changes 159 = .ok (.bipush 9, 2) ∧ decode cX7_changes 161 = .ok (.ishr, 1) ∧ decode cX7_changes 162 = .ok (.iadd, 1) ∧ decode cX7_changes 163 = .ok (.iload 9, 2) ∧ decode cX7_changes 165 = .ok (.sipush 511, 3) ∧ decode cX7_changes 168 = .ok (.iand, 1) ∧ decode cX7_changes 169 = .ok (.invokevirtual 76, 3) := by decide +kernel
theorem dX7_changes_157 : decode cX7_changes 157 = .ok (.iload 9, 2) := db_dX7_changes_157.1
theorem dX7_changes_159 : decode cX7_changes 159 = .ok (.bipush 9, 2) := db_dX7_changes_157.2.1
theorem dX7_changes_161 : decode cX7_changes 161 = .ok (.ishr, 1) := db_dX7_changes_157.2.2.1
theorem dX7_changes_162 : decode cX7_changes 162 = .ok (.iadd, 1) := db_dX7_changes_157.2.2.2.1
theorem dX7_changes_163 : decode cX7_changes 163 = .ok (.iload 9, 2) := db_dX7_changes_157.2.2.2.2.1
theorem dX7_changes_165 : decode cX7_changes 165 = .ok (.sipush 511, 3) := db_dX7_changes_157.2.2.2.2.2.1
theorem dX7_changes_168 : decode cX7_changes 168 = .ok (.iand, 1) := db_dX7_changes_157.2.2.2.2.2.2.1
theorem dX7_changes_169 : decode cX7_changes 169 = .ok (.invokevirtual 76, 3) := db_dX7_changes_157.2.2.2.2.2.2.2
theorem db_dX7_changes_172 : decode cX7_changes 172 = .ok (.iinc 8 (-1), 3) ∧ decode cX7_changes 175 = .ok (.goto (-47), 3) ∧ decode cX7_changes 178 = .ok (.aload_n 0, 1) ∧ decode cX7_changes 179 = .ok (.getfield 13, 3) ∧ decode cX7_changes 182 = .ok (.iload 6, 2) ∧ decode cX7_changes 184 = .ok (.iaload, 1) ∧ decode cX7_changes 185 = .ok (.ireturn, 1) := by decide +kernel
theorem dX7_changes_172 : decode cX7_changes 172 = .ok (.iinc 8 (-1), 3) := db_dX7_changes_172.1
theorem dX7_changes_175 : decode cX7_changes 175 = .ok (.goto (-47), 3) := db_dX7_changes_172.2.1
theorem dX7_changes_178 : decode cX7_changes 178 = .ok (.aload_n 0, 1) := db_dX7_changes_172.2.2.1
theorem dX7_changes_179 : decode cX7_changes 179 = .ok (.getfield 13, 3) := db_dX7_changes_172.2.2.2.1
theorem dX7_changes_182 : decode cX7_changes 182 = .ok (.iload 6, 2) := db_dX7_changes_172.2.2.2.2.1
theorem dX7_changes_184 : decode cX7_changes 184 = .ok (.iaload, 1) := db_dX7_changes_172.2.2.2.2.2.1
theorem dX7_changes_185 : decode cX7_changes 185 = .ok (.ireturn, 1) := db_dX7_changes_172.2.2.2.2.2.2
theorem db_dX7_cut_0 : decode cX7_cut 0 = .ok (.iload_n 1, 1) ∧ decode cX7_cut 1 = .ok (.iload_n 2, 1) ∧ decode cX7_cut 2 = .ok (.invokestatic 68, 3) ∧ decode cX7_cut 5 = .ok (.ifCond .eq 14, 3) ∧ decode cX7_cut 8 = .ok (.iload_n 3, 1) ∧ decode cX7_cut 9 = .ok (.iconst 0, 1) ∧ decode cX7_cut 10 = .ok (.sipush 3999, 3) ∧ decode cX7_cut 13 = .ok (.invokestatic 60, 3) := by decide +kernel
theorem dX7_cut_0 : decode cX7_cut 0 = .ok (.iload_n 1, 1) := db_dX7_cut_0.1
theorem dX7_cut_1 : decode cX7_cut 1 = .ok (.iload_n 2, 1) := db_dX7_cut_0.2.1
theorem dX7_cut_2 : decode cX7_cut 2 = .ok (.invokestatic 68, 3) := db_dX7_cut_0.2.2.1
theorem dX7_cut_5 : decode cX7_cut 5 = .ok (.ifCond .eq 14, 3) := db_dX7_cut_0.2.2.2.1
theorem dX7_cut_8 : decode cX7_cut 8 = .ok (.iload_n 3, 1) := db_dX7_cut_0.2.2.2.2.1
theorem dX7_cut_9 : decode cX7_cut 9 = .ok (.iconst 0, 1) := db_dX7_cut_0.2.2.2.2.2.1
theorem dX7_cut_10 : decode cX7_cut 10 = .ok (.sipush 3999, 3) := db_dX7_cut_0.2.2.2.2.2.2.1
theorem dX7_cut_13 : decode cX7_cut 13 = .ok (.invokestatic 60, 3) := db_dX7_cut_0.2.2.2.2.2.2.2
theorem db_dX7_cut_16 : decode cX7_cut 16 = .ok (.ifCond .ne 5, 3) ∧ decode cX7_cut 19 = .ok (.iconst (-1), 1) ∧ decode cX7_cut 20 = .ok (.ireturn, 1) ∧ decode cX7_cut 21 = .ok (.bipush 12, 2) ∧ decode cX7_cut 23 = .ok (.iload_n 1, 1) ∧ decode cX7_cut 24 = .ok (.imul, 1) ∧ decode cX7_cut 25 = .ok (.iload_n 2, 1) ∧ decode cX7_cut 26 = .ok (.iadd, 1) := by decide +kernel
theorem dX7_cut_16 : decode cX7_cut 16 = .ok (.ifCond .ne 5, 3) := db_dX7_cut_16.1
theorem dX7_cut_19 : decode cX7_cut 19 = .ok (.iconst (-1), 1) := db_dX7_cut_16.2.1
theorem dX7_cut_20 : decode cX7_cut 20 = .ok (.ireturn, 1) := db_dX7_cut_16.2.2.1
theorem dX7_cut_21 : decode cX7_cut 21 = .ok (.bipush 12, 2) := db_dX7_cut_16.2.2.2.1
theorem dX7_cut_23 : decode cX7_cut 23 = .ok (.iload_n 1, 1) := db_dX7_cut_16.2.2.2.2.1
theorem dX7_cut_24 : decode cX7_cut 24 = .ok (.imul, 1) := db_dX7_cut_16.2.2.2.2.2.1
theorem dX7_cut_25 : decode cX7_cut 25 = .ok (.iload_n 2, 1) := db_dX7_cut_16.2.2.2.2.2.2.1
theorem dX7_cut_26 : decode cX7_cut 26 = .ok (.iadd, 1) := db_dX7_cut_16.2.2.2.2.2.2.2
theorem db_dX7_cut_27 : decode cX7_cut 27 = .ok (.istore 4, 2) ∧ decode cX7_cut 29 = .ok (.aload_n 0, 1) ∧ decode cX7_cut 30 = .ok (.getfield 13, 3) ∧ decode cX7_cut 33 = .ok (.iload 4, 2) ∧ decode cX7_cut 35 = .ok (.iaload, 1) ∧ decode cX7_cut 36 = .ok (.istore 5, 2) ∧ decode cX7_cut 38 = .ok (.aload_n 0, 1) ∧ decode cX7_cut 39 = .ok (.iload 4, 2) := by decide +kernel
theorem dX7_cut_27 : decode cX7_cut 27 = .ok (.istore 4, 2) := db_dX7_cut_27.1
theorem dX7_cut_29 : decode cX7_cut 29 = .ok (.aload_n 0, 1) := db_dX7_cut_27.2.1
theorem dX7_cut_30 : decode cX7_cut 30 = .ok (.getfield 13, 3) := db_dX7_cut_27.2.2.1
theorem dX7_cut_33 : decode cX7_cut 33 = .ok (.iload 4, 2) := db_dX7_cut_27.2.2.2.1
theorem dX7_cut_35 : decode cX7_cut 35 = .ok (.iaload, 1) := db_dX7_cut_27.2.2.2.2.1
theorem dX7_cut_36 : decode cX7_cut 36 = .ok (.istore 5, 2) := db_dX7_cut_27.2.2.2.2.2.1
theorem dX7_cut_38 : decode cX7_cut 38 = .ok (.aload_n 0, 1) := db_dX7_cut_27.2.2.2.2.2.2.1
theorem dX7_cut_39 : decode cX7_cut 39 = .ok (.iload 4, 2) := db_dX7_cut_27.2.2.2.2.2.2.2
theorem db_dX7_cut_41 : decode cX7_cut 41 = .ok (.invokevirtual 72, 3) ∧ decode cX7_cut 44 = .ok (.iload_n 3, 1) ∧ decode cX7_cut 45 = .ok (.if_icmp .lt 17, 3) ∧ decode cX7_cut 48 = .ok (.aload_n 0, 1) ∧ decode cX7_cut 49 = .ok (.getfield 13, 3) ∧ decode cX7_cut 52 = .ok (.iload 4, 2) ∧ decode cX7_cut 54 = .ok (.dup2, 1) ∧ decode cX7_cut 55 = .ok (.iaload, 1) := by decide +kernel
theorem dX7_cut_41 : decode cX7_cut 41 = .ok (.invokevirtual 72, 3) := db_dX7_cut_41.1
theorem dX7_cut_44 : decode cX7_cut 44 = .ok (.iload_n 3, 1) := db_dX7_cut_41.2.1
theorem dX7_cut_45 : decode cX7_cut 45 = .ok (.if_icmp .lt 17, 3) := db_dX7_cut_41.2.2.1
theorem dX7_cut_48 : decode cX7_cut 48 = .ok (.aload_n 0, 1) := db_dX7_cut_41.2.2.2.1
theorem dX7_cut_49 : decode cX7_cut 49 = .ok (.getfield 13, 3) := db_dX7_cut_41.2.2.2.2.1
theorem dX7_cut_52 : decode cX7_cut 52 = .ok (.iload 4, 2) := db_dX7_cut_41.2.2.2.2.2.1
theorem dX7_cut_54 : decode cX7_cut 54 = .ok (.dup2, 1) := db_dX7_cut_41.2.2.2.2.2.2.1
theorem dX7_cut_55 : decode cX7_cut 55 = .ok (.iaload, 1) := db_dX7_cut_41.2.2.2.2.2.2.2
theorem db_dX7_cut_56 : decode cX7_cut 56 = .ok (.iconst 1, 1) ∧ decode cX7_cut 57 = .ok (.isub, 1) ∧ decode cX7_cut 58 = .ok (.iastore, 1) ∧ decode cX7_cut 59 = .ok (.goto (-21), 3) ∧ decode cX7_cut 62 = .ok (.iload 5, 2) ∧ decode cX7_cut 64 = .ok (.aload_n 0, 1) ∧ decode cX7_cut 65 = .ok (.getfield 13, 3) ∧ decode cX7_cut 68 = .ok (.iload 4, 2) := by decide +kernel
theorem dX7_cut_56 : decode cX7_cut 56 = .ok (.iconst 1, 1) := db_dX7_cut_56.1
theorem dX7_cut_57 : decode cX7_cut 57 = .ok (.isub, 1) := db_dX7_cut_56.2.1
theorem dX7_cut_58 : decode cX7_cut 58 = .ok (.iastore, 1) := db_dX7_cut_56.2.2.1
theorem dX7_cut_59 : decode cX7_cut 59 = .ok (.goto (-21), 3) := db_dX7_cut_56.2.2.2.1
theorem dX7_cut_62 : decode cX7_cut 62 = .ok (.iload 5, 2) := db_dX7_cut_56.2.2.2.2.1
theorem dX7_cut_64 : decode cX7_cut 64 = .ok (.aload_n 0, 1) := db_dX7_cut_56.2.2.2.2.2.1
theorem dX7_cut_65 : decode cX7_cut 65 = .ok (.getfield 13, 3) := db_dX7_cut_56.2.2.2.2.2.2.1
theorem dX7_cut_68 : decode cX7_cut 68 = .ok (.iload 4, 2) := db_dX7_cut_56.2.2.2.2.2.2.2
theorem db_dX7_cut_70 : decode cX7_cut 70 = .ok (.iaload, 1) ∧ decode cX7_cut 71 = .ok (.isub, 1) ∧ decode cX7_cut 72 = .ok (.ireturn, 1) := by decide +kernel
theorem dX7_cut_70 : decode cX7_cut 70 = .ok (.iaload, 1) := db_dX7_cut_70.1
theorem dX7_cut_71 : decode cX7_cut 71 = .ok (.isub, 1) := db_dX7_cut_70.2.1
theorem dX7_cut_72 : decode cX7_cut 72 = .ok (.ireturn, 1) := db_dX7_cut_70.2.2
theorem db_dX7_at_0 : decode cX7_at 0 = .ok (.bipush 12, 2) ∧ decode cX7_at 2 = .ok (.iload_n 1, 1) ∧ decode cX7_at 3 = .ok (.imul, 1) ∧ decode cX7_at 4 = .ok (.iload_n 2, 1) ∧ decode cX7_at 5 = .ok (.iadd, 1) ∧ decode cX7_at 6 = .ok (.istore 4, 2) ∧ decode cX7_at 8 = .ok (.sipush 256, 3) ∧ decode cX7_at 11 = .ok (.istore 5, 2) := by decide +kernel
theorem dX7_at_0 : decode cX7_at 0 = .ok (.bipush 12, 2) := db_dX7_at_0.1
theorem dX7_at_2 : decode cX7_at 2 = .ok (.iload_n 1, 1) := db_dX7_at_0.2.1
theorem dX7_at_3 : decode cX7_at 3 = .ok (.imul, 1) := db_dX7_at_0.2.2.1
theorem dX7_at_4 : decode cX7_at 4 = .ok (.iload_n 2, 1) := db_dX7_at_0.2.2.2.1
theorem dX7_at_5 : decode cX7_at 5 = .ok (.iadd, 1) := db_dX7_at_0.2.2.2.2.1
theorem dX7_at_6 : decode cX7_at 6 = .ok (.istore 4, 2) := db_dX7_at_0.2.2.2.2.2.1
theorem dX7_at_8 : decode cX7_at 8 = .ok (.sipush 256, 3) := db_dX7_at_0.2.2.2.2.2.2.1
theorem dX7_at_11 : decode cX7_at 11 = .ok (.istore 5, 2) := db_dX7_at_0.2.2.2.2.2.2.2
theorem db_dX7_at_13 : decode cX7_at 13 = .ok (.bipush 50, 2) ∧ decode cX7_at 15 = .ok (.iload 4, 2) ∧ decode cX7_at 17 = .ok (.imul, 1) ∧ decode cX7_at 18 = .ok (.istore 6, 2) ∧ decode cX7_at 20 = .ok (.iload 6, 2) ∧ decode cX7_at 22 = .ok (.bipush 50, 2) ∧ decode cX7_at 24 = .ok (.iload 4, 2) ∧ decode cX7_at 26 = .ok (.imul, 1) := by decide +kernel
theorem dX7_at_13 : decode cX7_at 13 = .ok (.bipush 50, 2) := db_dX7_at_13.1
theorem dX7_at_15 : decode cX7_at 15 = .ok (.iload 4, 2) := db_dX7_at_13.2.1
theorem dX7_at_17 : decode cX7_at 17 = .ok (.imul, 1) := db_dX7_at_13.2.2.1
theorem dX7_at_18 : decode cX7_at 18 = .ok (.istore 6, 2) := db_dX7_at_13.2.2.2.1
theorem dX7_at_20 : decode cX7_at 20 = .ok (.iload 6, 2) := db_dX7_at_13.2.2.2.2.1
theorem dX7_at_22 : decode cX7_at 22 = .ok (.bipush 50, 2) := db_dX7_at_13.2.2.2.2.2.1
theorem dX7_at_24 : decode cX7_at 24 = .ok (.iload 4, 2) := db_dX7_at_13.2.2.2.2.2.2.1
theorem dX7_at_26 : decode cX7_at 26 = .ok (.imul, 1) := db_dX7_at_13.2.2.2.2.2.2.2
theorem db_dX7_at_27 : decode cX7_at 27 = .ok (.aload_n 0, 1) ∧ decode cX7_at 28 = .ok (.getfield 13, 3) ∧ decode cX7_at 31 = .ok (.iload 4, 2) ∧ decode cX7_at 33 = .ok (.iaload, 1) ∧ decode cX7_at 34 = .ok (.iadd, 1) ∧ decode cX7_at 35 = .ok (.if_icmp .ge 29, 3) ∧ decode cX7_at 38 = .ok (.aload_n 0, 1) ∧ decode cX7_at 39 = .ok (.getfield 17, 3) := by decide +kernel
theorem dX7_at_27 : decode cX7_at 27 = .ok (.aload_n 0, 1) := db_dX7_at_27.1
theorem dX7_at_28 : decode cX7_at 28 = .ok (.getfield 13, 3) := db_dX7_at_27.2.1
theorem dX7_at_31 : decode cX7_at 31 = .ok (.iload 4, 2) := db_dX7_at_27.2.2.1
theorem dX7_at_33 : decode cX7_at 33 = .ok (.iaload, 1) := db_dX7_at_27.2.2.2.1
theorem dX7_at_34 : decode cX7_at 34 = .ok (.iadd, 1) := db_dX7_at_27.2.2.2.2.1
theorem dX7_at_35 : decode cX7_at 35 = .ok (.if_icmp .ge 29, 3) := db_dX7_at_27.2.2.2.2.2.1
theorem dX7_at_38 : decode cX7_at 38 = .ok (.aload_n 0, 1) := db_dX7_at_27.2.2.2.2.2.2.1
theorem dX7_at_39 : decode cX7_at 39 = .ok (.getfield 17, 3) := db_dX7_at_27.2.2.2.2.2.2.2
theorem db_dX7_at_42 : decode cX7_at 42 = .ok (.iload 6, 2) ∧ decode cX7_at 44 = .ok (.iaload, 1) ∧ decode cX7_at 45 = .ok (.iload_n 3, 1) ∧ decode cX7_at 46 = .ok (.if_icmp .gt 18, 3) ∧ decode cX7_at 49 = .ok (.aload_n 0, 1) ∧ decode cX7_at 50 = .ok (.getfield 20, 3) ∧ decode cX7_at 53 = .ok (.iload 6, 2) ∧ decode cX7_at 55 = .ok (.iaload, 1) := by decide +kernel
theorem dX7_at_42 : decode cX7_at 42 = .ok (.iload 6, 2) := db_dX7_at_42.1
theorem dX7_at_44 : decode cX7_at 44 = .ok (.iaload, 1) := db_dX7_at_42.2.1
theorem dX7_at_45 : decode cX7_at 45 = .ok (.iload_n 3, 1) := db_dX7_at_42.2.2.1
theorem dX7_at_46 : decode cX7_at 46 = .ok (.if_icmp .gt 18, 3) := db_dX7_at_42.2.2.2.1
theorem dX7_at_49 : decode cX7_at 49 = .ok (.aload_n 0, 1) := db_dX7_at_42.2.2.2.2.1
theorem dX7_at_50 : decode cX7_at 50 = .ok (.getfield 20, 3) := db_dX7_at_42.2.2.2.2.2.1
theorem dX7_at_53 : decode cX7_at 53 = .ok (.iload 6, 2) := db_dX7_at_42.2.2.2.2.2.2.1
theorem dX7_at_55 : decode cX7_at 55 = .ok (.iaload, 1) := db_dX7_at_42.2.2.2.2.2.2.2
theorem db_dX7_at_56 : decode cX7_at 56 = .ok (.istore 5, 2) ∧ decode cX7_at 58 = .ok (.iinc 6 1, 3) ∧ decode cX7_at 61 = .ok (.goto (-41), 3) ∧ decode cX7_at 64 = .ok (.iload 5, 2) ∧ decode cX7_at 66 = .ok (.ireturn, 1) := by decide +kernel
theorem dX7_at_56 : decode cX7_at 56 = .ok (.istore 5, 2) := db_dX7_at_56.1
theorem dX7_at_58 : decode cX7_at 58 = .ok (.iinc 6 1, 3) := db_dX7_at_56.2.1
theorem dX7_at_61 : decode cX7_at 61 = .ok (.goto (-41), 3) := db_dX7_at_56.2.2.1
theorem dX7_at_64 : decode cX7_at 64 = .ok (.iload 5, 2) := db_dX7_at_56.2.2.2.1
theorem dX7_at_66 : decode cX7_at 66 = .ok (.ireturn, 1) := db_dX7_at_56.2.2.2.2
theorem db_dX7_nextChange_0 : decode cX7_nextChange 0 = .ok (.bipush 12, 2) ∧ decode cX7_nextChange 2 = .ok (.iload_n 1, 1) ∧ decode cX7_nextChange 3 = .ok (.imul, 1) ∧ decode cX7_nextChange 4 = .ok (.iload_n 2, 1) ∧ decode cX7_nextChange 5 = .ok (.iadd, 1) ∧ decode cX7_nextChange 6 = .ok (.istore 4, 2) ∧ decode cX7_nextChange 8 = .ok (.bipush 50, 2) ∧ decode cX7_nextChange 10 = .ok (.iload 4, 2) := by decide +kernel
theorem dX7_nextChange_0 : decode cX7_nextChange 0 = .ok (.bipush 12, 2) := db_dX7_nextChange_0.1
theorem dX7_nextChange_2 : decode cX7_nextChange 2 = .ok (.iload_n 1, 1) := db_dX7_nextChange_0.2.1
theorem dX7_nextChange_3 : decode cX7_nextChange 3 = .ok (.imul, 1) := db_dX7_nextChange_0.2.2.1
theorem dX7_nextChange_4 : decode cX7_nextChange 4 = .ok (.iload_n 2, 1) := db_dX7_nextChange_0.2.2.2.1
theorem dX7_nextChange_5 : decode cX7_nextChange 5 = .ok (.iadd, 1) := db_dX7_nextChange_0.2.2.2.2.1
theorem dX7_nextChange_6 : decode cX7_nextChange 6 = .ok (.istore 4, 2) := db_dX7_nextChange_0.2.2.2.2.2.1
theorem dX7_nextChange_8 : decode cX7_nextChange 8 = .ok (.bipush 50, 2) := db_dX7_nextChange_0.2.2.2.2.2.2.1
theorem dX7_nextChange_10 : decode cX7_nextChange 10 = .ok (.iload 4, 2) := db_dX7_nextChange_0.2.2.2.2.2.2.2
theorem db_dX7_nextChange_12 : decode cX7_nextChange 12 = .ok (.imul, 1) ∧ decode cX7_nextChange 13 = .ok (.istore 5, 2) ∧ decode cX7_nextChange 15 = .ok (.iload 5, 2) ∧ decode cX7_nextChange 17 = .ok (.bipush 50, 2) ∧ decode cX7_nextChange 19 = .ok (.iload 4, 2) ∧ decode cX7_nextChange 21 = .ok (.imul, 1) ∧ decode cX7_nextChange 22 = .ok (.aload_n 0, 1) ∧ decode cX7_nextChange 23 = .ok (.getfield 13, 3) := by decide +kernel
theorem dX7_nextChange_12 : decode cX7_nextChange 12 = .ok (.imul, 1) := db_dX7_nextChange_12.1
theorem dX7_nextChange_13 : decode cX7_nextChange 13 = .ok (.istore 5, 2) := db_dX7_nextChange_12.2.1
theorem dX7_nextChange_15 : decode cX7_nextChange 15 = .ok (.iload 5, 2) := db_dX7_nextChange_12.2.2.1
theorem dX7_nextChange_17 : decode cX7_nextChange 17 = .ok (.bipush 50, 2) := db_dX7_nextChange_12.2.2.2.1
theorem dX7_nextChange_19 : decode cX7_nextChange 19 = .ok (.iload 4, 2) := db_dX7_nextChange_12.2.2.2.2.1
theorem dX7_nextChange_21 : decode cX7_nextChange 21 = .ok (.imul, 1) := db_dX7_nextChange_12.2.2.2.2.2.1
theorem dX7_nextChange_22 : decode cX7_nextChange 22 = .ok (.aload_n 0, 1) := db_dX7_nextChange_12.2.2.2.2.2.2.1
theorem dX7_nextChange_23 : decode cX7_nextChange 23 = .ok (.getfield 13, 3) := db_dX7_nextChange_12.2.2.2.2.2.2.2
theorem db_dX7_nextChange_26 : decode cX7_nextChange 26 = .ok (.iload 4, 2) ∧ decode cX7_nextChange 28 = .ok (.iaload, 1) ∧ decode cX7_nextChange 29 = .ok (.iadd, 1) ∧ decode cX7_nextChange 30 = .ok (.if_icmp .ge 28, 3) ∧ decode cX7_nextChange 33 = .ok (.aload_n 0, 1) ∧ decode cX7_nextChange 34 = .ok (.getfield 17, 3) ∧ decode cX7_nextChange 37 = .ok (.iload 5, 2) ∧ decode cX7_nextChange 39 = .ok (.iaload, 1) := by decide +kernel
theorem dX7_nextChange_26 : decode cX7_nextChange 26 = .ok (.iload 4, 2) := db_dX7_nextChange_26.1
theorem dX7_nextChange_28 : decode cX7_nextChange 28 = .ok (.iaload, 1) := db_dX7_nextChange_26.2.1
theorem dX7_nextChange_29 : decode cX7_nextChange 29 = .ok (.iadd, 1) := db_dX7_nextChange_26.2.2.1
theorem dX7_nextChange_30 : decode cX7_nextChange 30 = .ok (.if_icmp .ge 28, 3) := db_dX7_nextChange_26.2.2.2.1
theorem dX7_nextChange_33 : decode cX7_nextChange 33 = .ok (.aload_n 0, 1) := db_dX7_nextChange_26.2.2.2.2.1
theorem dX7_nextChange_34 : decode cX7_nextChange 34 = .ok (.getfield 17, 3) := db_dX7_nextChange_26.2.2.2.2.2.1
theorem dX7_nextChange_37 : decode cX7_nextChange 37 = .ok (.iload 5, 2) := db_dX7_nextChange_26.2.2.2.2.2.2.1
theorem dX7_nextChange_39 : decode cX7_nextChange 39 = .ok (.iaload, 1) := db_dX7_nextChange_26.2.2.2.2.2.2.2
theorem db_dX7_nextChange_40 : decode cX7_nextChange 40 = .ok (.iload_n 3, 1) ∧ decode cX7_nextChange 41 = .ok (.if_icmp .le 11, 3) ∧ decode cX7_nextChange 44 = .ok (.aload_n 0, 1) ∧ decode cX7_nextChange 45 = .ok (.getfield 17, 3) ∧ decode cX7_nextChange 48 = .ok (.iload 5, 2) ∧ decode cX7_nextChange 50 = .ok (.iaload, 1) ∧ decode cX7_nextChange 51 = .ok (.ireturn, 1) ∧ decode cX7_nextChange 52 = .ok (.iinc 5 1, 3) := by decide +kernel
theorem dX7_nextChange_40 : decode cX7_nextChange 40 = .ok (.iload_n 3, 1) := db_dX7_nextChange_40.1
theorem dX7_nextChange_41 : decode cX7_nextChange 41 = .ok (.if_icmp .le 11, 3) := db_dX7_nextChange_40.2.1
theorem dX7_nextChange_44 : decode cX7_nextChange 44 = .ok (.aload_n 0, 1) := db_dX7_nextChange_40.2.2.1
theorem dX7_nextChange_45 : decode cX7_nextChange 45 = .ok (.getfield 17, 3) := db_dX7_nextChange_40.2.2.2.1
theorem dX7_nextChange_48 : decode cX7_nextChange 48 = .ok (.iload 5, 2) := db_dX7_nextChange_40.2.2.2.2.1
theorem dX7_nextChange_50 : decode cX7_nextChange 50 = .ok (.iaload, 1) := db_dX7_nextChange_40.2.2.2.2.2.1
theorem dX7_nextChange_51 : decode cX7_nextChange 51 = .ok (.ireturn, 1) := db_dX7_nextChange_40.2.2.2.2.2.2.1
theorem dX7_nextChange_52 : decode cX7_nextChange 52 = .ok (.iinc 5 1, 3) := db_dX7_nextChange_40.2.2.2.2.2.2.2
theorem db_dX7_nextChange_55 : decode cX7_nextChange 55 = .ok (.goto (-40), 3) ∧ decode cX7_nextChange 58 = .ok (.ldc 82, 2) ∧ decode cX7_nextChange 60 = .ok (.ireturn, 1) := by decide +kernel
theorem dX7_nextChange_55 : decode cX7_nextChange 55 = .ok (.goto (-40), 3) := db_dX7_nextChange_55.1
theorem dX7_nextChange_58 : decode cX7_nextChange 58 = .ok (.ldc 82, 2) := db_dX7_nextChange_55.2.1
theorem dX7_nextChange_60 : decode cX7_nextChange 60 = .ok (.ireturn, 1) := db_dX7_nextChange_55.2.2
theorem db_dX7_value_0 : decode cX7_value 0 = .ok (.iload_n 1, 1) ∧ decode cX7_value 1 = .ok (.iload_n 2, 1) ∧ decode cX7_value 2 = .ok (.invokestatic 68, 3) ∧ decode cX7_value 5 = .ok (.ifCond .eq 24, 3) ∧ decode cX7_value 8 = .ok (.iload_n 3, 1) ∧ decode cX7_value 9 = .ok (.iconst 0, 1) ∧ decode cX7_value 10 = .ok (.sipush 3999, 3) ∧ decode cX7_value 13 = .ok (.invokestatic 60, 3) := by decide +kernel
theorem dX7_value_0 : decode cX7_value 0 = .ok (.iload_n 1, 1) := db_dX7_value_0.1
theorem dX7_value_1 : decode cX7_value 1 = .ok (.iload_n 2, 1) := db_dX7_value_0.2.1
theorem dX7_value_2 : decode cX7_value 2 = .ok (.invokestatic 68, 3) := db_dX7_value_0.2.2.1
theorem dX7_value_5 : decode cX7_value 5 = .ok (.ifCond .eq 24, 3) := db_dX7_value_0.2.2.2.1
theorem dX7_value_8 : decode cX7_value 8 = .ok (.iload_n 3, 1) := db_dX7_value_0.2.2.2.2.1
theorem dX7_value_9 : decode cX7_value 9 = .ok (.iconst 0, 1) := db_dX7_value_0.2.2.2.2.2.1
theorem dX7_value_10 : decode cX7_value 10 = .ok (.sipush 3999, 3) := db_dX7_value_0.2.2.2.2.2.2.1
theorem dX7_value_13 : decode cX7_value 13 = .ok (.invokestatic 60, 3) := db_dX7_value_0.2.2.2.2.2.2.2
theorem db_dX7_value_16 : decode cX7_value 16 = .ok (.ifCond .eq 13, 3) ∧ decode cX7_value 19 = .ok (.aload_n 0, 1) ∧ decode cX7_value 20 = .ok (.iload_n 1, 1) ∧ decode cX7_value 21 = .ok (.iload_n 2, 1) ∧ decode cX7_value 22 = .ok (.iload_n 3, 1) ∧ decode cX7_value 23 = .ok (.invokevirtual 83, 3) ∧ decode cX7_value 26 = .ok (.goto 4, 3) ∧ decode cX7_value 29 = .ok (.iconst (-1), 1) := by decide +kernel
theorem dX7_value_16 : decode cX7_value 16 = .ok (.ifCond .eq 13, 3) := db_dX7_value_16.1
theorem dX7_value_19 : decode cX7_value 19 = .ok (.aload_n 0, 1) := db_dX7_value_16.2.1
theorem dX7_value_20 : decode cX7_value 20 = .ok (.iload_n 1, 1) := db_dX7_value_16.2.2.1
theorem dX7_value_21 : decode cX7_value 21 = .ok (.iload_n 2, 1) := db_dX7_value_16.2.2.2.1
theorem dX7_value_22 : decode cX7_value 22 = .ok (.iload_n 3, 1) := db_dX7_value_16.2.2.2.2.1
theorem dX7_value_23 : decode cX7_value 23 = .ok (.invokevirtual 83, 3) := db_dX7_value_16.2.2.2.2.2.1
theorem dX7_value_26 : decode cX7_value 26 = .ok (.goto 4, 3) := db_dX7_value_16.2.2.2.2.2.2.1
theorem dX7_value_29 : decode cX7_value 29 = .ok (.iconst (-1), 1) := db_dX7_value_16.2.2.2.2.2.2.2
theorem dX7_value_30 : decode cX7_value 30 = .ok (.ireturn, 1) := by decide +kernel
theorem db_dX7_rule_0 : decode cX7_rule 0 = .ok (.iload_n 1, 1) ∧ decode cX7_rule 1 = .ok (.iconst 0, 1) ∧ decode cX7_rule 2 = .ok (.iconst 1, 1) ∧ decode cX7_rule 3 = .ok (.invokestatic 60, 3) ∧ decode cX7_rule 6 = .ok (.ifCond .eq 30, 3) ∧ decode cX7_rule 9 = .ok (.iload_n 2, 1) ∧ decode cX7_rule 10 = .ok (.iload_n 1, 1) ∧ decode cX7_rule 11 = .ok (.ifCond .ne 7, 3) := by decide +kernel
theorem dX7_rule_0 : decode cX7_rule 0 = .ok (.iload_n 1, 1) := db_dX7_rule_0.1
theorem dX7_rule_1 : decode cX7_rule 1 = .ok (.iconst 0, 1) := db_dX7_rule_0.2.1
theorem dX7_rule_2 : decode cX7_rule 2 = .ok (.iconst 1, 1) := db_dX7_rule_0.2.2.1
theorem dX7_rule_3 : decode cX7_rule 3 = .ok (.invokestatic 60, 3) := db_dX7_rule_0.2.2.2.1
theorem dX7_rule_6 : decode cX7_rule 6 = .ok (.ifCond .eq 30, 3) := db_dX7_rule_0.2.2.2.2.1
theorem dX7_rule_9 : decode cX7_rule 9 = .ok (.iload_n 2, 1) := db_dX7_rule_0.2.2.2.2.2.1
theorem dX7_rule_10 : decode cX7_rule 10 = .ok (.iload_n 1, 1) := db_dX7_rule_0.2.2.2.2.2.2.1
theorem dX7_rule_11 : decode cX7_rule 11 = .ok (.ifCond .ne 7, 3) := db_dX7_rule_0.2.2.2.2.2.2.2
theorem db_dX7_rule_14 : decode cX7_rule 14 = .ok (.iconst 1, 1) ∧ decode cX7_rule 15 = .ok (.goto 4, 3) ∧ decode cX7_rule 18 = .ok (.iconst 0, 1) ∧ decode cX7_rule 19 = .ok (.iload_n 1, 1) ∧ decode cX7_rule 20 = .ok (.ifCond .ne 9, 3) ∧ decode cX7_rule 23 = .ok (.sipush 4000, 3) ∧ decode cX7_rule 26 = .ok (.goto 4, 3) ∧ decode cX7_rule 29 = .ok (.iconst 1, 1) := by decide +kernel
theorem dX7_rule_14 : decode cX7_rule 14 = .ok (.iconst 1, 1) := db_dX7_rule_14.1
theorem dX7_rule_15 : decode cX7_rule 15 = .ok (.goto 4, 3) := db_dX7_rule_14.2.1
theorem dX7_rule_18 : decode cX7_rule 18 = .ok (.iconst 0, 1) := db_dX7_rule_14.2.2.1
theorem dX7_rule_19 : decode cX7_rule 19 = .ok (.iload_n 1, 1) := db_dX7_rule_14.2.2.2.1
theorem dX7_rule_20 : decode cX7_rule 20 = .ok (.ifCond .ne 9, 3) := db_dX7_rule_14.2.2.2.2.1
theorem dX7_rule_23 : decode cX7_rule 23 = .ok (.sipush 4000, 3) := db_dX7_rule_14.2.2.2.2.2.1
theorem dX7_rule_26 : decode cX7_rule 26 = .ok (.goto 4, 3) := db_dX7_rule_14.2.2.2.2.2.2.1
theorem dX7_rule_29 : decode cX7_rule 29 = .ok (.iconst 1, 1) := db_dX7_rule_14.2.2.2.2.2.2.2
theorem db_dX7_rule_30 : decode cX7_rule 30 = .ok (.invokestatic 60, 3) ∧ decode cX7_rule 33 = .ok (.ifCond .ne 5, 3) ∧ decode cX7_rule 36 = .ok (.iconst (-1), 1) ∧ decode cX7_rule 37 = .ok (.ireturn, 1) ∧ decode cX7_rule 38 = .ok (.iload_n 1, 1) ∧ decode cX7_rule 39 = .ok (.ifCond .ne 10, 3) ∧ decode cX7_rule 42 = .ok (.aload_n 0, 1) ∧ decode cX7_rule 43 = .ok (.getfield 7, 3) := by decide +kernel
theorem dX7_rule_30 : decode cX7_rule 30 = .ok (.invokestatic 60, 3) := db_dX7_rule_30.1
theorem dX7_rule_33 : decode cX7_rule 33 = .ok (.ifCond .ne 5, 3) := db_dX7_rule_30.2.1
theorem dX7_rule_36 : decode cX7_rule 36 = .ok (.iconst (-1), 1) := db_dX7_rule_30.2.2.1
theorem dX7_rule_37 : decode cX7_rule 37 = .ok (.ireturn, 1) := db_dX7_rule_30.2.2.2.1
theorem dX7_rule_38 : decode cX7_rule 38 = .ok (.iload_n 1, 1) := db_dX7_rule_30.2.2.2.2.1
theorem dX7_rule_39 : decode cX7_rule 39 = .ok (.ifCond .ne 10, 3) := db_dX7_rule_30.2.2.2.2.2.1
theorem dX7_rule_42 : decode cX7_rule 42 = .ok (.aload_n 0, 1) := db_dX7_rule_30.2.2.2.2.2.2.1
theorem dX7_rule_43 : decode cX7_rule 43 = .ok (.getfield 7, 3) := db_dX7_rule_30.2.2.2.2.2.2.2
theorem db_dX7_rule_46 : decode cX7_rule 46 = .ok (.goto 7, 3) ∧ decode cX7_rule 49 = .ok (.aload_n 0, 1) ∧ decode cX7_rule 50 = .ok (.getfield 87, 3) ∧ decode cX7_rule 53 = .ok (.istore_n 3, 1) ∧ decode cX7_rule 54 = .ok (.aload_n 0, 1) ∧ decode cX7_rule 55 = .ok (.iload_n 1, 1) ∧ decode cX7_rule 56 = .ok (.ifCond .ne 7, 3) ∧ decode cX7_rule 59 = .ok (.iload_n 2, 1) := by decide +kernel
theorem dX7_rule_46 : decode cX7_rule 46 = .ok (.goto 7, 3) := db_dX7_rule_46.1
theorem dX7_rule_49 : decode cX7_rule 49 = .ok (.aload_n 0, 1) := db_dX7_rule_46.2.1
theorem dX7_rule_50 : decode cX7_rule 50 = .ok (.getfield 87, 3) := db_dX7_rule_46.2.2.1
theorem dX7_rule_53 : decode cX7_rule 53 = .ok (.istore_n 3, 1) := db_dX7_rule_46.2.2.2.1
theorem dX7_rule_54 : decode cX7_rule 54 = .ok (.aload_n 0, 1) := db_dX7_rule_46.2.2.2.2.1
theorem dX7_rule_55 : decode cX7_rule 55 = .ok (.iload_n 1, 1) := db_dX7_rule_46.2.2.2.2.2.1
theorem dX7_rule_56 : decode cX7_rule 56 = .ok (.ifCond .ne 7, 3) := db_dX7_rule_46.2.2.2.2.2.2.1
theorem dX7_rule_59 : decode cX7_rule 59 = .ok (.iload_n 2, 1) := db_dX7_rule_46.2.2.2.2.2.2.2
theorem db_dX7_rule_60 : decode cX7_rule 60 = .ok (.goto 7, 3) ∧ decode cX7_rule 63 = .ok (.aload_n 0, 1) ∧ decode cX7_rule 64 = .ok (.getfield 7, 3) ∧ decode cX7_rule 67 = .ok (.putfield 7, 3) ∧ decode cX7_rule 70 = .ok (.aload_n 0, 1) ∧ decode cX7_rule 71 = .ok (.iload_n 1, 1) ∧ decode cX7_rule 72 = .ok (.iconst 1, 1) ∧ decode cX7_rule 73 = .ok (.if_icmp .ne 7, 3) := by decide +kernel
theorem dX7_rule_60 : decode cX7_rule 60 = .ok (.goto 7, 3) := db_dX7_rule_60.1
theorem dX7_rule_63 : decode cX7_rule 63 = .ok (.aload_n 0, 1) := db_dX7_rule_60.2.1
theorem dX7_rule_64 : decode cX7_rule 64 = .ok (.getfield 7, 3) := db_dX7_rule_60.2.2.1
theorem dX7_rule_67 : decode cX7_rule 67 = .ok (.putfield 7, 3) := db_dX7_rule_60.2.2.2.1
theorem dX7_rule_70 : decode cX7_rule 70 = .ok (.aload_n 0, 1) := db_dX7_rule_60.2.2.2.2.1
theorem dX7_rule_71 : decode cX7_rule 71 = .ok (.iload_n 1, 1) := db_dX7_rule_60.2.2.2.2.2.1
theorem dX7_rule_72 : decode cX7_rule 72 = .ok (.iconst 1, 1) := db_dX7_rule_60.2.2.2.2.2.2.1
theorem dX7_rule_73 : decode cX7_rule 73 = .ok (.if_icmp .ne 7, 3) := db_dX7_rule_60.2.2.2.2.2.2.2
theorem db_dX7_rule_76 : decode cX7_rule 76 = .ok (.iload_n 2, 1) ∧ decode cX7_rule 77 = .ok (.goto 7, 3) ∧ decode cX7_rule 80 = .ok (.aload_n 0, 1) ∧ decode cX7_rule 81 = .ok (.getfield 87, 3) ∧ decode cX7_rule 84 = .ok (.putfield 87, 3) ∧ decode cX7_rule 87 = .ok (.iload_n 3, 1) ∧ decode cX7_rule 88 = .ok (.ireturn, 1) := by decide +kernel
theorem dX7_rule_76 : decode cX7_rule 76 = .ok (.iload_n 2, 1) := db_dX7_rule_76.1
theorem dX7_rule_77 : decode cX7_rule 77 = .ok (.goto 7, 3) := db_dX7_rule_76.2.1
theorem dX7_rule_80 : decode cX7_rule 80 = .ok (.aload_n 0, 1) := db_dX7_rule_76.2.2.1
theorem dX7_rule_81 : decode cX7_rule 81 = .ok (.getfield 87, 3) := db_dX7_rule_76.2.2.2.1
theorem dX7_rule_84 : decode cX7_rule 84 = .ok (.putfield 87, 3) := db_dX7_rule_76.2.2.2.2.1
theorem dX7_rule_87 : decode cX7_rule 87 = .ok (.iload_n 3, 1) := db_dX7_rule_76.2.2.2.2.2.1
theorem dX7_rule_88 : decode cX7_rule 88 = .ok (.ireturn, 1) := db_dX7_rule_76.2.2.2.2.2.2
theorem db_dX7_call_0 : decode cX7_call 0 = .ok (.iload_n 1, 1) ∧ decode cX7_call 1 = .ok (.invokestatic 64, 3) ∧ decode cX7_call 4 = .ok (.ifCond .eq 30, 3) ∧ decode cX7_call 7 = .ok (.iload_n 2, 1) ∧ decode cX7_call 8 = .ok (.iconst 0, 1) ∧ decode cX7_call 9 = .ok (.iconst 1, 1) ∧ decode cX7_call 10 = .ok (.invokestatic 60, 3) ∧ decode cX7_call 13 = .ok (.ifCond .eq 21, 3) := by decide +kernel
theorem dX7_call_0 : decode cX7_call 0 = .ok (.iload_n 1, 1) := db_dX7_call_0.1
theorem dX7_call_1 : decode cX7_call 1 = .ok (.invokestatic 64, 3) := db_dX7_call_0.2.1
theorem dX7_call_4 : decode cX7_call 4 = .ok (.ifCond .eq 30, 3) := db_dX7_call_0.2.2.1
theorem dX7_call_7 : decode cX7_call 7 = .ok (.iload_n 2, 1) := db_dX7_call_0.2.2.2.1
theorem dX7_call_8 : decode cX7_call 8 = .ok (.iconst 0, 1) := db_dX7_call_0.2.2.2.2.1
theorem dX7_call_9 : decode cX7_call 9 = .ok (.iconst 1, 1) := db_dX7_call_0.2.2.2.2.2.1
theorem dX7_call_10 : decode cX7_call 10 = .ok (.invokestatic 60, 3) := db_dX7_call_0.2.2.2.2.2.2.1
theorem dX7_call_13 : decode cX7_call 13 = .ok (.ifCond .eq 21, 3) := db_dX7_call_0.2.2.2.2.2.2.2
theorem db_dX7_call_16 : decode cX7_call 16 = .ok (.iload_n 3, 1) ∧ decode cX7_call 17 = .ok (.iconst 0, 1) ∧ decode cX7_call 18 = .ok (.iload_n 2, 1) ∧ decode cX7_call 19 = .ok (.ifCond .ne 8, 3) ∧ decode cX7_call 22 = .ok (.bipush 11, 2) ∧ decode cX7_call 24 = .ok (.goto 4, 3) ∧ decode cX7_call 27 = .ok (.iconst 3, 1) ∧ decode cX7_call 28 = .ok (.invokestatic 60, 3) := by decide +kernel
theorem dX7_call_16 : decode cX7_call 16 = .ok (.iload_n 3, 1) := db_dX7_call_16.1
theorem dX7_call_17 : decode cX7_call 17 = .ok (.iconst 0, 1) := db_dX7_call_16.2.1
theorem dX7_call_18 : decode cX7_call 18 = .ok (.iload_n 2, 1) := db_dX7_call_16.2.2.1
theorem dX7_call_19 : decode cX7_call 19 = .ok (.ifCond .ne 8, 3) := db_dX7_call_16.2.2.2.1
theorem dX7_call_22 : decode cX7_call 22 = .ok (.bipush 11, 2) := db_dX7_call_16.2.2.2.2.1
theorem dX7_call_24 : decode cX7_call 24 = .ok (.goto 4, 3) := db_dX7_call_16.2.2.2.2.2.1
theorem dX7_call_27 : decode cX7_call 27 = .ok (.iconst 3, 1) := db_dX7_call_16.2.2.2.2.2.2.1
theorem dX7_call_28 : decode cX7_call 28 = .ok (.invokestatic 60, 3) := db_dX7_call_16.2.2.2.2.2.2.2
theorem db_dX7_call_31 : decode cX7_call 31 = .ok (.ifCond .ne 5, 3) ∧ decode cX7_call 34 = .ok (.iconst (-1), 1) ∧ decode cX7_call 35 = .ok (.ireturn, 1) ∧ decode cX7_call 36 = .ok (.iload_n 2, 1) ∧ decode cX7_call 37 = .ok (.ifCond .ne 12, 3) ∧ decode cX7_call 40 = .ok (.aload_n 0, 1) ∧ decode cX7_call 41 = .ok (.getfield 23, 3) ∧ decode cX7_call 44 = .ok (.iload_n 1, 1) := by decide +kernel
theorem dX7_call_31 : decode cX7_call 31 = .ok (.ifCond .ne 5, 3) := db_dX7_call_31.1
theorem dX7_call_34 : decode cX7_call 34 = .ok (.iconst (-1), 1) := db_dX7_call_31.2.1
theorem dX7_call_35 : decode cX7_call 35 = .ok (.ireturn, 1) := db_dX7_call_31.2.2.1
theorem dX7_call_36 : decode cX7_call 36 = .ok (.iload_n 2, 1) := db_dX7_call_31.2.2.2.1
theorem dX7_call_37 : decode cX7_call 37 = .ok (.ifCond .ne 12, 3) := db_dX7_call_31.2.2.2.2.1
theorem dX7_call_40 : decode cX7_call 40 = .ok (.aload_n 0, 1) := db_dX7_call_31.2.2.2.2.2.1
theorem dX7_call_41 : decode cX7_call 41 = .ok (.getfield 23, 3) := db_dX7_call_31.2.2.2.2.2.2.1
theorem dX7_call_44 : decode cX7_call 44 = .ok (.iload_n 1, 1) := db_dX7_call_31.2.2.2.2.2.2.2
theorem db_dX7_call_45 : decode cX7_call 45 = .ok (.iaload, 1) ∧ decode cX7_call 46 = .ok (.goto 9, 3) ∧ decode cX7_call 49 = .ok (.aload_n 0, 1) ∧ decode cX7_call 50 = .ok (.getfield 26, 3) ∧ decode cX7_call 53 = .ok (.iload_n 1, 1) ∧ decode cX7_call 54 = .ok (.iaload, 1) ∧ decode cX7_call 55 = .ok (.istore 4, 2) ∧ decode cX7_call 57 = .ok (.aload_n 0, 1) := by decide +kernel
theorem dX7_call_45 : decode cX7_call 45 = .ok (.iaload, 1) := db_dX7_call_45.1
theorem dX7_call_46 : decode cX7_call 46 = .ok (.goto 9, 3) := db_dX7_call_45.2.1
theorem dX7_call_49 : decode cX7_call 49 = .ok (.aload_n 0, 1) := db_dX7_call_45.2.2.1
theorem dX7_call_50 : decode cX7_call 50 = .ok (.getfield 26, 3) := db_dX7_call_45.2.2.2.1
theorem dX7_call_53 : decode cX7_call 53 = .ok (.iload_n 1, 1) := db_dX7_call_45.2.2.2.2.1
theorem dX7_call_54 : decode cX7_call 54 = .ok (.iaload, 1) := db_dX7_call_45.2.2.2.2.2.1
theorem dX7_call_55 : decode cX7_call 55 = .ok (.istore 4, 2) := db_dX7_call_45.2.2.2.2.2.2.1
theorem dX7_call_57 : decode cX7_call 57 = .ok (.aload_n 0, 1) := db_dX7_call_45.2.2.2.2.2.2.2
theorem db_dX7_call_58 : decode cX7_call 58 = .ok (.getfield 23, 3) ∧ decode cX7_call 61 = .ok (.iload_n 1, 1) ∧ decode cX7_call 62 = .ok (.iload_n 2, 1) ∧ decode cX7_call 63 = .ok (.ifCond .ne 7, 3) ∧ decode cX7_call 66 = .ok (.iload_n 3, 1) ∧ decode cX7_call 67 = .ok (.goto 9, 3) ∧ decode cX7_call 70 = .ok (.aload_n 0, 1) ∧ decode cX7_call 71 = .ok (.getfield 23, 3) := by decide +kernel
theorem dX7_call_58 : decode cX7_call 58 = .ok (.getfield 23, 3) := db_dX7_call_58.1
theorem dX7_call_61 : decode cX7_call 61 = .ok (.iload_n 1, 1) := db_dX7_call_58.2.1
theorem dX7_call_62 : decode cX7_call 62 = .ok (.iload_n 2, 1) := db_dX7_call_58.2.2.1
theorem dX7_call_63 : decode cX7_call 63 = .ok (.ifCond .ne 7, 3) := db_dX7_call_58.2.2.2.1
theorem dX7_call_66 : decode cX7_call 66 = .ok (.iload_n 3, 1) := db_dX7_call_58.2.2.2.2.1
theorem dX7_call_67 : decode cX7_call 67 = .ok (.goto 9, 3) := db_dX7_call_58.2.2.2.2.2.1
theorem dX7_call_70 : decode cX7_call 70 = .ok (.aload_n 0, 1) := db_dX7_call_58.2.2.2.2.2.2.1
theorem dX7_call_71 : decode cX7_call 71 = .ok (.getfield 23, 3) := db_dX7_call_58.2.2.2.2.2.2.2
theorem db_dX7_call_74 : decode cX7_call 74 = .ok (.iload_n 1, 1) ∧ decode cX7_call 75 = .ok (.iaload, 1) ∧ decode cX7_call 76 = .ok (.iastore, 1) ∧ decode cX7_call 77 = .ok (.aload_n 0, 1) ∧ decode cX7_call 78 = .ok (.getfield 26, 3) ∧ decode cX7_call 81 = .ok (.iload_n 1, 1) ∧ decode cX7_call 82 = .ok (.iload_n 2, 1) ∧ decode cX7_call 83 = .ok (.iconst 1, 1) := by decide +kernel
theorem dX7_call_74 : decode cX7_call 74 = .ok (.iload_n 1, 1) := db_dX7_call_74.1
theorem dX7_call_75 : decode cX7_call 75 = .ok (.iaload, 1) := db_dX7_call_74.2.1
theorem dX7_call_76 : decode cX7_call 76 = .ok (.iastore, 1) := db_dX7_call_74.2.2.1
theorem dX7_call_77 : decode cX7_call 77 = .ok (.aload_n 0, 1) := db_dX7_call_74.2.2.2.1
theorem dX7_call_78 : decode cX7_call 78 = .ok (.getfield 26, 3) := db_dX7_call_74.2.2.2.2.1
theorem dX7_call_81 : decode cX7_call 81 = .ok (.iload_n 1, 1) := db_dX7_call_74.2.2.2.2.2.1
theorem dX7_call_82 : decode cX7_call 82 = .ok (.iload_n 2, 1) := db_dX7_call_74.2.2.2.2.2.2.1
theorem dX7_call_83 : decode cX7_call 83 = .ok (.iconst 1, 1) := db_dX7_call_74.2.2.2.2.2.2.2
theorem db_dX7_call_84 : decode cX7_call 84 = .ok (.if_icmp .ne 7, 3) ∧ decode cX7_call 87 = .ok (.iload_n 3, 1) ∧ decode cX7_call 88 = .ok (.goto 9, 3) ∧ decode cX7_call 91 = .ok (.aload_n 0, 1) ∧ decode cX7_call 92 = .ok (.getfield 26, 3) ∧ decode cX7_call 95 = .ok (.iload_n 1, 1) ∧ decode cX7_call 96 = .ok (.iaload, 1) ∧ decode cX7_call 97 = .ok (.iastore, 1) := by decide +kernel
theorem dX7_call_84 : decode cX7_call 84 = .ok (.if_icmp .ne 7, 3) := db_dX7_call_84.1
theorem dX7_call_87 : decode cX7_call 87 = .ok (.iload_n 3, 1) := db_dX7_call_84.2.1
theorem dX7_call_88 : decode cX7_call 88 = .ok (.goto 9, 3) := db_dX7_call_84.2.2.1
theorem dX7_call_91 : decode cX7_call 91 = .ok (.aload_n 0, 1) := db_dX7_call_84.2.2.2.1
theorem dX7_call_92 : decode cX7_call 92 = .ok (.getfield 26, 3) := db_dX7_call_84.2.2.2.2.1
theorem dX7_call_95 : decode cX7_call 95 = .ok (.iload_n 1, 1) := db_dX7_call_84.2.2.2.2.2.1
theorem dX7_call_96 : decode cX7_call 96 = .ok (.iaload, 1) := db_dX7_call_84.2.2.2.2.2.2.1
theorem dX7_call_97 : decode cX7_call 97 = .ok (.iastore, 1) := db_dX7_call_84.2.2.2.2.2.2.2
theorem db_dX7_call_98 : decode cX7_call 98 = .ok (.iload 4, 2) ∧ decode cX7_call 100 = .ok (.ireturn, 1) := by decide +kernel
theorem dX7_call_98 : decode cX7_call 98 = .ok (.iload 4, 2) := db_dX7_call_98.1
theorem dX7_call_100 : decode cX7_call 100 = .ok (.ireturn, 1) := db_dX7_call_98.2
theorem db_dX7_shift_0 : decode cX7_shift 0 = .ok (.iload_n 1, 1) ∧ decode cX7_shift 1 = .ok (.iconst 0, 1) ∧ decode cX7_shift 2 = .ok (.iconst 3, 1) ∧ decode cX7_shift 3 = .ok (.invokestatic 60, 3) ∧ decode cX7_shift 6 = .ok (.ifCond .eq 14, 3) ∧ decode cX7_shift 9 = .ok (.iload_n 2, 1) ∧ decode cX7_shift 10 = .ok (.bipush (-50), 2) ∧ decode cX7_shift 12 = .ok (.bipush 50, 2) := by decide +kernel
theorem dX7_shift_0 : decode cX7_shift 0 = .ok (.iload_n 1, 1) := db_dX7_shift_0.1
theorem dX7_shift_1 : decode cX7_shift 1 = .ok (.iconst 0, 1) := db_dX7_shift_0.2.1
theorem dX7_shift_2 : decode cX7_shift 2 = .ok (.iconst 3, 1) := db_dX7_shift_0.2.2.1
theorem dX7_shift_3 : decode cX7_shift 3 = .ok (.invokestatic 60, 3) := db_dX7_shift_0.2.2.2.1
theorem dX7_shift_6 : decode cX7_shift 6 = .ok (.ifCond .eq 14, 3) := db_dX7_shift_0.2.2.2.2.1
theorem dX7_shift_9 : decode cX7_shift 9 = .ok (.iload_n 2, 1) := db_dX7_shift_0.2.2.2.2.2.1
theorem dX7_shift_10 : decode cX7_shift 10 = .ok (.bipush (-50), 2) := db_dX7_shift_0.2.2.2.2.2.2.1
theorem dX7_shift_12 : decode cX7_shift 12 = .ok (.bipush 50, 2) := db_dX7_shift_0.2.2.2.2.2.2.2
theorem db_dX7_shift_14 : decode cX7_shift 14 = .ok (.invokestatic 60, 3) ∧ decode cX7_shift 17 = .ok (.ifCond .ne 7, 3) ∧ decode cX7_shift 20 = .ok (.sipush (-1000), 3) ∧ decode cX7_shift 23 = .ok (.ireturn, 1) ∧ decode cX7_shift 24 = .ok (.aload_n 0, 1) ∧ decode cX7_shift 25 = .ok (.getfield 29, 3) ∧ decode cX7_shift 28 = .ok (.iload_n 1, 1) ∧ decode cX7_shift 29 = .ok (.iaload, 1) := by decide +kernel
theorem dX7_shift_14 : decode cX7_shift 14 = .ok (.invokestatic 60, 3) := db_dX7_shift_14.1
theorem dX7_shift_17 : decode cX7_shift 17 = .ok (.ifCond .ne 7, 3) := db_dX7_shift_14.2.1
theorem dX7_shift_20 : decode cX7_shift 20 = .ok (.sipush (-1000), 3) := db_dX7_shift_14.2.2.1
theorem dX7_shift_23 : decode cX7_shift 23 = .ok (.ireturn, 1) := db_dX7_shift_14.2.2.2.1
theorem dX7_shift_24 : decode cX7_shift 24 = .ok (.aload_n 0, 1) := db_dX7_shift_14.2.2.2.2.1
theorem dX7_shift_25 : decode cX7_shift 25 = .ok (.getfield 29, 3) := db_dX7_shift_14.2.2.2.2.2.1
theorem dX7_shift_28 : decode cX7_shift 28 = .ok (.iload_n 1, 1) := db_dX7_shift_14.2.2.2.2.2.2.1
theorem dX7_shift_29 : decode cX7_shift 29 = .ok (.iaload, 1) := db_dX7_shift_14.2.2.2.2.2.2.2
theorem db_dX7_shift_30 : decode cX7_shift 30 = .ok (.istore_n 3, 1) ∧ decode cX7_shift 31 = .ok (.aload_n 0, 1) ∧ decode cX7_shift 32 = .ok (.getfield 29, 3) ∧ decode cX7_shift 35 = .ok (.iload_n 1, 1) ∧ decode cX7_shift 36 = .ok (.iload_n 2, 1) ∧ decode cX7_shift 37 = .ok (.iastore, 1) ∧ decode cX7_shift 38 = .ok (.iload_n 3, 1) ∧ decode cX7_shift 39 = .ok (.ireturn, 1) := by decide +kernel
theorem dX7_shift_30 : decode cX7_shift 30 = .ok (.istore_n 3, 1) := db_dX7_shift_30.1
theorem dX7_shift_31 : decode cX7_shift 31 = .ok (.aload_n 0, 1) := db_dX7_shift_30.2.1
theorem dX7_shift_32 : decode cX7_shift 32 = .ok (.getfield 29, 3) := db_dX7_shift_30.2.2.1
theorem dX7_shift_35 : decode cX7_shift 35 = .ok (.iload_n 1, 1) := db_dX7_shift_30.2.2.2.1
theorem dX7_shift_36 : decode cX7_shift 36 = .ok (.iload_n 2, 1) := db_dX7_shift_30.2.2.2.2.1
theorem dX7_shift_37 : decode cX7_shift 37 = .ok (.iastore, 1) := db_dX7_shift_30.2.2.2.2.2.1
theorem dX7_shift_38 : decode cX7_shift 38 = .ok (.iload_n 3, 1) := db_dX7_shift_30.2.2.2.2.2.2.1
theorem dX7_shift_39 : decode cX7_shift 39 = .ok (.ireturn, 1) := db_dX7_shift_30.2.2.2.2.2.2.2
theorem db_dX7_masked_0 : decode cX7_masked 0 = .ok (.aload_n 0, 1) ∧ decode cX7_masked 1 = .ok (.getfield 90, 3) ∧ decode cX7_masked 4 = .ok (.bipush 10, 2) ∧ decode cX7_masked 6 = .ok (.if_icmp .ne 6, 3) ∧ decode cX7_masked 9 = .ok (.bipush (-3), 2) ∧ decode cX7_masked 11 = .ok (.ireturn, 1) ∧ decode cX7_masked 12 = .ok (.aload_n 0, 1) ∧ decode cX7_masked 13 = .ok (.getfield 32, 3) := by decide +kernel
theorem dX7_masked_0 : decode cX7_masked 0 = .ok (.aload_n 0, 1) := db_dX7_masked_0.1
theorem dX7_masked_1 : decode cX7_masked 1 = .ok (.getfield 90, 3) := db_dX7_masked_0.2.1
theorem dX7_masked_4 : decode cX7_masked 4 = .ok (.bipush 10, 2) := db_dX7_masked_0.2.2.1
theorem dX7_masked_6 : decode cX7_masked 6 = .ok (.if_icmp .ne 6, 3) := db_dX7_masked_0.2.2.2.1
theorem dX7_masked_9 : decode cX7_masked 9 = .ok (.bipush (-3), 2) := db_dX7_masked_0.2.2.2.2.1
theorem dX7_masked_11 : decode cX7_masked 11 = .ok (.ireturn, 1) := db_dX7_masked_0.2.2.2.2.2.1
theorem dX7_masked_12 : decode cX7_masked 12 = .ok (.aload_n 0, 1) := db_dX7_masked_0.2.2.2.2.2.2.1
theorem dX7_masked_13 : decode cX7_masked 13 = .ok (.getfield 32, 3) := db_dX7_masked_0.2.2.2.2.2.2.2
theorem db_dX7_masked_16 : decode cX7_masked 16 = .ok (.aload_n 0, 1) ∧ decode cX7_masked 17 = .ok (.getfield 90, 3) ∧ decode cX7_masked 20 = .ok (.iload_n 1, 1) ∧ decode cX7_masked 21 = .ok (.iastore, 1) ∧ decode cX7_masked 22 = .ok (.aload_n 0, 1) ∧ decode cX7_masked 23 = .ok (.getfield 41, 3) ∧ decode cX7_masked 26 = .ok (.aload_n 0, 1) ∧ decode cX7_masked 27 = .ok (.getfield 90, 3) := by decide +kernel
theorem dX7_masked_16 : decode cX7_masked 16 = .ok (.aload_n 0, 1) := db_dX7_masked_16.1
theorem dX7_masked_17 : decode cX7_masked 17 = .ok (.getfield 90, 3) := db_dX7_masked_16.2.1
theorem dX7_masked_20 : decode cX7_masked 20 = .ok (.iload_n 1, 1) := db_dX7_masked_16.2.2.1
theorem dX7_masked_21 : decode cX7_masked 21 = .ok (.iastore, 1) := db_dX7_masked_16.2.2.2.1
theorem dX7_masked_22 : decode cX7_masked 22 = .ok (.aload_n 0, 1) := db_dX7_masked_16.2.2.2.2.1
theorem dX7_masked_23 : decode cX7_masked 23 = .ok (.getfield 41, 3) := db_dX7_masked_16.2.2.2.2.2.1
theorem dX7_masked_26 : decode cX7_masked 26 = .ok (.aload_n 0, 1) := db_dX7_masked_16.2.2.2.2.2.2.1
theorem dX7_masked_27 : decode cX7_masked 27 = .ok (.getfield 90, 3) := db_dX7_masked_16.2.2.2.2.2.2.2
theorem db_dX7_masked_30 : decode cX7_masked 30 = .ok (.iload_n 2, 1) ∧ decode cX7_masked 31 = .ok (.iastore, 1) ∧ decode cX7_masked 32 = .ok (.aload_n 0, 1) ∧ decode cX7_masked 33 = .ok (.getfield 35, 3) ∧ decode cX7_masked 36 = .ok (.aload_n 0, 1) ∧ decode cX7_masked 37 = .ok (.getfield 90, 3) ∧ decode cX7_masked 40 = .ok (.iload_n 3, 1) ∧ decode cX7_masked 41 = .ok (.iastore, 1) := by decide +kernel
theorem dX7_masked_30 : decode cX7_masked 30 = .ok (.iload_n 2, 1) := db_dX7_masked_30.1
theorem dX7_masked_31 : decode cX7_masked 31 = .ok (.iastore, 1) := db_dX7_masked_30.2.1
theorem dX7_masked_32 : decode cX7_masked 32 = .ok (.aload_n 0, 1) := db_dX7_masked_30.2.2.1
theorem dX7_masked_33 : decode cX7_masked 33 = .ok (.getfield 35, 3) := db_dX7_masked_30.2.2.2.1
theorem dX7_masked_36 : decode cX7_masked 36 = .ok (.aload_n 0, 1) := db_dX7_masked_30.2.2.2.2.1
theorem dX7_masked_37 : decode cX7_masked 37 = .ok (.getfield 90, 3) := db_dX7_masked_30.2.2.2.2.2.1
theorem dX7_masked_40 : decode cX7_masked 40 = .ok (.iload_n 3, 1) := db_dX7_masked_30.2.2.2.2.2.2.1
theorem dX7_masked_41 : decode cX7_masked 41 = .ok (.iastore, 1) := db_dX7_masked_30.2.2.2.2.2.2.2
theorem db_dX7_masked_42 : decode cX7_masked 42 = .ok (.aload_n 0, 1) ∧ decode cX7_masked 43 = .ok (.getfield 38, 3) ∧ decode cX7_masked 46 = .ok (.aload_n 0, 1) ∧ decode cX7_masked 47 = .ok (.getfield 90, 3) ∧ decode cX7_masked 50 = .ok (.iload 4, 2) ∧ decode cX7_masked 52 = .ok (.iastore, 1) ∧ decode cX7_masked 53 = .ok (.aload_n 0, 1) ∧ decode cX7_masked 54 = .ok (.dup, 1) := by decide +kernel
theorem dX7_masked_42 : decode cX7_masked 42 = .ok (.aload_n 0, 1) := db_dX7_masked_42.1
theorem dX7_masked_43 : decode cX7_masked 43 = .ok (.getfield 38, 3) := db_dX7_masked_42.2.1
theorem dX7_masked_46 : decode cX7_masked 46 = .ok (.aload_n 0, 1) := db_dX7_masked_42.2.2.1
theorem dX7_masked_47 : decode cX7_masked 47 = .ok (.getfield 90, 3) := db_dX7_masked_42.2.2.2.1
theorem dX7_masked_50 : decode cX7_masked 50 = .ok (.iload 4, 2) := db_dX7_masked_42.2.2.2.2.1
theorem dX7_masked_52 : decode cX7_masked 52 = .ok (.iastore, 1) := db_dX7_masked_42.2.2.2.2.2.1
theorem dX7_masked_53 : decode cX7_masked 53 = .ok (.aload_n 0, 1) := db_dX7_masked_42.2.2.2.2.2.2.1
theorem dX7_masked_54 : decode cX7_masked 54 = .ok (.dup, 1) := db_dX7_masked_42.2.2.2.2.2.2.2
theorem db_dX7_masked_55 : decode cX7_masked 55 = .ok (.getfield 90, 3) ∧ decode cX7_masked 58 = .ok (.iconst 1, 1) ∧ decode cX7_masked 59 = .ok (.iadd, 1) ∧ decode cX7_masked 60 = .ok (.putfield 90, 3) ∧ decode cX7_masked 63 = .ok (.aload_n 0, 1) ∧ decode cX7_masked 64 = .ok (.getfield 90, 3) ∧ decode cX7_masked 67 = .ok (.ireturn, 1) := by decide +kernel
theorem dX7_masked_55 : decode cX7_masked 55 = .ok (.getfield 90, 3) := db_dX7_masked_55.1
theorem dX7_masked_58 : decode cX7_masked 58 = .ok (.iconst 1, 1) := db_dX7_masked_55.2.1
theorem dX7_masked_59 : decode cX7_masked 59 = .ok (.iadd, 1) := db_dX7_masked_55.2.2.1
theorem dX7_masked_60 : decode cX7_masked 60 = .ok (.putfield 90, 3) := db_dX7_masked_55.2.2.2.1
theorem dX7_masked_63 : decode cX7_masked 63 = .ok (.aload_n 0, 1) := db_dX7_masked_55.2.2.2.2.1
theorem dX7_masked_64 : decode cX7_masked 64 = .ok (.getfield 90, 3) := db_dX7_masked_55.2.2.2.2.2.1
theorem dX7_masked_67 : decode cX7_masked 67 = .ok (.ireturn, 1) := db_dX7_masked_55.2.2.2.2.2.2
theorem db_dX7_mask_0 : decode cX7_mask 0 = .ok (.iload_n 1, 1) ∧ decode cX7_mask 1 = .ok (.invokestatic 64, 3) ∧ decode cX7_mask 4 = .ok (.ifCond .eq 30, 3) ∧ decode cX7_mask 7 = .ok (.iload_n 2, 1) ∧ decode cX7_mask 8 = .ok (.ifCond .lt 26, 3) ∧ decode cX7_mask 11 = .ok (.iload_n 2, 1) ∧ decode cX7_mask 12 = .ok (.iload_n 3, 1) ∧ decode cX7_mask 13 = .ok (.if_icmp .ge 21, 3) := by decide +kernel
theorem dX7_mask_0 : decode cX7_mask 0 = .ok (.iload_n 1, 1) := db_dX7_mask_0.1
theorem dX7_mask_1 : decode cX7_mask 1 = .ok (.invokestatic 64, 3) := db_dX7_mask_0.2.1
theorem dX7_mask_4 : decode cX7_mask 4 = .ok (.ifCond .eq 30, 3) := db_dX7_mask_0.2.2.1
theorem dX7_mask_7 : decode cX7_mask 7 = .ok (.iload_n 2, 1) := db_dX7_mask_0.2.2.2.1
theorem dX7_mask_8 : decode cX7_mask 8 = .ok (.ifCond .lt 26, 3) := db_dX7_mask_0.2.2.2.2.1
theorem dX7_mask_11 : decode cX7_mask 11 = .ok (.iload_n 2, 1) := db_dX7_mask_0.2.2.2.2.2.1
theorem dX7_mask_12 : decode cX7_mask 12 = .ok (.iload_n 3, 1) := db_dX7_mask_0.2.2.2.2.2.2.1
theorem dX7_mask_13 : decode cX7_mask 13 = .ok (.if_icmp .ge 21, 3) := db_dX7_mask_0.2.2.2.2.2.2.2
theorem db_dX7_mask_16 : decode cX7_mask 16 = .ok (.iload_n 3, 1) ∧ decode cX7_mask 17 = .ok (.sipush 4000, 3) ∧ decode cX7_mask 20 = .ok (.if_icmp .gt 14, 3) ∧ decode cX7_mask 23 = .ok (.aload_n 0, 1) ∧ decode cX7_mask 24 = .ok (.iload_n 1, 1) ∧ decode cX7_mask 25 = .ok (.iconst (-1), 1) ∧ decode cX7_mask 26 = .ok (.iload_n 2, 1) ∧ decode cX7_mask 27 = .ok (.iload_n 3, 1) := by decide +kernel
theorem dX7_mask_16 : decode cX7_mask 16 = .ok (.iload_n 3, 1) := db_dX7_mask_16.1
theorem dX7_mask_17 : decode cX7_mask 17 = .ok (.sipush 4000, 3) := db_dX7_mask_16.2.1
theorem dX7_mask_20 : decode cX7_mask 20 = .ok (.if_icmp .gt 14, 3) := db_dX7_mask_16.2.2.1
theorem dX7_mask_23 : decode cX7_mask 23 = .ok (.aload_n 0, 1) := db_dX7_mask_16.2.2.2.1
theorem dX7_mask_24 : decode cX7_mask 24 = .ok (.iload_n 1, 1) := db_dX7_mask_16.2.2.2.2.1
theorem dX7_mask_25 : decode cX7_mask 25 = .ok (.iconst (-1), 1) := db_dX7_mask_16.2.2.2.2.2.1
theorem dX7_mask_26 : decode cX7_mask 26 = .ok (.iload_n 2, 1) := db_dX7_mask_16.2.2.2.2.2.2.1
theorem dX7_mask_27 : decode cX7_mask 27 = .ok (.iload_n 3, 1) := db_dX7_mask_16.2.2.2.2.2.2.2
theorem db_dX7_mask_28 : decode cX7_mask 28 = .ok (.invokevirtual 93, 3) ∧ decode cX7_mask 31 = .ok (.goto 4, 3) ∧ decode cX7_mask 34 = .ok (.iconst (-1), 1) ∧ decode cX7_mask 35 = .ok (.ireturn, 1) := by decide +kernel
theorem dX7_mask_28 : decode cX7_mask 28 = .ok (.invokevirtual 93, 3) := db_dX7_mask_28.1
theorem dX7_mask_31 : decode cX7_mask 31 = .ok (.goto 4, 3) := db_dX7_mask_28.2.1
theorem dX7_mask_34 : decode cX7_mask 34 = .ok (.iconst (-1), 1) := db_dX7_mask_28.2.2.1
theorem dX7_mask_35 : decode cX7_mask 35 = .ok (.ireturn, 1) := db_dX7_mask_28.2.2.2
theorem db_dX7_maskWhile_0 : decode cX7_maskWhile 0 = .ok (.iload_n 1, 1) ∧ decode cX7_maskWhile 1 = .ok (.invokestatic 64, 3) ∧ decode cX7_maskWhile 4 = .ok (.ifCond .eq 32, 3) ∧ decode cX7_maskWhile 7 = .ok (.iload_n 2, 1) ∧ decode cX7_maskWhile 8 = .ok (.invokestatic 64, 3) ∧ decode cX7_maskWhile 11 = .ok (.ifCond .eq 25, 3) ∧ decode cX7_maskWhile 14 = .ok (.iload_n 3, 1) ∧ decode cX7_maskWhile 15 = .ok (.iconst 0, 1) := by decide +kernel
theorem dX7_maskWhile_0 : decode cX7_maskWhile 0 = .ok (.iload_n 1, 1) := db_dX7_maskWhile_0.1
theorem dX7_maskWhile_1 : decode cX7_maskWhile 1 = .ok (.invokestatic 64, 3) := db_dX7_maskWhile_0.2.1
theorem dX7_maskWhile_4 : decode cX7_maskWhile 4 = .ok (.ifCond .eq 32, 3) := db_dX7_maskWhile_0.2.2.1
theorem dX7_maskWhile_7 : decode cX7_maskWhile 7 = .ok (.iload_n 2, 1) := db_dX7_maskWhile_0.2.2.2.1
theorem dX7_maskWhile_8 : decode cX7_maskWhile 8 = .ok (.invokestatic 64, 3) := db_dX7_maskWhile_0.2.2.2.2.1
theorem dX7_maskWhile_11 : decode cX7_maskWhile 11 = .ok (.ifCond .eq 25, 3) := db_dX7_maskWhile_0.2.2.2.2.2.1
theorem dX7_maskWhile_14 : decode cX7_maskWhile 14 = .ok (.iload_n 3, 1) := db_dX7_maskWhile_0.2.2.2.2.2.2.1
theorem dX7_maskWhile_15 : decode cX7_maskWhile 15 = .ok (.iconst 0, 1) := db_dX7_maskWhile_0.2.2.2.2.2.2.2
theorem db_dX7_maskWhile_16 : decode cX7_maskWhile 16 = .ok (.sipush 256, 3) ∧ decode cX7_maskWhile 19 = .ok (.invokestatic 60, 3) ∧ decode cX7_maskWhile 22 = .ok (.ifCond .eq 14, 3) ∧ decode cX7_maskWhile 25 = .ok (.aload_n 0, 1) ∧ decode cX7_maskWhile 26 = .ok (.iload_n 1, 1) ∧ decode cX7_maskWhile 27 = .ok (.iload_n 2, 1) ∧ decode cX7_maskWhile 28 = .ok (.iload_n 3, 1) ∧ decode cX7_maskWhile 29 = .ok (.iconst 0, 1) := by decide +kernel
theorem dX7_maskWhile_16 : decode cX7_maskWhile 16 = .ok (.sipush 256, 3) := db_dX7_maskWhile_16.1
theorem dX7_maskWhile_19 : decode cX7_maskWhile 19 = .ok (.invokestatic 60, 3) := db_dX7_maskWhile_16.2.1
theorem dX7_maskWhile_22 : decode cX7_maskWhile 22 = .ok (.ifCond .eq 14, 3) := db_dX7_maskWhile_16.2.2.1
theorem dX7_maskWhile_25 : decode cX7_maskWhile 25 = .ok (.aload_n 0, 1) := db_dX7_maskWhile_16.2.2.2.1
theorem dX7_maskWhile_26 : decode cX7_maskWhile 26 = .ok (.iload_n 1, 1) := db_dX7_maskWhile_16.2.2.2.2.1
theorem dX7_maskWhile_27 : decode cX7_maskWhile 27 = .ok (.iload_n 2, 1) := db_dX7_maskWhile_16.2.2.2.2.2.1
theorem dX7_maskWhile_28 : decode cX7_maskWhile 28 = .ok (.iload_n 3, 1) := db_dX7_maskWhile_16.2.2.2.2.2.2.1
theorem dX7_maskWhile_29 : decode cX7_maskWhile 29 = .ok (.iconst 0, 1) := db_dX7_maskWhile_16.2.2.2.2.2.2.2
theorem db_dX7_maskWhile_30 : decode cX7_maskWhile 30 = .ok (.invokevirtual 93, 3) ∧ decode cX7_maskWhile 33 = .ok (.goto 4, 3) ∧ decode cX7_maskWhile 36 = .ok (.iconst (-1), 1) ∧ decode cX7_maskWhile 37 = .ok (.ireturn, 1) := by decide +kernel
theorem dX7_maskWhile_30 : decode cX7_maskWhile 30 = .ok (.invokevirtual 93, 3) := db_dX7_maskWhile_30.1
theorem dX7_maskWhile_33 : decode cX7_maskWhile 33 = .ok (.goto 4, 3) := db_dX7_maskWhile_30.2.1
theorem dX7_maskWhile_36 : decode cX7_maskWhile 36 = .ok (.iconst (-1), 1) := db_dX7_maskWhile_30.2.2.1
theorem dX7_maskWhile_37 : decode cX7_maskWhile 37 = .ok (.ireturn, 1) := db_dX7_maskWhile_30.2.2.2
theorem db_dX7_noMasks_0 : decode cX7_noMasks 0 = .ok (.aload_n 0, 1) ∧ decode cX7_noMasks 1 = .ok (.getfield 90, 3) ∧ decode cX7_noMasks 4 = .ok (.istore_n 1, 1) ∧ decode cX7_noMasks 5 = .ok (.aload_n 0, 1) ∧ decode cX7_noMasks 6 = .ok (.iconst 0, 1) ∧ decode cX7_noMasks 7 = .ok (.putfield 90, 3) ∧ decode cX7_noMasks 10 = .ok (.iload_n 1, 1) ∧ decode cX7_noMasks 11 = .ok (.ireturn, 1) := by decide +kernel
theorem dX7_noMasks_0 : decode cX7_noMasks 0 = .ok (.aload_n 0, 1) := db_dX7_noMasks_0.1
theorem dX7_noMasks_1 : decode cX7_noMasks 1 = .ok (.getfield 90, 3) := db_dX7_noMasks_0.2.1
theorem dX7_noMasks_4 : decode cX7_noMasks 4 = .ok (.istore_n 1, 1) := db_dX7_noMasks_0.2.2.1
theorem dX7_noMasks_5 : decode cX7_noMasks 5 = .ok (.aload_n 0, 1) := db_dX7_noMasks_0.2.2.2.1
theorem dX7_noMasks_6 : decode cX7_noMasks 6 = .ok (.iconst 0, 1) := db_dX7_noMasks_0.2.2.2.2.1
theorem dX7_noMasks_7 : decode cX7_noMasks 7 = .ok (.putfield 90, 3) := db_dX7_noMasks_0.2.2.2.2.2.1
theorem dX7_noMasks_10 : decode cX7_noMasks 10 = .ok (.iload_n 1, 1) := db_dX7_noMasks_0.2.2.2.2.2.2.1
theorem dX7_noMasks_11 : decode cX7_noMasks 11 = .ok (.ireturn, 1) := db_dX7_noMasks_0.2.2.2.2.2.2.2
theorem db_dX7_agree_0 : decode cX7_agree 0 = .ok (.iload_n 1, 1) ∧ decode cX7_agree 1 = .ok (.iload_n 2, 1) ∧ decode cX7_agree 2 = .ok (.if_icmp .eq 25, 3) ∧ decode cX7_agree 5 = .ok (.aload_n 0, 1) ∧ decode cX7_agree 6 = .ok (.getfield 87, 3) ∧ decode cX7_agree 9 = .ok (.iconst 1, 1) ∧ decode cX7_agree 10 = .ok (.if_icmp .ne 21, 3) ∧ decode cX7_agree 13 = .ok (.iload_n 1, 1) := by decide +kernel
theorem dX7_agree_0 : decode cX7_agree 0 = .ok (.iload_n 1, 1) := db_dX7_agree_0.1
theorem dX7_agree_1 : decode cX7_agree 1 = .ok (.iload_n 2, 1) := db_dX7_agree_0.2.1
theorem dX7_agree_2 : decode cX7_agree 2 = .ok (.if_icmp .eq 25, 3) := db_dX7_agree_0.2.2.1
theorem dX7_agree_5 : decode cX7_agree 5 = .ok (.aload_n 0, 1) := db_dX7_agree_0.2.2.2.1
theorem dX7_agree_6 : decode cX7_agree 6 = .ok (.getfield 87, 3) := db_dX7_agree_0.2.2.2.2.1
theorem dX7_agree_9 : decode cX7_agree 9 = .ok (.iconst 1, 1) := db_dX7_agree_0.2.2.2.2.2.1
theorem dX7_agree_10 : decode cX7_agree 10 = .ok (.if_icmp .ne 21, 3) := db_dX7_agree_0.2.2.2.2.2.2.1
theorem dX7_agree_13 : decode cX7_agree 13 = .ok (.iload_n 1, 1) := db_dX7_agree_0.2.2.2.2.2.2.2
theorem db_dX7_agree_14 : decode cX7_agree 14 = .ok (.sipush 256, 3) ∧ decode cX7_agree 17 = .ok (.if_icmp .eq 10, 3) ∧ decode cX7_agree 20 = .ok (.iload_n 2, 1) ∧ decode cX7_agree 21 = .ok (.sipush 256, 3) ∧ decode cX7_agree 24 = .ok (.if_icmp .ne 7, 3) ∧ decode cX7_agree 27 = .ok (.iconst 1, 1) ∧ decode cX7_agree 28 = .ok (.goto 4, 3) ∧ decode cX7_agree 31 = .ok (.iconst 0, 1) := by decide +kernel
theorem dX7_agree_14 : decode cX7_agree 14 = .ok (.sipush 256, 3) := db_dX7_agree_14.1
theorem dX7_agree_17 : decode cX7_agree 17 = .ok (.if_icmp .eq 10, 3) := db_dX7_agree_14.2.1
theorem dX7_agree_20 : decode cX7_agree 20 = .ok (.iload_n 2, 1) := db_dX7_agree_14.2.2.1
theorem dX7_agree_21 : decode cX7_agree 21 = .ok (.sipush 256, 3) := db_dX7_agree_14.2.2.2.1
theorem dX7_agree_24 : decode cX7_agree 24 = .ok (.if_icmp .ne 7, 3) := db_dX7_agree_14.2.2.2.2.1
theorem dX7_agree_27 : decode cX7_agree 27 = .ok (.iconst 1, 1) := db_dX7_agree_14.2.2.2.2.2.1
theorem dX7_agree_28 : decode cX7_agree 28 = .ok (.goto 4, 3) := db_dX7_agree_14.2.2.2.2.2.2.1
theorem dX7_agree_31 : decode cX7_agree 31 = .ok (.iconst 0, 1) := db_dX7_agree_14.2.2.2.2.2.2.2
theorem dX7_agree_32 : decode cX7_agree 32 = .ok (.ireturn, 1) := by decide +kernel
theorem db_dX7_isMasked_0 : decode cX7_isMasked 0 = .ok (.iconst 0, 1) ∧ decode cX7_isMasked 1 = .ok (.istore_n 3, 1) ∧ decode cX7_isMasked 2 = .ok (.iconst 0, 1) ∧ decode cX7_isMasked 3 = .ok (.istore 4, 2) ∧ decode cX7_isMasked 5 = .ok (.iload 4, 2) ∧ decode cX7_isMasked 7 = .ok (.aload_n 0, 1) ∧ decode cX7_isMasked 8 = .ok (.getfield 90, 3) ∧ decode cX7_isMasked 11 = .ok (.if_icmp .ge 89, 3) := by decide +kernel
theorem dX7_isMasked_0 : decode cX7_isMasked 0 = .ok (.iconst 0, 1) := db_dX7_isMasked_0.1
theorem dX7_isMasked_1 : decode cX7_isMasked 1 = .ok (.istore_n 3, 1) := db_dX7_isMasked_0.2.1
theorem dX7_isMasked_2 : decode cX7_isMasked 2 = .ok (.iconst 0, 1) := db_dX7_isMasked_0.2.2.1
theorem dX7_isMasked_3 : decode cX7_isMasked 3 = .ok (.istore 4, 2) := db_dX7_isMasked_0.2.2.2.1
theorem dX7_isMasked_5 : decode cX7_isMasked 5 = .ok (.iload 4, 2) := db_dX7_isMasked_0.2.2.2.2.1
theorem dX7_isMasked_7 : decode cX7_isMasked 7 = .ok (.aload_n 0, 1) := db_dX7_isMasked_0.2.2.2.2.2.1
theorem dX7_isMasked_8 : decode cX7_isMasked 8 = .ok (.getfield 90, 3) := db_dX7_isMasked_0.2.2.2.2.2.2.1
theorem dX7_isMasked_11 : decode cX7_isMasked 11 = .ok (.if_icmp .ge 89, 3) := db_dX7_isMasked_0.2.2.2.2.2.2.2
theorem db_dX7_isMasked_14 : decode cX7_isMasked 14 = .ok (.iload_n 3, 1) ∧ decode cX7_isMasked 15 = .ok (.ifCond .ne 73, 3) ∧ decode cX7_isMasked 18 = .ok (.aload_n 0, 1) ∧ decode cX7_isMasked 19 = .ok (.getfield 32, 3) ∧ decode cX7_isMasked 22 = .ok (.iload 4, 2) ∧ decode cX7_isMasked 24 = .ok (.iaload, 1) ∧ decode cX7_isMasked 25 = .ok (.iload_n 1, 1) ∧ decode cX7_isMasked 26 = .ok (.if_icmp .ne 66, 3) := by decide +kernel
theorem dX7_isMasked_14 : decode cX7_isMasked 14 = .ok (.iload_n 3, 1) := db_dX7_isMasked_14.1
theorem dX7_isMasked_15 : decode cX7_isMasked 15 = .ok (.ifCond .ne 73, 3) := db_dX7_isMasked_14.2.1
theorem dX7_isMasked_18 : decode cX7_isMasked 18 = .ok (.aload_n 0, 1) := db_dX7_isMasked_14.2.2.1
theorem dX7_isMasked_19 : decode cX7_isMasked 19 = .ok (.getfield 32, 3) := db_dX7_isMasked_14.2.2.2.1
theorem dX7_isMasked_22 : decode cX7_isMasked 22 = .ok (.iload 4, 2) := db_dX7_isMasked_14.2.2.2.2.1
theorem dX7_isMasked_24 : decode cX7_isMasked 24 = .ok (.iaload, 1) := db_dX7_isMasked_14.2.2.2.2.2.1
theorem dX7_isMasked_25 : decode cX7_isMasked 25 = .ok (.iload_n 1, 1) := db_dX7_isMasked_14.2.2.2.2.2.2.1
theorem dX7_isMasked_26 : decode cX7_isMasked 26 = .ok (.if_icmp .ne 66, 3) := db_dX7_isMasked_14.2.2.2.2.2.2.2
theorem db_dX7_isMasked_29 : decode cX7_isMasked 29 = .ok (.aload_n 0, 1) ∧ decode cX7_isMasked 30 = .ok (.getfield 41, 3) ∧ decode cX7_isMasked 33 = .ok (.iload 4, 2) ∧ decode cX7_isMasked 35 = .ok (.iaload, 1) ∧ decode cX7_isMasked 36 = .ok (.ifCond .ge 29, 3) ∧ decode cX7_isMasked 39 = .ok (.iload_n 2, 1) ∧ decode cX7_isMasked 40 = .ok (.aload_n 0, 1) ∧ decode cX7_isMasked 41 = .ok (.getfield 35, 3) := by decide +kernel
theorem dX7_isMasked_29 : decode cX7_isMasked 29 = .ok (.aload_n 0, 1) := db_dX7_isMasked_29.1
theorem dX7_isMasked_30 : decode cX7_isMasked 30 = .ok (.getfield 41, 3) := db_dX7_isMasked_29.2.1
theorem dX7_isMasked_33 : decode cX7_isMasked 33 = .ok (.iload 4, 2) := db_dX7_isMasked_29.2.2.1
theorem dX7_isMasked_35 : decode cX7_isMasked 35 = .ok (.iaload, 1) := db_dX7_isMasked_29.2.2.2.1
theorem dX7_isMasked_36 : decode cX7_isMasked 36 = .ok (.ifCond .ge 29, 3) := db_dX7_isMasked_29.2.2.2.2.1
theorem dX7_isMasked_39 : decode cX7_isMasked 39 = .ok (.iload_n 2, 1) := db_dX7_isMasked_29.2.2.2.2.2.1
theorem dX7_isMasked_40 : decode cX7_isMasked 40 = .ok (.aload_n 0, 1) := db_dX7_isMasked_29.2.2.2.2.2.2.1
theorem dX7_isMasked_41 : decode cX7_isMasked 41 = .ok (.getfield 35, 3) := db_dX7_isMasked_29.2.2.2.2.2.2.2
theorem db_dX7_isMasked_44 : decode cX7_isMasked 44 = .ok (.iload 4, 2) ∧ decode cX7_isMasked 46 = .ok (.iaload, 1) ∧ decode cX7_isMasked 47 = .ok (.aload_n 0, 1) ∧ decode cX7_isMasked 48 = .ok (.getfield 38, 3) ∧ decode cX7_isMasked 51 = .ok (.iload 4, 2) ∧ decode cX7_isMasked 53 = .ok (.iaload, 1) ∧ decode cX7_isMasked 54 = .ok (.iconst 1, 1) ∧ decode cX7_isMasked 55 = .ok (.isub, 1) := by decide +kernel
theorem dX7_isMasked_44 : decode cX7_isMasked 44 = .ok (.iload 4, 2) := db_dX7_isMasked_44.1
theorem dX7_isMasked_46 : decode cX7_isMasked 46 = .ok (.iaload, 1) := db_dX7_isMasked_44.2.1
theorem dX7_isMasked_47 : decode cX7_isMasked 47 = .ok (.aload_n 0, 1) := db_dX7_isMasked_44.2.2.1
theorem dX7_isMasked_48 : decode cX7_isMasked 48 = .ok (.getfield 38, 3) := db_dX7_isMasked_44.2.2.2.1
theorem dX7_isMasked_51 : decode cX7_isMasked 51 = .ok (.iload 4, 2) := db_dX7_isMasked_44.2.2.2.2.1
theorem dX7_isMasked_53 : decode cX7_isMasked 53 = .ok (.iaload, 1) := db_dX7_isMasked_44.2.2.2.2.2.1
theorem dX7_isMasked_54 : decode cX7_isMasked 54 = .ok (.iconst 1, 1) := db_dX7_isMasked_44.2.2.2.2.2.2.1
theorem dX7_isMasked_55 : decode cX7_isMasked 55 = .ok (.isub, 1) := db_dX7_isMasked_44.2.2.2.2.2.2.2
theorem db_dX7_isMasked_56 : decode cX7_isMasked 56 = .ok (.invokestatic 60, 3) ∧ decode cX7_isMasked 59 = .ok (.ifCond .eq 33, 3) ∧ decode cX7_isMasked 62 = .ok (.goto 26, 3) ∧ decode cX7_isMasked 65 = .ok (.aload_n 0, 1) ∧ decode cX7_isMasked 66 = .ok (.iconst 0, 1) ∧ decode cX7_isMasked 67 = .ok (.aload_n 0, 1) ∧ decode cX7_isMasked 68 = .ok (.getfield 41, 3) ∧ decode cX7_isMasked 71 = .ok (.iload 4, 2) := by decide +kernel
theorem dX7_isMasked_56 : decode cX7_isMasked 56 = .ok (.invokestatic 60, 3) := db_dX7_isMasked_56.1
theorem dX7_isMasked_59 : decode cX7_isMasked 59 = .ok (.ifCond .eq 33, 3) := db_dX7_isMasked_56.2.1
theorem dX7_isMasked_62 : decode cX7_isMasked 62 = .ok (.goto 26, 3) := db_dX7_isMasked_56.2.2.1
theorem dX7_isMasked_65 : decode cX7_isMasked 65 = .ok (.aload_n 0, 1) := db_dX7_isMasked_56.2.2.2.1
theorem dX7_isMasked_66 : decode cX7_isMasked 66 = .ok (.iconst 0, 1) := db_dX7_isMasked_56.2.2.2.2.1
theorem dX7_isMasked_67 : decode cX7_isMasked 67 = .ok (.aload_n 0, 1) := db_dX7_isMasked_56.2.2.2.2.2.1
theorem dX7_isMasked_68 : decode cX7_isMasked 68 = .ok (.getfield 41, 3) := db_dX7_isMasked_56.2.2.2.2.2.2.1
theorem dX7_isMasked_71 : decode cX7_isMasked 71 = .ok (.iload 4, 2) := db_dX7_isMasked_56.2.2.2.2.2.2.2
theorem db_dX7_isMasked_73 : decode cX7_isMasked 73 = .ok (.iaload, 1) ∧ decode cX7_isMasked 74 = .ok (.iload_n 2, 1) ∧ decode cX7_isMasked 75 = .ok (.invokevirtual 83, 3) ∧ decode cX7_isMasked 78 = .ok (.aload_n 0, 1) ∧ decode cX7_isMasked 79 = .ok (.getfield 35, 3) ∧ decode cX7_isMasked 82 = .ok (.iload 4, 2) ∧ decode cX7_isMasked 84 = .ok (.iaload, 1) ∧ decode cX7_isMasked 85 = .ok (.if_icmp .ne 7, 3) := by decide +kernel
theorem dX7_isMasked_73 : decode cX7_isMasked 73 = .ok (.iaload, 1) := db_dX7_isMasked_73.1
theorem dX7_isMasked_74 : decode cX7_isMasked 74 = .ok (.iload_n 2, 1) := db_dX7_isMasked_73.2.1
theorem dX7_isMasked_75 : decode cX7_isMasked 75 = .ok (.invokevirtual 83, 3) := db_dX7_isMasked_73.2.2.1
theorem dX7_isMasked_78 : decode cX7_isMasked 78 = .ok (.aload_n 0, 1) := db_dX7_isMasked_73.2.2.2.1
theorem dX7_isMasked_79 : decode cX7_isMasked 79 = .ok (.getfield 35, 3) := db_dX7_isMasked_73.2.2.2.2.1
theorem dX7_isMasked_82 : decode cX7_isMasked 82 = .ok (.iload 4, 2) := db_dX7_isMasked_73.2.2.2.2.2.1
theorem dX7_isMasked_84 : decode cX7_isMasked 84 = .ok (.iaload, 1) := db_dX7_isMasked_73.2.2.2.2.2.2.1
theorem dX7_isMasked_85 : decode cX7_isMasked 85 = .ok (.if_icmp .ne 7, 3) := db_dX7_isMasked_73.2.2.2.2.2.2.2
theorem db_dX7_isMasked_88 : decode cX7_isMasked 88 = .ok (.iconst 1, 1) ∧ decode cX7_isMasked 89 = .ok (.goto 4, 3) ∧ decode cX7_isMasked 92 = .ok (.iconst 0, 1) ∧ decode cX7_isMasked 93 = .ok (.istore_n 3, 1) ∧ decode cX7_isMasked 94 = .ok (.iinc 4 1, 3) ∧ decode cX7_isMasked 97 = .ok (.goto (-92), 3) ∧ decode cX7_isMasked 100 = .ok (.iload_n 3, 1) ∧ decode cX7_isMasked 101 = .ok (.ireturn, 1) := by decide +kernel
theorem dX7_isMasked_88 : decode cX7_isMasked 88 = .ok (.iconst 1, 1) := db_dX7_isMasked_88.1
theorem dX7_isMasked_89 : decode cX7_isMasked 89 = .ok (.goto 4, 3) := db_dX7_isMasked_88.2.1
theorem dX7_isMasked_92 : decode cX7_isMasked 92 = .ok (.iconst 0, 1) := db_dX7_isMasked_88.2.2.1
theorem dX7_isMasked_93 : decode cX7_isMasked 93 = .ok (.istore_n 3, 1) := db_dX7_isMasked_88.2.2.2.1
theorem dX7_isMasked_94 : decode cX7_isMasked 94 = .ok (.iinc 4 1, 3) := db_dX7_isMasked_88.2.2.2.2.1
theorem dX7_isMasked_97 : decode cX7_isMasked 97 = .ok (.goto (-92), 3) := db_dX7_isMasked_88.2.2.2.2.2.1
theorem dX7_isMasked_100 : decode cX7_isMasked 100 = .ok (.iload_n 3, 1) := db_dX7_isMasked_88.2.2.2.2.2.2.1
theorem dX7_isMasked_101 : decode cX7_isMasked 101 = .ok (.ireturn, 1) := db_dX7_isMasked_88.2.2.2.2.2.2.2
theorem db_dX7_differs_0 : decode cX7_differs 0 = .ok (.aload_n 0, 1) ∧ decode cX7_differs 1 = .ok (.aload_n 0, 1) ∧ decode cX7_differs 2 = .ok (.iconst 0, 1) ∧ decode cX7_differs 3 = .ok (.iload_n 1, 1) ∧ decode cX7_differs 4 = .ok (.iload_n 2, 1) ∧ decode cX7_differs 5 = .ok (.invokevirtual 83, 3) ∧ decode cX7_differs 8 = .ok (.aload_n 0, 1) ∧ decode cX7_differs 9 = .ok (.iconst 1, 1) := by decide +kernel
theorem dX7_differs_0 : decode cX7_differs 0 = .ok (.aload_n 0, 1) := db_dX7_differs_0.1
theorem dX7_differs_1 : decode cX7_differs 1 = .ok (.aload_n 0, 1) := db_dX7_differs_0.2.1
theorem dX7_differs_2 : decode cX7_differs 2 = .ok (.iconst 0, 1) := db_dX7_differs_0.2.2.1
theorem dX7_differs_3 : decode cX7_differs 3 = .ok (.iload_n 1, 1) := db_dX7_differs_0.2.2.2.1
theorem dX7_differs_4 : decode cX7_differs 4 = .ok (.iload_n 2, 1) := db_dX7_differs_0.2.2.2.2.1
theorem dX7_differs_5 : decode cX7_differs 5 = .ok (.invokevirtual 83, 3) := db_dX7_differs_0.2.2.2.2.2.1
theorem dX7_differs_8 : decode cX7_differs 8 = .ok (.aload_n 0, 1) := db_dX7_differs_0.2.2.2.2.2.2.1
theorem dX7_differs_9 : decode cX7_differs 9 = .ok (.iconst 1, 1) := db_dX7_differs_0.2.2.2.2.2.2.2
theorem db_dX7_differs_10 : decode cX7_differs 10 = .ok (.aload_n 0, 1) ∧ decode cX7_differs 11 = .ok (.getfield 23, 3) ∧ decode cX7_differs 14 = .ok (.iload_n 1, 1) ∧ decode cX7_differs 15 = .ok (.iaload, 1) ∧ decode cX7_differs 16 = .ok (.iload_n 2, 1) ∧ decode cX7_differs 17 = .ok (.iload_n 3, 1) ∧ decode cX7_differs 18 = .ok (.iadd, 1) ∧ decode cX7_differs 19 = .ok (.invokevirtual 83, 3) := by decide +kernel
theorem dX7_differs_10 : decode cX7_differs 10 = .ok (.aload_n 0, 1) := db_dX7_differs_10.1
theorem dX7_differs_11 : decode cX7_differs 11 = .ok (.getfield 23, 3) := db_dX7_differs_10.2.1
theorem dX7_differs_14 : decode cX7_differs 14 = .ok (.iload_n 1, 1) := db_dX7_differs_10.2.2.1
theorem dX7_differs_15 : decode cX7_differs 15 = .ok (.iaload, 1) := db_dX7_differs_10.2.2.2.1
theorem dX7_differs_16 : decode cX7_differs 16 = .ok (.iload_n 2, 1) := db_dX7_differs_10.2.2.2.2.1
theorem dX7_differs_17 : decode cX7_differs 17 = .ok (.iload_n 3, 1) := db_dX7_differs_10.2.2.2.2.2.1
theorem dX7_differs_18 : decode cX7_differs 18 = .ok (.iadd, 1) := db_dX7_differs_10.2.2.2.2.2.2.1
theorem dX7_differs_19 : decode cX7_differs 19 = .ok (.invokevirtual 83, 3) := db_dX7_differs_10.2.2.2.2.2.2.2
theorem db_dX7_differs_22 : decode cX7_differs 22 = .ok (.invokevirtual 97, 3) ∧ decode cX7_differs 25 = .ok (.ifCond .ne 16, 3) ∧ decode cX7_differs 28 = .ok (.aload_n 0, 1) ∧ decode cX7_differs 29 = .ok (.iload_n 1, 1) ∧ decode cX7_differs 30 = .ok (.iload_n 2, 1) ∧ decode cX7_differs 31 = .ok (.invokevirtual 100, 3) ∧ decode cX7_differs 34 = .ok (.ifCond .ne 7, 3) ∧ decode cX7_differs 37 = .ok (.iconst 1, 1) := by decide +kernel
theorem dX7_differs_22 : decode cX7_differs 22 = .ok (.invokevirtual 97, 3) := db_dX7_differs_22.1
theorem dX7_differs_25 : decode cX7_differs 25 = .ok (.ifCond .ne 16, 3) := db_dX7_differs_22.2.1
theorem dX7_differs_28 : decode cX7_differs 28 = .ok (.aload_n 0, 1) := db_dX7_differs_22.2.2.1
theorem dX7_differs_29 : decode cX7_differs 29 = .ok (.iload_n 1, 1) := db_dX7_differs_22.2.2.2.1
theorem dX7_differs_30 : decode cX7_differs 30 = .ok (.iload_n 2, 1) := db_dX7_differs_22.2.2.2.2.1
theorem dX7_differs_31 : decode cX7_differs 31 = .ok (.invokevirtual 100, 3) := db_dX7_differs_22.2.2.2.2.2.1
theorem dX7_differs_34 : decode cX7_differs 34 = .ok (.ifCond .ne 7, 3) := db_dX7_differs_22.2.2.2.2.2.2.1
theorem dX7_differs_37 : decode cX7_differs 37 = .ok (.iconst 1, 1) := db_dX7_differs_22.2.2.2.2.2.2.2
theorem db_dX7_differs_38 : decode cX7_differs 38 = .ok (.goto 4, 3) ∧ decode cX7_differs 41 = .ok (.iconst 0, 1) ∧ decode cX7_differs 42 = .ok (.ireturn, 1) := by decide +kernel
theorem dX7_differs_38 : decode cX7_differs 38 = .ok (.goto 4, 3) := db_dX7_differs_38.1
theorem dX7_differs_41 : decode cX7_differs 41 = .ok (.iconst 0, 1) := db_dX7_differs_38.2.1
theorem dX7_differs_42 : decode cX7_differs 42 = .ok (.ireturn, 1) := db_dX7_differs_38.2.2
theorem db_dX7_least_0 : decode cX7_least 0 = .ok (.iload_n 0, 1) ∧ decode cX7_least 1 = .ok (.iload_n 1, 1) ∧ decode cX7_least 2 = .ok (.if_icmp .ge 7, 3) ∧ decode cX7_least 5 = .ok (.iload_n 0, 1) ∧ decode cX7_least 6 = .ok (.goto 4, 3) ∧ decode cX7_least 9 = .ok (.iload_n 1, 1) ∧ decode cX7_least 10 = .ok (.ireturn, 1) := by decide +kernel
theorem dX7_least_0 : decode cX7_least 0 = .ok (.iload_n 0, 1) := db_dX7_least_0.1
theorem dX7_least_1 : decode cX7_least 1 = .ok (.iload_n 1, 1) := db_dX7_least_0.2.1
theorem dX7_least_2 : decode cX7_least 2 = .ok (.if_icmp .ge 7, 3) := db_dX7_least_0.2.2.1
theorem dX7_least_5 : decode cX7_least 5 = .ok (.iload_n 0, 1) := db_dX7_least_0.2.2.2.1
theorem dX7_least_6 : decode cX7_least 6 = .ok (.goto 4, 3) := db_dX7_least_0.2.2.2.2.1
theorem dX7_least_9 : decode cX7_least 9 = .ok (.iload_n 1, 1) := db_dX7_least_0.2.2.2.2.2.1
theorem dX7_least_10 : decode cX7_least 10 = .ok (.ireturn, 1) := db_dX7_least_0.2.2.2.2.2.2
theorem db_dX7_next_0 : decode cX7_next 0 = .ok (.aload_n 0, 1) ∧ decode cX7_next 1 = .ok (.iconst 0, 1) ∧ decode cX7_next 2 = .ok (.iload_n 1, 1) ∧ decode cX7_next 3 = .ok (.iload_n 2, 1) ∧ decode cX7_next 4 = .ok (.invokevirtual 103, 3) ∧ decode cX7_next 7 = .ok (.aload_n 0, 1) ∧ decode cX7_next 8 = .ok (.iconst 1, 1) ∧ decode cX7_next 9 = .ok (.aload_n 0, 1) := by decide +kernel
theorem dX7_next_0 : decode cX7_next 0 = .ok (.aload_n 0, 1) := db_dX7_next_0.1
theorem dX7_next_1 : decode cX7_next 1 = .ok (.iconst 0, 1) := db_dX7_next_0.2.1
theorem dX7_next_2 : decode cX7_next 2 = .ok (.iload_n 1, 1) := db_dX7_next_0.2.2.1
theorem dX7_next_3 : decode cX7_next 3 = .ok (.iload_n 2, 1) := db_dX7_next_0.2.2.2.1
theorem dX7_next_4 : decode cX7_next 4 = .ok (.invokevirtual 103, 3) := db_dX7_next_0.2.2.2.2.1
theorem dX7_next_7 : decode cX7_next 7 = .ok (.aload_n 0, 1) := db_dX7_next_0.2.2.2.2.2.1
theorem dX7_next_8 : decode cX7_next 8 = .ok (.iconst 1, 1) := db_dX7_next_0.2.2.2.2.2.2.1
theorem dX7_next_9 : decode cX7_next 9 = .ok (.aload_n 0, 1) := db_dX7_next_0.2.2.2.2.2.2.2
theorem db_dX7_next_10 : decode cX7_next 10 = .ok (.getfield 23, 3) ∧ decode cX7_next 13 = .ok (.iload_n 1, 1) ∧ decode cX7_next 14 = .ok (.iaload, 1) ∧ decode cX7_next 15 = .ok (.iload_n 2, 1) ∧ decode cX7_next 16 = .ok (.iload_n 3, 1) ∧ decode cX7_next 17 = .ok (.iadd, 1) ∧ decode cX7_next 18 = .ok (.invokevirtual 103, 3) ∧ decode cX7_next 21 = .ok (.iload_n 3, 1) := by decide +kernel
theorem dX7_next_10 : decode cX7_next 10 = .ok (.getfield 23, 3) := db_dX7_next_10.1
theorem dX7_next_13 : decode cX7_next 13 = .ok (.iload_n 1, 1) := db_dX7_next_10.2.1
theorem dX7_next_14 : decode cX7_next 14 = .ok (.iaload, 1) := db_dX7_next_10.2.2.1
theorem dX7_next_15 : decode cX7_next 15 = .ok (.iload_n 2, 1) := db_dX7_next_10.2.2.2.1
theorem dX7_next_16 : decode cX7_next 16 = .ok (.iload_n 3, 1) := db_dX7_next_10.2.2.2.2.1
theorem dX7_next_17 : decode cX7_next 17 = .ok (.iadd, 1) := db_dX7_next_10.2.2.2.2.2.1
theorem dX7_next_18 : decode cX7_next 18 = .ok (.invokevirtual 103, 3) := db_dX7_next_10.2.2.2.2.2.2.1
theorem dX7_next_21 : decode cX7_next 21 = .ok (.iload_n 3, 1) := db_dX7_next_10.2.2.2.2.2.2.2
theorem db_dX7_next_22 : decode cX7_next 22 = .ok (.isub, 1) ∧ decode cX7_next 23 = .ok (.invokestatic 106, 3) ∧ decode cX7_next 26 = .ok (.istore 4, 2) ∧ decode cX7_next 28 = .ok (.iconst 0, 1) ∧ decode cX7_next 29 = .ok (.istore 5, 2) ∧ decode cX7_next 31 = .ok (.iload 5, 2) ∧ decode cX7_next 33 = .ok (.aload_n 0, 1) ∧ decode cX7_next 34 = .ok (.getfield 90, 3) := by decide +kernel
theorem dX7_next_22 : decode cX7_next 22 = .ok (.isub, 1) := db_dX7_next_22.1
theorem dX7_next_23 : decode cX7_next 23 = .ok (.invokestatic 106, 3) := db_dX7_next_22.2.1
theorem dX7_next_26 : decode cX7_next 26 = .ok (.istore 4, 2) := db_dX7_next_22.2.2.1
theorem dX7_next_28 : decode cX7_next 28 = .ok (.iconst 0, 1) := db_dX7_next_22.2.2.2.1
theorem dX7_next_29 : decode cX7_next 29 = .ok (.istore 5, 2) := db_dX7_next_22.2.2.2.2.1
theorem dX7_next_31 : decode cX7_next 31 = .ok (.iload 5, 2) := db_dX7_next_22.2.2.2.2.2.1
theorem dX7_next_33 : decode cX7_next 33 = .ok (.aload_n 0, 1) := db_dX7_next_22.2.2.2.2.2.2.1
theorem dX7_next_34 : decode cX7_next 34 = .ok (.getfield 90, 3) := db_dX7_next_22.2.2.2.2.2.2.2
theorem db_dX7_next_37 : decode cX7_next 37 = .ok (.if_icmp .ge 120, 3) ∧ decode cX7_next 40 = .ok (.aload_n 0, 1) ∧ decode cX7_next 41 = .ok (.getfield 32, 3) ∧ decode cX7_next 44 = .ok (.iload 5, 2) ∧ decode cX7_next 46 = .ok (.iaload, 1) ∧ decode cX7_next 47 = .ok (.iload_n 1, 1) ∧ decode cX7_next 48 = .ok (.if_icmp .ne 36, 3) ∧ decode cX7_next 51 = .ok (.aload_n 0, 1) := by decide +kernel
theorem dX7_next_37 : decode cX7_next 37 = .ok (.if_icmp .ge 120, 3) := db_dX7_next_37.1
theorem dX7_next_40 : decode cX7_next 40 = .ok (.aload_n 0, 1) := db_dX7_next_37.2.1
theorem dX7_next_41 : decode cX7_next 41 = .ok (.getfield 32, 3) := db_dX7_next_37.2.2.1
theorem dX7_next_44 : decode cX7_next 44 = .ok (.iload 5, 2) := db_dX7_next_37.2.2.2.1
theorem dX7_next_46 : decode cX7_next 46 = .ok (.iaload, 1) := db_dX7_next_37.2.2.2.2.1
theorem dX7_next_47 : decode cX7_next 47 = .ok (.iload_n 1, 1) := db_dX7_next_37.2.2.2.2.2.1
theorem dX7_next_48 : decode cX7_next 48 = .ok (.if_icmp .ne 36, 3) := db_dX7_next_37.2.2.2.2.2.2.1
theorem dX7_next_51 : decode cX7_next 51 = .ok (.aload_n 0, 1) := db_dX7_next_37.2.2.2.2.2.2.2
theorem db_dX7_next_52 : decode cX7_next 52 = .ok (.getfield 41, 3) ∧ decode cX7_next 55 = .ok (.iload 5, 2) ∧ decode cX7_next 57 = .ok (.iaload, 1) ∧ decode cX7_next 58 = .ok (.ifCond .lt 26, 3) ∧ decode cX7_next 61 = .ok (.iload 4, 2) ∧ decode cX7_next 63 = .ok (.aload_n 0, 1) ∧ decode cX7_next 64 = .ok (.iconst 0, 1) ∧ decode cX7_next 65 = .ok (.aload_n 0, 1) := by decide +kernel
theorem dX7_next_52 : decode cX7_next 52 = .ok (.getfield 41, 3) := db_dX7_next_52.1
theorem dX7_next_55 : decode cX7_next 55 = .ok (.iload 5, 2) := db_dX7_next_52.2.1
theorem dX7_next_57 : decode cX7_next 57 = .ok (.iaload, 1) := db_dX7_next_52.2.2.1
theorem dX7_next_58 : decode cX7_next 58 = .ok (.ifCond .lt 26, 3) := db_dX7_next_52.2.2.2.1
theorem dX7_next_61 : decode cX7_next 61 = .ok (.iload 4, 2) := db_dX7_next_52.2.2.2.2.1
theorem dX7_next_63 : decode cX7_next 63 = .ok (.aload_n 0, 1) := db_dX7_next_52.2.2.2.2.2.1
theorem dX7_next_64 : decode cX7_next 64 = .ok (.iconst 0, 1) := db_dX7_next_52.2.2.2.2.2.2.1
theorem dX7_next_65 : decode cX7_next 65 = .ok (.aload_n 0, 1) := db_dX7_next_52.2.2.2.2.2.2.2
theorem db_dX7_next_66 : decode cX7_next 66 = .ok (.getfield 41, 3) ∧ decode cX7_next 69 = .ok (.iload 5, 2) ∧ decode cX7_next 71 = .ok (.iaload, 1) ∧ decode cX7_next 72 = .ok (.iload_n 2, 1) ∧ decode cX7_next 73 = .ok (.invokevirtual 103, 3) ∧ decode cX7_next 76 = .ok (.invokestatic 106, 3) ∧ decode cX7_next 79 = .ok (.istore 4, 2) ∧ decode cX7_next 81 = .ok (.goto 70, 3) := by decide +kernel
theorem dX7_next_66 : decode cX7_next 66 = .ok (.getfield 41, 3) := db_dX7_next_66.1
theorem dX7_next_69 : decode cX7_next 69 = .ok (.iload 5, 2) := db_dX7_next_66.2.1
theorem dX7_next_71 : decode cX7_next 71 = .ok (.iaload, 1) := db_dX7_next_66.2.2.1
theorem dX7_next_72 : decode cX7_next 72 = .ok (.iload_n 2, 1) := db_dX7_next_66.2.2.2.1
theorem dX7_next_73 : decode cX7_next 73 = .ok (.invokevirtual 103, 3) := db_dX7_next_66.2.2.2.2.1
theorem dX7_next_76 : decode cX7_next 76 = .ok (.invokestatic 106, 3) := db_dX7_next_66.2.2.2.2.2.1
theorem dX7_next_79 : decode cX7_next 79 = .ok (.istore 4, 2) := db_dX7_next_66.2.2.2.2.2.2.1
theorem dX7_next_81 : decode cX7_next 81 = .ok (.goto 70, 3) := db_dX7_next_66.2.2.2.2.2.2.2
theorem db_dX7_next_84 : decode cX7_next 84 = .ok (.aload_n 0, 1) ∧ decode cX7_next 85 = .ok (.getfield 32, 3) ∧ decode cX7_next 88 = .ok (.iload 5, 2) ∧ decode cX7_next 90 = .ok (.iaload, 1) ∧ decode cX7_next 91 = .ok (.iload_n 1, 1) ∧ decode cX7_next 92 = .ok (.if_icmp .ne 59, 3) ∧ decode cX7_next 95 = .ok (.aload_n 0, 1) ∧ decode cX7_next 96 = .ok (.getfield 35, 3) := by decide +kernel
theorem dX7_next_84 : decode cX7_next 84 = .ok (.aload_n 0, 1) := db_dX7_next_84.1
theorem dX7_next_85 : decode cX7_next 85 = .ok (.getfield 32, 3) := db_dX7_next_84.2.1
theorem dX7_next_88 : decode cX7_next 88 = .ok (.iload 5, 2) := db_dX7_next_84.2.2.1
theorem dX7_next_90 : decode cX7_next 90 = .ok (.iaload, 1) := db_dX7_next_84.2.2.2.1
theorem dX7_next_91 : decode cX7_next 91 = .ok (.iload_n 1, 1) := db_dX7_next_84.2.2.2.2.1
theorem dX7_next_92 : decode cX7_next 92 = .ok (.if_icmp .ne 59, 3) := db_dX7_next_84.2.2.2.2.2.1
theorem dX7_next_95 : decode cX7_next 95 = .ok (.aload_n 0, 1) := db_dX7_next_84.2.2.2.2.2.2.1
theorem dX7_next_96 : decode cX7_next 96 = .ok (.getfield 35, 3) := db_dX7_next_84.2.2.2.2.2.2.2
theorem db_dX7_next_99 : decode cX7_next 99 = .ok (.iload 5, 2) ∧ decode cX7_next 101 = .ok (.iaload, 1) ∧ decode cX7_next 102 = .ok (.iload_n 2, 1) ∧ decode cX7_next 103 = .ok (.if_icmp .le 18, 3) ∧ decode cX7_next 106 = .ok (.iload 4, 2) ∧ decode cX7_next 108 = .ok (.aload_n 0, 1) ∧ decode cX7_next 109 = .ok (.getfield 35, 3) ∧ decode cX7_next 112 = .ok (.iload 5, 2) := by decide +kernel
theorem dX7_next_99 : decode cX7_next 99 = .ok (.iload 5, 2) := db_dX7_next_99.1
theorem dX7_next_101 : decode cX7_next 101 = .ok (.iaload, 1) := db_dX7_next_99.2.1
theorem dX7_next_102 : decode cX7_next 102 = .ok (.iload_n 2, 1) := db_dX7_next_99.2.2.1
theorem dX7_next_103 : decode cX7_next 103 = .ok (.if_icmp .le 18, 3) := db_dX7_next_99.2.2.2.1
theorem dX7_next_106 : decode cX7_next 106 = .ok (.iload 4, 2) := db_dX7_next_99.2.2.2.2.1
theorem dX7_next_108 : decode cX7_next 108 = .ok (.aload_n 0, 1) := db_dX7_next_99.2.2.2.2.2.1
theorem dX7_next_109 : decode cX7_next 109 = .ok (.getfield 35, 3) := db_dX7_next_99.2.2.2.2.2.2.1
theorem dX7_next_112 : decode cX7_next 112 = .ok (.iload 5, 2) := db_dX7_next_99.2.2.2.2.2.2.2
theorem db_dX7_next_114 : decode cX7_next 114 = .ok (.iaload, 1) ∧ decode cX7_next 115 = .ok (.invokestatic 106, 3) ∧ decode cX7_next 118 = .ok (.goto 31, 3) ∧ decode cX7_next 121 = .ok (.aload_n 0, 1) ∧ decode cX7_next 122 = .ok (.getfield 38, 3) ∧ decode cX7_next 125 = .ok (.iload 5, 2) ∧ decode cX7_next 127 = .ok (.iaload, 1) ∧ decode cX7_next 128 = .ok (.iload_n 2, 1) := by decide +kernel
theorem dX7_next_114 : decode cX7_next 114 = .ok (.iaload, 1) := db_dX7_next_114.1
theorem dX7_next_115 : decode cX7_next 115 = .ok (.invokestatic 106, 3) := db_dX7_next_114.2.1
theorem dX7_next_118 : decode cX7_next 118 = .ok (.goto 31, 3) := db_dX7_next_114.2.2.1
theorem dX7_next_121 : decode cX7_next 121 = .ok (.aload_n 0, 1) := db_dX7_next_114.2.2.2.1
theorem dX7_next_122 : decode cX7_next 122 = .ok (.getfield 38, 3) := db_dX7_next_114.2.2.2.2.1
theorem dX7_next_125 : decode cX7_next 125 = .ok (.iload 5, 2) := db_dX7_next_114.2.2.2.2.2.1
theorem dX7_next_127 : decode cX7_next 127 = .ok (.iaload, 1) := db_dX7_next_114.2.2.2.2.2.2.1
theorem dX7_next_128 : decode cX7_next 128 = .ok (.iload_n 2, 1) := db_dX7_next_114.2.2.2.2.2.2.2
theorem db_dX7_next_129 : decode cX7_next 129 = .ok (.if_icmp .le 18, 3) ∧ decode cX7_next 132 = .ok (.iload 4, 2) ∧ decode cX7_next 134 = .ok (.aload_n 0, 1) ∧ decode cX7_next 135 = .ok (.getfield 38, 3) ∧ decode cX7_next 138 = .ok (.iload 5, 2) ∧ decode cX7_next 140 = .ok (.iaload, 1) ∧ decode cX7_next 141 = .ok (.invokestatic 106, 3) ∧ decode cX7_next 144 = .ok (.goto 5, 3) := by decide +kernel
theorem dX7_next_129 : decode cX7_next 129 = .ok (.if_icmp .le 18, 3) := db_dX7_next_129.1
theorem dX7_next_132 : decode cX7_next 132 = .ok (.iload 4, 2) := db_dX7_next_129.2.1
theorem dX7_next_134 : decode cX7_next 134 = .ok (.aload_n 0, 1) := db_dX7_next_129.2.2.1
theorem dX7_next_135 : decode cX7_next 135 = .ok (.getfield 38, 3) := db_dX7_next_129.2.2.2.1
theorem dX7_next_138 : decode cX7_next 138 = .ok (.iload 5, 2) := db_dX7_next_129.2.2.2.2.1
theorem dX7_next_140 : decode cX7_next 140 = .ok (.iaload, 1) := db_dX7_next_129.2.2.2.2.2.1
theorem dX7_next_141 : decode cX7_next 141 = .ok (.invokestatic 106, 3) := db_dX7_next_129.2.2.2.2.2.2.1
theorem dX7_next_144 : decode cX7_next 144 = .ok (.goto 5, 3) := db_dX7_next_129.2.2.2.2.2.2.2
theorem db_dX7_next_147 : decode cX7_next 147 = .ok (.iload 4, 2) ∧ decode cX7_next 149 = .ok (.istore 4, 2) ∧ decode cX7_next 151 = .ok (.iinc 5 1, 3) ∧ decode cX7_next 154 = .ok (.goto (-123), 3) ∧ decode cX7_next 157 = .ok (.iload 4, 2) ∧ decode cX7_next 159 = .ok (.ireturn, 1) := by decide +kernel
theorem dX7_next_147 : decode cX7_next 147 = .ok (.iload 4, 2) := db_dX7_next_147.1
theorem dX7_next_149 : decode cX7_next 149 = .ok (.istore 4, 2) := db_dX7_next_147.2.1
theorem dX7_next_151 : decode cX7_next 151 = .ok (.iinc 5 1, 3) := db_dX7_next_147.2.2.1
theorem dX7_next_154 : decode cX7_next 154 = .ok (.goto (-123), 3) := db_dX7_next_147.2.2.2.1
theorem dX7_next_157 : decode cX7_next 157 = .ok (.iload 4, 2) := db_dX7_next_147.2.2.2.2.1
theorem dX7_next_159 : decode cX7_next 159 = .ok (.ireturn, 1) := db_dX7_next_147.2.2.2.2.2
theorem db_dX7_spans_0 : decode cX7_spans 0 = .ok (.iconst 0, 1) ∧ decode cX7_spans 1 = .ok (.istore_n 2, 1) ∧ decode cX7_spans 2 = .ok (.iconst 0, 1) ∧ decode cX7_spans 3 = .ok (.istore_n 3, 1) ∧ decode cX7_spans 4 = .ok (.iload_n 3, 1) ∧ decode cX7_spans 5 = .ok (.bipush 12, 2) ∧ decode cX7_spans 7 = .ok (.if_icmp .ge 124, 3) ∧ decode cX7_spans 10 = .ok (.aload_n 0, 1) := by decide +kernel
theorem dX7_spans_0 : decode cX7_spans 0 = .ok (.iconst 0, 1) := db_dX7_spans_0.1
theorem dX7_spans_1 : decode cX7_spans 1 = .ok (.istore_n 2, 1) := db_dX7_spans_0.2.1
theorem dX7_spans_2 : decode cX7_spans 2 = .ok (.iconst 0, 1) := db_dX7_spans_0.2.2.1
theorem dX7_spans_3 : decode cX7_spans 3 = .ok (.istore_n 3, 1) := db_dX7_spans_0.2.2.2.1
theorem dX7_spans_4 : decode cX7_spans 4 = .ok (.iload_n 3, 1) := db_dX7_spans_0.2.2.2.2.1
theorem dX7_spans_5 : decode cX7_spans 5 = .ok (.bipush 12, 2) := db_dX7_spans_0.2.2.2.2.2.1
theorem dX7_spans_7 : decode cX7_spans 7 = .ok (.if_icmp .ge 124, 3) := db_dX7_spans_0.2.2.2.2.2.2.1
theorem dX7_spans_10 : decode cX7_spans 10 = .ok (.aload_n 0, 1) := db_dX7_spans_0.2.2.2.2.2.2.2
theorem db_dX7_spans_11 : decode cX7_spans 11 = .ok (.getfield 29, 3) ∧ decode cX7_spans 14 = .ok (.aload_n 0, 1) ∧ decode cX7_spans 15 = .ok (.getfield 26, 3) ∧ decode cX7_spans 18 = .ok (.iload_n 3, 1) ∧ decode cX7_spans 19 = .ok (.iaload, 1) ∧ decode cX7_spans 20 = .ok (.iaload, 1) ∧ decode cX7_spans 21 = .ok (.istore 4, 2) ∧ decode cX7_spans 23 = .ok (.iconst (-1), 1) := by decide +kernel
theorem dX7_spans_11 : decode cX7_spans 11 = .ok (.getfield 29, 3) := db_dX7_spans_11.1
theorem dX7_spans_14 : decode cX7_spans 14 = .ok (.aload_n 0, 1) := db_dX7_spans_11.2.1
theorem dX7_spans_15 : decode cX7_spans 15 = .ok (.getfield 26, 3) := db_dX7_spans_11.2.2.1
theorem dX7_spans_18 : decode cX7_spans 18 = .ok (.iload_n 3, 1) := db_dX7_spans_11.2.2.2.1
theorem dX7_spans_19 : decode cX7_spans 19 = .ok (.iaload, 1) := db_dX7_spans_11.2.2.2.2.1
theorem dX7_spans_20 : decode cX7_spans 20 = .ok (.iaload, 1) := db_dX7_spans_11.2.2.2.2.2.1
theorem dX7_spans_21 : decode cX7_spans 21 = .ok (.istore 4, 2) := db_dX7_spans_11.2.2.2.2.2.2.1
theorem dX7_spans_23 : decode cX7_spans 23 = .ok (.iconst (-1), 1) := db_dX7_spans_11.2.2.2.2.2.2.2
theorem db_dX7_spans_24 : decode cX7_spans 24 = .ok (.istore 5, 2) ∧ decode cX7_spans 26 = .ok (.iconst 0, 1) ∧ decode cX7_spans 27 = .ok (.istore 6, 2) ∧ decode cX7_spans 29 = .ok (.iload 6, 2) ∧ decode cX7_spans 31 = .ok (.aload_n 0, 1) ∧ decode cX7_spans 32 = .ok (.getfield 7, 3) ∧ decode cX7_spans 35 = .ok (.if_icmp .ge 69, 3) ∧ decode cX7_spans 38 = .ok (.aload_n 0, 1) := by decide +kernel
theorem dX7_spans_24 : decode cX7_spans 24 = .ok (.istore 5, 2) := db_dX7_spans_24.1
theorem dX7_spans_26 : decode cX7_spans 26 = .ok (.iconst 0, 1) := db_dX7_spans_24.2.1
theorem dX7_spans_27 : decode cX7_spans 27 = .ok (.istore 6, 2) := db_dX7_spans_24.2.2.1
theorem dX7_spans_29 : decode cX7_spans 29 = .ok (.iload 6, 2) := db_dX7_spans_24.2.2.2.1
theorem dX7_spans_31 : decode cX7_spans 31 = .ok (.aload_n 0, 1) := db_dX7_spans_24.2.2.2.2.1
theorem dX7_spans_32 : decode cX7_spans 32 = .ok (.getfield 7, 3) := db_dX7_spans_24.2.2.2.2.2.1
theorem dX7_spans_35 : decode cX7_spans 35 = .ok (.if_icmp .ge 69, 3) := db_dX7_spans_24.2.2.2.2.2.2.1
theorem dX7_spans_38 : decode cX7_spans 38 = .ok (.aload_n 0, 1) := db_dX7_spans_24.2.2.2.2.2.2.2
theorem db_dX7_spans_39 : decode cX7_spans 39 = .ok (.iload_n 3, 1) ∧ decode cX7_spans 40 = .ok (.iload 6, 2) ∧ decode cX7_spans 42 = .ok (.iload 4, 2) ∧ decode cX7_spans 44 = .ok (.invokevirtual 110, 3) ∧ decode cX7_spans 47 = .ok (.istore 7, 2) ∧ decode cX7_spans 49 = .ok (.iload 7, 2) ∧ decode cX7_spans 51 = .ok (.ifCond .eq 12, 3) ∧ decode cX7_spans 54 = .ok (.iload 5, 2) := by decide +kernel
theorem dX7_spans_39 : decode cX7_spans 39 = .ok (.iload_n 3, 1) := db_dX7_spans_39.1
theorem dX7_spans_40 : decode cX7_spans 40 = .ok (.iload 6, 2) := db_dX7_spans_39.2.1
theorem dX7_spans_42 : decode cX7_spans 42 = .ok (.iload 4, 2) := db_dX7_spans_39.2.2.1
theorem dX7_spans_44 : decode cX7_spans 44 = .ok (.invokevirtual 110, 3) := db_dX7_spans_39.2.2.2.1
theorem dX7_spans_47 : decode cX7_spans 47 = .ok (.istore 7, 2) := db_dX7_spans_39.2.2.2.2.1
theorem dX7_spans_49 : decode cX7_spans 49 = .ok (.iload 7, 2) := db_dX7_spans_39.2.2.2.2.2.1
theorem dX7_spans_51 : decode cX7_spans 51 = .ok (.ifCond .eq 12, 3) := db_dX7_spans_39.2.2.2.2.2.2.1
theorem dX7_spans_54 : decode cX7_spans 54 = .ok (.iload 5, 2) := db_dX7_spans_39.2.2.2.2.2.2.2
theorem db_dX7_spans_56 : decode cX7_spans 56 = .ok (.ifCond .ge 7, 3) ∧ decode cX7_spans 59 = .ok (.iload 6, 2) ∧ decode cX7_spans 61 = .ok (.istore 5, 2) ∧ decode cX7_spans 63 = .ok (.iload 7, 2) ∧ decode cX7_spans 65 = .ok (.ifCond .ne 25, 3) ∧ decode cX7_spans 68 = .ok (.iload 5, 2) ∧ decode cX7_spans 70 = .ok (.ifCond .lt 20, 3) ∧ decode cX7_spans 73 = .ok (.iload_n 2, 1) := by decide +kernel
theorem dX7_spans_56 : decode cX7_spans 56 = .ok (.ifCond .ge 7, 3) := db_dX7_spans_56.1
theorem dX7_spans_59 : decode cX7_spans 59 = .ok (.iload 6, 2) := db_dX7_spans_56.2.1
theorem dX7_spans_61 : decode cX7_spans 61 = .ok (.istore 5, 2) := db_dX7_spans_56.2.2.1
theorem dX7_spans_63 : decode cX7_spans 63 = .ok (.iload 7, 2) := db_dX7_spans_56.2.2.2.1
theorem dX7_spans_65 : decode cX7_spans 65 = .ok (.ifCond .ne 25, 3) := db_dX7_spans_56.2.2.2.2.1
theorem dX7_spans_68 : decode cX7_spans 68 = .ok (.iload 5, 2) := db_dX7_spans_56.2.2.2.2.2.1
theorem dX7_spans_70 : decode cX7_spans 70 = .ok (.ifCond .lt 20, 3) := db_dX7_spans_56.2.2.2.2.2.2.1
theorem dX7_spans_73 : decode cX7_spans 73 = .ok (.iload_n 2, 1) := db_dX7_spans_56.2.2.2.2.2.2.2
theorem db_dX7_spans_74 : decode cX7_spans 74 = .ok (.aload_n 0, 1) ∧ decode cX7_spans 75 = .ok (.iload_n 2, 1) ∧ decode cX7_spans 76 = .ok (.iload_n 1, 1) ∧ decode cX7_spans 77 = .ok (.iload_n 3, 1) ∧ decode cX7_spans 78 = .ok (.iload 5, 2) ∧ decode cX7_spans 80 = .ok (.iload 6, 2) ∧ decode cX7_spans 82 = .ok (.invokevirtual 113, 3) ∧ decode cX7_spans 85 = .ok (.iadd, 1) := by decide +kernel
theorem dX7_spans_74 : decode cX7_spans 74 = .ok (.aload_n 0, 1) := db_dX7_spans_74.1
theorem dX7_spans_75 : decode cX7_spans 75 = .ok (.iload_n 2, 1) := db_dX7_spans_74.2.1
theorem dX7_spans_76 : decode cX7_spans 76 = .ok (.iload_n 1, 1) := db_dX7_spans_74.2.2.1
theorem dX7_spans_77 : decode cX7_spans 77 = .ok (.iload_n 3, 1) := db_dX7_spans_74.2.2.2.1
theorem dX7_spans_78 : decode cX7_spans 78 = .ok (.iload 5, 2) := db_dX7_spans_74.2.2.2.2.1
theorem dX7_spans_80 : decode cX7_spans 80 = .ok (.iload 6, 2) := db_dX7_spans_74.2.2.2.2.2.1
theorem dX7_spans_82 : decode cX7_spans 82 = .ok (.invokevirtual 113, 3) := db_dX7_spans_74.2.2.2.2.2.2.1
theorem dX7_spans_85 : decode cX7_spans 85 = .ok (.iadd, 1) := db_dX7_spans_74.2.2.2.2.2.2.2
theorem db_dX7_spans_86 : decode cX7_spans 86 = .ok (.istore_n 2, 1) ∧ decode cX7_spans 87 = .ok (.iconst (-1), 1) ∧ decode cX7_spans 88 = .ok (.istore 5, 2) ∧ decode cX7_spans 90 = .ok (.aload_n 0, 1) ∧ decode cX7_spans 91 = .ok (.iload_n 3, 1) ∧ decode cX7_spans 92 = .ok (.iload 6, 2) ∧ decode cX7_spans 94 = .ok (.iload 4, 2) ∧ decode cX7_spans 96 = .ok (.invokevirtual 117, 3) := by decide +kernel
theorem dX7_spans_86 : decode cX7_spans 86 = .ok (.istore_n 2, 1) := db_dX7_spans_86.1
theorem dX7_spans_87 : decode cX7_spans 87 = .ok (.iconst (-1), 1) := db_dX7_spans_86.2.1
theorem dX7_spans_88 : decode cX7_spans 88 = .ok (.istore 5, 2) := db_dX7_spans_86.2.2.1
theorem dX7_spans_90 : decode cX7_spans 90 = .ok (.aload_n 0, 1) := db_dX7_spans_86.2.2.2.1
theorem dX7_spans_91 : decode cX7_spans 91 = .ok (.iload_n 3, 1) := db_dX7_spans_86.2.2.2.2.1
theorem dX7_spans_92 : decode cX7_spans 92 = .ok (.iload 6, 2) := db_dX7_spans_86.2.2.2.2.2.1
theorem dX7_spans_94 : decode cX7_spans 94 = .ok (.iload 4, 2) := db_dX7_spans_86.2.2.2.2.2.2.1
theorem dX7_spans_96 : decode cX7_spans 96 = .ok (.invokevirtual 117, 3) := db_dX7_spans_86.2.2.2.2.2.2.2
theorem db_dX7_spans_99 : decode cX7_spans 99 = .ok (.istore 6, 2) ∧ decode cX7_spans 101 = .ok (.goto (-72), 3) ∧ decode cX7_spans 104 = .ok (.iload 5, 2) ∧ decode cX7_spans 106 = .ok (.ifCond .lt 19, 3) ∧ decode cX7_spans 109 = .ok (.iload_n 2, 1) ∧ decode cX7_spans 110 = .ok (.aload_n 0, 1) ∧ decode cX7_spans 111 = .ok (.iload_n 2, 1) ∧ decode cX7_spans 112 = .ok (.iload_n 1, 1) := by decide +kernel
theorem dX7_spans_99 : decode cX7_spans 99 = .ok (.istore 6, 2) := db_dX7_spans_99.1
theorem dX7_spans_101 : decode cX7_spans 101 = .ok (.goto (-72), 3) := db_dX7_spans_99.2.1
theorem dX7_spans_104 : decode cX7_spans 104 = .ok (.iload 5, 2) := db_dX7_spans_99.2.2.1
theorem dX7_spans_106 : decode cX7_spans 106 = .ok (.ifCond .lt 19, 3) := db_dX7_spans_99.2.2.2.1
theorem dX7_spans_109 : decode cX7_spans 109 = .ok (.iload_n 2, 1) := db_dX7_spans_99.2.2.2.2.1
theorem dX7_spans_110 : decode cX7_spans 110 = .ok (.aload_n 0, 1) := db_dX7_spans_99.2.2.2.2.2.1
theorem dX7_spans_111 : decode cX7_spans 111 = .ok (.iload_n 2, 1) := db_dX7_spans_99.2.2.2.2.2.2.1
theorem dX7_spans_112 : decode cX7_spans 112 = .ok (.iload_n 1, 1) := db_dX7_spans_99.2.2.2.2.2.2.2
theorem db_dX7_spans_113 : decode cX7_spans 113 = .ok (.iload_n 3, 1) ∧ decode cX7_spans 114 = .ok (.iload 5, 2) ∧ decode cX7_spans 116 = .ok (.aload_n 0, 1) ∧ decode cX7_spans 117 = .ok (.getfield 7, 3) ∧ decode cX7_spans 120 = .ok (.invokevirtual 113, 3) ∧ decode cX7_spans 123 = .ok (.iadd, 1) ∧ decode cX7_spans 124 = .ok (.istore_n 2, 1) ∧ decode cX7_spans 125 = .ok (.iinc 3 1, 3) := by decide +kernel
theorem dX7_spans_113 : decode cX7_spans 113 = .ok (.iload_n 3, 1) := db_dX7_spans_113.1
theorem dX7_spans_114 : decode cX7_spans 114 = .ok (.iload 5, 2) := db_dX7_spans_113.2.1
theorem dX7_spans_116 : decode cX7_spans 116 = .ok (.aload_n 0, 1) := db_dX7_spans_113.2.2.1
theorem dX7_spans_117 : decode cX7_spans 117 = .ok (.getfield 7, 3) := db_dX7_spans_113.2.2.2.1
theorem dX7_spans_120 : decode cX7_spans 120 = .ok (.invokevirtual 113, 3) := db_dX7_spans_113.2.2.2.2.1
theorem dX7_spans_123 : decode cX7_spans 123 = .ok (.iadd, 1) := db_dX7_spans_113.2.2.2.2.2.1
theorem dX7_spans_124 : decode cX7_spans 124 = .ok (.istore_n 2, 1) := db_dX7_spans_113.2.2.2.2.2.2.1
theorem dX7_spans_125 : decode cX7_spans 125 = .ok (.iinc 3 1, 3) := db_dX7_spans_113.2.2.2.2.2.2.2
theorem db_dX7_spans_128 : decode cX7_spans 128 = .ok (.goto (-124), 3) ∧ decode cX7_spans 131 = .ok (.iload_n 2, 1) ∧ decode cX7_spans 132 = .ok (.ireturn, 1) := by decide +kernel
theorem dX7_spans_128 : decode cX7_spans 128 = .ok (.goto (-124), 3) := db_dX7_spans_128.1
theorem dX7_spans_131 : decode cX7_spans 131 = .ok (.iload_n 2, 1) := db_dX7_spans_128.2.1
theorem dX7_spans_132 : decode cX7_spans 132 = .ok (.ireturn, 1) := db_dX7_spans_128.2.2
theorem db_dX7_found_0 : decode cX7_found 0 = .ok (.iload_n 1, 1) ∧ decode cX7_found 1 = .ok (.iload_n 2, 1) ∧ decode cX7_found 2 = .ok (.if_icmp .ne 20, 3) ∧ decode cX7_found 5 = .ok (.aload_n 0, 1) ∧ decode cX7_found 6 = .ok (.iload_n 3, 1) ∧ decode cX7_found 7 = .ok (.putfield 120, 3) ∧ decode cX7_found 10 = .ok (.aload_n 0, 1) ∧ decode cX7_found 11 = .ok (.iload 4, 2) := by decide +kernel
theorem dX7_found_0 : decode cX7_found 0 = .ok (.iload_n 1, 1) := db_dX7_found_0.1
theorem dX7_found_1 : decode cX7_found 1 = .ok (.iload_n 2, 1) := db_dX7_found_0.2.1
theorem dX7_found_2 : decode cX7_found 2 = .ok (.if_icmp .ne 20, 3) := db_dX7_found_0.2.2.1
theorem dX7_found_5 : decode cX7_found 5 = .ok (.aload_n 0, 1) := db_dX7_found_0.2.2.2.1
theorem dX7_found_6 : decode cX7_found 6 = .ok (.iload_n 3, 1) := db_dX7_found_0.2.2.2.2.1
theorem dX7_found_7 : decode cX7_found 7 = .ok (.putfield 120, 3) := db_dX7_found_0.2.2.2.2.2.1
theorem dX7_found_10 : decode cX7_found 10 = .ok (.aload_n 0, 1) := db_dX7_found_0.2.2.2.2.2.2.1
theorem dX7_found_11 : decode cX7_found 11 = .ok (.iload 4, 2) := db_dX7_found_0.2.2.2.2.2.2.2
theorem db_dX7_found_13 : decode cX7_found 13 = .ok (.putfield 123, 3) ∧ decode cX7_found 16 = .ok (.aload_n 0, 1) ∧ decode cX7_found 17 = .ok (.iload 5, 2) ∧ decode cX7_found 19 = .ok (.putfield 126, 3) ∧ decode cX7_found 22 = .ok (.iconst 1, 1) ∧ decode cX7_found 23 = .ok (.ireturn, 1) := by decide +kernel
theorem dX7_found_13 : decode cX7_found 13 = .ok (.putfield 123, 3) := db_dX7_found_13.1
theorem dX7_found_16 : decode cX7_found 16 = .ok (.aload_n 0, 1) := db_dX7_found_13.2.1
theorem dX7_found_17 : decode cX7_found 17 = .ok (.iload 5, 2) := db_dX7_found_13.2.2.1
theorem dX7_found_19 : decode cX7_found 19 = .ok (.putfield 126, 3) := db_dX7_found_13.2.2.2.1
theorem dX7_found_22 : decode cX7_found 22 = .ok (.iconst 1, 1) := db_dX7_found_13.2.2.2.2.1
theorem dX7_found_23 : decode cX7_found 23 = .ok (.ireturn, 1) := db_dX7_found_13.2.2.2.2.2
theorem db_dX7_differences_0 : decode cX7_differences 0 = .ok (.aload_n 0, 1) ∧ decode cX7_differences 1 = .ok (.iconst (-1), 1) ∧ decode cX7_differences 2 = .ok (.invokevirtual 129, 3) ∧ decode cX7_differences 5 = .ok (.ireturn, 1) := by decide +kernel
theorem dX7_differences_0 : decode cX7_differences 0 = .ok (.aload_n 0, 1) := db_dX7_differences_0.1
theorem dX7_differences_1 : decode cX7_differences 1 = .ok (.iconst (-1), 1) := db_dX7_differences_0.2.1
theorem dX7_differences_2 : decode cX7_differences 2 = .ok (.invokevirtual 129, 3) := db_dX7_differences_0.2.2.1
theorem dX7_differences_5 : decode cX7_differences 5 = .ok (.ireturn, 1) := db_dX7_differences_0.2.2.2
theorem db_dX7_difference_0 : decode cX7_difference 0 = .ok (.iload_n 1, 1) ∧ decode cX7_difference 1 = .ok (.ifCond .lt 12, 3) ∧ decode cX7_difference 4 = .ok (.iload_n 2, 1) ∧ decode cX7_difference 5 = .ok (.iconst 0, 1) ∧ decode cX7_difference 6 = .ok (.iconst 2, 1) ∧ decode cX7_difference 7 = .ok (.invokestatic 60, 3) ∧ decode cX7_difference 10 = .ok (.ifCond .ne 5, 3) ∧ decode cX7_difference 13 = .ok (.iconst (-1), 1) := by decide +kernel
theorem dX7_difference_0 : decode cX7_difference 0 = .ok (.iload_n 1, 1) := db_dX7_difference_0.1
theorem dX7_difference_1 : decode cX7_difference 1 = .ok (.ifCond .lt 12, 3) := db_dX7_difference_0.2.1
theorem dX7_difference_4 : decode cX7_difference 4 = .ok (.iload_n 2, 1) := db_dX7_difference_0.2.2.1
theorem dX7_difference_5 : decode cX7_difference 5 = .ok (.iconst 0, 1) := db_dX7_difference_0.2.2.2.1
theorem dX7_difference_6 : decode cX7_difference 6 = .ok (.iconst 2, 1) := db_dX7_difference_0.2.2.2.2.1
theorem dX7_difference_7 : decode cX7_difference 7 = .ok (.invokestatic 60, 3) := db_dX7_difference_0.2.2.2.2.2.1
theorem dX7_difference_10 : decode cX7_difference 10 = .ok (.ifCond .ne 5, 3) := db_dX7_difference_0.2.2.2.2.2.2.1
theorem dX7_difference_13 : decode cX7_difference 13 = .ok (.iconst (-1), 1) := db_dX7_difference_0.2.2.2.2.2.2.2
theorem db_dX7_difference_14 : decode cX7_difference 14 = .ok (.ireturn, 1) ∧ decode cX7_difference 15 = .ok (.aload_n 0, 1) ∧ decode cX7_difference 16 = .ok (.iload_n 1, 1) ∧ decode cX7_difference 17 = .ok (.invokevirtual 129, 3) ∧ decode cX7_difference 20 = .ok (.iload_n 1, 1) ∧ decode cX7_difference 21 = .ok (.if_icmp .gt 6, 3) ∧ decode cX7_difference 24 = .ok (.bipush (-4), 2) ∧ decode cX7_difference 26 = .ok (.ireturn, 1) := by decide +kernel
theorem dX7_difference_14 : decode cX7_difference 14 = .ok (.ireturn, 1) := db_dX7_difference_14.1
theorem dX7_difference_15 : decode cX7_difference 15 = .ok (.aload_n 0, 1) := db_dX7_difference_14.2.1
theorem dX7_difference_16 : decode cX7_difference 16 = .ok (.iload_n 1, 1) := db_dX7_difference_14.2.2.1
theorem dX7_difference_17 : decode cX7_difference 17 = .ok (.invokevirtual 129, 3) := db_dX7_difference_14.2.2.2.1
theorem dX7_difference_20 : decode cX7_difference 20 = .ok (.iload_n 1, 1) := db_dX7_difference_14.2.2.2.2.1
theorem dX7_difference_21 : decode cX7_difference 21 = .ok (.if_icmp .gt 6, 3) := db_dX7_difference_14.2.2.2.2.2.1
theorem dX7_difference_24 : decode cX7_difference 24 = .ok (.bipush (-4), 2) := db_dX7_difference_14.2.2.2.2.2.2.1
theorem dX7_difference_26 : decode cX7_difference 26 = .ok (.ireturn, 1) := db_dX7_difference_14.2.2.2.2.2.2.2
theorem db_dX7_difference_27 : decode cX7_difference 27 = .ok (.iload_n 2, 1) ∧ decode cX7_difference 28 = .ok (.ifCond .ne 10, 3) ∧ decode cX7_difference 31 = .ok (.aload_n 0, 1) ∧ decode cX7_difference 32 = .ok (.getfield 120, 3) ∧ decode cX7_difference 35 = .ok (.goto 19, 3) ∧ decode cX7_difference 38 = .ok (.iload_n 2, 1) ∧ decode cX7_difference 39 = .ok (.iconst 1, 1) ∧ decode cX7_difference 40 = .ok (.if_icmp .ne 10, 3) := by decide +kernel
theorem dX7_difference_27 : decode cX7_difference 27 = .ok (.iload_n 2, 1) := db_dX7_difference_27.1
theorem dX7_difference_28 : decode cX7_difference 28 = .ok (.ifCond .ne 10, 3) := db_dX7_difference_27.2.1
theorem dX7_difference_31 : decode cX7_difference 31 = .ok (.aload_n 0, 1) := db_dX7_difference_27.2.2.1
theorem dX7_difference_32 : decode cX7_difference 32 = .ok (.getfield 120, 3) := db_dX7_difference_27.2.2.2.1
theorem dX7_difference_35 : decode cX7_difference 35 = .ok (.goto 19, 3) := db_dX7_difference_27.2.2.2.2.1
theorem dX7_difference_38 : decode cX7_difference 38 = .ok (.iload_n 2, 1) := db_dX7_difference_27.2.2.2.2.2.1
theorem dX7_difference_39 : decode cX7_difference 39 = .ok (.iconst 1, 1) := db_dX7_difference_27.2.2.2.2.2.2.1
theorem dX7_difference_40 : decode cX7_difference 40 = .ok (.if_icmp .ne 10, 3) := db_dX7_difference_27.2.2.2.2.2.2.2
theorem db_dX7_difference_43 : decode cX7_difference 43 = .ok (.aload_n 0, 1) ∧ decode cX7_difference 44 = .ok (.getfield 123, 3) ∧ decode cX7_difference 47 = .ok (.goto 7, 3) ∧ decode cX7_difference 50 = .ok (.aload_n 0, 1) ∧ decode cX7_difference 51 = .ok (.getfield 126, 3) ∧ decode cX7_difference 54 = .ok (.ireturn, 1) := by decide +kernel
theorem dX7_difference_43 : decode cX7_difference 43 = .ok (.aload_n 0, 1) := db_dX7_difference_43.1
theorem dX7_difference_44 : decode cX7_difference 44 = .ok (.getfield 123, 3) := db_dX7_difference_43.2.1
theorem dX7_difference_47 : decode cX7_difference 47 = .ok (.goto 7, 3) := db_dX7_difference_43.2.2.1
theorem dX7_difference_50 : decode cX7_difference 50 = .ok (.aload_n 0, 1) := db_dX7_difference_43.2.2.2.1
theorem dX7_difference_51 : decode cX7_difference 51 = .ok (.getfield 126, 3) := db_dX7_difference_43.2.2.2.2.1
theorem dX7_difference_54 : decode cX7_difference 54 = .ok (.ireturn, 1) := db_dX7_difference_43.2.2.2.2.2
theorem db_dX7_first_0 : decode cX7_first 0 = .ok (.bipush (-4), 2) ∧ decode cX7_first 2 = .ok (.istore_n 1, 1) ∧ decode cX7_first 3 = .ok (.iconst 0, 1) ∧ decode cX7_first 4 = .ok (.istore_n 2, 1) ∧ decode cX7_first 5 = .ok (.iload_n 2, 1) ∧ decode cX7_first 6 = .ok (.bipush 12, 2) ∧ decode cX7_first 8 = .ok (.if_icmp .ge 83, 3) ∧ decode cX7_first 11 = .ok (.aload_n 0, 1) := by decide +kernel
theorem dX7_first_0 : decode cX7_first 0 = .ok (.bipush (-4), 2) := db_dX7_first_0.1
theorem dX7_first_2 : decode cX7_first 2 = .ok (.istore_n 1, 1) := db_dX7_first_0.2.1
theorem dX7_first_3 : decode cX7_first 3 = .ok (.iconst 0, 1) := db_dX7_first_0.2.2.1
theorem dX7_first_4 : decode cX7_first 4 = .ok (.istore_n 2, 1) := db_dX7_first_0.2.2.2.1
theorem dX7_first_5 : decode cX7_first 5 = .ok (.iload_n 2, 1) := db_dX7_first_0.2.2.2.2.1
theorem dX7_first_6 : decode cX7_first 6 = .ok (.bipush 12, 2) := db_dX7_first_0.2.2.2.2.2.1
theorem dX7_first_8 : decode cX7_first 8 = .ok (.if_icmp .ge 83, 3) := db_dX7_first_0.2.2.2.2.2.2.1
theorem dX7_first_11 : decode cX7_first 11 = .ok (.aload_n 0, 1) := db_dX7_first_0.2.2.2.2.2.2.2
theorem db_dX7_first_12 : decode cX7_first 12 = .ok (.getfield 29, 3) ∧ decode cX7_first 15 = .ok (.aload_n 0, 1) ∧ decode cX7_first 16 = .ok (.getfield 26, 3) ∧ decode cX7_first 19 = .ok (.iload_n 2, 1) ∧ decode cX7_first 20 = .ok (.iaload, 1) ∧ decode cX7_first 21 = .ok (.iaload, 1) ∧ decode cX7_first 22 = .ok (.istore_n 3, 1) ∧ decode cX7_first 23 = .ok (.iconst 0, 1) := by decide +kernel
theorem dX7_first_12 : decode cX7_first 12 = .ok (.getfield 29, 3) := db_dX7_first_12.1
theorem dX7_first_15 : decode cX7_first 15 = .ok (.aload_n 0, 1) := db_dX7_first_12.2.1
theorem dX7_first_16 : decode cX7_first 16 = .ok (.getfield 26, 3) := db_dX7_first_12.2.2.1
theorem dX7_first_19 : decode cX7_first 19 = .ok (.iload_n 2, 1) := db_dX7_first_12.2.2.2.1
theorem dX7_first_20 : decode cX7_first 20 = .ok (.iaload, 1) := db_dX7_first_12.2.2.2.2.1
theorem dX7_first_21 : decode cX7_first 21 = .ok (.iaload, 1) := db_dX7_first_12.2.2.2.2.2.1
theorem dX7_first_22 : decode cX7_first 22 = .ok (.istore_n 3, 1) := db_dX7_first_12.2.2.2.2.2.2.1
theorem dX7_first_23 : decode cX7_first 23 = .ok (.iconst 0, 1) := db_dX7_first_12.2.2.2.2.2.2.2
theorem db_dX7_first_24 : decode cX7_first 24 = .ok (.istore 4, 2) ∧ decode cX7_first 26 = .ok (.iload 4, 2) ∧ decode cX7_first 28 = .ok (.aload_n 0, 1) ∧ decode cX7_first 29 = .ok (.getfield 7, 3) ∧ decode cX7_first 32 = .ok (.if_icmp .ge 27, 3) ∧ decode cX7_first 35 = .ok (.aload_n 0, 1) ∧ decode cX7_first 36 = .ok (.iload_n 2, 1) ∧ decode cX7_first 37 = .ok (.iload 4, 2) := by decide +kernel
theorem dX7_first_24 : decode cX7_first 24 = .ok (.istore 4, 2) := db_dX7_first_24.1
theorem dX7_first_26 : decode cX7_first 26 = .ok (.iload 4, 2) := db_dX7_first_24.2.1
theorem dX7_first_28 : decode cX7_first 28 = .ok (.aload_n 0, 1) := db_dX7_first_24.2.2.1
theorem dX7_first_29 : decode cX7_first 29 = .ok (.getfield 7, 3) := db_dX7_first_24.2.2.2.1
theorem dX7_first_32 : decode cX7_first 32 = .ok (.if_icmp .ge 27, 3) := db_dX7_first_24.2.2.2.2.1
theorem dX7_first_35 : decode cX7_first 35 = .ok (.aload_n 0, 1) := db_dX7_first_24.2.2.2.2.2.1
theorem dX7_first_36 : decode cX7_first 36 = .ok (.iload_n 2, 1) := db_dX7_first_24.2.2.2.2.2.2.1
theorem dX7_first_37 : decode cX7_first 37 = .ok (.iload 4, 2) := db_dX7_first_24.2.2.2.2.2.2.2
theorem db_dX7_first_39 : decode cX7_first 39 = .ok (.iload_n 3, 1) ∧ decode cX7_first 40 = .ok (.invokevirtual 110, 3) ∧ decode cX7_first 43 = .ok (.ifCond .ne 16, 3) ∧ decode cX7_first 46 = .ok (.aload_n 0, 1) ∧ decode cX7_first 47 = .ok (.iload_n 2, 1) ∧ decode cX7_first 48 = .ok (.iload 4, 2) ∧ decode cX7_first 50 = .ok (.iload_n 3, 1) ∧ decode cX7_first 51 = .ok (.invokevirtual 117, 3) := by decide +kernel
theorem dX7_first_39 : decode cX7_first 39 = .ok (.iload_n 3, 1) := db_dX7_first_39.1
theorem dX7_first_40 : decode cX7_first 40 = .ok (.invokevirtual 110, 3) := db_dX7_first_39.2.1
theorem dX7_first_43 : decode cX7_first 43 = .ok (.ifCond .ne 16, 3) := db_dX7_first_39.2.2.1
theorem dX7_first_46 : decode cX7_first 46 = .ok (.aload_n 0, 1) := db_dX7_first_39.2.2.2.1
theorem dX7_first_47 : decode cX7_first 47 = .ok (.iload_n 2, 1) := db_dX7_first_39.2.2.2.2.1
theorem dX7_first_48 : decode cX7_first 48 = .ok (.iload 4, 2) := db_dX7_first_39.2.2.2.2.2.1
theorem dX7_first_50 : decode cX7_first 50 = .ok (.iload_n 3, 1) := db_dX7_first_39.2.2.2.2.2.2.1
theorem dX7_first_51 : decode cX7_first 51 = .ok (.invokevirtual 117, 3) := db_dX7_first_39.2.2.2.2.2.2.2
theorem db_dX7_first_54 : decode cX7_first 54 = .ok (.istore 4, 2) ∧ decode cX7_first 56 = .ok (.goto (-30), 3) ∧ decode cX7_first 59 = .ok (.iload 4, 2) ∧ decode cX7_first 61 = .ok (.aload_n 0, 1) ∧ decode cX7_first 62 = .ok (.getfield 7, 3) ∧ decode cX7_first 65 = .ok (.if_icmp .ge 18, 3) ∧ decode cX7_first 68 = .ok (.iload_n 1, 1) ∧ decode cX7_first 69 = .ok (.ifCond .lt 9, 3) := by decide +kernel
theorem dX7_first_54 : decode cX7_first 54 = .ok (.istore 4, 2) := db_dX7_first_54.1
theorem dX7_first_56 : decode cX7_first 56 = .ok (.goto (-30), 3) := db_dX7_first_54.2.1
theorem dX7_first_59 : decode cX7_first 59 = .ok (.iload 4, 2) := db_dX7_first_54.2.2.1
theorem dX7_first_61 : decode cX7_first 61 = .ok (.aload_n 0, 1) := db_dX7_first_54.2.2.2.1
theorem dX7_first_62 : decode cX7_first 62 = .ok (.getfield 7, 3) := db_dX7_first_54.2.2.2.2.1
theorem dX7_first_65 : decode cX7_first 65 = .ok (.if_icmp .ge 18, 3) := db_dX7_first_54.2.2.2.2.2.1
theorem dX7_first_68 : decode cX7_first 68 = .ok (.iload_n 1, 1) := db_dX7_first_54.2.2.2.2.2.2.1
theorem dX7_first_69 : decode cX7_first 69 = .ok (.ifCond .lt 9, 3) := db_dX7_first_54.2.2.2.2.2.2.2
theorem db_dX7_first_72 : decode cX7_first 72 = .ok (.iload 4, 2) ∧ decode cX7_first 74 = .ok (.iload_n 1, 1) ∧ decode cX7_first 75 = .ok (.if_icmp .ge 8, 3) ∧ decode cX7_first 78 = .ok (.iload 4, 2) ∧ decode cX7_first 80 = .ok (.goto 4, 3) ∧ decode cX7_first 83 = .ok (.iload_n 1, 1) ∧ decode cX7_first 84 = .ok (.istore_n 1, 1) ∧ decode cX7_first 85 = .ok (.iinc 2 1, 3) := by decide +kernel
theorem dX7_first_72 : decode cX7_first 72 = .ok (.iload 4, 2) := db_dX7_first_72.1
theorem dX7_first_74 : decode cX7_first 74 = .ok (.iload_n 1, 1) := db_dX7_first_72.2.1
theorem dX7_first_75 : decode cX7_first 75 = .ok (.if_icmp .ge 8, 3) := db_dX7_first_72.2.2.1
theorem dX7_first_78 : decode cX7_first 78 = .ok (.iload 4, 2) := db_dX7_first_72.2.2.2.1
theorem dX7_first_80 : decode cX7_first 80 = .ok (.goto 4, 3) := db_dX7_first_72.2.2.2.2.1
theorem dX7_first_83 : decode cX7_first 83 = .ok (.iload_n 1, 1) := db_dX7_first_72.2.2.2.2.2.1
theorem dX7_first_84 : decode cX7_first 84 = .ok (.istore_n 1, 1) := db_dX7_first_72.2.2.2.2.2.2.1
theorem dX7_first_85 : decode cX7_first 85 = .ok (.iinc 2 1, 3) := db_dX7_first_72.2.2.2.2.2.2.2
theorem db_dX7_first_88 : decode cX7_first 88 = .ok (.goto (-83), 3) ∧ decode cX7_first 91 = .ok (.iload_n 1, 1) ∧ decode cX7_first 92 = .ok (.ireturn, 1) := by decide +kernel
theorem dX7_first_88 : decode cX7_first 88 = .ok (.goto (-83), 3) := db_dX7_first_88.1
theorem dX7_first_91 : decode cX7_first 91 = .ok (.iload_n 1, 1) := db_dX7_first_88.2.1
theorem dX7_first_92 : decode cX7_first 92 = .ok (.ireturn, 1) := db_dX7_first_88.2.2
theorem db_dX7_channel_0 : decode cX7_channel 0 = .ok (.iload_n 1, 1) ∧ decode cX7_channel 1 = .ok (.iconst 0, 1) ∧ decode cX7_channel 2 = .ok (.iconst 3, 1) ∧ decode cX7_channel 3 = .ok (.invokestatic 60, 3) ∧ decode cX7_channel 6 = .ok (.ifCond .eq 33, 3) ∧ decode cX7_channel 9 = .ok (.iload_n 2, 1) ∧ decode cX7_channel 10 = .ok (.invokestatic 64, 3) ∧ decode cX7_channel 13 = .ok (.ifCond .eq 26, 3) := by decide +kernel
theorem dX7_channel_0 : decode cX7_channel 0 = .ok (.iload_n 1, 1) := db_dX7_channel_0.1
theorem dX7_channel_1 : decode cX7_channel 1 = .ok (.iconst 0, 1) := db_dX7_channel_0.2.1
theorem dX7_channel_2 : decode cX7_channel 2 = .ok (.iconst 3, 1) := db_dX7_channel_0.2.2.1
theorem dX7_channel_3 : decode cX7_channel 3 = .ok (.invokestatic 60, 3) := db_dX7_channel_0.2.2.2.1
theorem dX7_channel_6 : decode cX7_channel 6 = .ok (.ifCond .eq 33, 3) := db_dX7_channel_0.2.2.2.2.1
theorem dX7_channel_9 : decode cX7_channel 9 = .ok (.iload_n 2, 1) := db_dX7_channel_0.2.2.2.2.2.1
theorem dX7_channel_10 : decode cX7_channel 10 = .ok (.invokestatic 64, 3) := db_dX7_channel_0.2.2.2.2.2.2.1
theorem dX7_channel_13 : decode cX7_channel 13 = .ok (.ifCond .eq 26, 3) := db_dX7_channel_0.2.2.2.2.2.2.2
theorem db_dX7_channel_16 : decode cX7_channel 16 = .ok (.iload_n 3, 1) ∧ decode cX7_channel 17 = .ok (.invokestatic 64, 3) ∧ decode cX7_channel 20 = .ok (.ifCond .eq 19, 3) ∧ decode cX7_channel 23 = .ok (.iload 4, 2) ∧ decode cX7_channel 25 = .ok (.invokestatic 64, 3) ∧ decode cX7_channel 28 = .ok (.ifCond .eq 11, 3) ∧ decode cX7_channel 31 = .ok (.iload 5, 2) ∧ decode cX7_channel 33 = .ok (.invokestatic 64, 3) := by decide +kernel
theorem dX7_channel_16 : decode cX7_channel 16 = .ok (.iload_n 3, 1) := db_dX7_channel_16.1
theorem dX7_channel_17 : decode cX7_channel 17 = .ok (.invokestatic 64, 3) := db_dX7_channel_16.2.1
theorem dX7_channel_20 : decode cX7_channel 20 = .ok (.ifCond .eq 19, 3) := db_dX7_channel_16.2.2.1
theorem dX7_channel_23 : decode cX7_channel 23 = .ok (.iload 4, 2) := db_dX7_channel_16.2.2.2.1
theorem dX7_channel_25 : decode cX7_channel 25 = .ok (.invokestatic 64, 3) := db_dX7_channel_16.2.2.2.2.1
theorem dX7_channel_28 : decode cX7_channel 28 = .ok (.ifCond .eq 11, 3) := db_dX7_channel_16.2.2.2.2.2.1
theorem dX7_channel_31 : decode cX7_channel 31 = .ok (.iload 5, 2) := db_dX7_channel_16.2.2.2.2.2.2.1
theorem dX7_channel_33 : decode cX7_channel 33 = .ok (.invokestatic 64, 3) := db_dX7_channel_16.2.2.2.2.2.2.2
theorem db_dX7_channel_36 : decode cX7_channel 36 = .ok (.ifCond .ne 5, 3) ∧ decode cX7_channel 39 = .ok (.iconst (-1), 1) ∧ decode cX7_channel 40 = .ok (.ireturn, 1) ∧ decode cX7_channel 41 = .ok (.aload_n 0, 1) ∧ decode cX7_channel 42 = .ok (.getfield 44, 3) ∧ decode cX7_channel 45 = .ok (.iload_n 1, 1) ∧ decode cX7_channel 46 = .ok (.iconst 1, 1) ∧ decode cX7_channel 47 = .ok (.bastore, 1) := by decide +kernel
theorem dX7_channel_36 : decode cX7_channel 36 = .ok (.ifCond .ne 5, 3) := db_dX7_channel_36.1
theorem dX7_channel_39 : decode cX7_channel 39 = .ok (.iconst (-1), 1) := db_dX7_channel_36.2.1
theorem dX7_channel_40 : decode cX7_channel 40 = .ok (.ireturn, 1) := db_dX7_channel_36.2.2.1
theorem dX7_channel_41 : decode cX7_channel 41 = .ok (.aload_n 0, 1) := db_dX7_channel_36.2.2.2.1
theorem dX7_channel_42 : decode cX7_channel 42 = .ok (.getfield 44, 3) := db_dX7_channel_36.2.2.2.2.1
theorem dX7_channel_45 : decode cX7_channel 45 = .ok (.iload_n 1, 1) := db_dX7_channel_36.2.2.2.2.2.1
theorem dX7_channel_46 : decode cX7_channel 46 = .ok (.iconst 1, 1) := db_dX7_channel_36.2.2.2.2.2.2.1
theorem dX7_channel_47 : decode cX7_channel 47 = .ok (.bastore, 1) := db_dX7_channel_36.2.2.2.2.2.2.2
theorem db_dX7_channel_48 : decode cX7_channel 48 = .ok (.aload_n 0, 1) ∧ decode cX7_channel 49 = .ok (.getfield 48, 3) ∧ decode cX7_channel 52 = .ok (.iconst 4, 1) ∧ decode cX7_channel 53 = .ok (.iload_n 1, 1) ∧ decode cX7_channel 54 = .ok (.imul, 1) ∧ decode cX7_channel 55 = .ok (.iload_n 2, 1) ∧ decode cX7_channel 56 = .ok (.iastore, 1) ∧ decode cX7_channel 57 = .ok (.aload_n 0, 1) := by decide +kernel
theorem dX7_channel_48 : decode cX7_channel 48 = .ok (.aload_n 0, 1) := db_dX7_channel_48.1
theorem dX7_channel_49 : decode cX7_channel 49 = .ok (.getfield 48, 3) := db_dX7_channel_48.2.1
theorem dX7_channel_52 : decode cX7_channel 52 = .ok (.iconst 4, 1) := db_dX7_channel_48.2.2.1
theorem dX7_channel_53 : decode cX7_channel 53 = .ok (.iload_n 1, 1) := db_dX7_channel_48.2.2.2.1
theorem dX7_channel_54 : decode cX7_channel 54 = .ok (.imul, 1) := db_dX7_channel_48.2.2.2.2.1
theorem dX7_channel_55 : decode cX7_channel 55 = .ok (.iload_n 2, 1) := db_dX7_channel_48.2.2.2.2.2.1
theorem dX7_channel_56 : decode cX7_channel 56 = .ok (.iastore, 1) := db_dX7_channel_48.2.2.2.2.2.2.1
theorem dX7_channel_57 : decode cX7_channel 57 = .ok (.aload_n 0, 1) := db_dX7_channel_48.2.2.2.2.2.2.2
theorem db_dX7_channel_58 : decode cX7_channel 58 = .ok (.getfield 48, 3) ∧ decode cX7_channel 61 = .ok (.iconst 4, 1) ∧ decode cX7_channel 62 = .ok (.iload_n 1, 1) ∧ decode cX7_channel 63 = .ok (.imul, 1) ∧ decode cX7_channel 64 = .ok (.iconst 1, 1) ∧ decode cX7_channel 65 = .ok (.iadd, 1) ∧ decode cX7_channel 66 = .ok (.iload_n 3, 1) ∧ decode cX7_channel 67 = .ok (.iastore, 1) := by decide +kernel
theorem dX7_channel_58 : decode cX7_channel 58 = .ok (.getfield 48, 3) := db_dX7_channel_58.1
theorem dX7_channel_61 : decode cX7_channel 61 = .ok (.iconst 4, 1) := db_dX7_channel_58.2.1
theorem dX7_channel_62 : decode cX7_channel 62 = .ok (.iload_n 1, 1) := db_dX7_channel_58.2.2.1
theorem dX7_channel_63 : decode cX7_channel 63 = .ok (.imul, 1) := db_dX7_channel_58.2.2.2.1
theorem dX7_channel_64 : decode cX7_channel 64 = .ok (.iconst 1, 1) := db_dX7_channel_58.2.2.2.2.1
theorem dX7_channel_65 : decode cX7_channel 65 = .ok (.iadd, 1) := db_dX7_channel_58.2.2.2.2.2.1
theorem dX7_channel_66 : decode cX7_channel 66 = .ok (.iload_n 3, 1) := db_dX7_channel_58.2.2.2.2.2.2.1
theorem dX7_channel_67 : decode cX7_channel 67 = .ok (.iastore, 1) := db_dX7_channel_58.2.2.2.2.2.2.2
theorem db_dX7_channel_68 : decode cX7_channel 68 = .ok (.aload_n 0, 1) ∧ decode cX7_channel 69 = .ok (.getfield 48, 3) ∧ decode cX7_channel 72 = .ok (.iconst 4, 1) ∧ decode cX7_channel 73 = .ok (.iload_n 1, 1) ∧ decode cX7_channel 74 = .ok (.imul, 1) ∧ decode cX7_channel 75 = .ok (.iconst 2, 1) ∧ decode cX7_channel 76 = .ok (.iadd, 1) ∧ decode cX7_channel 77 = .ok (.iload 4, 2) := by decide +kernel
theorem dX7_channel_68 : decode cX7_channel 68 = .ok (.aload_n 0, 1) := db_dX7_channel_68.1
theorem dX7_channel_69 : decode cX7_channel 69 = .ok (.getfield 48, 3) := db_dX7_channel_68.2.1
theorem dX7_channel_72 : decode cX7_channel 72 = .ok (.iconst 4, 1) := db_dX7_channel_68.2.2.1
theorem dX7_channel_73 : decode cX7_channel 73 = .ok (.iload_n 1, 1) := db_dX7_channel_68.2.2.2.1
theorem dX7_channel_74 : decode cX7_channel 74 = .ok (.imul, 1) := db_dX7_channel_68.2.2.2.2.1
theorem dX7_channel_75 : decode cX7_channel 75 = .ok (.iconst 2, 1) := db_dX7_channel_68.2.2.2.2.2.1
theorem dX7_channel_76 : decode cX7_channel 76 = .ok (.iadd, 1) := db_dX7_channel_68.2.2.2.2.2.2.1
theorem dX7_channel_77 : decode cX7_channel 77 = .ok (.iload 4, 2) := db_dX7_channel_68.2.2.2.2.2.2.2
theorem db_dX7_channel_79 : decode cX7_channel 79 = .ok (.iastore, 1) ∧ decode cX7_channel 80 = .ok (.aload_n 0, 1) ∧ decode cX7_channel 81 = .ok (.getfield 48, 3) ∧ decode cX7_channel 84 = .ok (.iconst 4, 1) ∧ decode cX7_channel 85 = .ok (.iload_n 1, 1) ∧ decode cX7_channel 86 = .ok (.imul, 1) ∧ decode cX7_channel 87 = .ok (.iconst 3, 1) ∧ decode cX7_channel 88 = .ok (.iadd, 1) := by decide +kernel
theorem dX7_channel_79 : decode cX7_channel 79 = .ok (.iastore, 1) := db_dX7_channel_79.1
theorem dX7_channel_80 : decode cX7_channel 80 = .ok (.aload_n 0, 1) := db_dX7_channel_79.2.1
theorem dX7_channel_81 : decode cX7_channel 81 = .ok (.getfield 48, 3) := db_dX7_channel_79.2.2.1
theorem dX7_channel_84 : decode cX7_channel 84 = .ok (.iconst 4, 1) := db_dX7_channel_79.2.2.2.1
theorem dX7_channel_85 : decode cX7_channel 85 = .ok (.iload_n 1, 1) := db_dX7_channel_79.2.2.2.2.1
theorem dX7_channel_86 : decode cX7_channel 86 = .ok (.imul, 1) := db_dX7_channel_79.2.2.2.2.2.1
theorem dX7_channel_87 : decode cX7_channel 87 = .ok (.iconst 3, 1) := db_dX7_channel_79.2.2.2.2.2.2.1
theorem dX7_channel_88 : decode cX7_channel 88 = .ok (.iadd, 1) := db_dX7_channel_79.2.2.2.2.2.2.2
theorem db_dX7_channel_89 : decode cX7_channel 89 = .ok (.iload 5, 2) ∧ decode cX7_channel 91 = .ok (.iastore, 1) ∧ decode cX7_channel 92 = .ok (.iconst 0, 1) ∧ decode cX7_channel 93 = .ok (.ireturn, 1) := by decide +kernel
theorem dX7_channel_89 : decode cX7_channel 89 = .ok (.iload 5, 2) := db_dX7_channel_89.1
theorem dX7_channel_91 : decode cX7_channel 91 = .ok (.iastore, 1) := db_dX7_channel_89.2.1
theorem dX7_channel_92 : decode cX7_channel 92 = .ok (.iconst 0, 1) := db_dX7_channel_89.2.2.1
theorem dX7_channel_93 : decode cX7_channel 93 = .ok (.ireturn, 1) := db_dX7_channel_89.2.2.2
theorem db_dX7_called_0 : decode cX7_called 0 = .ok (.iload_n 1, 1) ∧ decode cX7_called 1 = .ok (.ifCond .ne 7, 3) ∧ decode cX7_called 4 = .ok (.iload_n 2, 1) ∧ decode cX7_called 5 = .ok (.goto 9, 3) ∧ decode cX7_called 8 = .ok (.aload_n 0, 1) ∧ decode cX7_called 9 = .ok (.getfield 23, 3) ∧ decode cX7_called 12 = .ok (.iload_n 2, 1) ∧ decode cX7_called 13 = .ok (.iaload, 1) := by decide +kernel
theorem dX7_called_0 : decode cX7_called 0 = .ok (.iload_n 1, 1) := db_dX7_called_0.1
theorem dX7_called_1 : decode cX7_called 1 = .ok (.ifCond .ne 7, 3) := db_dX7_called_0.2.1
theorem dX7_called_4 : decode cX7_called 4 = .ok (.iload_n 2, 1) := db_dX7_called_0.2.2.1
theorem dX7_called_5 : decode cX7_called 5 = .ok (.goto 9, 3) := db_dX7_called_0.2.2.2.1
theorem dX7_called_8 : decode cX7_called 8 = .ok (.aload_n 0, 1) := db_dX7_called_0.2.2.2.2.1
theorem dX7_called_9 : decode cX7_called 9 = .ok (.getfield 23, 3) := db_dX7_called_0.2.2.2.2.2.1
theorem dX7_called_12 : decode cX7_called 12 = .ok (.iload_n 2, 1) := db_dX7_called_0.2.2.2.2.2.2.1
theorem dX7_called_13 : decode cX7_called 13 = .ok (.iaload, 1) := db_dX7_called_0.2.2.2.2.2.2.2
theorem dX7_called_14 : decode cX7_called 14 = .ok (.ireturn, 1) := by decide +kernel
theorem db_dX7_isEdge_0 : decode cX7_isEdge 0 = .ok (.iload_n 3, 1) ∧ decode cX7_isEdge 1 = .ok (.ifCond .le 31, 3) ∧ decode cX7_isEdge 4 = .ok (.aload_n 0, 1) ∧ decode cX7_isEdge 5 = .ok (.iload_n 1, 1) ∧ decode cX7_isEdge 6 = .ok (.iload_n 2, 1) ∧ decode cX7_isEdge 7 = .ok (.iload_n 3, 1) ∧ decode cX7_isEdge 8 = .ok (.invokevirtual 83, 3) ∧ decode cX7_isEdge 11 = .ok (.iconst 1, 1) := by decide +kernel
theorem dX7_isEdge_0 : decode cX7_isEdge 0 = .ok (.iload_n 3, 1) := db_dX7_isEdge_0.1
theorem dX7_isEdge_1 : decode cX7_isEdge 1 = .ok (.ifCond .le 31, 3) := db_dX7_isEdge_0.2.1
theorem dX7_isEdge_4 : decode cX7_isEdge 4 = .ok (.aload_n 0, 1) := db_dX7_isEdge_0.2.2.1
theorem dX7_isEdge_5 : decode cX7_isEdge 5 = .ok (.iload_n 1, 1) := db_dX7_isEdge_0.2.2.2.1
theorem dX7_isEdge_6 : decode cX7_isEdge 6 = .ok (.iload_n 2, 1) := db_dX7_isEdge_0.2.2.2.2.1
theorem dX7_isEdge_7 : decode cX7_isEdge 7 = .ok (.iload_n 3, 1) := db_dX7_isEdge_0.2.2.2.2.2.1
theorem dX7_isEdge_8 : decode cX7_isEdge 8 = .ok (.invokevirtual 83, 3) := db_dX7_isEdge_0.2.2.2.2.2.2.1
theorem dX7_isEdge_11 : decode cX7_isEdge 11 = .ok (.iconst 1, 1) := db_dX7_isEdge_0.2.2.2.2.2.2.2
theorem db_dX7_isEdge_12 : decode cX7_isEdge 12 = .ok (.if_icmp .ne 20, 3) ∧ decode cX7_isEdge 15 = .ok (.aload_n 0, 1) ∧ decode cX7_isEdge 16 = .ok (.iload_n 1, 1) ∧ decode cX7_isEdge 17 = .ok (.iload_n 2, 1) ∧ decode cX7_isEdge 18 = .ok (.iload_n 3, 1) ∧ decode cX7_isEdge 19 = .ok (.iconst 1, 1) ∧ decode cX7_isEdge 20 = .ok (.isub, 1) ∧ decode cX7_isEdge 21 = .ok (.invokevirtual 83, 3) := by decide +kernel
theorem dX7_isEdge_12 : decode cX7_isEdge 12 = .ok (.if_icmp .ne 20, 3) := db_dX7_isEdge_12.1
theorem dX7_isEdge_15 : decode cX7_isEdge 15 = .ok (.aload_n 0, 1) := db_dX7_isEdge_12.2.1
theorem dX7_isEdge_16 : decode cX7_isEdge 16 = .ok (.iload_n 1, 1) := db_dX7_isEdge_12.2.2.1
theorem dX7_isEdge_17 : decode cX7_isEdge 17 = .ok (.iload_n 2, 1) := db_dX7_isEdge_12.2.2.2.1
theorem dX7_isEdge_18 : decode cX7_isEdge 18 = .ok (.iload_n 3, 1) := db_dX7_isEdge_12.2.2.2.2.1
theorem dX7_isEdge_19 : decode cX7_isEdge 19 = .ok (.iconst 1, 1) := db_dX7_isEdge_12.2.2.2.2.2.1
theorem dX7_isEdge_20 : decode cX7_isEdge 20 = .ok (.isub, 1) := db_dX7_isEdge_12.2.2.2.2.2.2.1
theorem dX7_isEdge_21 : decode cX7_isEdge 21 = .ok (.invokevirtual 83, 3) := db_dX7_isEdge_12.2.2.2.2.2.2.2
theorem db_dX7_isEdge_24 : decode cX7_isEdge 24 = .ok (.iconst 1, 1) ∧ decode cX7_isEdge 25 = .ok (.if_icmp .eq 7, 3) ∧ decode cX7_isEdge 28 = .ok (.iconst 1, 1) ∧ decode cX7_isEdge 29 = .ok (.goto 4, 3) ∧ decode cX7_isEdge 32 = .ok (.iconst 0, 1) ∧ decode cX7_isEdge 33 = .ok (.ireturn, 1) := by decide +kernel
theorem dX7_isEdge_24 : decode cX7_isEdge 24 = .ok (.iconst 1, 1) := db_dX7_isEdge_24.1
theorem dX7_isEdge_25 : decode cX7_isEdge 25 = .ok (.if_icmp .eq 7, 3) := db_dX7_isEdge_24.2.1
theorem dX7_isEdge_28 : decode cX7_isEdge 28 = .ok (.iconst 1, 1) := db_dX7_isEdge_24.2.2.1
theorem dX7_isEdge_29 : decode cX7_isEdge 29 = .ok (.goto 4, 3) := db_dX7_isEdge_24.2.2.2.1
theorem dX7_isEdge_32 : decode cX7_isEdge 32 = .ok (.iconst 0, 1) := db_dX7_isEdge_24.2.2.2.2.1
theorem dX7_isEdge_33 : decode cX7_isEdge 33 = .ok (.ireturn, 1) := db_dX7_isEdge_24.2.2.2.2.2
theorem db_dX7_acts_0 : decode cX7_acts 0 = .ok (.aload_n 0, 1) ∧ decode cX7_acts 1 = .ok (.iload_n 2, 1) ∧ decode cX7_acts 2 = .ok (.aload_n 0, 1) ∧ decode cX7_acts 3 = .ok (.getfield 48, 3) ∧ decode cX7_acts 6 = .ok (.iconst 4, 1) ∧ decode cX7_acts 7 = .ok (.iload_n 1, 1) ∧ decode cX7_acts 8 = .ok (.imul, 1) ∧ decode cX7_acts 9 = .ok (.iaload, 1) := by decide +kernel
theorem dX7_acts_0 : decode cX7_acts 0 = .ok (.aload_n 0, 1) := db_dX7_acts_0.1
theorem dX7_acts_1 : decode cX7_acts 1 = .ok (.iload_n 2, 1) := db_dX7_acts_0.2.1
theorem dX7_acts_2 : decode cX7_acts 2 = .ok (.aload_n 0, 1) := db_dX7_acts_0.2.2.1
theorem dX7_acts_3 : decode cX7_acts 3 = .ok (.getfield 48, 3) := db_dX7_acts_0.2.2.2.1
theorem dX7_acts_6 : decode cX7_acts 6 = .ok (.iconst 4, 1) := db_dX7_acts_0.2.2.2.2.1
theorem dX7_acts_7 : decode cX7_acts 7 = .ok (.iload_n 1, 1) := db_dX7_acts_0.2.2.2.2.2.1
theorem dX7_acts_8 : decode cX7_acts 8 = .ok (.imul, 1) := db_dX7_acts_0.2.2.2.2.2.2.1
theorem dX7_acts_9 : decode cX7_acts 9 = .ok (.iaload, 1) := db_dX7_acts_0.2.2.2.2.2.2.2
theorem db_dX7_acts_10 : decode cX7_acts 10 = .ok (.invokevirtual 132, 3) ∧ decode cX7_acts 13 = .ok (.istore 4, 2) ∧ decode cX7_acts 15 = .ok (.iconst 0, 1) ∧ decode cX7_acts 16 = .ok (.istore 5, 2) ∧ decode cX7_acts 18 = .ok (.aload_n 0, 1) ∧ decode cX7_acts 19 = .ok (.iload_n 2, 1) ∧ decode cX7_acts 20 = .ok (.iload 4, 2) ∧ decode cX7_acts 22 = .ok (.iconst (-1), 1) := by decide +kernel
theorem dX7_acts_10 : decode cX7_acts 10 = .ok (.invokevirtual 132, 3) := db_dX7_acts_10.1
theorem dX7_acts_13 : decode cX7_acts 13 = .ok (.istore 4, 2) := db_dX7_acts_10.2.1
theorem dX7_acts_15 : decode cX7_acts 15 = .ok (.iconst 0, 1) := db_dX7_acts_10.2.2.1
theorem dX7_acts_16 : decode cX7_acts 16 = .ok (.istore 5, 2) := db_dX7_acts_10.2.2.2.1
theorem dX7_acts_18 : decode cX7_acts 18 = .ok (.aload_n 0, 1) := db_dX7_acts_10.2.2.2.2.1
theorem dX7_acts_19 : decode cX7_acts 19 = .ok (.iload_n 2, 1) := db_dX7_acts_10.2.2.2.2.2.1
theorem dX7_acts_20 : decode cX7_acts 20 = .ok (.iload 4, 2) := db_dX7_acts_10.2.2.2.2.2.2.1
theorem dX7_acts_22 : decode cX7_acts 22 = .ok (.iconst (-1), 1) := db_dX7_acts_10.2.2.2.2.2.2.2
theorem db_dX7_acts_23 : decode cX7_acts 23 = .ok (.invokevirtual 103, 3) ∧ decode cX7_acts 26 = .ok (.istore 6, 2) ∧ decode cX7_acts 28 = .ok (.iload 6, 2) ∧ decode cX7_acts 30 = .ok (.aload_n 0, 1) ∧ decode cX7_acts 31 = .ok (.getfield 7, 3) ∧ decode cX7_acts 34 = .ok (.if_icmp .ge 152, 3) ∧ decode cX7_acts 37 = .ok (.aload_n 0, 1) ∧ decode cX7_acts 38 = .ok (.iload_n 2, 1) := by decide +kernel
theorem dX7_acts_23 : decode cX7_acts 23 = .ok (.invokevirtual 103, 3) := db_dX7_acts_23.1
theorem dX7_acts_26 : decode cX7_acts 26 = .ok (.istore 6, 2) := db_dX7_acts_23.2.1
theorem dX7_acts_28 : decode cX7_acts 28 = .ok (.iload 6, 2) := db_dX7_acts_23.2.2.1
theorem dX7_acts_30 : decode cX7_acts 30 = .ok (.aload_n 0, 1) := db_dX7_acts_23.2.2.2.1
theorem dX7_acts_31 : decode cX7_acts 31 = .ok (.getfield 7, 3) := db_dX7_acts_23.2.2.2.2.1
theorem dX7_acts_34 : decode cX7_acts 34 = .ok (.if_icmp .ge 152, 3) := db_dX7_acts_23.2.2.2.2.2.1
theorem dX7_acts_37 : decode cX7_acts 37 = .ok (.aload_n 0, 1) := db_dX7_acts_23.2.2.2.2.2.2.1
theorem dX7_acts_38 : decode cX7_acts 38 = .ok (.iload_n 2, 1) := db_dX7_acts_23.2.2.2.2.2.2.2
theorem db_dX7_acts_39 : decode cX7_acts 39 = .ok (.iload 4, 2) ∧ decode cX7_acts 41 = .ok (.iload 6, 2) ∧ decode cX7_acts 43 = .ok (.invokevirtual 135, 3) ∧ decode cX7_acts 46 = .ok (.ifCond .eq 63, 3) ∧ decode cX7_acts 49 = .ok (.aload_n 0, 1) ∧ decode cX7_acts 50 = .ok (.iload_n 2, 1) ∧ decode cX7_acts 51 = .ok (.aload_n 0, 1) ∧ decode cX7_acts 52 = .ok (.iload_n 2, 1) := by decide +kernel
theorem dX7_acts_39 : decode cX7_acts 39 = .ok (.iload 4, 2) := db_dX7_acts_39.1
theorem dX7_acts_41 : decode cX7_acts 41 = .ok (.iload 6, 2) := db_dX7_acts_39.2.1
theorem dX7_acts_43 : decode cX7_acts 43 = .ok (.invokevirtual 135, 3) := db_dX7_acts_39.2.2.1
theorem dX7_acts_46 : decode cX7_acts 46 = .ok (.ifCond .eq 63, 3) := db_dX7_acts_39.2.2.2.1
theorem dX7_acts_49 : decode cX7_acts 49 = .ok (.aload_n 0, 1) := db_dX7_acts_39.2.2.2.2.1
theorem dX7_acts_50 : decode cX7_acts 50 = .ok (.iload_n 2, 1) := db_dX7_acts_39.2.2.2.2.2.1
theorem dX7_acts_51 : decode cX7_acts 51 = .ok (.aload_n 0, 1) := db_dX7_acts_39.2.2.2.2.2.2.1
theorem dX7_acts_52 : decode cX7_acts 52 = .ok (.iload_n 2, 1) := db_dX7_acts_39.2.2.2.2.2.2.2
theorem db_dX7_acts_53 : decode cX7_acts 53 = .ok (.aload_n 0, 1) ∧ decode cX7_acts 54 = .ok (.getfield 48, 3) ∧ decode cX7_acts 57 = .ok (.iconst 4, 1) ∧ decode cX7_acts 58 = .ok (.iload_n 1, 1) ∧ decode cX7_acts 59 = .ok (.imul, 1) ∧ decode cX7_acts 60 = .ok (.iconst 1, 1) ∧ decode cX7_acts 61 = .ok (.iadd, 1) ∧ decode cX7_acts 62 = .ok (.iaload, 1) := by decide +kernel
theorem dX7_acts_53 : decode cX7_acts 53 = .ok (.aload_n 0, 1) := db_dX7_acts_53.1
theorem dX7_acts_54 : decode cX7_acts 54 = .ok (.getfield 48, 3) := db_dX7_acts_53.2.1
theorem dX7_acts_57 : decode cX7_acts 57 = .ok (.iconst 4, 1) := db_dX7_acts_53.2.2.1
theorem dX7_acts_58 : decode cX7_acts 58 = .ok (.iload_n 1, 1) := db_dX7_acts_53.2.2.2.1
theorem dX7_acts_59 : decode cX7_acts 59 = .ok (.imul, 1) := db_dX7_acts_53.2.2.2.2.1
theorem dX7_acts_60 : decode cX7_acts 60 = .ok (.iconst 1, 1) := db_dX7_acts_53.2.2.2.2.2.1
theorem dX7_acts_61 : decode cX7_acts 61 = .ok (.iadd, 1) := db_dX7_acts_53.2.2.2.2.2.2.1
theorem dX7_acts_62 : decode cX7_acts 62 = .ok (.iaload, 1) := db_dX7_acts_53.2.2.2.2.2.2.2
theorem db_dX7_acts_63 : decode cX7_acts 63 = .ok (.invokevirtual 132, 3) ∧ decode cX7_acts 66 = .ok (.iload 6, 2) ∧ decode cX7_acts 68 = .ok (.iconst 1, 1) ∧ decode cX7_acts 69 = .ok (.isub, 1) ∧ decode cX7_acts 70 = .ok (.invokevirtual 83, 3) ∧ decode cX7_acts 73 = .ok (.iconst 1, 1) ∧ decode cX7_acts 74 = .ok (.if_icmp .ne 35, 3) ∧ decode cX7_acts 77 = .ok (.aload_n 0, 1) := by decide +kernel
theorem dX7_acts_63 : decode cX7_acts 63 = .ok (.invokevirtual 132, 3) := db_dX7_acts_63.1
theorem dX7_acts_66 : decode cX7_acts 66 = .ok (.iload 6, 2) := db_dX7_acts_63.2.1
theorem dX7_acts_68 : decode cX7_acts 68 = .ok (.iconst 1, 1) := db_dX7_acts_63.2.2.1
theorem dX7_acts_69 : decode cX7_acts 69 = .ok (.isub, 1) := db_dX7_acts_63.2.2.2.1
theorem dX7_acts_70 : decode cX7_acts 70 = .ok (.invokevirtual 83, 3) := db_dX7_acts_63.2.2.2.2.1
theorem dX7_acts_73 : decode cX7_acts 73 = .ok (.iconst 1, 1) := db_dX7_acts_63.2.2.2.2.2.1
theorem dX7_acts_74 : decode cX7_acts 74 = .ok (.if_icmp .ne 35, 3) := db_dX7_acts_63.2.2.2.2.2.2.1
theorem dX7_acts_77 : decode cX7_acts 77 = .ok (.aload_n 0, 1) := db_dX7_acts_63.2.2.2.2.2.2.2
theorem db_dX7_acts_78 : decode cX7_acts 78 = .ok (.iload_n 2, 1) ∧ decode cX7_acts 79 = .ok (.aload_n 0, 1) ∧ decode cX7_acts 80 = .ok (.iload_n 2, 1) ∧ decode cX7_acts 81 = .ok (.aload_n 0, 1) ∧ decode cX7_acts 82 = .ok (.getfield 48, 3) ∧ decode cX7_acts 85 = .ok (.iconst 4, 1) ∧ decode cX7_acts 86 = .ok (.iload_n 1, 1) ∧ decode cX7_acts 87 = .ok (.imul, 1) := by decide +kernel
theorem dX7_acts_78 : decode cX7_acts 78 = .ok (.iload_n 2, 1) := db_dX7_acts_78.1
theorem dX7_acts_79 : decode cX7_acts 79 = .ok (.aload_n 0, 1) := db_dX7_acts_78.2.1
theorem dX7_acts_80 : decode cX7_acts 80 = .ok (.iload_n 2, 1) := db_dX7_acts_78.2.2.1
theorem dX7_acts_81 : decode cX7_acts 81 = .ok (.aload_n 0, 1) := db_dX7_acts_78.2.2.2.1
theorem dX7_acts_82 : decode cX7_acts 82 = .ok (.getfield 48, 3) := db_dX7_acts_78.2.2.2.2.1
theorem dX7_acts_85 : decode cX7_acts 85 = .ok (.iconst 4, 1) := db_dX7_acts_78.2.2.2.2.2.1
theorem dX7_acts_86 : decode cX7_acts 86 = .ok (.iload_n 1, 1) := db_dX7_acts_78.2.2.2.2.2.2.1
theorem dX7_acts_87 : decode cX7_acts 87 = .ok (.imul, 1) := db_dX7_acts_78.2.2.2.2.2.2.2
theorem db_dX7_acts_88 : decode cX7_acts 88 = .ok (.iconst 2, 1) ∧ decode cX7_acts 89 = .ok (.iadd, 1) ∧ decode cX7_acts 90 = .ok (.iaload, 1) ∧ decode cX7_acts 91 = .ok (.invokevirtual 132, 3) ∧ decode cX7_acts 94 = .ok (.iload 6, 2) ∧ decode cX7_acts 96 = .ok (.iconst 1, 1) ∧ decode cX7_acts 97 = .ok (.isub, 1) ∧ decode cX7_acts 98 = .ok (.invokevirtual 83, 3) := by decide +kernel
theorem dX7_acts_88 : decode cX7_acts 88 = .ok (.iconst 2, 1) := db_dX7_acts_88.1
theorem dX7_acts_89 : decode cX7_acts 89 = .ok (.iadd, 1) := db_dX7_acts_88.2.1
theorem dX7_acts_90 : decode cX7_acts 90 = .ok (.iaload, 1) := db_dX7_acts_88.2.2.1
theorem dX7_acts_91 : decode cX7_acts 91 = .ok (.invokevirtual 132, 3) := db_dX7_acts_88.2.2.2.1
theorem dX7_acts_94 : decode cX7_acts 94 = .ok (.iload 6, 2) := db_dX7_acts_88.2.2.2.2.1
theorem dX7_acts_96 : decode cX7_acts 96 = .ok (.iconst 1, 1) := db_dX7_acts_88.2.2.2.2.2.1
theorem dX7_acts_97 : decode cX7_acts 97 = .ok (.isub, 1) := db_dX7_acts_88.2.2.2.2.2.2.1
theorem dX7_acts_98 : decode cX7_acts 98 = .ok (.invokevirtual 83, 3) := db_dX7_acts_88.2.2.2.2.2.2.2
theorem db_dX7_acts_101 : decode cX7_acts 101 = .ok (.iconst 1, 1) ∧ decode cX7_acts 102 = .ok (.if_icmp .ne 7, 3) ∧ decode cX7_acts 105 = .ok (.iconst 1, 1) ∧ decode cX7_acts 106 = .ok (.goto 4, 3) ∧ decode cX7_acts 109 = .ok (.iconst 0, 1) ∧ decode cX7_acts 110 = .ok (.istore 7, 2) ∧ decode cX7_acts 112 = .ok (.iload 7, 2) ∧ decode cX7_acts 114 = .ok (.ifCond .eq 43, 3) := by decide +kernel
theorem dX7_acts_101 : decode cX7_acts 101 = .ok (.iconst 1, 1) := db_dX7_acts_101.1
theorem dX7_acts_102 : decode cX7_acts 102 = .ok (.if_icmp .ne 7, 3) := db_dX7_acts_101.2.1
theorem dX7_acts_105 : decode cX7_acts 105 = .ok (.iconst 1, 1) := db_dX7_acts_101.2.2.1
theorem dX7_acts_106 : decode cX7_acts 106 = .ok (.goto 4, 3) := db_dX7_acts_101.2.2.2.1
theorem dX7_acts_109 : decode cX7_acts 109 = .ok (.iconst 0, 1) := db_dX7_acts_101.2.2.2.2.1
theorem dX7_acts_110 : decode cX7_acts 110 = .ok (.istore 7, 2) := db_dX7_acts_101.2.2.2.2.2.1
theorem dX7_acts_112 : decode cX7_acts 112 = .ok (.iload 7, 2) := db_dX7_acts_101.2.2.2.2.2.2.1
theorem dX7_acts_114 : decode cX7_acts 114 = .ok (.ifCond .eq 43, 3) := db_dX7_acts_101.2.2.2.2.2.2.2
theorem db_dX7_acts_117 : decode cX7_acts 117 = .ok (.iload 5, 2) ∧ decode cX7_acts 119 = .ok (.iload_n 3, 1) ∧ decode cX7_acts 120 = .ok (.if_icmp .ne 37, 3) ∧ decode cX7_acts 123 = .ok (.aload_n 0, 1) ∧ decode cX7_acts 124 = .ok (.iload 6, 2) ∧ decode cX7_acts 126 = .ok (.putfield 138, 3) ∧ decode cX7_acts 129 = .ok (.aload_n 0, 1) ∧ decode cX7_acts 130 = .ok (.aload_n 0, 1) := by decide +kernel
theorem dX7_acts_117 : decode cX7_acts 117 = .ok (.iload 5, 2) := db_dX7_acts_117.1
theorem dX7_acts_119 : decode cX7_acts 119 = .ok (.iload_n 3, 1) := db_dX7_acts_117.2.1
theorem dX7_acts_120 : decode cX7_acts 120 = .ok (.if_icmp .ne 37, 3) := db_dX7_acts_117.2.2.1
theorem dX7_acts_123 : decode cX7_acts 123 = .ok (.aload_n 0, 1) := db_dX7_acts_117.2.2.2.1
theorem dX7_acts_124 : decode cX7_acts 124 = .ok (.iload 6, 2) := db_dX7_acts_117.2.2.2.2.1
theorem dX7_acts_126 : decode cX7_acts 126 = .ok (.putfield 138, 3) := db_dX7_acts_117.2.2.2.2.2.1
theorem dX7_acts_129 : decode cX7_acts 129 = .ok (.aload_n 0, 1) := db_dX7_acts_117.2.2.2.2.2.2.1
theorem dX7_acts_130 : decode cX7_acts 130 = .ok (.aload_n 0, 1) := db_dX7_acts_117.2.2.2.2.2.2.2
theorem db_dX7_acts_131 : decode cX7_acts 131 = .ok (.iload_n 2, 1) ∧ decode cX7_acts 132 = .ok (.aload_n 0, 1) ∧ decode cX7_acts 133 = .ok (.iload_n 2, 1) ∧ decode cX7_acts 134 = .ok (.aload_n 0, 1) ∧ decode cX7_acts 135 = .ok (.getfield 48, 3) ∧ decode cX7_acts 138 = .ok (.iconst 4, 1) ∧ decode cX7_acts 139 = .ok (.iload_n 1, 1) ∧ decode cX7_acts 140 = .ok (.imul, 1) := by decide +kernel
theorem dX7_acts_131 : decode cX7_acts 131 = .ok (.iload_n 2, 1) := db_dX7_acts_131.1
theorem dX7_acts_132 : decode cX7_acts 132 = .ok (.aload_n 0, 1) := db_dX7_acts_131.2.1
theorem dX7_acts_133 : decode cX7_acts 133 = .ok (.iload_n 2, 1) := db_dX7_acts_131.2.2.1
theorem dX7_acts_134 : decode cX7_acts 134 = .ok (.aload_n 0, 1) := db_dX7_acts_131.2.2.2.1
theorem dX7_acts_135 : decode cX7_acts 135 = .ok (.getfield 48, 3) := db_dX7_acts_131.2.2.2.2.1
theorem dX7_acts_138 : decode cX7_acts 138 = .ok (.iconst 4, 1) := db_dX7_acts_131.2.2.2.2.2.1
theorem dX7_acts_139 : decode cX7_acts 139 = .ok (.iload_n 1, 1) := db_dX7_acts_131.2.2.2.2.2.2.1
theorem dX7_acts_140 : decode cX7_acts 140 = .ok (.imul, 1) := db_dX7_acts_131.2.2.2.2.2.2.2
theorem db_dX7_acts_141 : decode cX7_acts 141 = .ok (.iconst 3, 1) ∧ decode cX7_acts 142 = .ok (.iadd, 1) ∧ decode cX7_acts 143 = .ok (.iaload, 1) ∧ decode cX7_acts 144 = .ok (.invokevirtual 132, 3) ∧ decode cX7_acts 147 = .ok (.iload 6, 2) ∧ decode cX7_acts 149 = .ok (.iconst 1, 1) ∧ decode cX7_acts 150 = .ok (.isub, 1) ∧ decode cX7_acts 151 = .ok (.invokevirtual 83, 3) := by decide +kernel
theorem dX7_acts_141 : decode cX7_acts 141 = .ok (.iconst 3, 1) := db_dX7_acts_141.1
theorem dX7_acts_142 : decode cX7_acts 142 = .ok (.iadd, 1) := db_dX7_acts_141.2.1
theorem dX7_acts_143 : decode cX7_acts 143 = .ok (.iaload, 1) := db_dX7_acts_141.2.2.1
theorem dX7_acts_144 : decode cX7_acts 144 = .ok (.invokevirtual 132, 3) := db_dX7_acts_141.2.2.2.1
theorem dX7_acts_147 : decode cX7_acts 147 = .ok (.iload 6, 2) := db_dX7_acts_141.2.2.2.2.1
theorem dX7_acts_149 : decode cX7_acts 149 = .ok (.iconst 1, 1) := db_dX7_acts_141.2.2.2.2.2.1
theorem dX7_acts_150 : decode cX7_acts 150 = .ok (.isub, 1) := db_dX7_acts_141.2.2.2.2.2.2.1
theorem dX7_acts_151 : decode cX7_acts 151 = .ok (.invokevirtual 83, 3) := db_dX7_acts_141.2.2.2.2.2.2.2
theorem db_dX7_acts_154 : decode cX7_acts 154 = .ok (.putfield 141, 3) ∧ decode cX7_acts 157 = .ok (.iload 5, 2) ∧ decode cX7_acts 159 = .ok (.iload 7, 2) ∧ decode cX7_acts 161 = .ok (.ifCond .eq 7, 3) ∧ decode cX7_acts 164 = .ok (.iconst 1, 1) ∧ decode cX7_acts 165 = .ok (.goto 4, 3) ∧ decode cX7_acts 168 = .ok (.iconst 0, 1) ∧ decode cX7_acts 169 = .ok (.iadd, 1) := by decide +kernel
theorem dX7_acts_154 : decode cX7_acts 154 = .ok (.putfield 141, 3) := db_dX7_acts_154.1
theorem dX7_acts_157 : decode cX7_acts 157 = .ok (.iload 5, 2) := db_dX7_acts_154.2.1
theorem dX7_acts_159 : decode cX7_acts 159 = .ok (.iload 7, 2) := db_dX7_acts_154.2.2.1
theorem dX7_acts_161 : decode cX7_acts 161 = .ok (.ifCond .eq 7, 3) := db_dX7_acts_154.2.2.2.1
theorem dX7_acts_164 : decode cX7_acts 164 = .ok (.iconst 1, 1) := db_dX7_acts_154.2.2.2.2.1
theorem dX7_acts_165 : decode cX7_acts 165 = .ok (.goto 4, 3) := db_dX7_acts_154.2.2.2.2.2.1
theorem dX7_acts_168 : decode cX7_acts 168 = .ok (.iconst 0, 1) := db_dX7_acts_154.2.2.2.2.2.2.1
theorem dX7_acts_169 : decode cX7_acts 169 = .ok (.iadd, 1) := db_dX7_acts_154.2.2.2.2.2.2.2
theorem db_dX7_acts_170 : decode cX7_acts 170 = .ok (.istore 5, 2) ∧ decode cX7_acts 172 = .ok (.aload_n 0, 1) ∧ decode cX7_acts 173 = .ok (.iload_n 2, 1) ∧ decode cX7_acts 174 = .ok (.iload 4, 2) ∧ decode cX7_acts 176 = .ok (.iload 6, 2) ∧ decode cX7_acts 178 = .ok (.invokevirtual 103, 3) ∧ decode cX7_acts 181 = .ok (.istore 6, 2) ∧ decode cX7_acts 183 = .ok (.goto (-155), 3) := by decide +kernel
theorem dX7_acts_170 : decode cX7_acts 170 = .ok (.istore 5, 2) := db_dX7_acts_170.1
theorem dX7_acts_172 : decode cX7_acts 172 = .ok (.aload_n 0, 1) := db_dX7_acts_170.2.1
theorem dX7_acts_173 : decode cX7_acts 173 = .ok (.iload_n 2, 1) := db_dX7_acts_170.2.2.1
theorem dX7_acts_174 : decode cX7_acts 174 = .ok (.iload 4, 2) := db_dX7_acts_170.2.2.2.1
theorem dX7_acts_176 : decode cX7_acts 176 = .ok (.iload 6, 2) := db_dX7_acts_170.2.2.2.2.1
theorem dX7_acts_178 : decode cX7_acts 178 = .ok (.invokevirtual 103, 3) := db_dX7_acts_170.2.2.2.2.2.1
theorem dX7_acts_181 : decode cX7_acts 181 = .ok (.istore 6, 2) := db_dX7_acts_170.2.2.2.2.2.2.1
theorem dX7_acts_183 : decode cX7_acts 183 = .ok (.goto (-155), 3) := db_dX7_acts_170.2.2.2.2.2.2.2
theorem db_dX7_acts_186 : decode cX7_acts 186 = .ok (.iload 5, 2) ∧ decode cX7_acts 188 = .ok (.ireturn, 1) := by decide +kernel
theorem dX7_acts_186 : decode cX7_acts 186 = .ok (.iload 5, 2) := db_dX7_acts_186.1
theorem dX7_acts_188 : decode cX7_acts 188 = .ok (.ireturn, 1) := db_dX7_acts_186.2
theorem db_dX7_act_0 : decode cX7_act 0 = .ok (.iload_n 1, 1) ∧ decode cX7_act 1 = .ok (.iconst 0, 1) ∧ decode cX7_act 2 = .ok (.iconst 3, 1) ∧ decode cX7_act 3 = .ok (.invokestatic 60, 3) ∧ decode cX7_act 6 = .ok (.ifCond .eq 27, 3) ∧ decode cX7_act 9 = .ok (.iload_n 2, 1) ∧ decode cX7_act 10 = .ok (.iconst 0, 1) ∧ decode cX7_act 11 = .ok (.iconst 1, 1) := by decide +kernel
theorem dX7_act_0 : decode cX7_act 0 = .ok (.iload_n 1, 1) := db_dX7_act_0.1
theorem dX7_act_1 : decode cX7_act 1 = .ok (.iconst 0, 1) := db_dX7_act_0.2.1
theorem dX7_act_2 : decode cX7_act 2 = .ok (.iconst 3, 1) := db_dX7_act_0.2.2.1
theorem dX7_act_3 : decode cX7_act 3 = .ok (.invokestatic 60, 3) := db_dX7_act_0.2.2.2.1
theorem dX7_act_6 : decode cX7_act 6 = .ok (.ifCond .eq 27, 3) := db_dX7_act_0.2.2.2.2.1
theorem dX7_act_9 : decode cX7_act 9 = .ok (.iload_n 2, 1) := db_dX7_act_0.2.2.2.2.2.1
theorem dX7_act_10 : decode cX7_act 10 = .ok (.iconst 0, 1) := db_dX7_act_0.2.2.2.2.2.2.1
theorem dX7_act_11 : decode cX7_act 11 = .ok (.iconst 1, 1) := db_dX7_act_0.2.2.2.2.2.2.2
theorem db_dX7_act_12 : decode cX7_act 12 = .ok (.invokestatic 60, 3) ∧ decode cX7_act 15 = .ok (.ifCond .eq 18, 3) ∧ decode cX7_act 18 = .ok (.iload_n 3, 1) ∧ decode cX7_act 19 = .ok (.iconst (-1), 1) ∧ decode cX7_act 20 = .ok (.if_icmp .lt 13, 3) ∧ decode cX7_act 23 = .ok (.iload 4, 2) ∧ decode cX7_act 25 = .ok (.iconst 0, 1) ∧ decode cX7_act 26 = .ok (.iconst 1, 1) := by decide +kernel
theorem dX7_act_12 : decode cX7_act 12 = .ok (.invokestatic 60, 3) := db_dX7_act_12.1
theorem dX7_act_15 : decode cX7_act 15 = .ok (.ifCond .eq 18, 3) := db_dX7_act_12.2.1
theorem dX7_act_18 : decode cX7_act 18 = .ok (.iload_n 3, 1) := db_dX7_act_12.2.2.1
theorem dX7_act_19 : decode cX7_act 19 = .ok (.iconst (-1), 1) := db_dX7_act_12.2.2.2.1
theorem dX7_act_20 : decode cX7_act 20 = .ok (.if_icmp .lt 13, 3) := db_dX7_act_12.2.2.2.2.1
theorem dX7_act_23 : decode cX7_act 23 = .ok (.iload 4, 2) := db_dX7_act_12.2.2.2.2.2.1
theorem dX7_act_25 : decode cX7_act 25 = .ok (.iconst 0, 1) := db_dX7_act_12.2.2.2.2.2.2.1
theorem dX7_act_26 : decode cX7_act 26 = .ok (.iconst 1, 1) := db_dX7_act_12.2.2.2.2.2.2.2
theorem db_dX7_act_27 : decode cX7_act 27 = .ok (.invokestatic 60, 3) ∧ decode cX7_act 30 = .ok (.ifCond .ne 5, 3) ∧ decode cX7_act 33 = .ok (.iconst (-1), 1) ∧ decode cX7_act 34 = .ok (.ireturn, 1) ∧ decode cX7_act 35 = .ok (.aload_n 0, 1) ∧ decode cX7_act 36 = .ok (.getfield 44, 3) ∧ decode cX7_act 39 = .ok (.iload_n 1, 1) ∧ decode cX7_act 40 = .ok (.baload, 1) := by decide +kernel
theorem dX7_act_27 : decode cX7_act 27 = .ok (.invokestatic 60, 3) := db_dX7_act_27.1
theorem dX7_act_30 : decode cX7_act 30 = .ok (.ifCond .ne 5, 3) := db_dX7_act_27.2.1
theorem dX7_act_33 : decode cX7_act 33 = .ok (.iconst (-1), 1) := db_dX7_act_27.2.2.1
theorem dX7_act_34 : decode cX7_act 34 = .ok (.ireturn, 1) := db_dX7_act_27.2.2.2.1
theorem dX7_act_35 : decode cX7_act 35 = .ok (.aload_n 0, 1) := db_dX7_act_27.2.2.2.2.1
theorem dX7_act_36 : decode cX7_act 36 = .ok (.getfield 44, 3) := db_dX7_act_27.2.2.2.2.2.1
theorem dX7_act_39 : decode cX7_act 39 = .ok (.iload_n 1, 1) := db_dX7_act_27.2.2.2.2.2.2.1
theorem dX7_act_40 : decode cX7_act 40 = .ok (.baload, 1) := db_dX7_act_27.2.2.2.2.2.2.2
theorem db_dX7_act_41 : decode cX7_act 41 = .ok (.ifCond .ne 6, 3) ∧ decode cX7_act 44 = .ok (.bipush (-2), 2) ∧ decode cX7_act 46 = .ok (.ireturn, 1) ∧ decode cX7_act 47 = .ok (.aload_n 0, 1) ∧ decode cX7_act 48 = .ok (.iload_n 1, 1) ∧ decode cX7_act 49 = .ok (.iload_n 2, 1) ∧ decode cX7_act 50 = .ok (.iload_n 3, 1) ∧ decode cX7_act 51 = .ok (.invokevirtual 144, 3) := by decide +kernel
theorem dX7_act_41 : decode cX7_act 41 = .ok (.ifCond .ne 6, 3) := db_dX7_act_41.1
theorem dX7_act_44 : decode cX7_act 44 = .ok (.bipush (-2), 2) := db_dX7_act_41.2.1
theorem dX7_act_46 : decode cX7_act 46 = .ok (.ireturn, 1) := db_dX7_act_41.2.2.1
theorem dX7_act_47 : decode cX7_act 47 = .ok (.aload_n 0, 1) := db_dX7_act_41.2.2.2.1
theorem dX7_act_48 : decode cX7_act 48 = .ok (.iload_n 1, 1) := db_dX7_act_41.2.2.2.2.1
theorem dX7_act_49 : decode cX7_act 49 = .ok (.iload_n 2, 1) := db_dX7_act_41.2.2.2.2.2.1
theorem dX7_act_50 : decode cX7_act 50 = .ok (.iload_n 3, 1) := db_dX7_act_41.2.2.2.2.2.2.1
theorem dX7_act_51 : decode cX7_act 51 = .ok (.invokevirtual 144, 3) := db_dX7_act_41.2.2.2.2.2.2.2
theorem db_dX7_act_54 : decode cX7_act 54 = .ok (.istore 5, 2) ∧ decode cX7_act 56 = .ok (.iload_n 3, 1) ∧ decode cX7_act 57 = .ok (.ifCond .ge 8, 3) ∧ decode cX7_act 60 = .ok (.iload 5, 2) ∧ decode cX7_act 62 = .ok (.goto 30, 3) ∧ decode cX7_act 65 = .ok (.iload_n 3, 1) ∧ decode cX7_act 66 = .ok (.iload 5, 2) ∧ decode cX7_act 68 = .ok (.if_icmp .lt 8, 3) := by decide +kernel
theorem dX7_act_54 : decode cX7_act 54 = .ok (.istore 5, 2) := db_dX7_act_54.1
theorem dX7_act_56 : decode cX7_act 56 = .ok (.iload_n 3, 1) := db_dX7_act_54.2.1
theorem dX7_act_57 : decode cX7_act 57 = .ok (.ifCond .ge 8, 3) := db_dX7_act_54.2.2.1
theorem dX7_act_60 : decode cX7_act 60 = .ok (.iload 5, 2) := db_dX7_act_54.2.2.2.1
theorem dX7_act_62 : decode cX7_act 62 = .ok (.goto 30, 3) := db_dX7_act_54.2.2.2.2.1
theorem dX7_act_65 : decode cX7_act 65 = .ok (.iload_n 3, 1) := db_dX7_act_54.2.2.2.2.2.1
theorem dX7_act_66 : decode cX7_act 66 = .ok (.iload 5, 2) := db_dX7_act_54.2.2.2.2.2.2.1
theorem dX7_act_68 : decode cX7_act 68 = .ok (.if_icmp .lt 8, 3) := db_dX7_act_54.2.2.2.2.2.2.2
theorem db_dX7_act_71 : decode cX7_act 71 = .ok (.bipush (-4), 2) ∧ decode cX7_act 73 = .ok (.goto 19, 3) ∧ decode cX7_act 76 = .ok (.iload 4, 2) ∧ decode cX7_act 78 = .ok (.ifCond .ne 10, 3) ∧ decode cX7_act 81 = .ok (.aload_n 0, 1) ∧ decode cX7_act 82 = .ok (.getfield 138, 3) ∧ decode cX7_act 85 = .ok (.goto 7, 3) ∧ decode cX7_act 88 = .ok (.aload_n 0, 1) := by decide +kernel
theorem dX7_act_71 : decode cX7_act 71 = .ok (.bipush (-4), 2) := db_dX7_act_71.1
theorem dX7_act_73 : decode cX7_act 73 = .ok (.goto 19, 3) := db_dX7_act_71.2.1
theorem dX7_act_76 : decode cX7_act 76 = .ok (.iload 4, 2) := db_dX7_act_71.2.2.1
theorem dX7_act_78 : decode cX7_act 78 = .ok (.ifCond .ne 10, 3) := db_dX7_act_71.2.2.2.1
theorem dX7_act_81 : decode cX7_act 81 = .ok (.aload_n 0, 1) := db_dX7_act_71.2.2.2.2.1
theorem dX7_act_82 : decode cX7_act 82 = .ok (.getfield 138, 3) := db_dX7_act_71.2.2.2.2.2.1
theorem dX7_act_85 : decode cX7_act 85 = .ok (.goto 7, 3) := db_dX7_act_71.2.2.2.2.2.2.1
theorem dX7_act_88 : decode cX7_act 88 = .ok (.aload_n 0, 1) := db_dX7_act_71.2.2.2.2.2.2.2
theorem db_dX7_act_89 : decode cX7_act 89 = .ok (.getfield 141, 3) ∧ decode cX7_act 92 = .ok (.ireturn, 1) := by decide +kernel
theorem dX7_act_89 : decode cX7_act 89 = .ok (.getfield 141, 3) := db_dX7_act_89.1
theorem dX7_act_92 : decode cX7_act 92 = .ok (.ireturn, 1) := db_dX7_act_89.2
theorem db_dX7_unlike_0 : decode cX7_unlike 0 = .ok (.iload_n 1, 1) ∧ decode cX7_unlike 1 = .ok (.iconst 0, 1) ∧ decode cX7_unlike 2 = .ok (.iconst 3, 1) ∧ decode cX7_unlike 3 = .ok (.invokestatic 60, 3) ∧ decode cX7_unlike 6 = .ok (.ifCond .ne 5, 3) ∧ decode cX7_unlike 9 = .ok (.iconst (-1), 1) ∧ decode cX7_unlike 10 = .ok (.ireturn, 1) ∧ decode cX7_unlike 11 = .ok (.aload_n 0, 1) := by decide +kernel
theorem dX7_unlike_0 : decode cX7_unlike 0 = .ok (.iload_n 1, 1) := db_dX7_unlike_0.1
theorem dX7_unlike_1 : decode cX7_unlike 1 = .ok (.iconst 0, 1) := db_dX7_unlike_0.2.1
theorem dX7_unlike_2 : decode cX7_unlike 2 = .ok (.iconst 3, 1) := db_dX7_unlike_0.2.2.1
theorem dX7_unlike_3 : decode cX7_unlike 3 = .ok (.invokestatic 60, 3) := db_dX7_unlike_0.2.2.2.1
theorem dX7_unlike_6 : decode cX7_unlike 6 = .ok (.ifCond .ne 5, 3) := db_dX7_unlike_0.2.2.2.2.1
theorem dX7_unlike_9 : decode cX7_unlike 9 = .ok (.iconst (-1), 1) := db_dX7_unlike_0.2.2.2.2.2.1
theorem dX7_unlike_10 : decode cX7_unlike 10 = .ok (.ireturn, 1) := db_dX7_unlike_0.2.2.2.2.2.2.1
theorem dX7_unlike_11 : decode cX7_unlike 11 = .ok (.aload_n 0, 1) := db_dX7_unlike_0.2.2.2.2.2.2.2
theorem db_dX7_unlike_12 : decode cX7_unlike 12 = .ok (.getfield 44, 3) ∧ decode cX7_unlike 15 = .ok (.iload_n 1, 1) ∧ decode cX7_unlike 16 = .ok (.baload, 1) ∧ decode cX7_unlike 17 = .ok (.ifCond .ne 6, 3) ∧ decode cX7_unlike 20 = .ok (.bipush (-2), 2) ∧ decode cX7_unlike 22 = .ok (.ireturn, 1) ∧ decode cX7_unlike 23 = .ok (.aload_n 0, 1) ∧ decode cX7_unlike 24 = .ok (.iload_n 1, 1) := by decide +kernel
theorem dX7_unlike_12 : decode cX7_unlike 12 = .ok (.getfield 44, 3) := db_dX7_unlike_12.1
theorem dX7_unlike_15 : decode cX7_unlike 15 = .ok (.iload_n 1, 1) := db_dX7_unlike_12.2.1
theorem dX7_unlike_16 : decode cX7_unlike 16 = .ok (.baload, 1) := db_dX7_unlike_12.2.2.1
theorem dX7_unlike_17 : decode cX7_unlike 17 = .ok (.ifCond .ne 6, 3) := db_dX7_unlike_12.2.2.2.1
theorem dX7_unlike_20 : decode cX7_unlike 20 = .ok (.bipush (-2), 2) := db_dX7_unlike_12.2.2.2.2.1
theorem dX7_unlike_22 : decode cX7_unlike 22 = .ok (.ireturn, 1) := db_dX7_unlike_12.2.2.2.2.2.1
theorem dX7_unlike_23 : decode cX7_unlike 23 = .ok (.aload_n 0, 1) := db_dX7_unlike_12.2.2.2.2.2.2.1
theorem dX7_unlike_24 : decode cX7_unlike 24 = .ok (.iload_n 1, 1) := db_dX7_unlike_12.2.2.2.2.2.2.2
theorem db_dX7_unlike_25 : decode cX7_unlike 25 = .ok (.iconst 0, 1) ∧ decode cX7_unlike 26 = .ok (.iconst (-1), 1) ∧ decode cX7_unlike 27 = .ok (.invokevirtual 144, 3) ∧ decode cX7_unlike 30 = .ok (.istore_n 2, 1) ∧ decode cX7_unlike 31 = .ok (.aload_n 0, 1) ∧ decode cX7_unlike 32 = .ok (.iload_n 1, 1) ∧ decode cX7_unlike 33 = .ok (.iconst 1, 1) ∧ decode cX7_unlike 34 = .ok (.iconst (-1), 1) := by decide +kernel
theorem dX7_unlike_25 : decode cX7_unlike 25 = .ok (.iconst 0, 1) := db_dX7_unlike_25.1
theorem dX7_unlike_26 : decode cX7_unlike 26 = .ok (.iconst (-1), 1) := db_dX7_unlike_25.2.1
theorem dX7_unlike_27 : decode cX7_unlike 27 = .ok (.invokevirtual 144, 3) := db_dX7_unlike_25.2.2.1
theorem dX7_unlike_30 : decode cX7_unlike 30 = .ok (.istore_n 2, 1) := db_dX7_unlike_25.2.2.2.1
theorem dX7_unlike_31 : decode cX7_unlike 31 = .ok (.aload_n 0, 1) := db_dX7_unlike_25.2.2.2.2.1
theorem dX7_unlike_32 : decode cX7_unlike 32 = .ok (.iload_n 1, 1) := db_dX7_unlike_25.2.2.2.2.2.1
theorem dX7_unlike_33 : decode cX7_unlike 33 = .ok (.iconst 1, 1) := db_dX7_unlike_25.2.2.2.2.2.2.1
theorem dX7_unlike_34 : decode cX7_unlike 34 = .ok (.iconst (-1), 1) := db_dX7_unlike_25.2.2.2.2.2.2.2
theorem db_dX7_unlike_35 : decode cX7_unlike 35 = .ok (.invokevirtual 144, 3) ∧ decode cX7_unlike 38 = .ok (.istore_n 3, 1) ∧ decode cX7_unlike 39 = .ok (.iconst 0, 1) ∧ decode cX7_unlike 40 = .ok (.istore 4, 2) ∧ decode cX7_unlike 42 = .ok (.iload 4, 2) ∧ decode cX7_unlike 44 = .ok (.iload_n 2, 1) ∧ decode cX7_unlike 45 = .ok (.if_icmp .lt 9, 3) ∧ decode cX7_unlike 48 = .ok (.iload 4, 2) := by decide +kernel
theorem dX7_unlike_35 : decode cX7_unlike 35 = .ok (.invokevirtual 144, 3) := db_dX7_unlike_35.1
theorem dX7_unlike_38 : decode cX7_unlike 38 = .ok (.istore_n 3, 1) := db_dX7_unlike_35.2.1
theorem dX7_unlike_39 : decode cX7_unlike 39 = .ok (.iconst 0, 1) := db_dX7_unlike_35.2.2.1
theorem dX7_unlike_40 : decode cX7_unlike 40 = .ok (.istore 4, 2) := db_dX7_unlike_35.2.2.2.1
theorem dX7_unlike_42 : decode cX7_unlike 42 = .ok (.iload 4, 2) := db_dX7_unlike_35.2.2.2.2.1
theorem dX7_unlike_44 : decode cX7_unlike 44 = .ok (.iload_n 2, 1) := db_dX7_unlike_35.2.2.2.2.2.1
theorem dX7_unlike_45 : decode cX7_unlike 45 = .ok (.if_icmp .lt 9, 3) := db_dX7_unlike_35.2.2.2.2.2.2.1
theorem dX7_unlike_48 : decode cX7_unlike 48 = .ok (.iload 4, 2) := db_dX7_unlike_35.2.2.2.2.2.2.2
theorem db_dX7_unlike_50 : decode cX7_unlike 50 = .ok (.iload_n 3, 1) ∧ decode cX7_unlike 51 = .ok (.if_icmp .ge 66, 3) ∧ decode cX7_unlike 54 = .ok (.iload 4, 2) ∧ decode cX7_unlike 56 = .ok (.iload_n 2, 1) ∧ decode cX7_unlike 57 = .ok (.if_icmp .ge 9, 3) ∧ decode cX7_unlike 60 = .ok (.iload 4, 2) ∧ decode cX7_unlike 62 = .ok (.iload_n 3, 1) ∧ decode cX7_unlike 63 = .ok (.if_icmp .lt 6, 3) := by decide +kernel
theorem dX7_unlike_50 : decode cX7_unlike 50 = .ok (.iload_n 3, 1) := db_dX7_unlike_50.1
theorem dX7_unlike_51 : decode cX7_unlike 51 = .ok (.if_icmp .ge 66, 3) := db_dX7_unlike_50.2.1
theorem dX7_unlike_54 : decode cX7_unlike 54 = .ok (.iload 4, 2) := db_dX7_unlike_50.2.2.1
theorem dX7_unlike_56 : decode cX7_unlike 56 = .ok (.iload_n 2, 1) := db_dX7_unlike_50.2.2.2.1
theorem dX7_unlike_57 : decode cX7_unlike 57 = .ok (.if_icmp .ge 9, 3) := db_dX7_unlike_50.2.2.2.2.1
theorem dX7_unlike_60 : decode cX7_unlike 60 = .ok (.iload 4, 2) := db_dX7_unlike_50.2.2.2.2.2.1
theorem dX7_unlike_62 : decode cX7_unlike 62 = .ok (.iload_n 3, 1) := db_dX7_unlike_50.2.2.2.2.2.2.1
theorem dX7_unlike_63 : decode cX7_unlike 63 = .ok (.if_icmp .lt 6, 3) := db_dX7_unlike_50.2.2.2.2.2.2.2
theorem db_dX7_unlike_66 : decode cX7_unlike 66 = .ok (.iload 4, 2) ∧ decode cX7_unlike 68 = .ok (.ireturn, 1) ∧ decode cX7_unlike 69 = .ok (.aload_n 0, 1) ∧ decode cX7_unlike 70 = .ok (.iload_n 1, 1) ∧ decode cX7_unlike 71 = .ok (.iconst 0, 1) ∧ decode cX7_unlike 72 = .ok (.iload 4, 2) ∧ decode cX7_unlike 74 = .ok (.invokevirtual 144, 3) ∧ decode cX7_unlike 77 = .ok (.istore 5, 2) := by decide +kernel
theorem dX7_unlike_66 : decode cX7_unlike 66 = .ok (.iload 4, 2) := db_dX7_unlike_66.1
theorem dX7_unlike_68 : decode cX7_unlike 68 = .ok (.ireturn, 1) := db_dX7_unlike_66.2.1
theorem dX7_unlike_69 : decode cX7_unlike 69 = .ok (.aload_n 0, 1) := db_dX7_unlike_66.2.2.1
theorem dX7_unlike_70 : decode cX7_unlike 70 = .ok (.iload_n 1, 1) := db_dX7_unlike_66.2.2.2.1
theorem dX7_unlike_71 : decode cX7_unlike 71 = .ok (.iconst 0, 1) := db_dX7_unlike_66.2.2.2.2.1
theorem dX7_unlike_72 : decode cX7_unlike 72 = .ok (.iload 4, 2) := db_dX7_unlike_66.2.2.2.2.2.1
theorem dX7_unlike_74 : decode cX7_unlike 74 = .ok (.invokevirtual 144, 3) := db_dX7_unlike_66.2.2.2.2.2.2.1
theorem dX7_unlike_77 : decode cX7_unlike 77 = .ok (.istore 5, 2) := db_dX7_unlike_66.2.2.2.2.2.2.2
theorem db_dX7_unlike_79 : decode cX7_unlike 79 = .ok (.aload_n 0, 1) ∧ decode cX7_unlike 80 = .ok (.getfield 141, 3) ∧ decode cX7_unlike 83 = .ok (.istore 6, 2) ∧ decode cX7_unlike 85 = .ok (.aload_n 0, 1) ∧ decode cX7_unlike 86 = .ok (.iload_n 1, 1) ∧ decode cX7_unlike 87 = .ok (.iconst 1, 1) ∧ decode cX7_unlike 88 = .ok (.iload 4, 2) ∧ decode cX7_unlike 90 = .ok (.invokevirtual 144, 3) := by decide +kernel
theorem dX7_unlike_79 : decode cX7_unlike 79 = .ok (.aload_n 0, 1) := db_dX7_unlike_79.1
theorem dX7_unlike_80 : decode cX7_unlike 80 = .ok (.getfield 141, 3) := db_dX7_unlike_79.2.1
theorem dX7_unlike_83 : decode cX7_unlike 83 = .ok (.istore 6, 2) := db_dX7_unlike_79.2.2.1
theorem dX7_unlike_85 : decode cX7_unlike 85 = .ok (.aload_n 0, 1) := db_dX7_unlike_79.2.2.2.1
theorem dX7_unlike_86 : decode cX7_unlike 86 = .ok (.iload_n 1, 1) := db_dX7_unlike_79.2.2.2.2.1
theorem dX7_unlike_87 : decode cX7_unlike 87 = .ok (.iconst 1, 1) := db_dX7_unlike_79.2.2.2.2.2.1
theorem dX7_unlike_88 : decode cX7_unlike 88 = .ok (.iload 4, 2) := db_dX7_unlike_79.2.2.2.2.2.2.1
theorem dX7_unlike_90 : decode cX7_unlike 90 = .ok (.invokevirtual 144, 3) := db_dX7_unlike_79.2.2.2.2.2.2.2
theorem db_dX7_unlike_93 : decode cX7_unlike 93 = .ok (.istore 5, 2) ∧ decode cX7_unlike 95 = .ok (.aload_n 0, 1) ∧ decode cX7_unlike 96 = .ok (.iload 6, 2) ∧ decode cX7_unlike 98 = .ok (.aload_n 0, 1) ∧ decode cX7_unlike 99 = .ok (.getfield 141, 3) ∧ decode cX7_unlike 102 = .ok (.invokevirtual 97, 3) ∧ decode cX7_unlike 105 = .ok (.ifCond .ne 6, 3) ∧ decode cX7_unlike 108 = .ok (.iload 4, 2) := by decide +kernel
theorem dX7_unlike_93 : decode cX7_unlike 93 = .ok (.istore 5, 2) := db_dX7_unlike_93.1
theorem dX7_unlike_95 : decode cX7_unlike 95 = .ok (.aload_n 0, 1) := db_dX7_unlike_93.2.1
theorem dX7_unlike_96 : decode cX7_unlike 96 = .ok (.iload 6, 2) := db_dX7_unlike_93.2.2.1
theorem dX7_unlike_98 : decode cX7_unlike 98 = .ok (.aload_n 0, 1) := db_dX7_unlike_93.2.2.2.1
theorem dX7_unlike_99 : decode cX7_unlike 99 = .ok (.getfield 141, 3) := db_dX7_unlike_93.2.2.2.2.1
theorem dX7_unlike_102 : decode cX7_unlike 102 = .ok (.invokevirtual 97, 3) := db_dX7_unlike_93.2.2.2.2.2.1
theorem dX7_unlike_105 : decode cX7_unlike 105 = .ok (.ifCond .ne 6, 3) := db_dX7_unlike_93.2.2.2.2.2.2.1
theorem dX7_unlike_108 : decode cX7_unlike 108 = .ok (.iload 4, 2) := db_dX7_unlike_93.2.2.2.2.2.2.2
theorem db_dX7_unlike_110 : decode cX7_unlike 110 = .ok (.ireturn, 1) ∧ decode cX7_unlike 111 = .ok (.iinc 4 1, 3) ∧ decode cX7_unlike 114 = .ok (.goto (-72), 3) ∧ decode cX7_unlike 117 = .ok (.bipush (-4), 2) ∧ decode cX7_unlike 119 = .ok (.ireturn, 1) := by decide +kernel
theorem dX7_unlike_110 : decode cX7_unlike 110 = .ok (.ireturn, 1) := db_dX7_unlike_110.1
theorem dX7_unlike_111 : decode cX7_unlike 111 = .ok (.iinc 4 1, 3) := db_dX7_unlike_110.2.1
theorem dX7_unlike_114 : decode cX7_unlike 114 = .ok (.goto (-72), 3) := db_dX7_unlike_110.2.2.1
theorem dX7_unlike_117 : decode cX7_unlike 117 = .ok (.bipush (-4), 2) := db_dX7_unlike_110.2.2.2.1
theorem dX7_unlike_119 : decode cX7_unlike 119 = .ok (.ireturn, 1) := db_dX7_unlike_110.2.2.2.2
theorem db_dX7_fits_0 : decode cX7_fits 0 = .ok (.iload_n 2, 1) ∧ decode cX7_fits 1 = .ok (.ifCond .ge 8, 3) ∧ decode cX7_fits 4 = .ok (.iload_n 2, 1) ∧ decode cX7_fits 5 = .ok (.ineg, 1) ∧ decode cX7_fits 6 = .ok (.goto 4, 3) ∧ decode cX7_fits 9 = .ok (.iconst 0, 1) ∧ decode cX7_fits 10 = .ok (.istore_n 3, 1) ∧ decode cX7_fits 11 = .ok (.iload_n 2, 1) := by decide +kernel
theorem dX7_fits_0 : decode cX7_fits 0 = .ok (.iload_n 2, 1) := db_dX7_fits_0.1
theorem dX7_fits_1 : decode cX7_fits 1 = .ok (.ifCond .ge 8, 3) := db_dX7_fits_0.2.1
theorem dX7_fits_4 : decode cX7_fits 4 = .ok (.iload_n 2, 1) := db_dX7_fits_0.2.2.1
theorem dX7_fits_5 : decode cX7_fits 5 = .ok (.ineg, 1) := db_dX7_fits_0.2.2.2.1
theorem dX7_fits_6 : decode cX7_fits 6 = .ok (.goto 4, 3) := db_dX7_fits_0.2.2.2.2.1
theorem dX7_fits_9 : decode cX7_fits 9 = .ok (.iconst 0, 1) := db_dX7_fits_0.2.2.2.2.2.1
theorem dX7_fits_10 : decode cX7_fits 10 = .ok (.istore_n 3, 1) := db_dX7_fits_0.2.2.2.2.2.2.1
theorem dX7_fits_11 : decode cX7_fits 11 = .ok (.iload_n 2, 1) := db_dX7_fits_0.2.2.2.2.2.2.2
theorem db_dX7_fits_12 : decode cX7_fits 12 = .ok (.ifCond .le 12, 3) ∧ decode cX7_fits 15 = .ok (.aload_n 0, 1) ∧ decode cX7_fits 16 = .ok (.getfield 7, 3) ∧ decode cX7_fits 19 = .ok (.iload_n 2, 1) ∧ decode cX7_fits 20 = .ok (.isub, 1) ∧ decode cX7_fits 21 = .ok (.goto 7, 3) ∧ decode cX7_fits 24 = .ok (.aload_n 0, 1) ∧ decode cX7_fits 25 = .ok (.getfield 7, 3) := by decide +kernel
theorem dX7_fits_12 : decode cX7_fits 12 = .ok (.ifCond .le 12, 3) := db_dX7_fits_12.1
theorem dX7_fits_15 : decode cX7_fits 15 = .ok (.aload_n 0, 1) := db_dX7_fits_12.2.1
theorem dX7_fits_16 : decode cX7_fits 16 = .ok (.getfield 7, 3) := db_dX7_fits_12.2.2.1
theorem dX7_fits_19 : decode cX7_fits 19 = .ok (.iload_n 2, 1) := db_dX7_fits_12.2.2.2.1
theorem dX7_fits_20 : decode cX7_fits 20 = .ok (.isub, 1) := db_dX7_fits_12.2.2.2.2.1
theorem dX7_fits_21 : decode cX7_fits 21 = .ok (.goto 7, 3) := db_dX7_fits_12.2.2.2.2.2.1
theorem dX7_fits_24 : decode cX7_fits 24 = .ok (.aload_n 0, 1) := db_dX7_fits_12.2.2.2.2.2.2.1
theorem dX7_fits_25 : decode cX7_fits 25 = .ok (.getfield 7, 3) := db_dX7_fits_12.2.2.2.2.2.2.2
theorem db_dX7_fits_28 : decode cX7_fits 28 = .ok (.istore 4, 2) ∧ decode cX7_fits 30 = .ok (.iload_n 3, 1) ∧ decode cX7_fits 31 = .ok (.iload 4, 2) ∧ decode cX7_fits 33 = .ok (.if_icmp .ge 7, 3) ∧ decode cX7_fits 36 = .ok (.iconst 1, 1) ∧ decode cX7_fits 37 = .ok (.goto 4, 3) ∧ decode cX7_fits 40 = .ok (.iconst 0, 1) ∧ decode cX7_fits 41 = .ok (.istore 5, 2) := by decide +kernel
theorem dX7_fits_28 : decode cX7_fits 28 = .ok (.istore 4, 2) := db_dX7_fits_28.1
theorem dX7_fits_30 : decode cX7_fits 30 = .ok (.iload_n 3, 1) := db_dX7_fits_28.2.1
theorem dX7_fits_31 : decode cX7_fits 31 = .ok (.iload 4, 2) := db_dX7_fits_28.2.2.1
theorem dX7_fits_33 : decode cX7_fits 33 = .ok (.if_icmp .ge 7, 3) := db_dX7_fits_28.2.2.2.1
theorem dX7_fits_36 : decode cX7_fits 36 = .ok (.iconst 1, 1) := db_dX7_fits_28.2.2.2.2.1
theorem dX7_fits_37 : decode cX7_fits 37 = .ok (.goto 4, 3) := db_dX7_fits_28.2.2.2.2.2.1
theorem dX7_fits_40 : decode cX7_fits 40 = .ok (.iconst 0, 1) := db_dX7_fits_28.2.2.2.2.2.2.1
theorem dX7_fits_41 : decode cX7_fits 41 = .ok (.istore 5, 2) := db_dX7_fits_28.2.2.2.2.2.2.2
theorem db_dX7_fits_43 : decode cX7_fits 43 = .ok (.iconst 0, 1) ∧ decode cX7_fits 44 = .ok (.istore 6, 2) ∧ decode cX7_fits 46 = .ok (.iload 6, 2) ∧ decode cX7_fits 48 = .ok (.bipush 12, 2) ∧ decode cX7_fits 50 = .ok (.if_icmp .ge 73, 3) ∧ decode cX7_fits 53 = .ok (.iload 5, 2) ∧ decode cX7_fits 55 = .ok (.ifCond .eq 68, 3) ∧ decode cX7_fits 58 = .ok (.iload_n 3, 1) := by decide +kernel
theorem dX7_fits_43 : decode cX7_fits 43 = .ok (.iconst 0, 1) := db_dX7_fits_43.1
theorem dX7_fits_44 : decode cX7_fits 44 = .ok (.istore 6, 2) := db_dX7_fits_43.2.1
theorem dX7_fits_46 : decode cX7_fits 46 = .ok (.iload 6, 2) := db_dX7_fits_43.2.2.1
theorem dX7_fits_48 : decode cX7_fits 48 = .ok (.bipush 12, 2) := db_dX7_fits_43.2.2.2.1
theorem dX7_fits_50 : decode cX7_fits 50 = .ok (.if_icmp .ge 73, 3) := db_dX7_fits_43.2.2.2.2.1
theorem dX7_fits_53 : decode cX7_fits 53 = .ok (.iload 5, 2) := db_dX7_fits_43.2.2.2.2.2.1
theorem dX7_fits_55 : decode cX7_fits 55 = .ok (.ifCond .eq 68, 3) := db_dX7_fits_43.2.2.2.2.2.2.1
theorem dX7_fits_58 : decode cX7_fits 58 = .ok (.iload_n 3, 1) := db_dX7_fits_43.2.2.2.2.2.2.2
theorem db_dX7_fits_59 : decode cX7_fits 59 = .ok (.istore 7, 2) ∧ decode cX7_fits 61 = .ok (.iload 7, 2) ∧ decode cX7_fits 63 = .ok (.iload 4, 2) ∧ decode cX7_fits 65 = .ok (.if_icmp .ge 52, 3) ∧ decode cX7_fits 68 = .ok (.iload 5, 2) ∧ decode cX7_fits 70 = .ok (.ifCond .eq 47, 3) ∧ decode cX7_fits 73 = .ok (.aload_n 0, 1) ∧ decode cX7_fits 74 = .ok (.getfield 26, 3) := by decide +kernel
theorem dX7_fits_59 : decode cX7_fits 59 = .ok (.istore 7, 2) := db_dX7_fits_59.1
theorem dX7_fits_61 : decode cX7_fits 61 = .ok (.iload 7, 2) := db_dX7_fits_59.2.1
theorem dX7_fits_63 : decode cX7_fits 63 = .ok (.iload 4, 2) := db_dX7_fits_59.2.2.1
theorem dX7_fits_65 : decode cX7_fits 65 = .ok (.if_icmp .ge 52, 3) := db_dX7_fits_59.2.2.2.1
theorem dX7_fits_68 : decode cX7_fits 68 = .ok (.iload 5, 2) := db_dX7_fits_59.2.2.2.2.1
theorem dX7_fits_70 : decode cX7_fits 70 = .ok (.ifCond .eq 47, 3) := db_dX7_fits_59.2.2.2.2.2.1
theorem dX7_fits_73 : decode cX7_fits 73 = .ok (.aload_n 0, 1) := db_dX7_fits_59.2.2.2.2.2.2.1
theorem dX7_fits_74 : decode cX7_fits 74 = .ok (.getfield 26, 3) := db_dX7_fits_59.2.2.2.2.2.2.2
theorem db_dX7_fits_77 : decode cX7_fits 77 = .ok (.iload 6, 2) ∧ decode cX7_fits 79 = .ok (.iaload, 1) ∧ decode cX7_fits 80 = .ok (.iload_n 1, 1) ∧ decode cX7_fits 81 = .ok (.if_icmp .ne 36, 3) ∧ decode cX7_fits 84 = .ok (.aload_n 0, 1) ∧ decode cX7_fits 85 = .ok (.iload 6, 2) ∧ decode cX7_fits 87 = .ok (.iload 7, 2) ∧ decode cX7_fits 89 = .ok (.iload_n 2, 1) := by decide +kernel
theorem dX7_fits_77 : decode cX7_fits 77 = .ok (.iload 6, 2) := db_dX7_fits_77.1
theorem dX7_fits_79 : decode cX7_fits 79 = .ok (.iaload, 1) := db_dX7_fits_77.2.1
theorem dX7_fits_80 : decode cX7_fits 80 = .ok (.iload_n 1, 1) := db_dX7_fits_77.2.2.1
theorem dX7_fits_81 : decode cX7_fits 81 = .ok (.if_icmp .ne 36, 3) := db_dX7_fits_77.2.2.2.1
theorem dX7_fits_84 : decode cX7_fits 84 = .ok (.aload_n 0, 1) := db_dX7_fits_77.2.2.2.2.1
theorem dX7_fits_85 : decode cX7_fits 85 = .ok (.iload 6, 2) := db_dX7_fits_77.2.2.2.2.2.1
theorem dX7_fits_87 : decode cX7_fits 87 = .ok (.iload 7, 2) := db_dX7_fits_77.2.2.2.2.2.2.1
theorem dX7_fits_89 : decode cX7_fits 89 = .ok (.iload_n 2, 1) := db_dX7_fits_77.2.2.2.2.2.2.2
theorem db_dX7_fits_90 : decode cX7_fits 90 = .ok (.invokevirtual 110, 3) ∧ decode cX7_fits 93 = .ok (.ifCond .ne 7, 3) ∧ decode cX7_fits 96 = .ok (.iconst 1, 1) ∧ decode cX7_fits 97 = .ok (.goto 4, 3) ∧ decode cX7_fits 100 = .ok (.iconst 0, 1) ∧ decode cX7_fits 101 = .ok (.istore 5, 2) ∧ decode cX7_fits 103 = .ok (.aload_n 0, 1) ∧ decode cX7_fits 104 = .ok (.iload 6, 2) := by decide +kernel
theorem dX7_fits_90 : decode cX7_fits 90 = .ok (.invokevirtual 110, 3) := db_dX7_fits_90.1
theorem dX7_fits_93 : decode cX7_fits 93 = .ok (.ifCond .ne 7, 3) := db_dX7_fits_90.2.1
theorem dX7_fits_96 : decode cX7_fits 96 = .ok (.iconst 1, 1) := db_dX7_fits_90.2.2.1
theorem dX7_fits_97 : decode cX7_fits 97 = .ok (.goto 4, 3) := db_dX7_fits_90.2.2.2.1
theorem dX7_fits_100 : decode cX7_fits 100 = .ok (.iconst 0, 1) := db_dX7_fits_90.2.2.2.2.1
theorem dX7_fits_101 : decode cX7_fits 101 = .ok (.istore 5, 2) := db_dX7_fits_90.2.2.2.2.2.1
theorem dX7_fits_103 : decode cX7_fits 103 = .ok (.aload_n 0, 1) := db_dX7_fits_90.2.2.2.2.2.2.1
theorem dX7_fits_104 : decode cX7_fits 104 = .ok (.iload 6, 2) := db_dX7_fits_90.2.2.2.2.2.2.2
theorem db_dX7_fits_106 : decode cX7_fits 106 = .ok (.iload 7, 2) ∧ decode cX7_fits 108 = .ok (.iload_n 2, 1) ∧ decode cX7_fits 109 = .ok (.invokevirtual 117, 3) ∧ decode cX7_fits 112 = .ok (.istore 7, 2) ∧ decode cX7_fits 114 = .ok (.goto (-53), 3) ∧ decode cX7_fits 117 = .ok (.iinc 6 1, 3) ∧ decode cX7_fits 120 = .ok (.goto (-74), 3) ∧ decode cX7_fits 123 = .ok (.iload 5, 2) := by decide +kernel
theorem dX7_fits_106 : decode cX7_fits 106 = .ok (.iload 7, 2) := db_dX7_fits_106.1
theorem dX7_fits_108 : decode cX7_fits 108 = .ok (.iload_n 2, 1) := db_dX7_fits_106.2.1
theorem dX7_fits_109 : decode cX7_fits 109 = .ok (.invokevirtual 117, 3) := db_dX7_fits_106.2.2.1
theorem dX7_fits_112 : decode cX7_fits 112 = .ok (.istore 7, 2) := db_dX7_fits_106.2.2.2.1
theorem dX7_fits_114 : decode cX7_fits 114 = .ok (.goto (-53), 3) := db_dX7_fits_106.2.2.2.2.1
theorem dX7_fits_117 : decode cX7_fits 117 = .ok (.iinc 6 1, 3) := db_dX7_fits_106.2.2.2.2.2.1
theorem dX7_fits_120 : decode cX7_fits 120 = .ok (.goto (-74), 3) := db_dX7_fits_106.2.2.2.2.2.2.1
theorem dX7_fits_123 : decode cX7_fits 123 = .ok (.iload 5, 2) := db_dX7_fits_106.2.2.2.2.2.2.2
theorem dX7_fits_125 : decode cX7_fits 125 = .ok (.ireturn, 1) := by decide +kernel
theorem db_dX7_fit_0 : decode cX7_fit 0 = .ok (.iload_n 1, 1) ∧ decode cX7_fit 1 = .ok (.iconst 0, 1) ∧ decode cX7_fit 2 = .ok (.iconst 3, 1) ∧ decode cX7_fit 3 = .ok (.invokestatic 60, 3) ∧ decode cX7_fit 6 = .ok (.ifCond .ne 7, 3) ∧ decode cX7_fit 9 = .ok (.sipush (-1001), 3) ∧ decode cX7_fit 12 = .ok (.ireturn, 1) ∧ decode cX7_fit 13 = .ok (.iconst 0, 1) := by decide +kernel
theorem dX7_fit_0 : decode cX7_fit 0 = .ok (.iload_n 1, 1) := db_dX7_fit_0.1
theorem dX7_fit_1 : decode cX7_fit 1 = .ok (.iconst 0, 1) := db_dX7_fit_0.2.1
theorem dX7_fit_2 : decode cX7_fit 2 = .ok (.iconst 3, 1) := db_dX7_fit_0.2.2.1
theorem dX7_fit_3 : decode cX7_fit 3 = .ok (.invokestatic 60, 3) := db_dX7_fit_0.2.2.2.1
theorem dX7_fit_6 : decode cX7_fit 6 = .ok (.ifCond .ne 7, 3) := db_dX7_fit_0.2.2.2.2.1
theorem dX7_fit_9 : decode cX7_fit 9 = .ok (.sipush (-1001), 3) := db_dX7_fit_0.2.2.2.2.2.1
theorem dX7_fit_12 : decode cX7_fit 12 = .ok (.ireturn, 1) := db_dX7_fit_0.2.2.2.2.2.2.1
theorem dX7_fit_13 : decode cX7_fit 13 = .ok (.iconst 0, 1) := db_dX7_fit_0.2.2.2.2.2.2.2
theorem db_dX7_fit_14 : decode cX7_fit 14 = .ok (.istore_n 2, 1) ∧ decode cX7_fit 15 = .ok (.iconst 0, 1) ∧ decode cX7_fit 16 = .ok (.istore_n 3, 1) ∧ decode cX7_fit 17 = .ok (.iload_n 3, 1) ∧ decode cX7_fit 18 = .ok (.bipush 12, 2) ∧ decode cX7_fit 20 = .ok (.if_icmp .ge 29, 3) ∧ decode cX7_fit 23 = .ok (.iload_n 2, 1) ∧ decode cX7_fit 24 = .ok (.ifCond .ne 13, 3) := by decide +kernel
theorem dX7_fit_14 : decode cX7_fit 14 = .ok (.istore_n 2, 1) := db_dX7_fit_14.1
theorem dX7_fit_15 : decode cX7_fit 15 = .ok (.iconst 0, 1) := db_dX7_fit_14.2.1
theorem dX7_fit_16 : decode cX7_fit 16 = .ok (.istore_n 3, 1) := db_dX7_fit_14.2.2.1
theorem dX7_fit_17 : decode cX7_fit 17 = .ok (.iload_n 3, 1) := db_dX7_fit_14.2.2.2.1
theorem dX7_fit_18 : decode cX7_fit 18 = .ok (.bipush 12, 2) := db_dX7_fit_14.2.2.2.2.1
theorem dX7_fit_20 : decode cX7_fit 20 = .ok (.if_icmp .ge 29, 3) := db_dX7_fit_14.2.2.2.2.2.1
theorem dX7_fit_23 : decode cX7_fit 23 = .ok (.iload_n 2, 1) := db_dX7_fit_14.2.2.2.2.2.2.1
theorem dX7_fit_24 : decode cX7_fit 24 = .ok (.ifCond .ne 13, 3) := db_dX7_fit_14.2.2.2.2.2.2.2
theorem db_dX7_fit_27 : decode cX7_fit 27 = .ok (.aload_n 0, 1) ∧ decode cX7_fit 28 = .ok (.getfield 26, 3) ∧ decode cX7_fit 31 = .ok (.iload_n 3, 1) ∧ decode cX7_fit 32 = .ok (.iaload, 1) ∧ decode cX7_fit 33 = .ok (.iload_n 1, 1) ∧ decode cX7_fit 34 = .ok (.if_icmp .ne 7, 3) ∧ decode cX7_fit 37 = .ok (.iconst 1, 1) ∧ decode cX7_fit 38 = .ok (.goto 4, 3) := by decide +kernel
theorem dX7_fit_27 : decode cX7_fit 27 = .ok (.aload_n 0, 1) := db_dX7_fit_27.1
theorem dX7_fit_28 : decode cX7_fit 28 = .ok (.getfield 26, 3) := db_dX7_fit_27.2.1
theorem dX7_fit_31 : decode cX7_fit 31 = .ok (.iload_n 3, 1) := db_dX7_fit_27.2.2.1
theorem dX7_fit_32 : decode cX7_fit 32 = .ok (.iaload, 1) := db_dX7_fit_27.2.2.2.1
theorem dX7_fit_33 : decode cX7_fit 33 = .ok (.iload_n 1, 1) := db_dX7_fit_27.2.2.2.2.1
theorem dX7_fit_34 : decode cX7_fit 34 = .ok (.if_icmp .ne 7, 3) := db_dX7_fit_27.2.2.2.2.2.1
theorem dX7_fit_37 : decode cX7_fit 37 = .ok (.iconst 1, 1) := db_dX7_fit_27.2.2.2.2.2.2.1
theorem dX7_fit_38 : decode cX7_fit 38 = .ok (.goto 4, 3) := db_dX7_fit_27.2.2.2.2.2.2.2
theorem db_dX7_fit_41 : decode cX7_fit 41 = .ok (.iconst 0, 1) ∧ decode cX7_fit 42 = .ok (.istore_n 2, 1) ∧ decode cX7_fit 43 = .ok (.iinc 3 1, 3) ∧ decode cX7_fit 46 = .ok (.goto (-29), 3) ∧ decode cX7_fit 49 = .ok (.iload_n 2, 1) ∧ decode cX7_fit 50 = .ok (.ifCond .ne 7, 3) ∧ decode cX7_fit 53 = .ok (.sipush (-1002), 3) ∧ decode cX7_fit 56 = .ok (.ireturn, 1) := by decide +kernel
theorem dX7_fit_41 : decode cX7_fit 41 = .ok (.iconst 0, 1) := db_dX7_fit_41.1
theorem dX7_fit_42 : decode cX7_fit 42 = .ok (.istore_n 2, 1) := db_dX7_fit_41.2.1
theorem dX7_fit_43 : decode cX7_fit 43 = .ok (.iinc 3 1, 3) := db_dX7_fit_41.2.2.1
theorem dX7_fit_46 : decode cX7_fit 46 = .ok (.goto (-29), 3) := db_dX7_fit_41.2.2.2.1
theorem dX7_fit_49 : decode cX7_fit 49 = .ok (.iload_n 2, 1) := db_dX7_fit_41.2.2.2.2.1
theorem dX7_fit_50 : decode cX7_fit 50 = .ok (.ifCond .ne 7, 3) := db_dX7_fit_41.2.2.2.2.2.1
theorem dX7_fit_53 : decode cX7_fit 53 = .ok (.sipush (-1002), 3) := db_dX7_fit_41.2.2.2.2.2.2.1
theorem dX7_fit_56 : decode cX7_fit 56 = .ok (.ireturn, 1) := db_dX7_fit_41.2.2.2.2.2.2.2
theorem db_dX7_fit_57 : decode cX7_fit 57 = .ok (.iconst 0, 1) ∧ decode cX7_fit 58 = .ok (.istore_n 3, 1) ∧ decode cX7_fit 59 = .ok (.iload_n 3, 1) ∧ decode cX7_fit 60 = .ok (.bipush 50, 2) ∧ decode cX7_fit 62 = .ok (.if_icmp .gt 33, 3) ∧ decode cX7_fit 65 = .ok (.aload_n 0, 1) ∧ decode cX7_fit 66 = .ok (.iload_n 1, 1) ∧ decode cX7_fit 67 = .ok (.iload_n 3, 1) := by decide +kernel
theorem dX7_fit_57 : decode cX7_fit 57 = .ok (.iconst 0, 1) := db_dX7_fit_57.1
theorem dX7_fit_58 : decode cX7_fit 58 = .ok (.istore_n 3, 1) := db_dX7_fit_57.2.1
theorem dX7_fit_59 : decode cX7_fit 59 = .ok (.iload_n 3, 1) := db_dX7_fit_57.2.2.1
theorem dX7_fit_60 : decode cX7_fit 60 = .ok (.bipush 50, 2) := db_dX7_fit_57.2.2.2.1
theorem dX7_fit_62 : decode cX7_fit 62 = .ok (.if_icmp .gt 33, 3) := db_dX7_fit_57.2.2.2.2.1
theorem dX7_fit_65 : decode cX7_fit 65 = .ok (.aload_n 0, 1) := db_dX7_fit_57.2.2.2.2.2.1
theorem dX7_fit_66 : decode cX7_fit 66 = .ok (.iload_n 1, 1) := db_dX7_fit_57.2.2.2.2.2.2.1
theorem dX7_fit_67 : decode cX7_fit 67 = .ok (.iload_n 3, 1) := db_dX7_fit_57.2.2.2.2.2.2.2
theorem db_dX7_fit_68 : decode cX7_fit 68 = .ok (.ineg, 1) ∧ decode cX7_fit 69 = .ok (.invokevirtual 147, 3) ∧ decode cX7_fit 72 = .ok (.ifCond .eq 6, 3) ∧ decode cX7_fit 75 = .ok (.iload_n 3, 1) ∧ decode cX7_fit 76 = .ok (.ineg, 1) ∧ decode cX7_fit 77 = .ok (.ireturn, 1) ∧ decode cX7_fit 78 = .ok (.aload_n 0, 1) ∧ decode cX7_fit 79 = .ok (.iload_n 1, 1) := by decide +kernel
theorem dX7_fit_68 : decode cX7_fit 68 = .ok (.ineg, 1) := db_dX7_fit_68.1
theorem dX7_fit_69 : decode cX7_fit 69 = .ok (.invokevirtual 147, 3) := db_dX7_fit_68.2.1
theorem dX7_fit_72 : decode cX7_fit 72 = .ok (.ifCond .eq 6, 3) := db_dX7_fit_68.2.2.1
theorem dX7_fit_75 : decode cX7_fit 75 = .ok (.iload_n 3, 1) := db_dX7_fit_68.2.2.2.1
theorem dX7_fit_76 : decode cX7_fit 76 = .ok (.ineg, 1) := db_dX7_fit_68.2.2.2.2.1
theorem dX7_fit_77 : decode cX7_fit 77 = .ok (.ireturn, 1) := db_dX7_fit_68.2.2.2.2.2.1
theorem dX7_fit_78 : decode cX7_fit 78 = .ok (.aload_n 0, 1) := db_dX7_fit_68.2.2.2.2.2.2.1
theorem dX7_fit_79 : decode cX7_fit 79 = .ok (.iload_n 1, 1) := db_dX7_fit_68.2.2.2.2.2.2.2
theorem db_dX7_fit_80 : decode cX7_fit 80 = .ok (.iload_n 3, 1) ∧ decode cX7_fit 81 = .ok (.invokevirtual 147, 3) ∧ decode cX7_fit 84 = .ok (.ifCond .eq 5, 3) ∧ decode cX7_fit 87 = .ok (.iload_n 3, 1) ∧ decode cX7_fit 88 = .ok (.ireturn, 1) ∧ decode cX7_fit 89 = .ok (.iinc 3 1, 3) ∧ decode cX7_fit 92 = .ok (.goto (-33), 3) ∧ decode cX7_fit 95 = .ok (.sipush (-1004), 3) := by decide +kernel
theorem dX7_fit_80 : decode cX7_fit 80 = .ok (.iload_n 3, 1) := db_dX7_fit_80.1
theorem dX7_fit_81 : decode cX7_fit 81 = .ok (.invokevirtual 147, 3) := db_dX7_fit_80.2.1
theorem dX7_fit_84 : decode cX7_fit 84 = .ok (.ifCond .eq 5, 3) := db_dX7_fit_80.2.2.1
theorem dX7_fit_87 : decode cX7_fit 87 = .ok (.iload_n 3, 1) := db_dX7_fit_80.2.2.2.1
theorem dX7_fit_88 : decode cX7_fit 88 = .ok (.ireturn, 1) := db_dX7_fit_80.2.2.2.2.1
theorem dX7_fit_89 : decode cX7_fit 89 = .ok (.iinc 3 1, 3) := db_dX7_fit_80.2.2.2.2.2.1
theorem dX7_fit_92 : decode cX7_fit 92 = .ok (.goto (-33), 3) := db_dX7_fit_80.2.2.2.2.2.2.1
theorem dX7_fit_95 : decode cX7_fit 95 = .ok (.sipush (-1004), 3) := db_dX7_fit_80.2.2.2.2.2.2.2
theorem dX7_fit_98 : decode cX7_fit 98 = .ok (.ireturn, 1) := by decide +kernel
theorem db_dX7_gate_0 : decode cX7_gate 0 = .ok (.iload_n 1, 1) ∧ decode cX7_gate 1 = .ok (.invokestatic 64, 3) ∧ decode cX7_gate 4 = .ok (.ifCond .eq 48, 3) ∧ decode cX7_gate 7 = .ok (.iload_n 2, 1) ∧ decode cX7_gate 8 = .ok (.iconst 0, 1) ∧ decode cX7_gate 9 = .ok (.bipush 6, 2) ∧ decode cX7_gate 11 = .ok (.invokestatic 60, 3) ∧ decode cX7_gate 14 = .ok (.ifCond .eq 38, 3) := by decide +kernel
theorem dX7_gate_0 : decode cX7_gate 0 = .ok (.iload_n 1, 1) := db_dX7_gate_0.1
theorem dX7_gate_1 : decode cX7_gate 1 = .ok (.invokestatic 64, 3) := db_dX7_gate_0.2.1
theorem dX7_gate_4 : decode cX7_gate 4 = .ok (.ifCond .eq 48, 3) := db_dX7_gate_0.2.2.1
theorem dX7_gate_7 : decode cX7_gate 7 = .ok (.iload_n 2, 1) := db_dX7_gate_0.2.2.2.1
theorem dX7_gate_8 : decode cX7_gate 8 = .ok (.iconst 0, 1) := db_dX7_gate_0.2.2.2.2.1
theorem dX7_gate_9 : decode cX7_gate 9 = .ok (.bipush 6, 2) := db_dX7_gate_0.2.2.2.2.2.1
theorem dX7_gate_11 : decode cX7_gate 11 = .ok (.invokestatic 60, 3) := db_dX7_gate_0.2.2.2.2.2.2.1
theorem dX7_gate_14 : decode cX7_gate 14 = .ok (.ifCond .eq 38, 3) := db_dX7_gate_0.2.2.2.2.2.2.2
theorem db_dX7_gate_17 : decode cX7_gate 17 = .ok (.iload_n 2, 1) ∧ decode cX7_gate 18 = .ok (.ifCond .le 15, 3) ∧ decode cX7_gate 21 = .ok (.iload_n 3, 1) ∧ decode cX7_gate 22 = .ok (.invokestatic 64, 3) ∧ decode cX7_gate 25 = .ok (.ifCond .eq 27, 3) ∧ decode cX7_gate 28 = .ok (.iload_n 3, 1) ∧ decode cX7_gate 29 = .ok (.iload_n 1, 1) ∧ decode cX7_gate 30 = .ok (.if_icmp .eq 22, 3) := by decide +kernel
theorem dX7_gate_17 : decode cX7_gate 17 = .ok (.iload_n 2, 1) := db_dX7_gate_17.1
theorem dX7_gate_18 : decode cX7_gate 18 = .ok (.ifCond .le 15, 3) := db_dX7_gate_17.2.1
theorem dX7_gate_21 : decode cX7_gate 21 = .ok (.iload_n 3, 1) := db_dX7_gate_17.2.2.1
theorem dX7_gate_22 : decode cX7_gate 22 = .ok (.invokestatic 64, 3) := db_dX7_gate_17.2.2.2.1
theorem dX7_gate_25 : decode cX7_gate 25 = .ok (.ifCond .eq 27, 3) := db_dX7_gate_17.2.2.2.2.1
theorem dX7_gate_28 : decode cX7_gate 28 = .ok (.iload_n 3, 1) := db_dX7_gate_17.2.2.2.2.2.1
theorem dX7_gate_29 : decode cX7_gate 29 = .ok (.iload_n 1, 1) := db_dX7_gate_17.2.2.2.2.2.2.1
theorem dX7_gate_30 : decode cX7_gate 30 = .ok (.if_icmp .eq 22, 3) := db_dX7_gate_17.2.2.2.2.2.2.2
theorem db_dX7_gate_33 : decode cX7_gate 33 = .ok (.iload_n 2, 1) ∧ decode cX7_gate 34 = .ok (.iconst 1, 1) ∧ decode cX7_gate 35 = .ok (.if_icmp .le 19, 3) ∧ decode cX7_gate 38 = .ok (.iload 4, 2) ∧ decode cX7_gate 40 = .ok (.invokestatic 64, 3) ∧ decode cX7_gate 43 = .ok (.ifCond .eq 9, 3) ∧ decode cX7_gate 46 = .ok (.iload 4, 2) ∧ decode cX7_gate 48 = .ok (.iload_n 1, 1) := by decide +kernel
theorem dX7_gate_33 : decode cX7_gate 33 = .ok (.iload_n 2, 1) := db_dX7_gate_33.1
theorem dX7_gate_34 : decode cX7_gate 34 = .ok (.iconst 1, 1) := db_dX7_gate_33.2.1
theorem dX7_gate_35 : decode cX7_gate 35 = .ok (.if_icmp .le 19, 3) := db_dX7_gate_33.2.2.1
theorem dX7_gate_38 : decode cX7_gate 38 = .ok (.iload 4, 2) := db_dX7_gate_33.2.2.2.1
theorem dX7_gate_40 : decode cX7_gate 40 = .ok (.invokestatic 64, 3) := db_dX7_gate_33.2.2.2.2.1
theorem dX7_gate_43 : decode cX7_gate 43 = .ok (.ifCond .eq 9, 3) := db_dX7_gate_33.2.2.2.2.2.1
theorem dX7_gate_46 : decode cX7_gate 46 = .ok (.iload 4, 2) := db_dX7_gate_33.2.2.2.2.2.2.1
theorem dX7_gate_48 : decode cX7_gate 48 = .ok (.iload_n 1, 1) := db_dX7_gate_33.2.2.2.2.2.2.2
theorem db_dX7_gate_49 : decode cX7_gate 49 = .ok (.if_icmp .ne 5, 3) ∧ decode cX7_gate 52 = .ok (.iconst (-1), 1) ∧ decode cX7_gate 53 = .ok (.ireturn, 1) ∧ decode cX7_gate 54 = .ok (.aload_n 0, 1) ∧ decode cX7_gate 55 = .ok (.getfield 51, 3) ∧ decode cX7_gate 58 = .ok (.iload_n 1, 1) ∧ decode cX7_gate 59 = .ok (.iaload, 1) ∧ decode cX7_gate 60 = .ok (.istore 5, 2) := by decide +kernel
theorem dX7_gate_49 : decode cX7_gate 49 = .ok (.if_icmp .ne 5, 3) := db_dX7_gate_49.1
theorem dX7_gate_52 : decode cX7_gate 52 = .ok (.iconst (-1), 1) := db_dX7_gate_49.2.1
theorem dX7_gate_53 : decode cX7_gate 53 = .ok (.ireturn, 1) := db_dX7_gate_49.2.2.1
theorem dX7_gate_54 : decode cX7_gate 54 = .ok (.aload_n 0, 1) := db_dX7_gate_49.2.2.2.1
theorem dX7_gate_55 : decode cX7_gate 55 = .ok (.getfield 51, 3) := db_dX7_gate_49.2.2.2.2.1
theorem dX7_gate_58 : decode cX7_gate 58 = .ok (.iload_n 1, 1) := db_dX7_gate_49.2.2.2.2.2.1
theorem dX7_gate_59 : decode cX7_gate 59 = .ok (.iaload, 1) := db_dX7_gate_49.2.2.2.2.2.2.1
theorem dX7_gate_60 : decode cX7_gate 60 = .ok (.istore 5, 2) := db_dX7_gate_49.2.2.2.2.2.2.2
theorem db_dX7_gate_62 : decode cX7_gate 62 = .ok (.aload_n 0, 1) ∧ decode cX7_gate 63 = .ok (.getfield 51, 3) ∧ decode cX7_gate 66 = .ok (.iload_n 1, 1) ∧ decode cX7_gate 67 = .ok (.iload_n 2, 1) ∧ decode cX7_gate 68 = .ok (.iastore, 1) ∧ decode cX7_gate 69 = .ok (.aload_n 0, 1) ∧ decode cX7_gate 70 = .ok (.getfield 54, 3) ∧ decode cX7_gate 73 = .ok (.iload_n 1, 1) := by decide +kernel
theorem dX7_gate_62 : decode cX7_gate 62 = .ok (.aload_n 0, 1) := db_dX7_gate_62.1
theorem dX7_gate_63 : decode cX7_gate 63 = .ok (.getfield 51, 3) := db_dX7_gate_62.2.1
theorem dX7_gate_66 : decode cX7_gate 66 = .ok (.iload_n 1, 1) := db_dX7_gate_62.2.2.1
theorem dX7_gate_67 : decode cX7_gate 67 = .ok (.iload_n 2, 1) := db_dX7_gate_62.2.2.2.1
theorem dX7_gate_68 : decode cX7_gate 68 = .ok (.iastore, 1) := db_dX7_gate_62.2.2.2.2.1
theorem dX7_gate_69 : decode cX7_gate 69 = .ok (.aload_n 0, 1) := db_dX7_gate_62.2.2.2.2.2.1
theorem dX7_gate_70 : decode cX7_gate 70 = .ok (.getfield 54, 3) := db_dX7_gate_62.2.2.2.2.2.2.1
theorem dX7_gate_73 : decode cX7_gate 73 = .ok (.iload_n 1, 1) := db_dX7_gate_62.2.2.2.2.2.2.2
theorem db_dX7_gate_74 : decode cX7_gate 74 = .ok (.iload_n 3, 1) ∧ decode cX7_gate 75 = .ok (.iastore, 1) ∧ decode cX7_gate 76 = .ok (.aload_n 0, 1) ∧ decode cX7_gate 77 = .ok (.getfield 57, 3) ∧ decode cX7_gate 80 = .ok (.iload_n 1, 1) ∧ decode cX7_gate 81 = .ok (.iload 4, 2) ∧ decode cX7_gate 83 = .ok (.iastore, 1) ∧ decode cX7_gate 84 = .ok (.iload 5, 2) := by decide +kernel
theorem dX7_gate_74 : decode cX7_gate 74 = .ok (.iload_n 3, 1) := db_dX7_gate_74.1
theorem dX7_gate_75 : decode cX7_gate 75 = .ok (.iastore, 1) := db_dX7_gate_74.2.1
theorem dX7_gate_76 : decode cX7_gate 76 = .ok (.aload_n 0, 1) := db_dX7_gate_74.2.2.1
theorem dX7_gate_77 : decode cX7_gate 77 = .ok (.getfield 57, 3) := db_dX7_gate_74.2.2.2.1
theorem dX7_gate_80 : decode cX7_gate 80 = .ok (.iload_n 1, 1) := db_dX7_gate_74.2.2.2.2.1
theorem dX7_gate_81 : decode cX7_gate 81 = .ok (.iload 4, 2) := db_dX7_gate_74.2.2.2.2.2.1
theorem dX7_gate_83 : decode cX7_gate 83 = .ok (.iastore, 1) := db_dX7_gate_74.2.2.2.2.2.2.1
theorem dX7_gate_84 : decode cX7_gate 84 = .ok (.iload 5, 2) := db_dX7_gate_74.2.2.2.2.2.2.2
theorem dX7_gate_86 : decode cX7_gate 86 = .ok (.ireturn, 1) := by decide +kernel
theorem db_dX7_agreeAt_0 : decode cX7_agreeAt 0 = .ok (.aload_n 0, 1) ∧ decode cX7_agreeAt 1 = .ok (.aload_n 0, 1) ∧ decode cX7_agreeAt 2 = .ok (.iconst 0, 1) ∧ decode cX7_agreeAt 3 = .ok (.iload_n 1, 1) ∧ decode cX7_agreeAt 4 = .ok (.iload_n 2, 1) ∧ decode cX7_agreeAt 5 = .ok (.invokevirtual 83, 3) ∧ decode cX7_agreeAt 8 = .ok (.aload_n 0, 1) ∧ decode cX7_agreeAt 9 = .ok (.iconst 1, 1) := by decide +kernel
theorem dX7_agreeAt_0 : decode cX7_agreeAt 0 = .ok (.aload_n 0, 1) := db_dX7_agreeAt_0.1
theorem dX7_agreeAt_1 : decode cX7_agreeAt 1 = .ok (.aload_n 0, 1) := db_dX7_agreeAt_0.2.1
theorem dX7_agreeAt_2 : decode cX7_agreeAt 2 = .ok (.iconst 0, 1) := db_dX7_agreeAt_0.2.2.1
theorem dX7_agreeAt_3 : decode cX7_agreeAt 3 = .ok (.iload_n 1, 1) := db_dX7_agreeAt_0.2.2.2.1
theorem dX7_agreeAt_4 : decode cX7_agreeAt 4 = .ok (.iload_n 2, 1) := db_dX7_agreeAt_0.2.2.2.2.1
theorem dX7_agreeAt_5 : decode cX7_agreeAt 5 = .ok (.invokevirtual 83, 3) := db_dX7_agreeAt_0.2.2.2.2.2.1
theorem dX7_agreeAt_8 : decode cX7_agreeAt 8 = .ok (.aload_n 0, 1) := db_dX7_agreeAt_0.2.2.2.2.2.2.1
theorem dX7_agreeAt_9 : decode cX7_agreeAt 9 = .ok (.iconst 1, 1) := db_dX7_agreeAt_0.2.2.2.2.2.2.2
theorem db_dX7_agreeAt_10 : decode cX7_agreeAt 10 = .ok (.aload_n 0, 1) ∧ decode cX7_agreeAt 11 = .ok (.getfield 23, 3) ∧ decode cX7_agreeAt 14 = .ok (.iload_n 1, 1) ∧ decode cX7_agreeAt 15 = .ok (.iaload, 1) ∧ decode cX7_agreeAt 16 = .ok (.iload_n 2, 1) ∧ decode cX7_agreeAt 17 = .ok (.invokevirtual 83, 3) ∧ decode cX7_agreeAt 20 = .ok (.invokevirtual 97, 3) ∧ decode cX7_agreeAt 23 = .ok (.ireturn, 1) := by decide +kernel
theorem dX7_agreeAt_10 : decode cX7_agreeAt 10 = .ok (.aload_n 0, 1) := db_dX7_agreeAt_10.1
theorem dX7_agreeAt_11 : decode cX7_agreeAt 11 = .ok (.getfield 23, 3) := db_dX7_agreeAt_10.2.1
theorem dX7_agreeAt_14 : decode cX7_agreeAt 14 = .ok (.iload_n 1, 1) := db_dX7_agreeAt_10.2.2.1
theorem dX7_agreeAt_15 : decode cX7_agreeAt 15 = .ok (.iaload, 1) := db_dX7_agreeAt_10.2.2.2.1
theorem dX7_agreeAt_16 : decode cX7_agreeAt 16 = .ok (.iload_n 2, 1) := db_dX7_agreeAt_10.2.2.2.2.1
theorem dX7_agreeAt_17 : decode cX7_agreeAt 17 = .ok (.invokevirtual 83, 3) := db_dX7_agreeAt_10.2.2.2.2.2.1
theorem dX7_agreeAt_20 : decode cX7_agreeAt 20 = .ok (.invokevirtual 97, 3) := db_dX7_agreeAt_10.2.2.2.2.2.2.1
theorem dX7_agreeAt_23 : decode cX7_agreeAt 23 = .ok (.ireturn, 1) := db_dX7_agreeAt_10.2.2.2.2.2.2.2
theorem db_dX7_edge_0 : decode cX7_edge 0 = .ok (.iconst (-1), 1) ∧ decode cX7_edge 1 = .ok (.istore 4, 2) ∧ decode cX7_edge 3 = .ok (.aload_n 0, 1) ∧ decode cX7_edge 4 = .ok (.iload_n 1, 1) ∧ decode cX7_edge 5 = .ok (.iload_n 2, 1) ∧ decode cX7_edge 6 = .ok (.iconst (-1), 1) ∧ decode cX7_edge 7 = .ok (.invokevirtual 103, 3) ∧ decode cX7_edge 10 = .ok (.istore 5, 2) := by decide +kernel
theorem dX7_edge_0 : decode cX7_edge 0 = .ok (.iconst (-1), 1) := db_dX7_edge_0.1
theorem dX7_edge_1 : decode cX7_edge 1 = .ok (.istore 4, 2) := db_dX7_edge_0.2.1
theorem dX7_edge_3 : decode cX7_edge 3 = .ok (.aload_n 0, 1) := db_dX7_edge_0.2.2.1
theorem dX7_edge_4 : decode cX7_edge 4 = .ok (.iload_n 1, 1) := db_dX7_edge_0.2.2.2.1
theorem dX7_edge_5 : decode cX7_edge 5 = .ok (.iload_n 2, 1) := db_dX7_edge_0.2.2.2.2.1
theorem dX7_edge_6 : decode cX7_edge 6 = .ok (.iconst (-1), 1) := db_dX7_edge_0.2.2.2.2.2.1
theorem dX7_edge_7 : decode cX7_edge 7 = .ok (.invokevirtual 103, 3) := db_dX7_edge_0.2.2.2.2.2.2.1
theorem dX7_edge_10 : decode cX7_edge 10 = .ok (.istore 5, 2) := db_dX7_edge_0.2.2.2.2.2.2.2
theorem db_dX7_edge_12 : decode cX7_edge 12 = .ok (.iload 5, 2) ∧ decode cX7_edge 14 = .ok (.iload_n 3, 1) ∧ decode cX7_edge 15 = .ok (.if_icmp .gt 36, 3) ∧ decode cX7_edge 18 = .ok (.aload_n 0, 1) ∧ decode cX7_edge 19 = .ok (.iload_n 1, 1) ∧ decode cX7_edge 20 = .ok (.iload_n 2, 1) ∧ decode cX7_edge 21 = .ok (.iload 5, 2) ∧ decode cX7_edge 23 = .ok (.invokevirtual 135, 3) := by decide +kernel
theorem dX7_edge_12 : decode cX7_edge 12 = .ok (.iload 5, 2) := db_dX7_edge_12.1
theorem dX7_edge_14 : decode cX7_edge 14 = .ok (.iload_n 3, 1) := db_dX7_edge_12.2.1
theorem dX7_edge_15 : decode cX7_edge 15 = .ok (.if_icmp .gt 36, 3) := db_dX7_edge_12.2.2.1
theorem dX7_edge_18 : decode cX7_edge 18 = .ok (.aload_n 0, 1) := db_dX7_edge_12.2.2.2.1
theorem dX7_edge_19 : decode cX7_edge 19 = .ok (.iload_n 1, 1) := db_dX7_edge_12.2.2.2.2.1
theorem dX7_edge_20 : decode cX7_edge 20 = .ok (.iload_n 2, 1) := db_dX7_edge_12.2.2.2.2.2.1
theorem dX7_edge_21 : decode cX7_edge 21 = .ok (.iload 5, 2) := db_dX7_edge_12.2.2.2.2.2.2.1
theorem dX7_edge_23 : decode cX7_edge 23 = .ok (.invokevirtual 135, 3) := db_dX7_edge_12.2.2.2.2.2.2.2
theorem db_dX7_edge_26 : decode cX7_edge 26 = .ok (.ifCond .eq 8, 3) ∧ decode cX7_edge 29 = .ok (.iload 5, 2) ∧ decode cX7_edge 31 = .ok (.goto 5, 3) ∧ decode cX7_edge 34 = .ok (.iload 4, 2) ∧ decode cX7_edge 36 = .ok (.istore 4, 2) ∧ decode cX7_edge 38 = .ok (.aload_n 0, 1) ∧ decode cX7_edge 39 = .ok (.iload_n 1, 1) ∧ decode cX7_edge 40 = .ok (.iload_n 2, 1) := by decide +kernel
theorem dX7_edge_26 : decode cX7_edge 26 = .ok (.ifCond .eq 8, 3) := db_dX7_edge_26.1
theorem dX7_edge_29 : decode cX7_edge 29 = .ok (.iload 5, 2) := db_dX7_edge_26.2.1
theorem dX7_edge_31 : decode cX7_edge 31 = .ok (.goto 5, 3) := db_dX7_edge_26.2.2.1
theorem dX7_edge_34 : decode cX7_edge 34 = .ok (.iload 4, 2) := db_dX7_edge_26.2.2.2.1
theorem dX7_edge_36 : decode cX7_edge 36 = .ok (.istore 4, 2) := db_dX7_edge_26.2.2.2.2.1
theorem dX7_edge_38 : decode cX7_edge 38 = .ok (.aload_n 0, 1) := db_dX7_edge_26.2.2.2.2.2.1
theorem dX7_edge_39 : decode cX7_edge 39 = .ok (.iload_n 1, 1) := db_dX7_edge_26.2.2.2.2.2.2.1
theorem dX7_edge_40 : decode cX7_edge 40 = .ok (.iload_n 2, 1) := db_dX7_edge_26.2.2.2.2.2.2.2
theorem db_dX7_edge_41 : decode cX7_edge 41 = .ok (.iload 5, 2) ∧ decode cX7_edge 43 = .ok (.invokevirtual 103, 3) ∧ decode cX7_edge 46 = .ok (.istore 5, 2) ∧ decode cX7_edge 48 = .ok (.goto (-36), 3) ∧ decode cX7_edge 51 = .ok (.iload 4, 2) ∧ decode cX7_edge 53 = .ok (.ireturn, 1) := by decide +kernel
theorem dX7_edge_41 : decode cX7_edge 41 = .ok (.iload 5, 2) := db_dX7_edge_41.1
theorem dX7_edge_43 : decode cX7_edge 43 = .ok (.invokevirtual 103, 3) := db_dX7_edge_41.2.1
theorem dX7_edge_46 : decode cX7_edge 46 = .ok (.istore 5, 2) := db_dX7_edge_41.2.2.1
theorem dX7_edge_48 : decode cX7_edge 48 = .ok (.goto (-36), 3) := db_dX7_edge_41.2.2.2.1
theorem dX7_edge_51 : decode cX7_edge 51 = .ok (.iload 4, 2) := db_dX7_edge_41.2.2.2.2.1
theorem dX7_edge_53 : decode cX7_edge 53 = .ok (.ireturn, 1) := db_dX7_edge_41.2.2.2.2.2
theorem db_dX7_inputsAgree_0 : decode cX7_inputsAgree 0 = .ok (.aload_n 0, 1) ∧ decode cX7_inputsAgree 1 = .ok (.getfield 51, 3) ∧ decode cX7_inputsAgree 4 = .ok (.iload_n 1, 1) ∧ decode cX7_inputsAgree 5 = .ok (.iaload, 1) ∧ decode cX7_inputsAgree 6 = .ok (.bipush 6, 2) ∧ decode cX7_inputsAgree 8 = .ok (.if_icmp .ge 47, 3) ∧ decode cX7_inputsAgree 11 = .ok (.aload_n 0, 1) ∧ decode cX7_inputsAgree 12 = .ok (.aload_n 0, 1) := by decide +kernel
theorem dX7_inputsAgree_0 : decode cX7_inputsAgree 0 = .ok (.aload_n 0, 1) := db_dX7_inputsAgree_0.1
theorem dX7_inputsAgree_1 : decode cX7_inputsAgree 1 = .ok (.getfield 51, 3) := db_dX7_inputsAgree_0.2.1
theorem dX7_inputsAgree_4 : decode cX7_inputsAgree 4 = .ok (.iload_n 1, 1) := db_dX7_inputsAgree_0.2.2.1
theorem dX7_inputsAgree_5 : decode cX7_inputsAgree 5 = .ok (.iaload, 1) := db_dX7_inputsAgree_0.2.2.2.1
theorem dX7_inputsAgree_6 : decode cX7_inputsAgree 6 = .ok (.bipush 6, 2) := db_dX7_inputsAgree_0.2.2.2.2.1
theorem dX7_inputsAgree_8 : decode cX7_inputsAgree 8 = .ok (.if_icmp .ge 47, 3) := db_dX7_inputsAgree_0.2.2.2.2.2.1
theorem dX7_inputsAgree_11 : decode cX7_inputsAgree 11 = .ok (.aload_n 0, 1) := db_dX7_inputsAgree_0.2.2.2.2.2.2.1
theorem dX7_inputsAgree_12 : decode cX7_inputsAgree 12 = .ok (.aload_n 0, 1) := db_dX7_inputsAgree_0.2.2.2.2.2.2.2
theorem db_dX7_inputsAgree_13 : decode cX7_inputsAgree 13 = .ok (.getfield 54, 3) ∧ decode cX7_inputsAgree 16 = .ok (.iload_n 1, 1) ∧ decode cX7_inputsAgree 17 = .ok (.iaload, 1) ∧ decode cX7_inputsAgree 18 = .ok (.iload_n 2, 1) ∧ decode cX7_inputsAgree 19 = .ok (.invokevirtual 150, 3) ∧ decode cX7_inputsAgree 22 = .ok (.ifCond .eq 31, 3) ∧ decode cX7_inputsAgree 25 = .ok (.aload_n 0, 1) ∧ decode cX7_inputsAgree 26 = .ok (.getfield 51, 3) := by decide +kernel
theorem dX7_inputsAgree_13 : decode cX7_inputsAgree 13 = .ok (.getfield 54, 3) := db_dX7_inputsAgree_13.1
theorem dX7_inputsAgree_16 : decode cX7_inputsAgree 16 = .ok (.iload_n 1, 1) := db_dX7_inputsAgree_13.2.1
theorem dX7_inputsAgree_17 : decode cX7_inputsAgree 17 = .ok (.iaload, 1) := db_dX7_inputsAgree_13.2.2.1
theorem dX7_inputsAgree_18 : decode cX7_inputsAgree 18 = .ok (.iload_n 2, 1) := db_dX7_inputsAgree_13.2.2.2.1
theorem dX7_inputsAgree_19 : decode cX7_inputsAgree 19 = .ok (.invokevirtual 150, 3) := db_dX7_inputsAgree_13.2.2.2.2.1
theorem dX7_inputsAgree_22 : decode cX7_inputsAgree 22 = .ok (.ifCond .eq 31, 3) := db_dX7_inputsAgree_13.2.2.2.2.2.1
theorem dX7_inputsAgree_25 : decode cX7_inputsAgree 25 = .ok (.aload_n 0, 1) := db_dX7_inputsAgree_13.2.2.2.2.2.2.1
theorem dX7_inputsAgree_26 : decode cX7_inputsAgree 26 = .ok (.getfield 51, 3) := db_dX7_inputsAgree_13.2.2.2.2.2.2.2
theorem db_dX7_inputsAgree_29 : decode cX7_inputsAgree 29 = .ok (.iload_n 1, 1) ∧ decode cX7_inputsAgree 30 = .ok (.iaload, 1) ∧ decode cX7_inputsAgree 31 = .ok (.iconst 1, 1) ∧ decode cX7_inputsAgree 32 = .ok (.if_icmp .eq 17, 3) ∧ decode cX7_inputsAgree 35 = .ok (.aload_n 0, 1) ∧ decode cX7_inputsAgree 36 = .ok (.aload_n 0, 1) ∧ decode cX7_inputsAgree 37 = .ok (.getfield 57, 3) ∧ decode cX7_inputsAgree 40 = .ok (.iload_n 1, 1) := by decide +kernel
theorem dX7_inputsAgree_29 : decode cX7_inputsAgree 29 = .ok (.iload_n 1, 1) := db_dX7_inputsAgree_29.1
theorem dX7_inputsAgree_30 : decode cX7_inputsAgree 30 = .ok (.iaload, 1) := db_dX7_inputsAgree_29.2.1
theorem dX7_inputsAgree_31 : decode cX7_inputsAgree 31 = .ok (.iconst 1, 1) := db_dX7_inputsAgree_29.2.2.1
theorem dX7_inputsAgree_32 : decode cX7_inputsAgree 32 = .ok (.if_icmp .eq 17, 3) := db_dX7_inputsAgree_29.2.2.2.1
theorem dX7_inputsAgree_35 : decode cX7_inputsAgree 35 = .ok (.aload_n 0, 1) := db_dX7_inputsAgree_29.2.2.2.2.1
theorem dX7_inputsAgree_36 : decode cX7_inputsAgree 36 = .ok (.aload_n 0, 1) := db_dX7_inputsAgree_29.2.2.2.2.2.1
theorem dX7_inputsAgree_37 : decode cX7_inputsAgree 37 = .ok (.getfield 57, 3) := db_dX7_inputsAgree_29.2.2.2.2.2.2.1
theorem dX7_inputsAgree_40 : decode cX7_inputsAgree 40 = .ok (.iload_n 1, 1) := db_dX7_inputsAgree_29.2.2.2.2.2.2.2
theorem db_dX7_inputsAgree_41 : decode cX7_inputsAgree 41 = .ok (.iaload, 1) ∧ decode cX7_inputsAgree 42 = .ok (.iload_n 2, 1) ∧ decode cX7_inputsAgree 43 = .ok (.invokevirtual 150, 3) ∧ decode cX7_inputsAgree 46 = .ok (.ifCond .eq 7, 3) ∧ decode cX7_inputsAgree 49 = .ok (.iconst 1, 1) ∧ decode cX7_inputsAgree 50 = .ok (.goto 4, 3) ∧ decode cX7_inputsAgree 53 = .ok (.iconst 0, 1) ∧ decode cX7_inputsAgree 54 = .ok (.ireturn, 1) := by decide +kernel
theorem dX7_inputsAgree_41 : decode cX7_inputsAgree 41 = .ok (.iaload, 1) := db_dX7_inputsAgree_41.1
theorem dX7_inputsAgree_42 : decode cX7_inputsAgree 42 = .ok (.iload_n 2, 1) := db_dX7_inputsAgree_41.2.1
theorem dX7_inputsAgree_43 : decode cX7_inputsAgree 43 = .ok (.invokevirtual 150, 3) := db_dX7_inputsAgree_41.2.2.1
theorem dX7_inputsAgree_46 : decode cX7_inputsAgree 46 = .ok (.ifCond .eq 7, 3) := db_dX7_inputsAgree_41.2.2.2.1
theorem dX7_inputsAgree_49 : decode cX7_inputsAgree 49 = .ok (.iconst 1, 1) := db_dX7_inputsAgree_41.2.2.2.2.1
theorem dX7_inputsAgree_50 : decode cX7_inputsAgree 50 = .ok (.goto 4, 3) := db_dX7_inputsAgree_41.2.2.2.2.2.1
theorem dX7_inputsAgree_53 : decode cX7_inputsAgree 53 = .ok (.iconst 0, 1) := db_dX7_inputsAgree_41.2.2.2.2.2.2.1
theorem dX7_inputsAgree_54 : decode cX7_inputsAgree 54 = .ok (.ireturn, 1) := db_dX7_inputsAgree_41.2.2.2.2.2.2.2
theorem db_dX7_inputsAgree_55 : decode cX7_inputsAgree 55 = .ok (.aload_n 0, 1) ∧ decode cX7_inputsAgree 56 = .ok (.iconst 0, 1) ∧ decode cX7_inputsAgree 57 = .ok (.aload_n 0, 1) ∧ decode cX7_inputsAgree 58 = .ok (.getfield 57, 3) ∧ decode cX7_inputsAgree 61 = .ok (.iload_n 1, 1) ∧ decode cX7_inputsAgree 62 = .ok (.iaload, 1) ∧ decode cX7_inputsAgree 63 = .ok (.iload_n 2, 1) ∧ decode cX7_inputsAgree 64 = .ok (.invokevirtual 153, 3) := by decide +kernel
theorem dX7_inputsAgree_55 : decode cX7_inputsAgree 55 = .ok (.aload_n 0, 1) := db_dX7_inputsAgree_55.1
theorem dX7_inputsAgree_56 : decode cX7_inputsAgree 56 = .ok (.iconst 0, 1) := db_dX7_inputsAgree_55.2.1
theorem dX7_inputsAgree_57 : decode cX7_inputsAgree 57 = .ok (.aload_n 0, 1) := db_dX7_inputsAgree_55.2.2.1
theorem dX7_inputsAgree_58 : decode cX7_inputsAgree 58 = .ok (.getfield 57, 3) := db_dX7_inputsAgree_55.2.2.2.1
theorem dX7_inputsAgree_61 : decode cX7_inputsAgree 61 = .ok (.iload_n 1, 1) := db_dX7_inputsAgree_55.2.2.2.2.1
theorem dX7_inputsAgree_62 : decode cX7_inputsAgree 62 = .ok (.iaload, 1) := db_dX7_inputsAgree_55.2.2.2.2.2.1
theorem dX7_inputsAgree_63 : decode cX7_inputsAgree 63 = .ok (.iload_n 2, 1) := db_dX7_inputsAgree_55.2.2.2.2.2.2.1
theorem dX7_inputsAgree_64 : decode cX7_inputsAgree 64 = .ok (.invokevirtual 153, 3) := db_dX7_inputsAgree_55.2.2.2.2.2.2.2
theorem db_dX7_inputsAgree_67 : decode cX7_inputsAgree 67 = .ok (.istore_n 3, 1) ∧ decode cX7_inputsAgree 68 = .ok (.aload_n 0, 1) ∧ decode cX7_inputsAgree 69 = .ok (.iconst 1, 1) ∧ decode cX7_inputsAgree 70 = .ok (.aload_n 0, 1) ∧ decode cX7_inputsAgree 71 = .ok (.getfield 23, 3) ∧ decode cX7_inputsAgree 74 = .ok (.aload_n 0, 1) ∧ decode cX7_inputsAgree 75 = .ok (.getfield 57, 3) ∧ decode cX7_inputsAgree 78 = .ok (.iload_n 1, 1) := by decide +kernel
theorem dX7_inputsAgree_67 : decode cX7_inputsAgree 67 = .ok (.istore_n 3, 1) := db_dX7_inputsAgree_67.1
theorem dX7_inputsAgree_68 : decode cX7_inputsAgree 68 = .ok (.aload_n 0, 1) := db_dX7_inputsAgree_67.2.1
theorem dX7_inputsAgree_69 : decode cX7_inputsAgree 69 = .ok (.iconst 1, 1) := db_dX7_inputsAgree_67.2.2.1
theorem dX7_inputsAgree_70 : decode cX7_inputsAgree 70 = .ok (.aload_n 0, 1) := db_dX7_inputsAgree_67.2.2.2.1
theorem dX7_inputsAgree_71 : decode cX7_inputsAgree 71 = .ok (.getfield 23, 3) := db_dX7_inputsAgree_67.2.2.2.2.1
theorem dX7_inputsAgree_74 : decode cX7_inputsAgree 74 = .ok (.aload_n 0, 1) := db_dX7_inputsAgree_67.2.2.2.2.2.1
theorem dX7_inputsAgree_75 : decode cX7_inputsAgree 75 = .ok (.getfield 57, 3) := db_dX7_inputsAgree_67.2.2.2.2.2.2.1
theorem dX7_inputsAgree_78 : decode cX7_inputsAgree 78 = .ok (.iload_n 1, 1) := db_dX7_inputsAgree_67.2.2.2.2.2.2.2
theorem db_dX7_inputsAgree_79 : decode cX7_inputsAgree 79 = .ok (.iaload, 1) ∧ decode cX7_inputsAgree 80 = .ok (.iaload, 1) ∧ decode cX7_inputsAgree 81 = .ok (.iload_n 2, 1) ∧ decode cX7_inputsAgree 82 = .ok (.invokevirtual 153, 3) ∧ decode cX7_inputsAgree 85 = .ok (.istore 4, 2) ∧ decode cX7_inputsAgree 87 = .ok (.iload_n 3, 1) ∧ decode cX7_inputsAgree 88 = .ok (.ifCond .lt 29, 3) ∧ decode cX7_inputsAgree 91 = .ok (.iload_n 3, 1) := by decide +kernel
theorem dX7_inputsAgree_79 : decode cX7_inputsAgree 79 = .ok (.iaload, 1) := db_dX7_inputsAgree_79.1
theorem dX7_inputsAgree_80 : decode cX7_inputsAgree 80 = .ok (.iaload, 1) := db_dX7_inputsAgree_79.2.1
theorem dX7_inputsAgree_81 : decode cX7_inputsAgree 81 = .ok (.iload_n 2, 1) := db_dX7_inputsAgree_79.2.2.1
theorem dX7_inputsAgree_82 : decode cX7_inputsAgree 82 = .ok (.invokevirtual 153, 3) := db_dX7_inputsAgree_79.2.2.2.1
theorem dX7_inputsAgree_85 : decode cX7_inputsAgree 85 = .ok (.istore 4, 2) := db_dX7_inputsAgree_79.2.2.2.2.1
theorem dX7_inputsAgree_87 : decode cX7_inputsAgree 87 = .ok (.iload_n 3, 1) := db_dX7_inputsAgree_79.2.2.2.2.2.1
theorem dX7_inputsAgree_88 : decode cX7_inputsAgree 88 = .ok (.ifCond .lt 29, 3) := db_dX7_inputsAgree_79.2.2.2.2.2.2.1
theorem dX7_inputsAgree_91 : decode cX7_inputsAgree 91 = .ok (.iload_n 3, 1) := db_dX7_inputsAgree_79.2.2.2.2.2.2.2
theorem db_dX7_inputsAgree_92 : decode cX7_inputsAgree 92 = .ok (.iload 4, 2) ∧ decode cX7_inputsAgree 94 = .ok (.if_icmp .ne 23, 3) ∧ decode cX7_inputsAgree 97 = .ok (.aload_n 0, 1) ∧ decode cX7_inputsAgree 98 = .ok (.aload_n 0, 1) ∧ decode cX7_inputsAgree 99 = .ok (.getfield 54, 3) ∧ decode cX7_inputsAgree 102 = .ok (.iload_n 1, 1) ∧ decode cX7_inputsAgree 103 = .ok (.iaload, 1) ∧ decode cX7_inputsAgree 104 = .ok (.iload_n 3, 1) := by decide +kernel
theorem dX7_inputsAgree_92 : decode cX7_inputsAgree 92 = .ok (.iload 4, 2) := db_dX7_inputsAgree_92.1
theorem dX7_inputsAgree_94 : decode cX7_inputsAgree 94 = .ok (.if_icmp .ne 23, 3) := db_dX7_inputsAgree_92.2.1
theorem dX7_inputsAgree_97 : decode cX7_inputsAgree 97 = .ok (.aload_n 0, 1) := db_dX7_inputsAgree_92.2.2.1
theorem dX7_inputsAgree_98 : decode cX7_inputsAgree 98 = .ok (.aload_n 0, 1) := db_dX7_inputsAgree_92.2.2.2.1
theorem dX7_inputsAgree_99 : decode cX7_inputsAgree 99 = .ok (.getfield 54, 3) := db_dX7_inputsAgree_92.2.2.2.2.1
theorem dX7_inputsAgree_102 : decode cX7_inputsAgree 102 = .ok (.iload_n 1, 1) := db_dX7_inputsAgree_92.2.2.2.2.2.1
theorem dX7_inputsAgree_103 : decode cX7_inputsAgree 103 = .ok (.iaload, 1) := db_dX7_inputsAgree_92.2.2.2.2.2.2.1
theorem dX7_inputsAgree_104 : decode cX7_inputsAgree 104 = .ok (.iload_n 3, 1) := db_dX7_inputsAgree_92.2.2.2.2.2.2.2
theorem db_dX7_inputsAgree_105 : decode cX7_inputsAgree 105 = .ok (.iconst 1, 1) ∧ decode cX7_inputsAgree 106 = .ok (.isub, 1) ∧ decode cX7_inputsAgree 107 = .ok (.invokevirtual 150, 3) ∧ decode cX7_inputsAgree 110 = .ok (.ifCond .eq 7, 3) ∧ decode cX7_inputsAgree 113 = .ok (.iconst 1, 1) ∧ decode cX7_inputsAgree 114 = .ok (.goto 4, 3) ∧ decode cX7_inputsAgree 117 = .ok (.iconst 0, 1) ∧ decode cX7_inputsAgree 118 = .ok (.ireturn, 1) := by decide +kernel
theorem dX7_inputsAgree_105 : decode cX7_inputsAgree 105 = .ok (.iconst 1, 1) := db_dX7_inputsAgree_105.1
theorem dX7_inputsAgree_106 : decode cX7_inputsAgree 106 = .ok (.isub, 1) := db_dX7_inputsAgree_105.2.1
theorem dX7_inputsAgree_107 : decode cX7_inputsAgree 107 = .ok (.invokevirtual 150, 3) := db_dX7_inputsAgree_105.2.2.1
theorem dX7_inputsAgree_110 : decode cX7_inputsAgree 110 = .ok (.ifCond .eq 7, 3) := db_dX7_inputsAgree_105.2.2.2.1
theorem dX7_inputsAgree_113 : decode cX7_inputsAgree 113 = .ok (.iconst 1, 1) := db_dX7_inputsAgree_105.2.2.2.2.1
theorem dX7_inputsAgree_114 : decode cX7_inputsAgree 114 = .ok (.goto 4, 3) := db_dX7_inputsAgree_105.2.2.2.2.2.1
theorem dX7_inputsAgree_117 : decode cX7_inputsAgree 117 = .ok (.iconst 0, 1) := db_dX7_inputsAgree_105.2.2.2.2.2.2.1
theorem dX7_inputsAgree_118 : decode cX7_inputsAgree 118 = .ok (.ireturn, 1) := db_dX7_inputsAgree_105.2.2.2.2.2.2.2
theorem db_dX7_guilty_0 : decode cX7_guilty 0 = .ok (.iload_n 1, 1) ∧ decode cX7_guilty 1 = .ok (.iconst 0, 1) ∧ decode cX7_guilty 2 = .ok (.aload_n 0, 1) ∧ decode cX7_guilty 3 = .ok (.getfield 7, 3) ∧ decode cX7_guilty 6 = .ok (.iconst 1, 1) ∧ decode cX7_guilty 7 = .ok (.isub, 1) ∧ decode cX7_guilty 8 = .ok (.invokestatic 60, 3) ∧ decode cX7_guilty 11 = .ok (.ifCond .ne 5, 3) := by decide +kernel
theorem dX7_guilty_0 : decode cX7_guilty 0 = .ok (.iload_n 1, 1) := db_dX7_guilty_0.1
theorem dX7_guilty_1 : decode cX7_guilty 1 = .ok (.iconst 0, 1) := db_dX7_guilty_0.2.1
theorem dX7_guilty_2 : decode cX7_guilty 2 = .ok (.aload_n 0, 1) := db_dX7_guilty_0.2.2.1
theorem dX7_guilty_3 : decode cX7_guilty 3 = .ok (.getfield 7, 3) := db_dX7_guilty_0.2.2.2.1
theorem dX7_guilty_6 : decode cX7_guilty 6 = .ok (.iconst 1, 1) := db_dX7_guilty_0.2.2.2.2.1
theorem dX7_guilty_7 : decode cX7_guilty 7 = .ok (.isub, 1) := db_dX7_guilty_0.2.2.2.2.2.1
theorem dX7_guilty_8 : decode cX7_guilty 8 = .ok (.invokestatic 60, 3) := db_dX7_guilty_0.2.2.2.2.2.2.1
theorem dX7_guilty_11 : decode cX7_guilty 11 = .ok (.ifCond .ne 5, 3) := db_dX7_guilty_0.2.2.2.2.2.2.2
theorem db_dX7_guilty_14 : decode cX7_guilty 14 = .ok (.iconst (-1), 1) ∧ decode cX7_guilty 15 = .ok (.ireturn, 1) ∧ decode cX7_guilty 16 = .ok (.iconst 0, 1) ∧ decode cX7_guilty 17 = .ok (.istore_n 2, 1) ∧ decode cX7_guilty 18 = .ok (.iload_n 2, 1) ∧ decode cX7_guilty 19 = .ok (.bipush 12, 2) ∧ decode cX7_guilty 21 = .ok (.if_icmp .ge 38, 3) ∧ decode cX7_guilty 24 = .ok (.aload_n 0, 1) := by decide +kernel
theorem dX7_guilty_14 : decode cX7_guilty 14 = .ok (.iconst (-1), 1) := db_dX7_guilty_14.1
theorem dX7_guilty_15 : decode cX7_guilty 15 = .ok (.ireturn, 1) := db_dX7_guilty_14.2.1
theorem dX7_guilty_16 : decode cX7_guilty 16 = .ok (.iconst 0, 1) := db_dX7_guilty_14.2.2.1
theorem dX7_guilty_17 : decode cX7_guilty 17 = .ok (.istore_n 2, 1) := db_dX7_guilty_14.2.2.2.1
theorem dX7_guilty_18 : decode cX7_guilty 18 = .ok (.iload_n 2, 1) := db_dX7_guilty_14.2.2.2.2.1
theorem dX7_guilty_19 : decode cX7_guilty 19 = .ok (.bipush 12, 2) := db_dX7_guilty_14.2.2.2.2.2.1
theorem dX7_guilty_21 : decode cX7_guilty 21 = .ok (.if_icmp .ge 38, 3) := db_dX7_guilty_14.2.2.2.2.2.2.1
theorem dX7_guilty_24 : decode cX7_guilty 24 = .ok (.aload_n 0, 1) := db_dX7_guilty_14.2.2.2.2.2.2.2
theorem db_dX7_guilty_25 : decode cX7_guilty 25 = .ok (.getfield 51, 3) ∧ decode cX7_guilty 28 = .ok (.iload_n 2, 1) ∧ decode cX7_guilty 29 = .ok (.iaload, 1) ∧ decode cX7_guilty 30 = .ok (.ifCond .le 23, 3) ∧ decode cX7_guilty 33 = .ok (.aload_n 0, 1) ∧ decode cX7_guilty 34 = .ok (.iload_n 2, 1) ∧ decode cX7_guilty 35 = .ok (.iload_n 1, 1) ∧ decode cX7_guilty 36 = .ok (.invokevirtual 150, 3) := by decide +kernel
theorem dX7_guilty_25 : decode cX7_guilty 25 = .ok (.getfield 51, 3) := db_dX7_guilty_25.1
theorem dX7_guilty_28 : decode cX7_guilty 28 = .ok (.iload_n 2, 1) := db_dX7_guilty_25.2.1
theorem dX7_guilty_29 : decode cX7_guilty 29 = .ok (.iaload, 1) := db_dX7_guilty_25.2.2.1
theorem dX7_guilty_30 : decode cX7_guilty 30 = .ok (.ifCond .le 23, 3) := db_dX7_guilty_25.2.2.2.1
theorem dX7_guilty_33 : decode cX7_guilty 33 = .ok (.aload_n 0, 1) := db_dX7_guilty_25.2.2.2.2.1
theorem dX7_guilty_34 : decode cX7_guilty 34 = .ok (.iload_n 2, 1) := db_dX7_guilty_25.2.2.2.2.2.1
theorem dX7_guilty_35 : decode cX7_guilty 35 = .ok (.iload_n 1, 1) := db_dX7_guilty_25.2.2.2.2.2.2.1
theorem dX7_guilty_36 : decode cX7_guilty 36 = .ok (.invokevirtual 150, 3) := db_dX7_guilty_25.2.2.2.2.2.2.2
theorem db_dX7_guilty_39 : decode cX7_guilty 39 = .ok (.ifCond .ne 14, 3) ∧ decode cX7_guilty 42 = .ok (.aload_n 0, 1) ∧ decode cX7_guilty 43 = .ok (.iload_n 2, 1) ∧ decode cX7_guilty 44 = .ok (.iload_n 1, 1) ∧ decode cX7_guilty 45 = .ok (.invokevirtual 156, 3) ∧ decode cX7_guilty 48 = .ok (.ifCond .eq 5, 3) ∧ decode cX7_guilty 51 = .ok (.iload_n 2, 1) ∧ decode cX7_guilty 52 = .ok (.ireturn, 1) := by decide +kernel
theorem dX7_guilty_39 : decode cX7_guilty 39 = .ok (.ifCond .ne 14, 3) := db_dX7_guilty_39.1
theorem dX7_guilty_42 : decode cX7_guilty 42 = .ok (.aload_n 0, 1) := db_dX7_guilty_39.2.1
theorem dX7_guilty_43 : decode cX7_guilty 43 = .ok (.iload_n 2, 1) := db_dX7_guilty_39.2.2.1
theorem dX7_guilty_44 : decode cX7_guilty 44 = .ok (.iload_n 1, 1) := db_dX7_guilty_39.2.2.2.1
theorem dX7_guilty_45 : decode cX7_guilty 45 = .ok (.invokevirtual 156, 3) := db_dX7_guilty_39.2.2.2.2.1
theorem dX7_guilty_48 : decode cX7_guilty 48 = .ok (.ifCond .eq 5, 3) := db_dX7_guilty_39.2.2.2.2.2.1
theorem dX7_guilty_51 : decode cX7_guilty 51 = .ok (.iload_n 2, 1) := db_dX7_guilty_39.2.2.2.2.2.2.1
theorem dX7_guilty_52 : decode cX7_guilty 52 = .ok (.ireturn, 1) := db_dX7_guilty_39.2.2.2.2.2.2.2
theorem db_dX7_guilty_53 : decode cX7_guilty 53 = .ok (.iinc 2 1, 3) ∧ decode cX7_guilty 56 = .ok (.goto (-38), 3) ∧ decode cX7_guilty 59 = .ok (.bipush (-4), 2) ∧ decode cX7_guilty 61 = .ok (.ireturn, 1) := by decide +kernel
theorem dX7_guilty_53 : decode cX7_guilty 53 = .ok (.iinc 2 1, 3) := db_dX7_guilty_53.1
theorem dX7_guilty_56 : decode cX7_guilty 56 = .ok (.goto (-38), 3) := db_dX7_guilty_53.2.1
theorem dX7_guilty_59 : decode cX7_guilty 59 = .ok (.bipush (-4), 2) := db_dX7_guilty_53.2.2.1
theorem dX7_guilty_61 : decode cX7_guilty 61 = .ok (.ireturn, 1) := db_dX7_guilty_53.2.2.2
theorem db_dX7_behave_0 : decode cX7_behave 0 = .ok (.iconst 1, 1) ∧ decode cX7_behave 1 = .ok (.istore_n 3, 1) ∧ decode cX7_behave 2 = .ok (.iconst 0, 1) ∧ decode cX7_behave 3 = .ok (.istore 4, 2) ∧ decode cX7_behave 5 = .ok (.iload 4, 2) ∧ decode cX7_behave 7 = .ok (.aload_n 0, 1) ∧ decode cX7_behave 8 = .ok (.getfield 7, 3) ∧ decode cX7_behave 11 = .ok (.if_icmp .ge 52, 3) := by decide +kernel
theorem dX7_behave_0 : decode cX7_behave 0 = .ok (.iconst 1, 1) := db_dX7_behave_0.1
theorem dX7_behave_1 : decode cX7_behave 1 = .ok (.istore_n 3, 1) := db_dX7_behave_0.2.1
theorem dX7_behave_2 : decode cX7_behave 2 = .ok (.iconst 0, 1) := db_dX7_behave_0.2.2.1
theorem dX7_behave_3 : decode cX7_behave 3 = .ok (.istore 4, 2) := db_dX7_behave_0.2.2.2.1
theorem dX7_behave_5 : decode cX7_behave 5 = .ok (.iload 4, 2) := db_dX7_behave_0.2.2.2.2.1
theorem dX7_behave_7 : decode cX7_behave 7 = .ok (.aload_n 0, 1) := db_dX7_behave_0.2.2.2.2.2.1
theorem dX7_behave_8 : decode cX7_behave 8 = .ok (.getfield 7, 3) := db_dX7_behave_0.2.2.2.2.2.2.1
theorem dX7_behave_11 : decode cX7_behave 11 = .ok (.if_icmp .ge 52, 3) := db_dX7_behave_0.2.2.2.2.2.2.2
theorem db_dX7_behave_14 : decode cX7_behave 14 = .ok (.iload_n 3, 1) ∧ decode cX7_behave 15 = .ok (.ifCond .eq 48, 3) ∧ decode cX7_behave 18 = .ok (.aload_n 0, 1) ∧ decode cX7_behave 19 = .ok (.aload_n 0, 1) ∧ decode cX7_behave 20 = .ok (.iconst 0, 1) ∧ decode cX7_behave 21 = .ok (.iload_n 1, 1) ∧ decode cX7_behave 22 = .ok (.iload 4, 2) ∧ decode cX7_behave 24 = .ok (.invokevirtual 83, 3) := by decide +kernel
theorem dX7_behave_14 : decode cX7_behave 14 = .ok (.iload_n 3, 1) := db_dX7_behave_14.1
theorem dX7_behave_15 : decode cX7_behave 15 = .ok (.ifCond .eq 48, 3) := db_dX7_behave_14.2.1
theorem dX7_behave_18 : decode cX7_behave 18 = .ok (.aload_n 0, 1) := db_dX7_behave_14.2.2.1
theorem dX7_behave_19 : decode cX7_behave 19 = .ok (.aload_n 0, 1) := db_dX7_behave_14.2.2.2.1
theorem dX7_behave_20 : decode cX7_behave 20 = .ok (.iconst 0, 1) := db_dX7_behave_14.2.2.2.2.1
theorem dX7_behave_21 : decode cX7_behave 21 = .ok (.iload_n 1, 1) := db_dX7_behave_14.2.2.2.2.2.1
theorem dX7_behave_22 : decode cX7_behave 22 = .ok (.iload 4, 2) := db_dX7_behave_14.2.2.2.2.2.2.1
theorem dX7_behave_24 : decode cX7_behave 24 = .ok (.invokevirtual 83, 3) := db_dX7_behave_14.2.2.2.2.2.2.2
theorem db_dX7_behave_27 : decode cX7_behave 27 = .ok (.aload_n 0, 1) ∧ decode cX7_behave 28 = .ok (.iconst 1, 1) ∧ decode cX7_behave 29 = .ok (.iload_n 2, 1) ∧ decode cX7_behave 30 = .ok (.iload 4, 2) ∧ decode cX7_behave 32 = .ok (.invokevirtual 83, 3) ∧ decode cX7_behave 35 = .ok (.invokevirtual 97, 3) ∧ decode cX7_behave 38 = .ok (.istore_n 3, 1) ∧ decode cX7_behave 39 = .ok (.aload_n 0, 1) := by decide +kernel
theorem dX7_behave_27 : decode cX7_behave 27 = .ok (.aload_n 0, 1) := db_dX7_behave_27.1
theorem dX7_behave_28 : decode cX7_behave 28 = .ok (.iconst 1, 1) := db_dX7_behave_27.2.1
theorem dX7_behave_29 : decode cX7_behave 29 = .ok (.iload_n 2, 1) := db_dX7_behave_27.2.2.1
theorem dX7_behave_30 : decode cX7_behave 30 = .ok (.iload 4, 2) := db_dX7_behave_27.2.2.2.1
theorem dX7_behave_32 : decode cX7_behave 32 = .ok (.invokevirtual 83, 3) := db_dX7_behave_27.2.2.2.2.1
theorem dX7_behave_35 : decode cX7_behave 35 = .ok (.invokevirtual 97, 3) := db_dX7_behave_27.2.2.2.2.2.1
theorem dX7_behave_38 : decode cX7_behave 38 = .ok (.istore_n 3, 1) := db_dX7_behave_27.2.2.2.2.2.2.1
theorem dX7_behave_39 : decode cX7_behave 39 = .ok (.aload_n 0, 1) := db_dX7_behave_27.2.2.2.2.2.2.2
theorem db_dX7_behave_40 : decode cX7_behave 40 = .ok (.iconst 0, 1) ∧ decode cX7_behave 41 = .ok (.iload_n 1, 1) ∧ decode cX7_behave 42 = .ok (.iload 4, 2) ∧ decode cX7_behave 44 = .ok (.invokevirtual 103, 3) ∧ decode cX7_behave 47 = .ok (.aload_n 0, 1) ∧ decode cX7_behave 48 = .ok (.iconst 1, 1) ∧ decode cX7_behave 49 = .ok (.iload_n 2, 1) ∧ decode cX7_behave 50 = .ok (.iload 4, 2) := by decide +kernel
theorem dX7_behave_40 : decode cX7_behave 40 = .ok (.iconst 0, 1) := db_dX7_behave_40.1
theorem dX7_behave_41 : decode cX7_behave 41 = .ok (.iload_n 1, 1) := db_dX7_behave_40.2.1
theorem dX7_behave_42 : decode cX7_behave 42 = .ok (.iload 4, 2) := db_dX7_behave_40.2.2.1
theorem dX7_behave_44 : decode cX7_behave 44 = .ok (.invokevirtual 103, 3) := db_dX7_behave_40.2.2.2.1
theorem dX7_behave_47 : decode cX7_behave 47 = .ok (.aload_n 0, 1) := db_dX7_behave_40.2.2.2.2.1
theorem dX7_behave_48 : decode cX7_behave 48 = .ok (.iconst 1, 1) := db_dX7_behave_40.2.2.2.2.2.1
theorem dX7_behave_49 : decode cX7_behave 49 = .ok (.iload_n 2, 1) := db_dX7_behave_40.2.2.2.2.2.2.1
theorem dX7_behave_50 : decode cX7_behave 50 = .ok (.iload 4, 2) := db_dX7_behave_40.2.2.2.2.2.2.2
theorem db_dX7_behave_52 : decode cX7_behave 52 = .ok (.invokevirtual 103, 3) ∧ decode cX7_behave 55 = .ok (.invokestatic 106, 3) ∧ decode cX7_behave 58 = .ok (.istore 4, 2) ∧ decode cX7_behave 60 = .ok (.goto (-55), 3) ∧ decode cX7_behave 63 = .ok (.iload_n 3, 1) ∧ decode cX7_behave 64 = .ok (.ireturn, 1) := by decide +kernel
theorem dX7_behave_52 : decode cX7_behave 52 = .ok (.invokevirtual 103, 3) := db_dX7_behave_52.1
theorem dX7_behave_55 : decode cX7_behave 55 = .ok (.invokestatic 106, 3) := db_dX7_behave_52.2.1
theorem dX7_behave_58 : decode cX7_behave 58 = .ok (.istore 4, 2) := db_dX7_behave_52.2.2.1
theorem dX7_behave_60 : decode cX7_behave 60 = .ok (.goto (-55), 3) := db_dX7_behave_52.2.2.2.1
theorem dX7_behave_63 : decode cX7_behave 63 = .ok (.iload_n 3, 1) := db_dX7_behave_52.2.2.2.2.1
theorem dX7_behave_64 : decode cX7_behave 64 = .ok (.ireturn, 1) := db_dX7_behave_52.2.2.2.2.2
theorem db_dX7_alike_0 : decode cX7_alike 0 = .ok (.iload_n 1, 1) ∧ decode cX7_alike 1 = .ok (.invokestatic 64, 3) ∧ decode cX7_alike 4 = .ok (.ifCond .ne 5, 3) ∧ decode cX7_alike 7 = .ok (.iconst (-1), 1) ∧ decode cX7_alike 8 = .ok (.ireturn, 1) ∧ decode cX7_alike 9 = .ok (.iconst 0, 1) ∧ decode cX7_alike 10 = .ok (.istore_n 2, 1) ∧ decode cX7_alike 11 = .ok (.iconst 0, 1) := by decide +kernel
theorem dX7_alike_0 : decode cX7_alike 0 = .ok (.iload_n 1, 1) := db_dX7_alike_0.1
theorem dX7_alike_1 : decode cX7_alike 1 = .ok (.invokestatic 64, 3) := db_dX7_alike_0.2.1
theorem dX7_alike_4 : decode cX7_alike 4 = .ok (.ifCond .ne 5, 3) := db_dX7_alike_0.2.2.1
theorem dX7_alike_7 : decode cX7_alike 7 = .ok (.iconst (-1), 1) := db_dX7_alike_0.2.2.2.1
theorem dX7_alike_8 : decode cX7_alike 8 = .ok (.ireturn, 1) := db_dX7_alike_0.2.2.2.2.1
theorem dX7_alike_9 : decode cX7_alike 9 = .ok (.iconst 0, 1) := db_dX7_alike_0.2.2.2.2.2.1
theorem dX7_alike_10 : decode cX7_alike 10 = .ok (.istore_n 2, 1) := db_dX7_alike_0.2.2.2.2.2.2.1
theorem dX7_alike_11 : decode cX7_alike 11 = .ok (.iconst 0, 1) := db_dX7_alike_0.2.2.2.2.2.2.2
theorem db_dX7_alike_12 : decode cX7_alike 12 = .ok (.istore_n 3, 1) ∧ decode cX7_alike 13 = .ok (.iload_n 3, 1) ∧ decode cX7_alike 14 = .ok (.bipush 12, 2) ∧ decode cX7_alike 16 = .ok (.if_icmp .ge 28, 3) ∧ decode cX7_alike 19 = .ok (.iload_n 2, 1) ∧ decode cX7_alike 20 = .ok (.aload_n 0, 1) ∧ decode cX7_alike 21 = .ok (.iload_n 1, 1) ∧ decode cX7_alike 22 = .ok (.iload_n 3, 1) := by decide +kernel
theorem dX7_alike_12 : decode cX7_alike 12 = .ok (.istore_n 3, 1) := db_dX7_alike_12.1
theorem dX7_alike_13 : decode cX7_alike 13 = .ok (.iload_n 3, 1) := db_dX7_alike_12.2.1
theorem dX7_alike_14 : decode cX7_alike 14 = .ok (.bipush 12, 2) := db_dX7_alike_12.2.2.1
theorem dX7_alike_16 : decode cX7_alike 16 = .ok (.if_icmp .ge 28, 3) := db_dX7_alike_12.2.2.2.1
theorem dX7_alike_19 : decode cX7_alike 19 = .ok (.iload_n 2, 1) := db_dX7_alike_12.2.2.2.2.1
theorem dX7_alike_20 : decode cX7_alike 20 = .ok (.aload_n 0, 1) := db_dX7_alike_12.2.2.2.2.2.1
theorem dX7_alike_21 : decode cX7_alike 21 = .ok (.iload_n 1, 1) := db_dX7_alike_12.2.2.2.2.2.2.1
theorem dX7_alike_22 : decode cX7_alike 22 = .ok (.iload_n 3, 1) := db_dX7_alike_12.2.2.2.2.2.2.2
theorem db_dX7_alike_23 : decode cX7_alike 23 = .ok (.invokevirtual 159, 3) ∧ decode cX7_alike 26 = .ok (.ifCond .eq 9, 3) ∧ decode cX7_alike 29 = .ok (.iconst 1, 1) ∧ decode cX7_alike 30 = .ok (.iload_n 3, 1) ∧ decode cX7_alike 31 = .ok (.ishl, 1) ∧ decode cX7_alike 32 = .ok (.goto 4, 3) ∧ decode cX7_alike 35 = .ok (.iconst 0, 1) ∧ decode cX7_alike 36 = .ok (.ior, 1) := by decide +kernel
theorem dX7_alike_23 : decode cX7_alike 23 = .ok (.invokevirtual 159, 3) := db_dX7_alike_23.1
theorem dX7_alike_26 : decode cX7_alike 26 = .ok (.ifCond .eq 9, 3) := db_dX7_alike_23.2.1
theorem dX7_alike_29 : decode cX7_alike 29 = .ok (.iconst 1, 1) := db_dX7_alike_23.2.2.1
theorem dX7_alike_30 : decode cX7_alike 30 = .ok (.iload_n 3, 1) := db_dX7_alike_23.2.2.2.1
theorem dX7_alike_31 : decode cX7_alike 31 = .ok (.ishl, 1) := db_dX7_alike_23.2.2.2.2.1
theorem dX7_alike_32 : decode cX7_alike 32 = .ok (.goto 4, 3) := db_dX7_alike_23.2.2.2.2.2.1
theorem dX7_alike_35 : decode cX7_alike 35 = .ok (.iconst 0, 1) := db_dX7_alike_23.2.2.2.2.2.2.1
theorem dX7_alike_36 : decode cX7_alike 36 = .ok (.ior, 1) := db_dX7_alike_23.2.2.2.2.2.2.2
theorem db_dX7_alike_37 : decode cX7_alike 37 = .ok (.istore_n 2, 1) ∧ decode cX7_alike 38 = .ok (.iinc 3 1, 3) ∧ decode cX7_alike 41 = .ok (.goto (-28), 3) ∧ decode cX7_alike 44 = .ok (.iload_n 2, 1) ∧ decode cX7_alike 45 = .ok (.ireturn, 1) := by decide +kernel
theorem dX7_alike_37 : decode cX7_alike 37 = .ok (.istore_n 2, 1) := db_dX7_alike_37.1
theorem dX7_alike_38 : decode cX7_alike 38 = .ok (.iinc 3 1, 3) := db_dX7_alike_37.2.1
theorem dX7_alike_41 : decode cX7_alike 41 = .ok (.goto (-28), 3) := db_dX7_alike_37.2.2.1
theorem dX7_alike_44 : decode cX7_alike 44 = .ok (.iload_n 2, 1) := db_dX7_alike_37.2.2.2.1
theorem dX7_alike_45 : decode cX7_alike 45 = .ok (.ireturn, 1) := db_dX7_alike_37.2.2.2.2
theorem db_dX7_holds_0 : decode cX7_holds 0 = .ok (.iload_n 1, 1) ∧ decode cX7_holds 1 = .ok (.iload_n 2, 1) ∧ decode cX7_holds 2 = .ok (.invokestatic 68, 3) ∧ decode cX7_holds 5 = .ok (.ifCond .eq 62, 3) ∧ decode cX7_holds 8 = .ok (.iload_n 3, 1) ∧ decode cX7_holds 9 = .ok (.iconst 0, 1) ∧ decode cX7_holds 10 = .ok (.sipush 256, 3) ∧ decode cX7_holds 13 = .ok (.invokestatic 60, 3) := by decide +kernel
theorem dX7_holds_0 : decode cX7_holds 0 = .ok (.iload_n 1, 1) := db_dX7_holds_0.1
theorem dX7_holds_1 : decode cX7_holds 1 = .ok (.iload_n 2, 1) := db_dX7_holds_0.2.1
theorem dX7_holds_2 : decode cX7_holds 2 = .ok (.invokestatic 68, 3) := db_dX7_holds_0.2.2.1
theorem dX7_holds_5 : decode cX7_holds 5 = .ok (.ifCond .eq 62, 3) := db_dX7_holds_0.2.2.2.1
theorem dX7_holds_8 : decode cX7_holds 8 = .ok (.iload_n 3, 1) := db_dX7_holds_0.2.2.2.2.1
theorem dX7_holds_9 : decode cX7_holds 9 = .ok (.iconst 0, 1) := db_dX7_holds_0.2.2.2.2.2.1
theorem dX7_holds_10 : decode cX7_holds 10 = .ok (.sipush 256, 3) := db_dX7_holds_0.2.2.2.2.2.2.1
theorem dX7_holds_13 : decode cX7_holds 13 = .ok (.invokestatic 60, 3) := db_dX7_holds_0.2.2.2.2.2.2.2
theorem db_dX7_holds_16 : decode cX7_holds 16 = .ok (.ifCond .eq 51, 3) ∧ decode cX7_holds 19 = .ok (.iload 4, 2) ∧ decode cX7_holds 21 = .ok (.invokestatic 64, 3) ∧ decode cX7_holds 24 = .ok (.ifCond .eq 43, 3) ∧ decode cX7_holds 27 = .ok (.iload 5, 2) ∧ decode cX7_holds 29 = .ok (.iconst 0, 1) ∧ decode cX7_holds 30 = .ok (.sipush 256, 3) ∧ decode cX7_holds 33 = .ok (.invokestatic 60, 3) := by decide +kernel
theorem dX7_holds_16 : decode cX7_holds 16 = .ok (.ifCond .eq 51, 3) := db_dX7_holds_16.1
theorem dX7_holds_19 : decode cX7_holds 19 = .ok (.iload 4, 2) := db_dX7_holds_16.2.1
theorem dX7_holds_21 : decode cX7_holds 21 = .ok (.invokestatic 64, 3) := db_dX7_holds_16.2.2.1
theorem dX7_holds_24 : decode cX7_holds 24 = .ok (.ifCond .eq 43, 3) := db_dX7_holds_16.2.2.2.1
theorem dX7_holds_27 : decode cX7_holds 27 = .ok (.iload 5, 2) := db_dX7_holds_16.2.2.2.2.1
theorem dX7_holds_29 : decode cX7_holds 29 = .ok (.iconst 0, 1) := db_dX7_holds_16.2.2.2.2.2.1
theorem dX7_holds_30 : decode cX7_holds 30 = .ok (.sipush 256, 3) := db_dX7_holds_16.2.2.2.2.2.2.1
theorem dX7_holds_33 : decode cX7_holds 33 = .ok (.invokestatic 60, 3) := db_dX7_holds_16.2.2.2.2.2.2.2
theorem db_dX7_holds_36 : decode cX7_holds 36 = .ok (.ifCond .eq 31, 3) ∧ decode cX7_holds 39 = .ok (.iload 6, 2) ∧ decode cX7_holds 41 = .ok (.iconst 1, 1) ∧ decode cX7_holds 42 = .ok (.sipush 4000, 3) ∧ decode cX7_holds 45 = .ok (.invokestatic 60, 3) ∧ decode cX7_holds 48 = .ok (.ifCond .eq 19, 3) ∧ decode cX7_holds 51 = .ok (.iload 7, 2) ∧ decode cX7_holds 53 = .ok (.iconst (-1), 1) := by decide +kernel
theorem dX7_holds_36 : decode cX7_holds 36 = .ok (.ifCond .eq 31, 3) := db_dX7_holds_36.1
theorem dX7_holds_39 : decode cX7_holds 39 = .ok (.iload 6, 2) := db_dX7_holds_36.2.1
theorem dX7_holds_41 : decode cX7_holds 41 = .ok (.iconst 1, 1) := db_dX7_holds_36.2.2.1
theorem dX7_holds_42 : decode cX7_holds 42 = .ok (.sipush 4000, 3) := db_dX7_holds_36.2.2.2.1
theorem dX7_holds_45 : decode cX7_holds 45 = .ok (.invokestatic 60, 3) := db_dX7_holds_36.2.2.2.2.1
theorem dX7_holds_48 : decode cX7_holds 48 = .ok (.ifCond .eq 19, 3) := db_dX7_holds_36.2.2.2.2.2.1
theorem dX7_holds_51 : decode cX7_holds 51 = .ok (.iload 7, 2) := db_dX7_holds_36.2.2.2.2.2.2.1
theorem dX7_holds_53 : decode cX7_holds 53 = .ok (.iconst (-1), 1) := db_dX7_holds_36.2.2.2.2.2.2.2
theorem db_dX7_holds_54 : decode cX7_holds 54 = .ok (.if_icmp .lt 13, 3) ∧ decode cX7_holds 57 = .ok (.iload 8, 2) ∧ decode cX7_holds 59 = .ok (.iconst 0, 1) ∧ decode cX7_holds 60 = .ok (.iconst 1, 1) ∧ decode cX7_holds 61 = .ok (.invokestatic 60, 3) ∧ decode cX7_holds 64 = .ok (.ifCond .ne 5, 3) ∧ decode cX7_holds 67 = .ok (.iconst (-1), 1) ∧ decode cX7_holds 68 = .ok (.ireturn, 1) := by decide +kernel
theorem dX7_holds_54 : decode cX7_holds 54 = .ok (.if_icmp .lt 13, 3) := db_dX7_holds_54.1
theorem dX7_holds_57 : decode cX7_holds 57 = .ok (.iload 8, 2) := db_dX7_holds_54.2.1
theorem dX7_holds_59 : decode cX7_holds 59 = .ok (.iconst 0, 1) := db_dX7_holds_54.2.2.1
theorem dX7_holds_60 : decode cX7_holds 60 = .ok (.iconst 1, 1) := db_dX7_holds_54.2.2.2.1
theorem dX7_holds_61 : decode cX7_holds 61 = .ok (.invokestatic 60, 3) := db_dX7_holds_54.2.2.2.2.1
theorem dX7_holds_64 : decode cX7_holds 64 = .ok (.ifCond .ne 5, 3) := db_dX7_holds_54.2.2.2.2.2.1
theorem dX7_holds_67 : decode cX7_holds 67 = .ok (.iconst (-1), 1) := db_dX7_holds_54.2.2.2.2.2.2.1
theorem dX7_holds_68 : decode cX7_holds 68 = .ok (.ireturn, 1) := db_dX7_holds_54.2.2.2.2.2.2.2
theorem db_dX7_holds_69 : decode cX7_holds 69 = .ok (.iconst 0, 1) ∧ decode cX7_holds 70 = .ok (.istore 9, 2) ∧ decode cX7_holds 72 = .ok (.iconst (-1), 1) ∧ decode cX7_holds 73 = .ok (.istore 10, 2) ∧ decode cX7_holds 75 = .ok (.bipush (-4), 2) ∧ decode cX7_holds 77 = .ok (.istore 11, 2) ∧ decode cX7_holds 79 = .ok (.iconst 0, 1) ∧ decode cX7_holds 80 = .ok (.istore 12, 2) := by decide +kernel
theorem dX7_holds_69 : decode cX7_holds 69 = .ok (.iconst 0, 1) := db_dX7_holds_69.1
theorem dX7_holds_70 : decode cX7_holds 70 = .ok (.istore 9, 2) := db_dX7_holds_69.2.1
theorem dX7_holds_72 : decode cX7_holds 72 = .ok (.iconst (-1), 1) := db_dX7_holds_69.2.2.1
theorem dX7_holds_73 : decode cX7_holds 73 = .ok (.istore 10, 2) := db_dX7_holds_69.2.2.2.1
theorem dX7_holds_75 : decode cX7_holds 75 = .ok (.bipush (-4), 2) := db_dX7_holds_69.2.2.2.2.1
theorem dX7_holds_77 : decode cX7_holds 77 = .ok (.istore 11, 2) := db_dX7_holds_69.2.2.2.2.2.1
theorem dX7_holds_79 : decode cX7_holds 79 = .ok (.iconst 0, 1) := db_dX7_holds_69.2.2.2.2.2.2.1
theorem dX7_holds_80 : decode cX7_holds 80 = .ok (.istore 12, 2) := db_dX7_holds_69.2.2.2.2.2.2.2
theorem db_dX7_holds_82 : decode cX7_holds 82 = .ok (.iload 12, 2) ∧ decode cX7_holds 84 = .ok (.aload_n 0, 1) ∧ decode cX7_holds 85 = .ok (.getfield 7, 3) ∧ decode cX7_holds 88 = .ok (.if_icmp .gt 171, 3) ∧ decode cX7_holds 91 = .ok (.iload 12, 2) ∧ decode cX7_holds 93 = .ok (.aload_n 0, 1) ∧ decode cX7_holds 94 = .ok (.getfield 7, 3) ∧ decode cX7_holds 97 = .ok (.if_icmp .ge 39, 3) := by decide +kernel
theorem dX7_holds_82 : decode cX7_holds 82 = .ok (.iload 12, 2) := db_dX7_holds_82.1
theorem dX7_holds_84 : decode cX7_holds 84 = .ok (.aload_n 0, 1) := db_dX7_holds_82.2.1
theorem dX7_holds_85 : decode cX7_holds 85 = .ok (.getfield 7, 3) := db_dX7_holds_82.2.2.1
theorem dX7_holds_88 : decode cX7_holds 88 = .ok (.if_icmp .gt 171, 3) := db_dX7_holds_82.2.2.2.1
theorem dX7_holds_91 : decode cX7_holds 91 = .ok (.iload 12, 2) := db_dX7_holds_82.2.2.2.2.1
theorem dX7_holds_93 : decode cX7_holds 93 = .ok (.aload_n 0, 1) := db_dX7_holds_82.2.2.2.2.2.1
theorem dX7_holds_94 : decode cX7_holds 94 = .ok (.getfield 7, 3) := db_dX7_holds_82.2.2.2.2.2.2.1
theorem dX7_holds_97 : decode cX7_holds 97 = .ok (.if_icmp .ge 39, 3) := db_dX7_holds_82.2.2.2.2.2.2.2
theorem db_dX7_holds_100 : decode cX7_holds 100 = .ok (.aload_n 0, 1) ∧ decode cX7_holds 101 = .ok (.iload_n 1, 1) ∧ decode cX7_holds 102 = .ok (.iload_n 2, 1) ∧ decode cX7_holds 103 = .ok (.iload 12, 2) ∧ decode cX7_holds 105 = .ok (.invokevirtual 83, 3) ∧ decode cX7_holds 108 = .ok (.iload_n 3, 1) ∧ decode cX7_holds 109 = .ok (.if_icmp .ne 27, 3) ∧ decode cX7_holds 112 = .ok (.iload_n 2, 1) := by decide +kernel
theorem dX7_holds_100 : decode cX7_holds 100 = .ok (.aload_n 0, 1) := db_dX7_holds_100.1
theorem dX7_holds_101 : decode cX7_holds 101 = .ok (.iload_n 1, 1) := db_dX7_holds_100.2.1
theorem dX7_holds_102 : decode cX7_holds 102 = .ok (.iload_n 2, 1) := db_dX7_holds_100.2.2.1
theorem dX7_holds_103 : decode cX7_holds 103 = .ok (.iload 12, 2) := db_dX7_holds_100.2.2.2.1
theorem dX7_holds_105 : decode cX7_holds 105 = .ok (.invokevirtual 83, 3) := db_dX7_holds_100.2.2.2.2.1
theorem dX7_holds_108 : decode cX7_holds 108 = .ok (.iload_n 3, 1) := db_dX7_holds_100.2.2.2.2.2.1
theorem dX7_holds_109 : decode cX7_holds 109 = .ok (.if_icmp .ne 27, 3) := db_dX7_holds_100.2.2.2.2.2.2.1
theorem dX7_holds_112 : decode cX7_holds 112 = .ok (.iload_n 2, 1) := db_dX7_holds_100.2.2.2.2.2.2.2
theorem db_dX7_holds_113 : decode cX7_holds 113 = .ok (.iload 4, 2) ∧ decode cX7_holds 115 = .ok (.if_icmp .eq 17, 3) ∧ decode cX7_holds 118 = .ok (.aload_n 0, 1) ∧ decode cX7_holds 119 = .ok (.iload_n 1, 1) ∧ decode cX7_holds 120 = .ok (.iload 4, 2) ∧ decode cX7_holds 122 = .ok (.iload 12, 2) ∧ decode cX7_holds 124 = .ok (.invokevirtual 83, 3) ∧ decode cX7_holds 127 = .ok (.iload 5, 2) := by decide +kernel
theorem dX7_holds_113 : decode cX7_holds 113 = .ok (.iload 4, 2) := db_dX7_holds_113.1
theorem dX7_holds_115 : decode cX7_holds 115 = .ok (.if_icmp .eq 17, 3) := db_dX7_holds_113.2.1
theorem dX7_holds_118 : decode cX7_holds 118 = .ok (.aload_n 0, 1) := db_dX7_holds_113.2.2.1
theorem dX7_holds_119 : decode cX7_holds 119 = .ok (.iload_n 1, 1) := db_dX7_holds_113.2.2.2.1
theorem dX7_holds_120 : decode cX7_holds 120 = .ok (.iload 4, 2) := db_dX7_holds_113.2.2.2.2.1
theorem dX7_holds_122 : decode cX7_holds 122 = .ok (.iload 12, 2) := db_dX7_holds_113.2.2.2.2.2.1
theorem dX7_holds_124 : decode cX7_holds 124 = .ok (.invokevirtual 83, 3) := db_dX7_holds_113.2.2.2.2.2.2.1
theorem dX7_holds_127 : decode cX7_holds 127 = .ok (.iload 5, 2) := db_dX7_holds_113.2.2.2.2.2.2.2
theorem db_dX7_holds_129 : decode cX7_holds 129 = .ok (.if_icmp .eq 7, 3) ∧ decode cX7_holds 132 = .ok (.iconst 1, 1) ∧ decode cX7_holds 133 = .ok (.goto 4, 3) ∧ decode cX7_holds 136 = .ok (.iconst 0, 1) ∧ decode cX7_holds 137 = .ok (.istore 13, 2) ∧ decode cX7_holds 139 = .ok (.iload 13, 2) ∧ decode cX7_holds 141 = .ok (.ifCond .eq 12, 3) ∧ decode cX7_holds 144 = .ok (.iload 10, 2) := by decide +kernel
theorem dX7_holds_129 : decode cX7_holds 129 = .ok (.if_icmp .eq 7, 3) := db_dX7_holds_129.1
theorem dX7_holds_132 : decode cX7_holds 132 = .ok (.iconst 1, 1) := db_dX7_holds_129.2.1
theorem dX7_holds_133 : decode cX7_holds 133 = .ok (.goto 4, 3) := db_dX7_holds_129.2.2.1
theorem dX7_holds_136 : decode cX7_holds 136 = .ok (.iconst 0, 1) := db_dX7_holds_129.2.2.2.1
theorem dX7_holds_137 : decode cX7_holds 137 = .ok (.istore 13, 2) := db_dX7_holds_129.2.2.2.2.1
theorem dX7_holds_139 : decode cX7_holds 139 = .ok (.iload 13, 2) := db_dX7_holds_129.2.2.2.2.2.1
theorem dX7_holds_141 : decode cX7_holds 141 = .ok (.ifCond .eq 12, 3) := db_dX7_holds_129.2.2.2.2.2.2.1
theorem dX7_holds_144 : decode cX7_holds 144 = .ok (.iload 10, 2) := db_dX7_holds_129.2.2.2.2.2.2.2
theorem db_dX7_holds_146 : decode cX7_holds 146 = .ok (.ifCond .ge 7, 3) ∧ decode cX7_holds 149 = .ok (.iload 12, 2) ∧ decode cX7_holds 151 = .ok (.istore 10, 2) ∧ decode cX7_holds 153 = .ok (.iload 13, 2) ∧ decode cX7_holds 155 = .ok (.ifCond .ne 50, 3) ∧ decode cX7_holds 158 = .ok (.iload 10, 2) ∧ decode cX7_holds 160 = .ok (.ifCond .lt 45, 3) ∧ decode cX7_holds 163 = .ok (.iload 12, 2) := by decide +kernel
theorem dX7_holds_146 : decode cX7_holds 146 = .ok (.ifCond .ge 7, 3) := db_dX7_holds_146.1
theorem dX7_holds_149 : decode cX7_holds 149 = .ok (.iload 12, 2) := db_dX7_holds_146.2.1
theorem dX7_holds_151 : decode cX7_holds 151 = .ok (.istore 10, 2) := db_dX7_holds_146.2.2.1
theorem dX7_holds_153 : decode cX7_holds 153 = .ok (.iload 13, 2) := db_dX7_holds_146.2.2.2.1
theorem dX7_holds_155 : decode cX7_holds 155 = .ok (.ifCond .ne 50, 3) := db_dX7_holds_146.2.2.2.2.1
theorem dX7_holds_158 : decode cX7_holds 158 = .ok (.iload 10, 2) := db_dX7_holds_146.2.2.2.2.2.1
theorem dX7_holds_160 : decode cX7_holds 160 = .ok (.ifCond .lt 45, 3) := db_dX7_holds_146.2.2.2.2.2.2.1
theorem dX7_holds_163 : decode cX7_holds 163 = .ok (.iload 12, 2) := db_dX7_holds_146.2.2.2.2.2.2.2
theorem db_dX7_holds_165 : decode cX7_holds 165 = .ok (.iload 10, 2) ∧ decode cX7_holds 167 = .ok (.isub, 1) ∧ decode cX7_holds 168 = .ok (.iload 6, 2) ∧ decode cX7_holds 170 = .ok (.if_icmp .lt 32, 3) ∧ decode cX7_holds 173 = .ok (.iload 9, 2) ∧ decode cX7_holds 175 = .ok (.iload 7, 2) ∧ decode cX7_holds 177 = .ok (.if_icmp .ne 18, 3) ∧ decode cX7_holds 180 = .ok (.iload 8, 2) := by decide +kernel
theorem dX7_holds_165 : decode cX7_holds 165 = .ok (.iload 10, 2) := db_dX7_holds_165.1
theorem dX7_holds_167 : decode cX7_holds 167 = .ok (.isub, 1) := db_dX7_holds_165.2.1
theorem dX7_holds_168 : decode cX7_holds 168 = .ok (.iload 6, 2) := db_dX7_holds_165.2.2.1
theorem dX7_holds_170 : decode cX7_holds 170 = .ok (.if_icmp .lt 32, 3) := db_dX7_holds_165.2.2.2.1
theorem dX7_holds_173 : decode cX7_holds 173 = .ok (.iload 9, 2) := db_dX7_holds_165.2.2.2.2.1
theorem dX7_holds_175 : decode cX7_holds 175 = .ok (.iload 7, 2) := db_dX7_holds_165.2.2.2.2.2.1
theorem dX7_holds_177 : decode cX7_holds 177 = .ok (.if_icmp .ne 18, 3) := db_dX7_holds_165.2.2.2.2.2.2.1
theorem dX7_holds_180 : decode cX7_holds 180 = .ok (.iload 8, 2) := db_dX7_holds_165.2.2.2.2.2.2.2
theorem db_dX7_holds_182 : decode cX7_holds 182 = .ok (.ifCond .ne 8, 3) ∧ decode cX7_holds 185 = .ok (.iload 10, 2) ∧ decode cX7_holds 187 = .ok (.goto 10, 3) ∧ decode cX7_holds 190 = .ok (.iload 12, 2) ∧ decode cX7_holds 192 = .ok (.goto 5, 3) ∧ decode cX7_holds 195 = .ok (.iload 11, 2) ∧ decode cX7_holds 197 = .ok (.istore 11, 2) ∧ decode cX7_holds 199 = .ok (.iinc 9 1, 3) := by decide +kernel
theorem dX7_holds_182 : decode cX7_holds 182 = .ok (.ifCond .ne 8, 3) := db_dX7_holds_182.1
theorem dX7_holds_185 : decode cX7_holds 185 = .ok (.iload 10, 2) := db_dX7_holds_182.2.1
theorem dX7_holds_187 : decode cX7_holds 187 = .ok (.goto 10, 3) := db_dX7_holds_182.2.2.1
theorem dX7_holds_190 : decode cX7_holds 190 = .ok (.iload 12, 2) := db_dX7_holds_182.2.2.2.1
theorem dX7_holds_192 : decode cX7_holds 192 = .ok (.goto 5, 3) := db_dX7_holds_182.2.2.2.2.1
theorem dX7_holds_195 : decode cX7_holds 195 = .ok (.iload 11, 2) := db_dX7_holds_182.2.2.2.2.2.1
theorem dX7_holds_197 : decode cX7_holds 197 = .ok (.istore 11, 2) := db_dX7_holds_182.2.2.2.2.2.2.1
theorem dX7_holds_199 : decode cX7_holds 199 = .ok (.iinc 9 1, 3) := db_dX7_holds_182.2.2.2.2.2.2.2
theorem db_dX7_holds_202 : decode cX7_holds 202 = .ok (.iconst (-1), 1) ∧ decode cX7_holds 203 = .ok (.istore 10, 2) ∧ decode cX7_holds 205 = .ok (.aload_n 0, 1) ∧ decode cX7_holds 206 = .ok (.iload_n 1, 1) ∧ decode cX7_holds 207 = .ok (.iload_n 2, 1) ∧ decode cX7_holds 208 = .ok (.iload 12, 2) ∧ decode cX7_holds 210 = .ok (.invokevirtual 103, 3) ∧ decode cX7_holds 213 = .ok (.aload_n 0, 1) := by decide +kernel
theorem dX7_holds_202 : decode cX7_holds 202 = .ok (.iconst (-1), 1) := db_dX7_holds_202.1
theorem dX7_holds_203 : decode cX7_holds 203 = .ok (.istore 10, 2) := db_dX7_holds_202.2.1
theorem dX7_holds_205 : decode cX7_holds 205 = .ok (.aload_n 0, 1) := db_dX7_holds_202.2.2.1
theorem dX7_holds_206 : decode cX7_holds 206 = .ok (.iload_n 1, 1) := db_dX7_holds_202.2.2.2.1
theorem dX7_holds_207 : decode cX7_holds 207 = .ok (.iload_n 2, 1) := db_dX7_holds_202.2.2.2.2.1
theorem dX7_holds_208 : decode cX7_holds 208 = .ok (.iload 12, 2) := db_dX7_holds_202.2.2.2.2.2.1
theorem dX7_holds_210 : decode cX7_holds 210 = .ok (.invokevirtual 103, 3) := db_dX7_holds_202.2.2.2.2.2.2.1
theorem dX7_holds_213 : decode cX7_holds 213 = .ok (.aload_n 0, 1) := db_dX7_holds_202.2.2.2.2.2.2.2
theorem db_dX7_holds_214 : decode cX7_holds 214 = .ok (.iload_n 1, 1) ∧ decode cX7_holds 215 = .ok (.iload 4, 2) ∧ decode cX7_holds 217 = .ok (.iload 12, 2) ∧ decode cX7_holds 219 = .ok (.invokevirtual 103, 3) ∧ decode cX7_holds 222 = .ok (.invokestatic 106, 3) ∧ decode cX7_holds 225 = .ok (.istore 14, 2) ∧ decode cX7_holds 227 = .ok (.iload 12, 2) ∧ decode cX7_holds 229 = .ok (.aload_n 0, 1) := by decide +kernel
theorem dX7_holds_214 : decode cX7_holds 214 = .ok (.iload_n 1, 1) := db_dX7_holds_214.1
theorem dX7_holds_215 : decode cX7_holds 215 = .ok (.iload 4, 2) := db_dX7_holds_214.2.1
theorem dX7_holds_217 : decode cX7_holds 217 = .ok (.iload 12, 2) := db_dX7_holds_214.2.2.1
theorem dX7_holds_219 : decode cX7_holds 219 = .ok (.invokevirtual 103, 3) := db_dX7_holds_214.2.2.2.1
theorem dX7_holds_222 : decode cX7_holds 222 = .ok (.invokestatic 106, 3) := db_dX7_holds_214.2.2.2.2.1
theorem dX7_holds_225 : decode cX7_holds 225 = .ok (.istore 14, 2) := db_dX7_holds_214.2.2.2.2.2.1
theorem dX7_holds_227 : decode cX7_holds 227 = .ok (.iload 12, 2) := db_dX7_holds_214.2.2.2.2.2.2.1
theorem dX7_holds_229 : decode cX7_holds 229 = .ok (.aload_n 0, 1) := db_dX7_holds_214.2.2.2.2.2.2.2
theorem db_dX7_holds_230 : decode cX7_holds 230 = .ok (.getfield 7, 3) ∧ decode cX7_holds 233 = .ok (.if_icmp .ge 19, 3) ∧ decode cX7_holds 236 = .ok (.iload 14, 2) ∧ decode cX7_holds 238 = .ok (.aload_n 0, 1) ∧ decode cX7_holds 239 = .ok (.getfield 7, 3) ∧ decode cX7_holds 242 = .ok (.if_icmp .le 10, 3) ∧ decode cX7_holds 245 = .ok (.aload_n 0, 1) ∧ decode cX7_holds 246 = .ok (.getfield 7, 3) := by decide +kernel
theorem dX7_holds_230 : decode cX7_holds 230 = .ok (.getfield 7, 3) := db_dX7_holds_230.1
theorem dX7_holds_233 : decode cX7_holds 233 = .ok (.if_icmp .ge 19, 3) := db_dX7_holds_230.2.1
theorem dX7_holds_236 : decode cX7_holds 236 = .ok (.iload 14, 2) := db_dX7_holds_230.2.2.1
theorem dX7_holds_238 : decode cX7_holds 238 = .ok (.aload_n 0, 1) := db_dX7_holds_230.2.2.2.1
theorem dX7_holds_239 : decode cX7_holds 239 = .ok (.getfield 7, 3) := db_dX7_holds_230.2.2.2.2.1
theorem dX7_holds_242 : decode cX7_holds 242 = .ok (.if_icmp .le 10, 3) := db_dX7_holds_230.2.2.2.2.2.1
theorem dX7_holds_245 : decode cX7_holds 245 = .ok (.aload_n 0, 1) := db_dX7_holds_230.2.2.2.2.2.2.1
theorem dX7_holds_246 : decode cX7_holds 246 = .ok (.getfield 7, 3) := db_dX7_holds_230.2.2.2.2.2.2.2
theorem db_dX7_holds_249 : decode cX7_holds 249 = .ok (.goto 5, 3) ∧ decode cX7_holds 252 = .ok (.iload 14, 2) ∧ decode cX7_holds 254 = .ok (.istore 12, 2) ∧ decode cX7_holds 256 = .ok (.goto (-174), 3) ∧ decode cX7_holds 259 = .ok (.iload 7, 2) ∧ decode cX7_holds 261 = .ok (.ifCond .ge 8, 3) ∧ decode cX7_holds 264 = .ok (.iload 9, 2) ∧ decode cX7_holds 266 = .ok (.goto 5, 3) := by decide +kernel
theorem dX7_holds_249 : decode cX7_holds 249 = .ok (.goto 5, 3) := db_dX7_holds_249.1
theorem dX7_holds_252 : decode cX7_holds 252 = .ok (.iload 14, 2) := db_dX7_holds_249.2.1
theorem dX7_holds_254 : decode cX7_holds 254 = .ok (.istore 12, 2) := db_dX7_holds_249.2.2.1
theorem dX7_holds_256 : decode cX7_holds 256 = .ok (.goto (-174), 3) := db_dX7_holds_249.2.2.2.1
theorem dX7_holds_259 : decode cX7_holds 259 = .ok (.iload 7, 2) := db_dX7_holds_249.2.2.2.2.1
theorem dX7_holds_261 : decode cX7_holds 261 = .ok (.ifCond .ge 8, 3) := db_dX7_holds_249.2.2.2.2.2.1
theorem dX7_holds_264 : decode cX7_holds 264 = .ok (.iload 9, 2) := db_dX7_holds_249.2.2.2.2.2.2.1
theorem dX7_holds_266 : decode cX7_holds 266 = .ok (.goto 5, 3) := db_dX7_holds_249.2.2.2.2.2.2.2
theorem db_dX7_holds_269 : decode cX7_holds 269 = .ok (.iload 11, 2) ∧ decode cX7_holds 271 = .ok (.ireturn, 1) := by decide +kernel
theorem dX7_holds_269 : decode cX7_holds 269 = .ok (.iload 11, 2) := db_dX7_holds_269.1
theorem dX7_holds_271 : decode cX7_holds 271 = .ok (.ireturn, 1) := db_dX7_holds_269.2
theorem db_dX7_window_0 : decode cX7_window 0 = .ok (.iload_n 1, 1) ∧ decode cX7_window 1 = .ok (.iload_n 2, 1) ∧ decode cX7_window 2 = .ok (.invokestatic 68, 3) ∧ decode cX7_window 5 = .ok (.ifCond .eq 32, 3) ∧ decode cX7_window 8 = .ok (.iload_n 3, 1) ∧ decode cX7_window 9 = .ok (.ifCond .lt 28, 3) ∧ decode cX7_window 12 = .ok (.iload_n 3, 1) ∧ decode cX7_window 13 = .ok (.iload 4, 2) := by decide +kernel
theorem dX7_window_0 : decode cX7_window 0 = .ok (.iload_n 1, 1) := db_dX7_window_0.1
theorem dX7_window_1 : decode cX7_window 1 = .ok (.iload_n 2, 1) := db_dX7_window_0.2.1
theorem dX7_window_2 : decode cX7_window 2 = .ok (.invokestatic 68, 3) := db_dX7_window_0.2.2.1
theorem dX7_window_5 : decode cX7_window 5 = .ok (.ifCond .eq 32, 3) := db_dX7_window_0.2.2.2.1
theorem dX7_window_8 : decode cX7_window 8 = .ok (.iload_n 3, 1) := db_dX7_window_0.2.2.2.2.1
theorem dX7_window_9 : decode cX7_window 9 = .ok (.ifCond .lt 28, 3) := db_dX7_window_0.2.2.2.2.2.1
theorem dX7_window_12 : decode cX7_window 12 = .ok (.iload_n 3, 1) := db_dX7_window_0.2.2.2.2.2.2.1
theorem dX7_window_13 : decode cX7_window 13 = .ok (.iload 4, 2) := db_dX7_window_0.2.2.2.2.2.2.2
theorem db_dX7_window_15 : decode cX7_window 15 = .ok (.if_icmp .ge 22, 3) ∧ decode cX7_window 18 = .ok (.iload 4, 2) ∧ decode cX7_window 20 = .ok (.aload_n 0, 1) ∧ decode cX7_window 21 = .ok (.getfield 7, 3) ∧ decode cX7_window 24 = .ok (.if_icmp .gt 13, 3) ∧ decode cX7_window 27 = .ok (.iload 5, 2) ∧ decode cX7_window 29 = .ok (.iconst 0, 1) ∧ decode cX7_window 30 = .ok (.iconst 2, 1) := by decide +kernel
theorem dX7_window_15 : decode cX7_window 15 = .ok (.if_icmp .ge 22, 3) := db_dX7_window_15.1
theorem dX7_window_18 : decode cX7_window 18 = .ok (.iload 4, 2) := db_dX7_window_15.2.1
theorem dX7_window_20 : decode cX7_window 20 = .ok (.aload_n 0, 1) := db_dX7_window_15.2.2.1
theorem dX7_window_21 : decode cX7_window 21 = .ok (.getfield 7, 3) := db_dX7_window_15.2.2.2.1
theorem dX7_window_24 : decode cX7_window 24 = .ok (.if_icmp .gt 13, 3) := db_dX7_window_15.2.2.2.2.1
theorem dX7_window_27 : decode cX7_window 27 = .ok (.iload 5, 2) := db_dX7_window_15.2.2.2.2.2.1
theorem dX7_window_29 : decode cX7_window 29 = .ok (.iconst 0, 1) := db_dX7_window_15.2.2.2.2.2.2.1
theorem dX7_window_30 : decode cX7_window 30 = .ok (.iconst 2, 1) := db_dX7_window_15.2.2.2.2.2.2.2
theorem db_dX7_window_31 : decode cX7_window 31 = .ok (.invokestatic 60, 3) ∧ decode cX7_window 34 = .ok (.ifCond .ne 5, 3) ∧ decode cX7_window 37 = .ok (.iconst (-1), 1) ∧ decode cX7_window 38 = .ok (.ireturn, 1) ∧ decode cX7_window 39 = .ok (.iconst 0, 1) ∧ decode cX7_window 40 = .ok (.istore 6, 2) ∧ decode cX7_window 42 = .ok (.iload_n 3, 1) ∧ decode cX7_window 43 = .ok (.istore 7, 2) := by decide +kernel
theorem dX7_window_31 : decode cX7_window 31 = .ok (.invokestatic 60, 3) := db_dX7_window_31.1
theorem dX7_window_34 : decode cX7_window 34 = .ok (.ifCond .ne 5, 3) := db_dX7_window_31.2.1
theorem dX7_window_37 : decode cX7_window 37 = .ok (.iconst (-1), 1) := db_dX7_window_31.2.2.1
theorem dX7_window_38 : decode cX7_window 38 = .ok (.ireturn, 1) := db_dX7_window_31.2.2.2.1
theorem dX7_window_39 : decode cX7_window 39 = .ok (.iconst 0, 1) := db_dX7_window_31.2.2.2.2.1
theorem dX7_window_40 : decode cX7_window 40 = .ok (.istore 6, 2) := db_dX7_window_31.2.2.2.2.2.1
theorem dX7_window_42 : decode cX7_window 42 = .ok (.iload_n 3, 1) := db_dX7_window_31.2.2.2.2.2.2.1
theorem dX7_window_43 : decode cX7_window 43 = .ok (.istore 7, 2) := db_dX7_window_31.2.2.2.2.2.2.2
theorem db_dX7_window_45 : decode cX7_window 45 = .ok (.iload 7, 2) ∧ decode cX7_window 47 = .ok (.iload 4, 2) ∧ decode cX7_window 49 = .ok (.if_icmp .ge 139, 3) ∧ decode cX7_window 52 = .ok (.aload_n 0, 1) ∧ decode cX7_window 53 = .ok (.iload_n 1, 1) ∧ decode cX7_window 54 = .ok (.iload_n 2, 1) ∧ decode cX7_window 55 = .ok (.iload 7, 2) ∧ decode cX7_window 57 = .ok (.invokevirtual 103, 3) := by decide +kernel
theorem dX7_window_45 : decode cX7_window 45 = .ok (.iload 7, 2) := db_dX7_window_45.1
theorem dX7_window_47 : decode cX7_window 47 = .ok (.iload 4, 2) := db_dX7_window_45.2.1
theorem dX7_window_49 : decode cX7_window 49 = .ok (.if_icmp .ge 139, 3) := db_dX7_window_45.2.2.1
theorem dX7_window_52 : decode cX7_window 52 = .ok (.aload_n 0, 1) := db_dX7_window_45.2.2.2.1
theorem dX7_window_53 : decode cX7_window 53 = .ok (.iload_n 1, 1) := db_dX7_window_45.2.2.2.2.1
theorem dX7_window_54 : decode cX7_window 54 = .ok (.iload_n 2, 1) := db_dX7_window_45.2.2.2.2.2.1
theorem dX7_window_55 : decode cX7_window 55 = .ok (.iload 7, 2) := db_dX7_window_45.2.2.2.2.2.2.1
theorem dX7_window_57 : decode cX7_window 57 = .ok (.invokevirtual 103, 3) := db_dX7_window_45.2.2.2.2.2.2.2
theorem db_dX7_window_60 : decode cX7_window 60 = .ok (.iload 4, 2) ∧ decode cX7_window 62 = .ok (.invokestatic 106, 3) ∧ decode cX7_window 65 = .ok (.istore 8, 2) ∧ decode cX7_window 67 = .ok (.aload_n 0, 1) ∧ decode cX7_window 68 = .ok (.iload_n 1, 1) ∧ decode cX7_window 69 = .ok (.iload_n 2, 1) ∧ decode cX7_window 70 = .ok (.iload 7, 2) ∧ decode cX7_window 72 = .ok (.invokevirtual 83, 3) := by decide +kernel
theorem dX7_window_60 : decode cX7_window 60 = .ok (.iload 4, 2) := db_dX7_window_60.1
theorem dX7_window_62 : decode cX7_window 62 = .ok (.invokestatic 106, 3) := db_dX7_window_60.2.1
theorem dX7_window_65 : decode cX7_window 65 = .ok (.istore 8, 2) := db_dX7_window_60.2.2.1
theorem dX7_window_67 : decode cX7_window 67 = .ok (.aload_n 0, 1) := db_dX7_window_60.2.2.2.1
theorem dX7_window_68 : decode cX7_window 68 = .ok (.iload_n 1, 1) := db_dX7_window_60.2.2.2.2.1
theorem dX7_window_69 : decode cX7_window 69 = .ok (.iload_n 2, 1) := db_dX7_window_60.2.2.2.2.2.1
theorem dX7_window_70 : decode cX7_window 70 = .ok (.iload 7, 2) := db_dX7_window_60.2.2.2.2.2.2.1
theorem dX7_window_72 : decode cX7_window 72 = .ok (.invokevirtual 83, 3) := db_dX7_window_60.2.2.2.2.2.2.2
theorem db_dX7_window_75 : decode cX7_window 75 = .ok (.istore 9, 2) ∧ decode cX7_window 77 = .ok (.iload 5, 2) ∧ decode cX7_window 79 = .ok (.ifCond .ne 46, 3) ∧ decode cX7_window 82 = .ok (.iload 7, 2) ∧ decode cX7_window 84 = .ok (.ifCond .ne 9, 3) ∧ decode cX7_window 87 = .ok (.sipush 256, 3) ∧ decode cX7_window 90 = .ok (.goto 13, 3) ∧ decode cX7_window 93 = .ok (.aload_n 0, 1) := by decide +kernel
theorem dX7_window_75 : decode cX7_window 75 = .ok (.istore 9, 2) := db_dX7_window_75.1
theorem dX7_window_77 : decode cX7_window 77 = .ok (.iload 5, 2) := db_dX7_window_75.2.1
theorem dX7_window_79 : decode cX7_window 79 = .ok (.ifCond .ne 46, 3) := db_dX7_window_75.2.2.1
theorem dX7_window_82 : decode cX7_window 82 = .ok (.iload 7, 2) := db_dX7_window_75.2.2.2.1
theorem dX7_window_84 : decode cX7_window 84 = .ok (.ifCond .ne 9, 3) := db_dX7_window_75.2.2.2.2.1
theorem dX7_window_87 : decode cX7_window 87 = .ok (.sipush 256, 3) := db_dX7_window_75.2.2.2.2.2.1
theorem dX7_window_90 : decode cX7_window 90 = .ok (.goto 13, 3) := db_dX7_window_75.2.2.2.2.2.2.1
theorem dX7_window_93 : decode cX7_window 93 = .ok (.aload_n 0, 1) := db_dX7_window_75.2.2.2.2.2.2.2
theorem db_dX7_window_94 : decode cX7_window 94 = .ok (.iload_n 1, 1) ∧ decode cX7_window 95 = .ok (.iload_n 2, 1) ∧ decode cX7_window 96 = .ok (.iload 7, 2) ∧ decode cX7_window 98 = .ok (.iconst 1, 1) ∧ decode cX7_window 99 = .ok (.isub, 1) ∧ decode cX7_window 100 = .ok (.invokevirtual 83, 3) ∧ decode cX7_window 103 = .ok (.istore 10, 2) ∧ decode cX7_window 105 = .ok (.iload 6, 2) := by decide +kernel
theorem dX7_window_94 : decode cX7_window 94 = .ok (.iload_n 1, 1) := db_dX7_window_94.1
theorem dX7_window_95 : decode cX7_window 95 = .ok (.iload_n 2, 1) := db_dX7_window_94.2.1
theorem dX7_window_96 : decode cX7_window 96 = .ok (.iload 7, 2) := db_dX7_window_94.2.2.1
theorem dX7_window_98 : decode cX7_window 98 = .ok (.iconst 1, 1) := db_dX7_window_94.2.2.2.1
theorem dX7_window_99 : decode cX7_window 99 = .ok (.isub, 1) := db_dX7_window_94.2.2.2.2.1
theorem dX7_window_100 : decode cX7_window 100 = .ok (.invokevirtual 83, 3) := db_dX7_window_94.2.2.2.2.2.1
theorem dX7_window_103 : decode cX7_window 103 = .ok (.istore 10, 2) := db_dX7_window_94.2.2.2.2.2.2.1
theorem dX7_window_105 : decode cX7_window 105 = .ok (.iload 6, 2) := db_dX7_window_94.2.2.2.2.2.2.2
theorem db_dX7_window_107 : decode cX7_window 107 = .ok (.iload 10, 2) ∧ decode cX7_window 109 = .ok (.iload 9, 2) ∧ decode cX7_window 111 = .ok (.if_icmp .eq 7, 3) ∧ decode cX7_window 114 = .ok (.iconst 1, 1) ∧ decode cX7_window 115 = .ok (.goto 4, 3) ∧ decode cX7_window 118 = .ok (.iconst 0, 1) ∧ decode cX7_window 119 = .ok (.iadd, 1) ∧ decode cX7_window 120 = .ok (.istore 6, 2) := by decide +kernel
theorem dX7_window_107 : decode cX7_window 107 = .ok (.iload 10, 2) := db_dX7_window_107.1
theorem dX7_window_109 : decode cX7_window 109 = .ok (.iload 9, 2) := db_dX7_window_107.2.1
theorem dX7_window_111 : decode cX7_window 111 = .ok (.if_icmp .eq 7, 3) := db_dX7_window_107.2.2.1
theorem dX7_window_114 : decode cX7_window 114 = .ok (.iconst 1, 1) := db_dX7_window_107.2.2.2.1
theorem dX7_window_115 : decode cX7_window 115 = .ok (.goto 4, 3) := db_dX7_window_107.2.2.2.2.1
theorem dX7_window_118 : decode cX7_window 118 = .ok (.iconst 0, 1) := db_dX7_window_107.2.2.2.2.2.1
theorem dX7_window_119 : decode cX7_window 119 = .ok (.iadd, 1) := db_dX7_window_107.2.2.2.2.2.2.1
theorem dX7_window_120 : decode cX7_window 120 = .ok (.istore 6, 2) := db_dX7_window_107.2.2.2.2.2.2.2
theorem db_dX7_window_122 : decode cX7_window 122 = .ok (.goto 59, 3) ∧ decode cX7_window 125 = .ok (.iload 5, 2) ∧ decode cX7_window 127 = .ok (.iconst 1, 1) ∧ decode cX7_window 128 = .ok (.if_icmp .ne 28, 3) ∧ decode cX7_window 131 = .ok (.iload 6, 2) ∧ decode cX7_window 133 = .ok (.iload 9, 2) ∧ decode cX7_window 135 = .ok (.sipush 256, 3) ∧ decode cX7_window 138 = .ok (.if_icmp .ne 11, 3) := by decide +kernel
theorem dX7_window_122 : decode cX7_window 122 = .ok (.goto 59, 3) := db_dX7_window_122.1
theorem dX7_window_125 : decode cX7_window 125 = .ok (.iload 5, 2) := db_dX7_window_122.2.1
theorem dX7_window_127 : decode cX7_window 127 = .ok (.iconst 1, 1) := db_dX7_window_122.2.2.1
theorem dX7_window_128 : decode cX7_window 128 = .ok (.if_icmp .ne 28, 3) := db_dX7_window_122.2.2.2.1
theorem dX7_window_131 : decode cX7_window 131 = .ok (.iload 6, 2) := db_dX7_window_122.2.2.2.2.1
theorem dX7_window_133 : decode cX7_window 133 = .ok (.iload 9, 2) := db_dX7_window_122.2.2.2.2.2.1
theorem dX7_window_135 : decode cX7_window 135 = .ok (.sipush 256, 3) := db_dX7_window_122.2.2.2.2.2.2.1
theorem dX7_window_138 : decode cX7_window 138 = .ok (.if_icmp .ne 11, 3) := db_dX7_window_122.2.2.2.2.2.2.2
theorem db_dX7_window_141 : decode cX7_window 141 = .ok (.iload 8, 2) ∧ decode cX7_window 143 = .ok (.iload 7, 2) ∧ decode cX7_window 145 = .ok (.isub, 1) ∧ decode cX7_window 146 = .ok (.goto 4, 3) ∧ decode cX7_window 149 = .ok (.iconst 0, 1) ∧ decode cX7_window 150 = .ok (.iadd, 1) ∧ decode cX7_window 151 = .ok (.istore 6, 2) ∧ decode cX7_window 153 = .ok (.goto 28, 3) := by decide +kernel
theorem dX7_window_141 : decode cX7_window 141 = .ok (.iload 8, 2) := db_dX7_window_141.1
theorem dX7_window_143 : decode cX7_window 143 = .ok (.iload 7, 2) := db_dX7_window_141.2.1
theorem dX7_window_145 : decode cX7_window 145 = .ok (.isub, 1) := db_dX7_window_141.2.2.1
theorem dX7_window_146 : decode cX7_window 146 = .ok (.goto 4, 3) := db_dX7_window_141.2.2.2.1
theorem dX7_window_149 : decode cX7_window 149 = .ok (.iconst 0, 1) := db_dX7_window_141.2.2.2.2.1
theorem dX7_window_150 : decode cX7_window 150 = .ok (.iadd, 1) := db_dX7_window_141.2.2.2.2.2.1
theorem dX7_window_151 : decode cX7_window 151 = .ok (.istore 6, 2) := db_dX7_window_141.2.2.2.2.2.2.1
theorem dX7_window_153 : decode cX7_window 153 = .ok (.goto 28, 3) := db_dX7_window_141.2.2.2.2.2.2.2
theorem db_dX7_window_156 : decode cX7_window 156 = .ok (.iload 6, 2) ∧ decode cX7_window 158 = .ok (.iload 9, 2) ∧ decode cX7_window 160 = .ok (.sipush 256, 3) ∧ decode cX7_window 163 = .ok (.if_icmp .ne 7, 3) ∧ decode cX7_window 166 = .ok (.iconst 0, 1) ∧ decode cX7_window 167 = .ok (.goto 11, 3) ∧ decode cX7_window 170 = .ok (.iload 9, 2) ∧ decode cX7_window 172 = .ok (.iload 8, 2) := by decide +kernel
theorem dX7_window_156 : decode cX7_window 156 = .ok (.iload 6, 2) := db_dX7_window_156.1
theorem dX7_window_158 : decode cX7_window 158 = .ok (.iload 9, 2) := db_dX7_window_156.2.1
theorem dX7_window_160 : decode cX7_window 160 = .ok (.sipush 256, 3) := db_dX7_window_156.2.2.1
theorem dX7_window_163 : decode cX7_window 163 = .ok (.if_icmp .ne 7, 3) := db_dX7_window_156.2.2.2.1
theorem dX7_window_166 : decode cX7_window 166 = .ok (.iconst 0, 1) := db_dX7_window_156.2.2.2.2.1
theorem dX7_window_167 : decode cX7_window 167 = .ok (.goto 11, 3) := db_dX7_window_156.2.2.2.2.2.1
theorem dX7_window_170 : decode cX7_window 170 = .ok (.iload 9, 2) := db_dX7_window_156.2.2.2.2.2.2.1
theorem dX7_window_172 : decode cX7_window 172 = .ok (.iload 8, 2) := db_dX7_window_156.2.2.2.2.2.2.2
theorem db_dX7_window_174 : decode cX7_window 174 = .ok (.iload 7, 2) ∧ decode cX7_window 176 = .ok (.isub, 1) ∧ decode cX7_window 177 = .ok (.imul, 1) ∧ decode cX7_window 178 = .ok (.iadd, 1) ∧ decode cX7_window 179 = .ok (.istore 6, 2) ∧ decode cX7_window 181 = .ok (.iload 8, 2) ∧ decode cX7_window 183 = .ok (.istore 7, 2) ∧ decode cX7_window 185 = .ok (.goto (-140), 3) := by decide +kernel
theorem dX7_window_174 : decode cX7_window 174 = .ok (.iload 7, 2) := db_dX7_window_174.1
theorem dX7_window_176 : decode cX7_window 176 = .ok (.isub, 1) := db_dX7_window_174.2.1
theorem dX7_window_177 : decode cX7_window 177 = .ok (.imul, 1) := db_dX7_window_174.2.2.1
theorem dX7_window_178 : decode cX7_window 178 = .ok (.iadd, 1) := db_dX7_window_174.2.2.2.1
theorem dX7_window_179 : decode cX7_window 179 = .ok (.istore 6, 2) := db_dX7_window_174.2.2.2.2.1
theorem dX7_window_181 : decode cX7_window 181 = .ok (.iload 8, 2) := db_dX7_window_174.2.2.2.2.2.1
theorem dX7_window_183 : decode cX7_window 183 = .ok (.istore 7, 2) := db_dX7_window_174.2.2.2.2.2.2.1
theorem dX7_window_185 : decode cX7_window 185 = .ok (.goto (-140), 3) := db_dX7_window_174.2.2.2.2.2.2.2
theorem db_dX7_window_188 : decode cX7_window 188 = .ok (.iload 6, 2) ∧ decode cX7_window 190 = .ok (.ireturn, 1) := by decide +kernel
theorem dX7_window_188 : decode cX7_window 188 = .ok (.iload 6, 2) := db_dX7_window_188.1
theorem dX7_window_190 : decode cX7_window 190 = .ok (.ireturn, 1) := db_dX7_window_188.2
theorem db_dX7_count_0 : decode cX7_count 0 = .ok (.iconst 0, 1) ∧ decode cX7_count 1 = .ok (.istore_n 2, 1) ∧ decode cX7_count 2 = .ok (.iconst 0, 1) ∧ decode cX7_count 3 = .ok (.istore_n 3, 1) ∧ decode cX7_count 4 = .ok (.iconst 0, 1) ∧ decode cX7_count 5 = .ok (.istore 4, 2) ∧ decode cX7_count 7 = .ok (.iconst 0, 1) ∧ decode cX7_count 8 = .ok (.istore 5, 2) := by decide +kernel
theorem dX7_count_0 : decode cX7_count 0 = .ok (.iconst 0, 1) := db_dX7_count_0.1
theorem dX7_count_1 : decode cX7_count 1 = .ok (.istore_n 2, 1) := db_dX7_count_0.2.1
theorem dX7_count_2 : decode cX7_count 2 = .ok (.iconst 0, 1) := db_dX7_count_0.2.2.1
theorem dX7_count_3 : decode cX7_count 3 = .ok (.istore_n 3, 1) := db_dX7_count_0.2.2.2.1
theorem dX7_count_4 : decode cX7_count 4 = .ok (.iconst 0, 1) := db_dX7_count_0.2.2.2.2.1
theorem dX7_count_5 : decode cX7_count 5 = .ok (.istore 4, 2) := db_dX7_count_0.2.2.2.2.2.1
theorem dX7_count_7 : decode cX7_count 7 = .ok (.iconst 0, 1) := db_dX7_count_0.2.2.2.2.2.2.1
theorem dX7_count_8 : decode cX7_count 8 = .ok (.istore 5, 2) := db_dX7_count_0.2.2.2.2.2.2.2
theorem db_dX7_count_10 : decode cX7_count 10 = .ok (.iload 5, 2) ∧ decode cX7_count 12 = .ok (.bipush 24, 2) ∧ decode cX7_count 14 = .ok (.if_icmp .ge 19, 3) ∧ decode cX7_count 17 = .ok (.iload_n 2, 1) ∧ decode cX7_count 18 = .ok (.aload_n 0, 1) ∧ decode cX7_count 19 = .ok (.getfield 13, 3) ∧ decode cX7_count 22 = .ok (.iload 5, 2) ∧ decode cX7_count 24 = .ok (.iaload, 1) := by decide +kernel
theorem dX7_count_10 : decode cX7_count 10 = .ok (.iload 5, 2) := db_dX7_count_10.1
theorem dX7_count_12 : decode cX7_count 12 = .ok (.bipush 24, 2) := db_dX7_count_10.2.1
theorem dX7_count_14 : decode cX7_count 14 = .ok (.if_icmp .ge 19, 3) := db_dX7_count_10.2.2.1
theorem dX7_count_17 : decode cX7_count 17 = .ok (.iload_n 2, 1) := db_dX7_count_10.2.2.2.1
theorem dX7_count_18 : decode cX7_count 18 = .ok (.aload_n 0, 1) := db_dX7_count_10.2.2.2.2.1
theorem dX7_count_19 : decode cX7_count 19 = .ok (.getfield 13, 3) := db_dX7_count_10.2.2.2.2.2.1
theorem dX7_count_22 : decode cX7_count 22 = .ok (.iload 5, 2) := db_dX7_count_10.2.2.2.2.2.2.1
theorem dX7_count_24 : decode cX7_count 24 = .ok (.iaload, 1) := db_dX7_count_10.2.2.2.2.2.2.2
theorem db_dX7_count_25 : decode cX7_count 25 = .ok (.iadd, 1) ∧ decode cX7_count 26 = .ok (.istore_n 2, 1) ∧ decode cX7_count 27 = .ok (.iinc 5 1, 3) ∧ decode cX7_count 30 = .ok (.goto (-20), 3) ∧ decode cX7_count 33 = .ok (.iconst 0, 1) ∧ decode cX7_count 34 = .ok (.istore 5, 2) ∧ decode cX7_count 36 = .ok (.iload 5, 2) ∧ decode cX7_count 38 = .ok (.iconst 4, 1) := by decide +kernel
theorem dX7_count_25 : decode cX7_count 25 = .ok (.iadd, 1) := db_dX7_count_25.1
theorem dX7_count_26 : decode cX7_count 26 = .ok (.istore_n 2, 1) := db_dX7_count_25.2.1
theorem dX7_count_27 : decode cX7_count 27 = .ok (.iinc 5 1, 3) := db_dX7_count_25.2.2.1
theorem dX7_count_30 : decode cX7_count 30 = .ok (.goto (-20), 3) := db_dX7_count_25.2.2.2.1
theorem dX7_count_33 : decode cX7_count 33 = .ok (.iconst 0, 1) := db_dX7_count_25.2.2.2.2.1
theorem dX7_count_34 : decode cX7_count 34 = .ok (.istore 5, 2) := db_dX7_count_25.2.2.2.2.2.1
theorem dX7_count_36 : decode cX7_count 36 = .ok (.iload 5, 2) := db_dX7_count_25.2.2.2.2.2.2.1
theorem dX7_count_38 : decode cX7_count 38 = .ok (.iconst 4, 1) := db_dX7_count_25.2.2.2.2.2.2.2
theorem db_dX7_count_39 : decode cX7_count 39 = .ok (.if_icmp .ge 27, 3) ∧ decode cX7_count 42 = .ok (.iload_n 3, 1) ∧ decode cX7_count 43 = .ok (.aload_n 0, 1) ∧ decode cX7_count 44 = .ok (.getfield 44, 3) ∧ decode cX7_count 47 = .ok (.iload 5, 2) ∧ decode cX7_count 49 = .ok (.baload, 1) ∧ decode cX7_count 50 = .ok (.ifCond .eq 7, 3) ∧ decode cX7_count 53 = .ok (.iconst 1, 1) := by decide +kernel
theorem dX7_count_39 : decode cX7_count 39 = .ok (.if_icmp .ge 27, 3) := db_dX7_count_39.1
theorem dX7_count_42 : decode cX7_count 42 = .ok (.iload_n 3, 1) := db_dX7_count_39.2.1
theorem dX7_count_43 : decode cX7_count 43 = .ok (.aload_n 0, 1) := db_dX7_count_39.2.2.1
theorem dX7_count_44 : decode cX7_count 44 = .ok (.getfield 44, 3) := db_dX7_count_39.2.2.2.1
theorem dX7_count_47 : decode cX7_count 47 = .ok (.iload 5, 2) := db_dX7_count_39.2.2.2.2.1
theorem dX7_count_49 : decode cX7_count 49 = .ok (.baload, 1) := db_dX7_count_39.2.2.2.2.2.1
theorem dX7_count_50 : decode cX7_count 50 = .ok (.ifCond .eq 7, 3) := db_dX7_count_39.2.2.2.2.2.2.1
theorem dX7_count_53 : decode cX7_count 53 = .ok (.iconst 1, 1) := db_dX7_count_39.2.2.2.2.2.2.2
theorem db_dX7_count_54 : decode cX7_count 54 = .ok (.goto 4, 3) ∧ decode cX7_count 57 = .ok (.iconst 0, 1) ∧ decode cX7_count 58 = .ok (.iadd, 1) ∧ decode cX7_count 59 = .ok (.istore_n 3, 1) ∧ decode cX7_count 60 = .ok (.iinc 5 1, 3) ∧ decode cX7_count 63 = .ok (.goto (-27), 3) ∧ decode cX7_count 66 = .ok (.iconst 0, 1) ∧ decode cX7_count 67 = .ok (.istore 5, 2) := by decide +kernel
theorem dX7_count_54 : decode cX7_count 54 = .ok (.goto 4, 3) := db_dX7_count_54.1
theorem dX7_count_57 : decode cX7_count 57 = .ok (.iconst 0, 1) := db_dX7_count_54.2.1
theorem dX7_count_58 : decode cX7_count 58 = .ok (.iadd, 1) := db_dX7_count_54.2.2.1
theorem dX7_count_59 : decode cX7_count 59 = .ok (.istore_n 3, 1) := db_dX7_count_54.2.2.2.1
theorem dX7_count_60 : decode cX7_count 60 = .ok (.iinc 5 1, 3) := db_dX7_count_54.2.2.2.2.1
theorem dX7_count_63 : decode cX7_count 63 = .ok (.goto (-27), 3) := db_dX7_count_54.2.2.2.2.2.1
theorem dX7_count_66 : decode cX7_count 66 = .ok (.iconst 0, 1) := db_dX7_count_54.2.2.2.2.2.2.1
theorem dX7_count_67 : decode cX7_count 67 = .ok (.istore 5, 2) := db_dX7_count_54.2.2.2.2.2.2.2
theorem db_dX7_count_69 : decode cX7_count 69 = .ok (.iload 5, 2) ∧ decode cX7_count 71 = .ok (.bipush 12, 2) ∧ decode cX7_count 73 = .ok (.if_icmp .ge 29, 3) ∧ decode cX7_count 76 = .ok (.iload 4, 2) ∧ decode cX7_count 78 = .ok (.aload_n 0, 1) ∧ decode cX7_count 79 = .ok (.getfield 51, 3) ∧ decode cX7_count 82 = .ok (.iload 5, 2) ∧ decode cX7_count 84 = .ok (.iaload, 1) := by decide +kernel
theorem dX7_count_69 : decode cX7_count 69 = .ok (.iload 5, 2) := db_dX7_count_69.1
theorem dX7_count_71 : decode cX7_count 71 = .ok (.bipush 12, 2) := db_dX7_count_69.2.1
theorem dX7_count_73 : decode cX7_count 73 = .ok (.if_icmp .ge 29, 3) := db_dX7_count_69.2.2.1
theorem dX7_count_76 : decode cX7_count 76 = .ok (.iload 4, 2) := db_dX7_count_69.2.2.2.1
theorem dX7_count_78 : decode cX7_count 78 = .ok (.aload_n 0, 1) := db_dX7_count_69.2.2.2.2.1
theorem dX7_count_79 : decode cX7_count 79 = .ok (.getfield 51, 3) := db_dX7_count_69.2.2.2.2.2.1
theorem dX7_count_82 : decode cX7_count 82 = .ok (.iload 5, 2) := db_dX7_count_69.2.2.2.2.2.2.1
theorem dX7_count_84 : decode cX7_count 84 = .ok (.iaload, 1) := db_dX7_count_69.2.2.2.2.2.2.2
theorem db_dX7_count_85 : decode cX7_count 85 = .ok (.ifCond .le 7, 3) ∧ decode cX7_count 88 = .ok (.iconst 1, 1) ∧ decode cX7_count 89 = .ok (.goto 4, 3) ∧ decode cX7_count 92 = .ok (.iconst 0, 1) ∧ decode cX7_count 93 = .ok (.iadd, 1) ∧ decode cX7_count 94 = .ok (.istore 4, 2) ∧ decode cX7_count 96 = .ok (.iinc 5 1, 3) ∧ decode cX7_count 99 = .ok (.goto (-30), 3) := by decide +kernel
theorem dX7_count_85 : decode cX7_count 85 = .ok (.ifCond .le 7, 3) := db_dX7_count_85.1
theorem dX7_count_88 : decode cX7_count 88 = .ok (.iconst 1, 1) := db_dX7_count_85.2.1
theorem dX7_count_89 : decode cX7_count 89 = .ok (.goto 4, 3) := db_dX7_count_85.2.2.1
theorem dX7_count_92 : decode cX7_count 92 = .ok (.iconst 0, 1) := db_dX7_count_85.2.2.2.1
theorem dX7_count_93 : decode cX7_count 93 = .ok (.iadd, 1) := db_dX7_count_85.2.2.2.2.1
theorem dX7_count_94 : decode cX7_count 94 = .ok (.istore 4, 2) := db_dX7_count_85.2.2.2.2.2.1
theorem dX7_count_96 : decode cX7_count 96 = .ok (.iinc 5 1, 3) := db_dX7_count_85.2.2.2.2.2.2.1
theorem dX7_count_99 : decode cX7_count 99 = .ok (.goto (-30), 3) := db_dX7_count_85.2.2.2.2.2.2.2
theorem db_dX7_count_102 : decode cX7_count 102 = .ok (.iload_n 1, 1) ∧ decode cX7_count 103 = .ok (.tableswitch 41 0 3 #[29, 31, 36, 38], 29) ∧ decode cX7_count 132 = .ok (.iload_n 2, 1) ∧ decode cX7_count 133 = .ok (.ireturn, 1) ∧ decode cX7_count 134 = .ok (.aload_n 0, 1) ∧ decode cX7_count 135 = .ok (.getfield 90, 3) ∧ decode cX7_count 138 = .ok (.ireturn, 1) ∧ decode cX7_count 139 = .ok (.iload_n 3, 1) := by decide +kernel
theorem dX7_count_102 : decode cX7_count 102 = .ok (.iload_n 1, 1) := db_dX7_count_102.1
theorem dX7_count_103 : decode cX7_count 103 = .ok (.tableswitch 41 0 3 #[29, 31, 36, 38], 29) := db_dX7_count_102.2.1
theorem dX7_count_132 : decode cX7_count 132 = .ok (.iload_n 2, 1) := db_dX7_count_102.2.2.1
theorem dX7_count_133 : decode cX7_count 133 = .ok (.ireturn, 1) := db_dX7_count_102.2.2.2.1
theorem dX7_count_134 : decode cX7_count 134 = .ok (.aload_n 0, 1) := db_dX7_count_102.2.2.2.2.1
theorem dX7_count_135 : decode cX7_count 135 = .ok (.getfield 90, 3) := db_dX7_count_102.2.2.2.2.2.1
theorem dX7_count_138 : decode cX7_count 138 = .ok (.ireturn, 1) := db_dX7_count_102.2.2.2.2.2.2.1
theorem dX7_count_139 : decode cX7_count 139 = .ok (.iload_n 3, 1) := db_dX7_count_102.2.2.2.2.2.2.2
theorem db_dX7_count_140 : decode cX7_count 140 = .ok (.ireturn, 1) ∧ decode cX7_count 141 = .ok (.iload 4, 2) ∧ decode cX7_count 143 = .ok (.ireturn, 1) ∧ decode cX7_count 144 = .ok (.iconst (-1), 1) ∧ decode cX7_count 145 = .ok (.ireturn, 1) := by decide +kernel
theorem dX7_count_140 : decode cX7_count 140 = .ok (.ireturn, 1) := db_dX7_count_140.1
theorem dX7_count_141 : decode cX7_count 141 = .ok (.iload 4, 2) := db_dX7_count_140.2.1
theorem dX7_count_143 : decode cX7_count 143 = .ok (.ireturn, 1) := db_dX7_count_140.2.2.1
theorem dX7_count_144 : decode cX7_count 144 = .ok (.iconst (-1), 1) := db_dX7_count_140.2.2.2.1
theorem dX7_count_145 : decode cX7_count 145 = .ok (.ireturn, 1) := db_dX7_count_140.2.2.2.2
