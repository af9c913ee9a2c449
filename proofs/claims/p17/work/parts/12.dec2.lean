theorem db_dX6_init_0 : decode cX6_init 0 = .ok (.aload_n 0, 1) ∧ decode cX6_init 1 = .ok (.invokespecial 1, 3) ∧ decode cX6_init 4 = .ok (.aload_n 0, 1) ∧ decode cX6_init 5 = .ok (.bipush 24, 2) ∧ decode cX6_init 7 = .ok (.anewarray 9, 3) ∧ decode cX6_init 10 = .ok (.putfield 11, 3) ∧ decode cX6_init 13 = .ok (.aload_n 0, 1) ∧ decode cX6_init 14 = .ok (.bipush 12, 2) := by decide +kernel
theorem dX6_init_0 : decode cX6_init 0 = .ok (.aload_n 0, 1) := db_dX6_init_0.1
theorem dX6_init_1 : decode cX6_init 1 = .ok (.invokespecial 1, 3) := db_dX6_init_0.2.1
theorem dX6_init_4 : decode cX6_init 4 = .ok (.aload_n 0, 1) := db_dX6_init_0.2.2.1
theorem dX6_init_5 : decode cX6_init 5 = .ok (.bipush 24, 2) := db_dX6_init_0.2.2.2.1
theorem dX6_init_7 : decode cX6_init 7 = .ok (.anewarray 9, 3) := db_dX6_init_0.2.2.2.2.1
theorem dX6_init_10 : decode cX6_init 10 = .ok (.putfield 11, 3) := db_dX6_init_0.2.2.2.2.2.1
theorem dX6_init_13 : decode cX6_init 13 = .ok (.aload_n 0, 1) := db_dX6_init_0.2.2.2.2.2.2.1
theorem dX6_init_14 : decode cX6_init 14 = .ok (.bipush 12, 2) := db_dX6_init_0.2.2.2.2.2.2.2
theorem db_dX6_init_16 : decode cX6_init 16 = .ok (.newarray .int, 2) ∧ decode cX6_init 18 = .ok (.putfield 15, 3) ∧ decode cX6_init 21 = .ok (.aload_n 0, 1) ∧ decode cX6_init 22 = .ok (.bipush 12, 2) ∧ decode cX6_init 24 = .ok (.newarray .int, 2) ∧ decode cX6_init 26 = .ok (.putfield 19, 3) ∧ decode cX6_init 29 = .ok (.aload_n 0, 1) ∧ decode cX6_init 30 = .ok (.iconst 4, 1) := by decide +kernel
theorem dX6_init_16 : decode cX6_init 16 = .ok (.newarray .int, 2) := db_dX6_init_16.1
theorem dX6_init_18 : decode cX6_init 18 = .ok (.putfield 15, 3) := db_dX6_init_16.2.1
theorem dX6_init_21 : decode cX6_init 21 = .ok (.aload_n 0, 1) := db_dX6_init_16.2.2.1
theorem dX6_init_22 : decode cX6_init 22 = .ok (.bipush 12, 2) := db_dX6_init_16.2.2.2.1
theorem dX6_init_24 : decode cX6_init 24 = .ok (.newarray .int, 2) := db_dX6_init_16.2.2.2.2.1
theorem dX6_init_26 : decode cX6_init 26 = .ok (.putfield 19, 3) := db_dX6_init_16.2.2.2.2.2.1
theorem dX6_init_29 : decode cX6_init 29 = .ok (.aload_n 0, 1) := db_dX6_init_16.2.2.2.2.2.2.1
theorem dX6_init_30 : decode cX6_init 30 = .ok (.iconst 4, 1) := db_dX6_init_16.2.2.2.2.2.2.2
theorem db_dX6_init_31 : decode cX6_init 31 = .ok (.newarray .int, 2) ∧ decode cX6_init 33 = .ok (.putfield 22, 3) ∧ decode cX6_init 36 = .ok (.aload_n 0, 1) ∧ decode cX6_init 37 = .ok (.bipush 10, 2) ∧ decode cX6_init 39 = .ok (.anewarray 25, 3) ∧ decode cX6_init 42 = .ok (.putfield 27, 3) ∧ decode cX6_init 45 = .ok (.aload_n 0, 1) ∧ decode cX6_init 46 = .ok (.iconst 4, 1) := by decide +kernel
theorem dX6_init_31 : decode cX6_init 31 = .ok (.newarray .int, 2) := db_dX6_init_31.1
theorem dX6_init_33 : decode cX6_init 33 = .ok (.putfield 22, 3) := db_dX6_init_31.2.1
theorem dX6_init_36 : decode cX6_init 36 = .ok (.aload_n 0, 1) := db_dX6_init_31.2.2.1
theorem dX6_init_37 : decode cX6_init 37 = .ok (.bipush 10, 2) := db_dX6_init_31.2.2.2.1
theorem dX6_init_39 : decode cX6_init 39 = .ok (.anewarray 25, 3) := db_dX6_init_31.2.2.2.2.1
theorem dX6_init_42 : decode cX6_init 42 = .ok (.putfield 27, 3) := db_dX6_init_31.2.2.2.2.2.1
theorem dX6_init_45 : decode cX6_init 45 = .ok (.aload_n 0, 1) := db_dX6_init_31.2.2.2.2.2.2.1
theorem dX6_init_46 : decode cX6_init 46 = .ok (.iconst 4, 1) := db_dX6_init_31.2.2.2.2.2.2.2
theorem db_dX6_init_47 : decode cX6_init 47 = .ok (.anewarray 31, 3) ∧ decode cX6_init 50 = .ok (.putfield 33, 3) ∧ decode cX6_init 53 = .ok (.aload_n 0, 1) ∧ decode cX6_init 54 = .ok (.bipush 12, 2) ∧ decode cX6_init 56 = .ok (.anewarray 37, 3) ∧ decode cX6_init 59 = .ok (.putfield 39, 3) ∧ decode cX6_init 62 = .ok (.aload_n 0, 1) ∧ decode cX6_init 63 = .ok (.new 43, 3) := by decide +kernel
theorem dX6_init_47 : decode cX6_init 47 = .ok (.anewarray 31, 3) := db_dX6_init_47.1
theorem dX6_init_50 : decode cX6_init 50 = .ok (.putfield 33, 3) := db_dX6_init_47.2.1
theorem dX6_init_53 : decode cX6_init 53 = .ok (.aload_n 0, 1) := db_dX6_init_47.2.2.1
theorem dX6_init_54 : decode cX6_init 54 = .ok (.bipush 12, 2) := db_dX6_init_47.2.2.2.1
theorem dX6_init_56 : decode cX6_init 56 = .ok (.anewarray 37, 3) := db_dX6_init_47.2.2.2.2.1
theorem dX6_init_59 : decode cX6_init 59 = .ok (.putfield 39, 3) := db_dX6_init_47.2.2.2.2.2.1
theorem dX6_init_62 : decode cX6_init 62 = .ok (.aload_n 0, 1) := db_dX6_init_47.2.2.2.2.2.2.1
theorem dX6_init_63 : decode cX6_init 63 = .ok (.new 43, 3) := db_dX6_init_47.2.2.2.2.2.2.2
theorem db_dX6_init_66 : decode cX6_init 66 = .ok (.dup, 1) ∧ decode cX6_init 67 = .ok (.invokespecial 45, 3) ∧ decode cX6_init 70 = .ok (.putfield 46, 3) ∧ decode cX6_init 73 = .ok (.aload_n 0, 1) ∧ decode cX6_init 74 = .ok (.iconst 0, 1) ∧ decode cX6_init 75 = .ok (.putfield 50, 3) ∧ decode cX6_init 78 = .ok (.aload_n 0, 1) ∧ decode cX6_init 79 = .ok (.sipush 1000, 3) := by decide +kernel
theorem dX6_init_66 : decode cX6_init 66 = .ok (.dup, 1) := db_dX6_init_66.1
theorem dX6_init_67 : decode cX6_init 67 = .ok (.invokespecial 45, 3) := db_dX6_init_66.2.1
theorem dX6_init_70 : decode cX6_init 70 = .ok (.putfield 46, 3) := db_dX6_init_66.2.2.1
theorem dX6_init_73 : decode cX6_init 73 = .ok (.aload_n 0, 1) := db_dX6_init_66.2.2.2.1
theorem dX6_init_74 : decode cX6_init 74 = .ok (.iconst 0, 1) := db_dX6_init_66.2.2.2.2.1
theorem dX6_init_75 : decode cX6_init 75 = .ok (.putfield 50, 3) := db_dX6_init_66.2.2.2.2.2.1
theorem dX6_init_78 : decode cX6_init 78 = .ok (.aload_n 0, 1) := db_dX6_init_66.2.2.2.2.2.2.1
theorem dX6_init_79 : decode cX6_init 79 = .ok (.sipush 1000, 3) := db_dX6_init_66.2.2.2.2.2.2.2
theorem db_dX6_init_82 : decode cX6_init 82 = .ok (.putfield 54, 3) ∧ decode cX6_init 85 = .ok (.aload_n 0, 1) ∧ decode cX6_init 86 = .ok (.iconst 0, 1) ∧ decode cX6_init 87 = .ok (.putfield 57, 3) ∧ decode cX6_init 90 = .ok (.iconst 0, 1) ∧ decode cX6_init 91 = .ok (.istore_n 1, 1) ∧ decode cX6_init 92 = .ok (.iload_n 1, 1) ∧ decode cX6_init 93 = .ok (.aload_n 0, 1) := by decide +kernel
theorem dX6_init_82 : decode cX6_init 82 = .ok (.putfield 54, 3) := db_dX6_init_82.1
theorem dX6_init_85 : decode cX6_init 85 = .ok (.aload_n 0, 1) := db_dX6_init_82.2.1
theorem dX6_init_86 : decode cX6_init 86 = .ok (.iconst 0, 1) := db_dX6_init_82.2.2.1
theorem dX6_init_87 : decode cX6_init 87 = .ok (.putfield 57, 3) := db_dX6_init_82.2.2.2.1
theorem dX6_init_90 : decode cX6_init 90 = .ok (.iconst 0, 1) := db_dX6_init_82.2.2.2.2.1
theorem dX6_init_91 : decode cX6_init 91 = .ok (.istore_n 1, 1) := db_dX6_init_82.2.2.2.2.2.1
theorem dX6_init_92 : decode cX6_init 92 = .ok (.iload_n 1, 1) := db_dX6_init_82.2.2.2.2.2.2.1
theorem dX6_init_93 : decode cX6_init 93 = .ok (.aload_n 0, 1) := db_dX6_init_82.2.2.2.2.2.2.2
theorem db_dX6_init_94 : decode cX6_init 94 = .ok (.getfield 11, 3) ∧ decode cX6_init 97 = .ok (.arraylength, 1) ∧ decode cX6_init 98 = .ok (.if_icmp .ge 22, 3) ∧ decode cX6_init 101 = .ok (.aload_n 0, 1) ∧ decode cX6_init 102 = .ok (.getfield 11, 3) ∧ decode cX6_init 105 = .ok (.iload_n 1, 1) ∧ decode cX6_init 106 = .ok (.new 9, 3) ∧ decode cX6_init 109 = .ok (.dup, 1) := by decide +kernel
theorem dX6_init_94 : decode cX6_init 94 = .ok (.getfield 11, 3) := db_dX6_init_94.1
theorem dX6_init_97 : decode cX6_init 97 = .ok (.arraylength, 1) := db_dX6_init_94.2.1
theorem dX6_init_98 : decode cX6_init 98 = .ok (.if_icmp .ge 22, 3) := db_dX6_init_94.2.2.1
theorem dX6_init_101 : decode cX6_init 101 = .ok (.aload_n 0, 1) := db_dX6_init_94.2.2.2.1
theorem dX6_init_102 : decode cX6_init 102 = .ok (.getfield 11, 3) := db_dX6_init_94.2.2.2.2.1
theorem dX6_init_105 : decode cX6_init 105 = .ok (.iload_n 1, 1) := db_dX6_init_94.2.2.2.2.2.1
theorem dX6_init_106 : decode cX6_init 106 = .ok (.new 9, 3) := db_dX6_init_94.2.2.2.2.2.2.1
theorem dX6_init_109 : decode cX6_init 109 = .ok (.dup, 1) := db_dX6_init_94.2.2.2.2.2.2.2
theorem db_dX6_init_110 : decode cX6_init 110 = .ok (.invokespecial 61, 3) ∧ decode cX6_init 113 = .ok (.aastore, 1) ∧ decode cX6_init 114 = .ok (.iinc 1 1, 3) ∧ decode cX6_init 117 = .ok (.goto (-25), 3) ∧ decode cX6_init 120 = .ok (.iconst 0, 1) ∧ decode cX6_init 121 = .ok (.istore_n 1, 1) ∧ decode cX6_init 122 = .ok (.iload_n 1, 1) ∧ decode cX6_init 123 = .ok (.bipush 12, 2) := by decide +kernel
theorem dX6_init_110 : decode cX6_init 110 = .ok (.invokespecial 61, 3) := db_dX6_init_110.1
theorem dX6_init_113 : decode cX6_init 113 = .ok (.aastore, 1) := db_dX6_init_110.2.1
theorem dX6_init_114 : decode cX6_init 114 = .ok (.iinc 1 1, 3) := db_dX6_init_110.2.2.1
theorem dX6_init_117 : decode cX6_init 117 = .ok (.goto (-25), 3) := db_dX6_init_110.2.2.2.1
theorem dX6_init_120 : decode cX6_init 120 = .ok (.iconst 0, 1) := db_dX6_init_110.2.2.2.2.1
theorem dX6_init_121 : decode cX6_init 121 = .ok (.istore_n 1, 1) := db_dX6_init_110.2.2.2.2.2.1
theorem dX6_init_122 : decode cX6_init 122 = .ok (.iload_n 1, 1) := db_dX6_init_110.2.2.2.2.2.2.1
theorem dX6_init_123 : decode cX6_init 123 = .ok (.bipush 12, 2) := db_dX6_init_110.2.2.2.2.2.2.2
theorem db_dX6_init_125 : decode cX6_init 125 = .ok (.if_icmp .ge 29, 3) ∧ decode cX6_init 128 = .ok (.aload_n 0, 1) ∧ decode cX6_init 129 = .ok (.getfield 15, 3) ∧ decode cX6_init 132 = .ok (.iload_n 1, 1) ∧ decode cX6_init 133 = .ok (.iload_n 1, 1) ∧ decode cX6_init 134 = .ok (.iastore, 1) ∧ decode cX6_init 135 = .ok (.aload_n 0, 1) ∧ decode cX6_init 136 = .ok (.getfield 39, 3) := by decide +kernel
theorem dX6_init_125 : decode cX6_init 125 = .ok (.if_icmp .ge 29, 3) := db_dX6_init_125.1
theorem dX6_init_128 : decode cX6_init 128 = .ok (.aload_n 0, 1) := db_dX6_init_125.2.1
theorem dX6_init_129 : decode cX6_init 129 = .ok (.getfield 15, 3) := db_dX6_init_125.2.2.1
theorem dX6_init_132 : decode cX6_init 132 = .ok (.iload_n 1, 1) := db_dX6_init_125.2.2.2.1
theorem dX6_init_133 : decode cX6_init 133 = .ok (.iload_n 1, 1) := db_dX6_init_125.2.2.2.2.1
theorem dX6_init_134 : decode cX6_init 134 = .ok (.iastore, 1) := db_dX6_init_125.2.2.2.2.2.1
theorem dX6_init_135 : decode cX6_init 135 = .ok (.aload_n 0, 1) := db_dX6_init_125.2.2.2.2.2.2.1
theorem dX6_init_136 : decode cX6_init 136 = .ok (.getfield 39, 3) := db_dX6_init_125.2.2.2.2.2.2.2
theorem db_dX6_init_139 : decode cX6_init 139 = .ok (.iload_n 1, 1) ∧ decode cX6_init 140 = .ok (.new 37, 3) ∧ decode cX6_init 143 = .ok (.dup, 1) ∧ decode cX6_init 144 = .ok (.invokespecial 62, 3) ∧ decode cX6_init 147 = .ok (.aastore, 1) ∧ decode cX6_init 148 = .ok (.iinc 1 1, 3) ∧ decode cX6_init 151 = .ok (.goto (-29), 3) ∧ decode cX6_init 154 = .ok (.iconst 0, 1) := by decide +kernel
theorem dX6_init_139 : decode cX6_init 139 = .ok (.iload_n 1, 1) := db_dX6_init_139.1
theorem dX6_init_140 : decode cX6_init 140 = .ok (.new 37, 3) := db_dX6_init_139.2.1
theorem dX6_init_143 : decode cX6_init 143 = .ok (.dup, 1) := db_dX6_init_139.2.2.1
theorem dX6_init_144 : decode cX6_init 144 = .ok (.invokespecial 62, 3) := db_dX6_init_139.2.2.2.1
theorem dX6_init_147 : decode cX6_init 147 = .ok (.aastore, 1) := db_dX6_init_139.2.2.2.2.1
theorem dX6_init_148 : decode cX6_init 148 = .ok (.iinc 1 1, 3) := db_dX6_init_139.2.2.2.2.2.1
theorem dX6_init_151 : decode cX6_init 151 = .ok (.goto (-29), 3) := db_dX6_init_139.2.2.2.2.2.2.1
theorem dX6_init_154 : decode cX6_init 154 = .ok (.iconst 0, 1) := db_dX6_init_139.2.2.2.2.2.2.2
theorem db_dX6_init_155 : decode cX6_init 155 = .ok (.istore_n 1, 1) ∧ decode cX6_init 156 = .ok (.iload_n 1, 1) ∧ decode cX6_init 157 = .ok (.aload_n 0, 1) ∧ decode cX6_init 158 = .ok (.getfield 27, 3) ∧ decode cX6_init 161 = .ok (.arraylength, 1) ∧ decode cX6_init 162 = .ok (.if_icmp .ge 22, 3) ∧ decode cX6_init 165 = .ok (.aload_n 0, 1) ∧ decode cX6_init 166 = .ok (.getfield 27, 3) := by decide +kernel
theorem dX6_init_155 : decode cX6_init 155 = .ok (.istore_n 1, 1) := db_dX6_init_155.1
theorem dX6_init_156 : decode cX6_init 156 = .ok (.iload_n 1, 1) := db_dX6_init_155.2.1
theorem dX6_init_157 : decode cX6_init 157 = .ok (.aload_n 0, 1) := db_dX6_init_155.2.2.1
theorem dX6_init_158 : decode cX6_init 158 = .ok (.getfield 27, 3) := db_dX6_init_155.2.2.2.1
theorem dX6_init_161 : decode cX6_init 161 = .ok (.arraylength, 1) := db_dX6_init_155.2.2.2.2.1
theorem dX6_init_162 : decode cX6_init 162 = .ok (.if_icmp .ge 22, 3) := db_dX6_init_155.2.2.2.2.2.1
theorem dX6_init_165 : decode cX6_init 165 = .ok (.aload_n 0, 1) := db_dX6_init_155.2.2.2.2.2.2.1
theorem dX6_init_166 : decode cX6_init 166 = .ok (.getfield 27, 3) := db_dX6_init_155.2.2.2.2.2.2.2
theorem db_dX6_init_169 : decode cX6_init 169 = .ok (.iload_n 1, 1) ∧ decode cX6_init 170 = .ok (.new 25, 3) ∧ decode cX6_init 173 = .ok (.dup, 1) ∧ decode cX6_init 174 = .ok (.invokespecial 63, 3) ∧ decode cX6_init 177 = .ok (.aastore, 1) ∧ decode cX6_init 178 = .ok (.iinc 1 1, 3) ∧ decode cX6_init 181 = .ok (.goto (-25), 3) ∧ decode cX6_init 184 = .ok (.iconst 0, 1) := by decide +kernel
theorem dX6_init_169 : decode cX6_init 169 = .ok (.iload_n 1, 1) := db_dX6_init_169.1
theorem dX6_init_170 : decode cX6_init 170 = .ok (.new 25, 3) := db_dX6_init_169.2.1
theorem dX6_init_173 : decode cX6_init 173 = .ok (.dup, 1) := db_dX6_init_169.2.2.1
theorem dX6_init_174 : decode cX6_init 174 = .ok (.invokespecial 63, 3) := db_dX6_init_169.2.2.2.1
theorem dX6_init_177 : decode cX6_init 177 = .ok (.aastore, 1) := db_dX6_init_169.2.2.2.2.1
theorem dX6_init_178 : decode cX6_init 178 = .ok (.iinc 1 1, 3) := db_dX6_init_169.2.2.2.2.2.1
theorem dX6_init_181 : decode cX6_init 181 = .ok (.goto (-25), 3) := db_dX6_init_169.2.2.2.2.2.2.1
theorem dX6_init_184 : decode cX6_init 184 = .ok (.iconst 0, 1) := db_dX6_init_169.2.2.2.2.2.2.2
theorem db_dX6_init_185 : decode cX6_init 185 = .ok (.istore_n 1, 1) ∧ decode cX6_init 186 = .ok (.iload_n 1, 1) ∧ decode cX6_init 187 = .ok (.aload_n 0, 1) ∧ decode cX6_init 188 = .ok (.getfield 33, 3) ∧ decode cX6_init 191 = .ok (.arraylength, 1) ∧ decode cX6_init 192 = .ok (.if_icmp .ge 22, 3) ∧ decode cX6_init 195 = .ok (.aload_n 0, 1) ∧ decode cX6_init 196 = .ok (.getfield 33, 3) := by decide +kernel
theorem dX6_init_185 : decode cX6_init 185 = .ok (.istore_n 1, 1) := db_dX6_init_185.1
theorem dX6_init_186 : decode cX6_init 186 = .ok (.iload_n 1, 1) := db_dX6_init_185.2.1
theorem dX6_init_187 : decode cX6_init 187 = .ok (.aload_n 0, 1) := db_dX6_init_185.2.2.1
theorem dX6_init_188 : decode cX6_init 188 = .ok (.getfield 33, 3) := db_dX6_init_185.2.2.2.1
theorem dX6_init_191 : decode cX6_init 191 = .ok (.arraylength, 1) := db_dX6_init_185.2.2.2.2.1
theorem dX6_init_192 : decode cX6_init 192 = .ok (.if_icmp .ge 22, 3) := db_dX6_init_185.2.2.2.2.2.1
theorem dX6_init_195 : decode cX6_init 195 = .ok (.aload_n 0, 1) := db_dX6_init_185.2.2.2.2.2.2.1
theorem dX6_init_196 : decode cX6_init 196 = .ok (.getfield 33, 3) := db_dX6_init_185.2.2.2.2.2.2.2
theorem db_dX6_init_199 : decode cX6_init 199 = .ok (.iload_n 1, 1) ∧ decode cX6_init 200 = .ok (.new 31, 3) ∧ decode cX6_init 203 = .ok (.dup, 1) ∧ decode cX6_init 204 = .ok (.invokespecial 64, 3) ∧ decode cX6_init 207 = .ok (.aastore, 1) ∧ decode cX6_init 208 = .ok (.iinc 1 1, 3) ∧ decode cX6_init 211 = .ok (.goto (-25), 3) ∧ decode cX6_init 214 = .ok (.return_, 1) := by decide +kernel
theorem dX6_init_199 : decode cX6_init 199 = .ok (.iload_n 1, 1) := db_dX6_init_199.1
theorem dX6_init_200 : decode cX6_init 200 = .ok (.new 31, 3) := db_dX6_init_199.2.1
theorem dX6_init_203 : decode cX6_init 203 = .ok (.dup, 1) := db_dX6_init_199.2.2.1
theorem dX6_init_204 : decode cX6_init 204 = .ok (.invokespecial 64, 3) := db_dX6_init_199.2.2.2.1
theorem dX6_init_207 : decode cX6_init 207 = .ok (.aastore, 1) := db_dX6_init_199.2.2.2.2.1
theorem dX6_init_208 : decode cX6_init 208 = .ok (.iinc 1 1, 3) := db_dX6_init_199.2.2.2.2.2.1
theorem dX6_init_211 : decode cX6_init 211 = .ok (.goto (-25), 3) := db_dX6_init_199.2.2.2.2.2.2.1
theorem dX6_init_214 : decode cX6_init 214 = .ok (.return_, 1) := db_dX6_init_199.2.2.2.2.2.2.2
theorem db_dX6_change_0 : decode cX6_change 0 = .ok (.iload_n 1, 1) ∧ decode cX6_change 1 = .ok (.iload_n 2, 1) ∧ decode cX6_change 2 = .ok (.invokestatic 65, 3) ∧ decode cX6_change 5 = .ok (.ifCond .ne 22, 3) ∧ decode cX6_change 8 = .ok (.iload_n 3, 1) ∧ decode cX6_change 9 = .ok (.iconst 0, 1) ∧ decode cX6_change 10 = .ok (.sipush 3999, 3) ∧ decode cX6_change 13 = .ok (.invokestatic 69, 3) := by decide +kernel
theorem dX6_change_0 : decode cX6_change 0 = .ok (.iload_n 1, 1) := db_dX6_change_0.1
theorem dX6_change_1 : decode cX6_change 1 = .ok (.iload_n 2, 1) := db_dX6_change_0.2.1
theorem dX6_change_2 : decode cX6_change 2 = .ok (.invokestatic 65, 3) := db_dX6_change_0.2.2.1
theorem dX6_change_5 : decode cX6_change 5 = .ok (.ifCond .ne 22, 3) := db_dX6_change_0.2.2.2.1
theorem dX6_change_8 : decode cX6_change 8 = .ok (.iload_n 3, 1) := db_dX6_change_0.2.2.2.2.1
theorem dX6_change_9 : decode cX6_change 9 = .ok (.iconst 0, 1) := db_dX6_change_0.2.2.2.2.2.1
theorem dX6_change_10 : decode cX6_change 10 = .ok (.sipush 3999, 3) := db_dX6_change_0.2.2.2.2.2.2.1
theorem dX6_change_13 : decode cX6_change 13 = .ok (.invokestatic 69, 3) := db_dX6_change_0.2.2.2.2.2.2.2
theorem db_dX6_change_16 : decode cX6_change 16 = .ok (.ifCond .ne 11, 3) ∧ decode cX6_change 19 = .ok (.iload 4, 2) ∧ decode cX6_change 21 = .ok (.invokestatic 73, 3) ∧ decode cX6_change 24 = .ok (.ifCond .eq 5, 3) ∧ decode cX6_change 27 = .ok (.iconst (-1), 1) ∧ decode cX6_change 28 = .ok (.ireturn, 1) ∧ decode cX6_change 29 = .ok (.aload_n 0, 1) ∧ decode cX6_change 30 = .ok (.iload_n 1, 1) := by decide +kernel
theorem dX6_change_16 : decode cX6_change 16 = .ok (.ifCond .ne 11, 3) := db_dX6_change_16.1
theorem dX6_change_19 : decode cX6_change 19 = .ok (.iload 4, 2) := db_dX6_change_16.2.1
theorem dX6_change_21 : decode cX6_change 21 = .ok (.invokestatic 73, 3) := db_dX6_change_16.2.2.1
theorem dX6_change_24 : decode cX6_change 24 = .ok (.ifCond .eq 5, 3) := db_dX6_change_16.2.2.2.1
theorem dX6_change_27 : decode cX6_change 27 = .ok (.iconst (-1), 1) := db_dX6_change_16.2.2.2.2.1
theorem dX6_change_28 : decode cX6_change 28 = .ok (.ireturn, 1) := db_dX6_change_16.2.2.2.2.2.1
theorem dX6_change_29 : decode cX6_change 29 = .ok (.aload_n 0, 1) := db_dX6_change_16.2.2.2.2.2.2.1
theorem dX6_change_30 : decode cX6_change 30 = .ok (.iload_n 1, 1) := db_dX6_change_16.2.2.2.2.2.2.2
theorem db_dX6_change_31 : decode cX6_change 31 = .ok (.iload_n 2, 1) ∧ decode cX6_change 32 = .ok (.invokevirtual 77, 3) ∧ decode cX6_change 35 = .ok (.astore 5, 2) ∧ decode cX6_change 37 = .ok (.aload 5, 2) ∧ decode cX6_change 39 = .ok (.invokevirtual 81, 3) ∧ decode cX6_change 42 = .ok (.iload_n 3, 1) ∧ decode cX6_change 43 = .ok (.if_icmp .lt 6, 3) ∧ decode cX6_change 46 = .ok (.bipush (-2), 2) := by decide +kernel
theorem dX6_change_31 : decode cX6_change 31 = .ok (.iload_n 2, 1) := db_dX6_change_31.1
theorem dX6_change_32 : decode cX6_change 32 = .ok (.invokevirtual 77, 3) := db_dX6_change_31.2.1
theorem dX6_change_35 : decode cX6_change 35 = .ok (.astore 5, 2) := db_dX6_change_31.2.2.1
theorem dX6_change_37 : decode cX6_change 37 = .ok (.aload 5, 2) := db_dX6_change_31.2.2.2.1
theorem dX6_change_39 : decode cX6_change 39 = .ok (.invokevirtual 81, 3) := db_dX6_change_31.2.2.2.2.1
theorem dX6_change_42 : decode cX6_change 42 = .ok (.iload_n 3, 1) := db_dX6_change_31.2.2.2.2.2.1
theorem dX6_change_43 : decode cX6_change 43 = .ok (.if_icmp .lt 6, 3) := db_dX6_change_31.2.2.2.2.2.2.1
theorem dX6_change_46 : decode cX6_change 46 = .ok (.bipush (-2), 2) := db_dX6_change_31.2.2.2.2.2.2.2
theorem db_dX6_change_48 : decode cX6_change 48 = .ok (.ireturn, 1) ∧ decode cX6_change 49 = .ok (.aload 5, 2) ∧ decode cX6_change 51 = .ok (.iconst 1, 1) ∧ decode cX6_change 52 = .ok (.invokevirtual 85, 3) ∧ decode cX6_change 55 = .ok (.ifCond .eq 6, 3) ∧ decode cX6_change 58 = .ok (.bipush (-3), 2) ∧ decode cX6_change 60 = .ok (.ireturn, 1) ∧ decode cX6_change 61 = .ok (.aload 5, 2) := by decide +kernel
theorem dX6_change_48 : decode cX6_change 48 = .ok (.ireturn, 1) := db_dX6_change_48.1
theorem dX6_change_49 : decode cX6_change 49 = .ok (.aload 5, 2) := db_dX6_change_48.2.1
theorem dX6_change_51 : decode cX6_change 51 = .ok (.iconst 1, 1) := db_dX6_change_48.2.2.1
theorem dX6_change_52 : decode cX6_change 52 = .ok (.invokevirtual 85, 3) := db_dX6_change_48.2.2.2.1
theorem dX6_change_55 : decode cX6_change 55 = .ok (.ifCond .eq 6, 3) := db_dX6_change_48.2.2.2.2.1
theorem dX6_change_58 : decode cX6_change 58 = .ok (.bipush (-3), 2) := db_dX6_change_48.2.2.2.2.2.1
theorem dX6_change_60 : decode cX6_change 60 = .ok (.ireturn, 1) := db_dX6_change_48.2.2.2.2.2.2.1
theorem dX6_change_61 : decode cX6_change 61 = .ok (.aload 5, 2) := db_dX6_change_48.2.2.2.2.2.2.2
theorem db_dX6_change_63 : decode cX6_change 63 = .ok (.iload_n 3, 1) ∧ decode cX6_change 64 = .ok (.iload 4, 2) ∧ decode cX6_change 66 = .ok (.invokevirtual 88, 3) ∧ decode cX6_change 69 = .ok (.aload 5, 2) ∧ decode cX6_change 71 = .ok (.invokevirtual 92, 3) ∧ decode cX6_change 74 = .ok (.ireturn, 1) := by decide +kernel
theorem dX6_change_63 : decode cX6_change 63 = .ok (.iload_n 3, 1) := db_dX6_change_63.1
theorem dX6_change_64 : decode cX6_change 64 = .ok (.iload 4, 2) := db_dX6_change_63.2.1
theorem dX6_change_66 : decode cX6_change 66 = .ok (.invokevirtual 88, 3) := db_dX6_change_63.2.2.1
theorem dX6_change_69 : decode cX6_change 69 = .ok (.aload 5, 2) := db_dX6_change_63.2.2.2.1
theorem dX6_change_71 : decode cX6_change 71 = .ok (.invokevirtual 92, 3) := db_dX6_change_63.2.2.2.2.1
theorem dX6_change_74 : decode cX6_change 74 = .ok (.ireturn, 1) := db_dX6_change_63.2.2.2.2.2
theorem db_dX6_changes_0 : decode cX6_changes 0 = .ok (.iload_n 1, 1) ∧ decode cX6_changes 1 = .ok (.iload_n 2, 1) ∧ decode cX6_changes 2 = .ok (.invokestatic 65, 3) ∧ decode cX6_changes 5 = .ok (.ifCond .ne 12, 3) ∧ decode cX6_changes 8 = .ok (.iload_n 3, 1) ∧ decode cX6_changes 9 = .ok (.iconst 1, 1) ∧ decode cX6_changes 10 = .ok (.iconst 4, 1) ∧ decode cX6_changes 11 = .ok (.invokestatic 69, 3) := by decide +kernel
theorem dX6_changes_0 : decode cX6_changes 0 = .ok (.iload_n 1, 1) := db_dX6_changes_0.1
theorem dX6_changes_1 : decode cX6_changes 1 = .ok (.iload_n 2, 1) := db_dX6_changes_0.2.1
theorem dX6_changes_2 : decode cX6_changes 2 = .ok (.invokestatic 65, 3) := db_dX6_changes_0.2.2.1
theorem dX6_changes_5 : decode cX6_changes 5 = .ok (.ifCond .ne 12, 3) := db_dX6_changes_0.2.2.2.1
theorem dX6_changes_8 : decode cX6_changes 8 = .ok (.iload_n 3, 1) := db_dX6_changes_0.2.2.2.2.1
theorem dX6_changes_9 : decode cX6_changes 9 = .ok (.iconst 1, 1) := db_dX6_changes_0.2.2.2.2.2.1
theorem dX6_changes_10 : decode cX6_changes 10 = .ok (.iconst 4, 1) := db_dX6_changes_0.2.2.2.2.2.2.1
theorem dX6_changes_11 : decode cX6_changes 11 = .ok (.invokestatic 69, 3) := db_dX6_changes_0.2.2.2.2.2.2.2
theorem db_dX6_changes_14 : decode cX6_changes 14 = .ok (.ifCond .eq 5, 3) ∧ decode cX6_changes 17 = .ok (.iconst (-1), 1) ∧ decode cX6_changes 18 = .ok (.ireturn, 1) ∧ decode cX6_changes 19 = .ok (.aload_n 0, 1) ∧ decode cX6_changes 20 = .ok (.iload_n 1, 1) ∧ decode cX6_changes 21 = .ok (.iload_n 2, 1) ∧ decode cX6_changes 22 = .ok (.invokevirtual 77, 3) ∧ decode cX6_changes 25 = .ok (.astore 6, 2) := by decide +kernel
theorem dX6_changes_14 : decode cX6_changes 14 = .ok (.ifCond .eq 5, 3) := db_dX6_changes_14.1
theorem dX6_changes_17 : decode cX6_changes 17 = .ok (.iconst (-1), 1) := db_dX6_changes_14.2.1
theorem dX6_changes_18 : decode cX6_changes 18 = .ok (.ireturn, 1) := db_dX6_changes_14.2.2.1
theorem dX6_changes_19 : decode cX6_changes 19 = .ok (.aload_n 0, 1) := db_dX6_changes_14.2.2.2.1
theorem dX6_changes_20 : decode cX6_changes 20 = .ok (.iload_n 1, 1) := db_dX6_changes_14.2.2.2.2.1
theorem dX6_changes_21 : decode cX6_changes 21 = .ok (.iload_n 2, 1) := db_dX6_changes_14.2.2.2.2.2.1
theorem dX6_changes_22 : decode cX6_changes 22 = .ok (.invokevirtual 77, 3) := db_dX6_changes_14.2.2.2.2.2.2.1
theorem dX6_changes_25 : decode cX6_changes 25 = .ok (.astore 6, 2) := db_dX6_changes_14.2.2.2.2.2.2.2
theorem db_dX6_changes_27 : decode cX6_changes 27 = .ok (.aload 6, 2) ∧ decode cX6_changes 29 = .ok (.invokevirtual 81, 3) ∧ decode cX6_changes 32 = .ok (.iload_n 3, 1) ∧ decode cX6_changes 33 = .ok (.lload 4, 2) ∧ decode cX6_changes 35 = .ok (.invokestatic 95, 3) ∧ decode cX6_changes 38 = .ok (.ifCond .ne 5, 3) ∧ decode cX6_changes 41 = .ok (.iconst (-1), 1) ∧ decode cX6_changes 42 = .ok (.ireturn, 1) := by decide +kernel
theorem dX6_changes_27 : decode cX6_changes 27 = .ok (.aload 6, 2) := db_dX6_changes_27.1
theorem dX6_changes_29 : decode cX6_changes 29 = .ok (.invokevirtual 81, 3) := db_dX6_changes_27.2.1
theorem dX6_changes_32 : decode cX6_changes 32 = .ok (.iload_n 3, 1) := db_dX6_changes_27.2.2.1
theorem dX6_changes_33 : decode cX6_changes 33 = .ok (.lload 4, 2) := db_dX6_changes_27.2.2.2.1
theorem dX6_changes_35 : decode cX6_changes 35 = .ok (.invokestatic 95, 3) := db_dX6_changes_27.2.2.2.2.1
theorem dX6_changes_38 : decode cX6_changes 38 = .ok (.ifCond .ne 5, 3) := db_dX6_changes_27.2.2.2.2.2.1
theorem dX6_changes_41 : decode cX6_changes 41 = .ok (.iconst (-1), 1) := db_dX6_changes_27.2.2.2.2.2.2.1
theorem dX6_changes_42 : decode cX6_changes 42 = .ok (.ireturn, 1) := db_dX6_changes_27.2.2.2.2.2.2.2
theorem db_dX6_changes_43 : decode cX6_changes 43 = .ok (.aload 6, 2) ∧ decode cX6_changes 45 = .ok (.iload_n 3, 1) ∧ decode cX6_changes 46 = .ok (.invokevirtual 85, 3) ∧ decode cX6_changes 49 = .ok (.ifCond .eq 6, 3) ∧ decode cX6_changes 52 = .ok (.bipush (-3), 2) ∧ decode cX6_changes 54 = .ok (.ireturn, 1) ∧ decode cX6_changes 55 = .ok (.iconst 0, 1) ∧ decode cX6_changes 56 = .ok (.istore 7, 2) := by decide +kernel
theorem dX6_changes_43 : decode cX6_changes 43 = .ok (.aload 6, 2) := db_dX6_changes_43.1
theorem dX6_changes_45 : decode cX6_changes 45 = .ok (.iload_n 3, 1) := db_dX6_changes_43.2.1
theorem dX6_changes_46 : decode cX6_changes 46 = .ok (.invokevirtual 85, 3) := db_dX6_changes_43.2.2.1
theorem dX6_changes_49 : decode cX6_changes 49 = .ok (.ifCond .eq 6, 3) := db_dX6_changes_43.2.2.2.1
theorem dX6_changes_52 : decode cX6_changes 52 = .ok (.bipush (-3), 2) := db_dX6_changes_43.2.2.2.2.1
theorem dX6_changes_54 : decode cX6_changes 54 = .ok (.ireturn, 1) := db_dX6_changes_43.2.2.2.2.2.1
theorem dX6_changes_55 : decode cX6_changes 55 = .ok (.iconst 0, 1) := db_dX6_changes_43.2.2.2.2.2.2.1
theorem dX6_changes_56 : decode cX6_changes 56 = .ok (.istore 7, 2) := db_dX6_changes_43.2.2.2.2.2.2.2
theorem db_dX6_changes_58 : decode cX6_changes 58 = .ok (.iload 7, 2) ∧ decode cX6_changes 60 = .ok (.iload_n 3, 1) ∧ decode cX6_changes 61 = .ok (.if_icmp .ge 36, 3) ∧ decode cX6_changes 64 = .ok (.aload 6, 2) ∧ decode cX6_changes 66 = .ok (.aload 6, 2) ∧ decode cX6_changes 68 = .ok (.invokevirtual 81, 3) ∧ decode cX6_changes 71 = .ok (.iload_n 3, 1) ∧ decode cX6_changes 72 = .ok (.lload 4, 2) := by decide +kernel
theorem dX6_changes_58 : decode cX6_changes 58 = .ok (.iload 7, 2) := db_dX6_changes_58.1
theorem dX6_changes_60 : decode cX6_changes 60 = .ok (.iload_n 3, 1) := db_dX6_changes_58.2.1
theorem dX6_changes_61 : decode cX6_changes 61 = .ok (.if_icmp .ge 36, 3) := db_dX6_changes_58.2.2.1
theorem dX6_changes_64 : decode cX6_changes 64 = .ok (.aload 6, 2) := db_dX6_changes_58.2.2.2.1
theorem dX6_changes_66 : decode cX6_changes 66 = .ok (.aload 6, 2) := db_dX6_changes_58.2.2.2.2.1
theorem dX6_changes_68 : decode cX6_changes 68 = .ok (.invokevirtual 81, 3) := db_dX6_changes_58.2.2.2.2.2.1
theorem dX6_changes_71 : decode cX6_changes 71 = .ok (.iload_n 3, 1) := db_dX6_changes_58.2.2.2.2.2.2.1
theorem dX6_changes_72 : decode cX6_changes 72 = .ok (.lload 4, 2) := db_dX6_changes_58.2.2.2.2.2.2.2
theorem db_dX6_changes_74 : decode cX6_changes 74 = .ok (.iload 7, 2) ∧ decode cX6_changes 76 = .ok (.invokestatic 99, 3) ∧ decode cX6_changes 79 = .ok (.iadd, 1) ∧ decode cX6_changes 80 = .ok (.iload_n 3, 1) ∧ decode cX6_changes 81 = .ok (.lload 4, 2) ∧ decode cX6_changes 83 = .ok (.iload 7, 2) ∧ decode cX6_changes 85 = .ok (.invokestatic 103, 3) ∧ decode cX6_changes 88 = .ok (.invokevirtual 88, 3) := by decide +kernel
theorem dX6_changes_74 : decode cX6_changes 74 = .ok (.iload 7, 2) := db_dX6_changes_74.1
theorem dX6_changes_76 : decode cX6_changes 76 = .ok (.invokestatic 99, 3) := db_dX6_changes_74.2.1
theorem dX6_changes_79 : decode cX6_changes 79 = .ok (.iadd, 1) := db_dX6_changes_74.2.2.1
theorem dX6_changes_80 : decode cX6_changes 80 = .ok (.iload_n 3, 1) := db_dX6_changes_74.2.2.2.1
theorem dX6_changes_81 : decode cX6_changes 81 = .ok (.lload 4, 2) := db_dX6_changes_74.2.2.2.2.1
theorem dX6_changes_83 : decode cX6_changes 83 = .ok (.iload 7, 2) := db_dX6_changes_74.2.2.2.2.2.1
theorem dX6_changes_85 : decode cX6_changes 85 = .ok (.invokestatic 103, 3) := db_dX6_changes_74.2.2.2.2.2.2.1
theorem dX6_changes_88 : decode cX6_changes 88 = .ok (.invokevirtual 88, 3) := db_dX6_changes_74.2.2.2.2.2.2.2
theorem db_dX6_changes_91 : decode cX6_changes 91 = .ok (.iinc 7 1, 3) ∧ decode cX6_changes 94 = .ok (.goto (-36), 3) ∧ decode cX6_changes 97 = .ok (.aload 6, 2) ∧ decode cX6_changes 99 = .ok (.invokevirtual 92, 3) ∧ decode cX6_changes 102 = .ok (.ireturn, 1) := by decide +kernel
theorem dX6_changes_91 : decode cX6_changes 91 = .ok (.iinc 7 1, 3) := db_dX6_changes_91.1
theorem dX6_changes_94 : decode cX6_changes 94 = .ok (.goto (-36), 3) := db_dX6_changes_91.2.1
theorem dX6_changes_97 : decode cX6_changes 97 = .ok (.aload 6, 2) := db_dX6_changes_91.2.2.1
theorem dX6_changes_99 : decode cX6_changes 99 = .ok (.invokevirtual 92, 3) := db_dX6_changes_91.2.2.2.1
theorem dX6_changes_102 : decode cX6_changes 102 = .ok (.ireturn, 1) := db_dX6_changes_91.2.2.2.2
theorem db_dX6_cut_0 : decode cX6_cut 0 = .ok (.iload_n 1, 1) ∧ decode cX6_cut 1 = .ok (.iload_n 2, 1) ∧ decode cX6_cut 2 = .ok (.invokestatic 65, 3) ∧ decode cX6_cut 5 = .ok (.ifCond .ne 14, 3) ∧ decode cX6_cut 8 = .ok (.iload_n 3, 1) ∧ decode cX6_cut 9 = .ok (.iconst 0, 1) ∧ decode cX6_cut 10 = .ok (.sipush 3999, 3) ∧ decode cX6_cut 13 = .ok (.invokestatic 69, 3) := by decide +kernel
theorem dX6_cut_0 : decode cX6_cut 0 = .ok (.iload_n 1, 1) := db_dX6_cut_0.1
theorem dX6_cut_1 : decode cX6_cut 1 = .ok (.iload_n 2, 1) := db_dX6_cut_0.2.1
theorem dX6_cut_2 : decode cX6_cut 2 = .ok (.invokestatic 65, 3) := db_dX6_cut_0.2.2.1
theorem dX6_cut_5 : decode cX6_cut 5 = .ok (.ifCond .ne 14, 3) := db_dX6_cut_0.2.2.2.1
theorem dX6_cut_8 : decode cX6_cut 8 = .ok (.iload_n 3, 1) := db_dX6_cut_0.2.2.2.2.1
theorem dX6_cut_9 : decode cX6_cut 9 = .ok (.iconst 0, 1) := db_dX6_cut_0.2.2.2.2.2.1
theorem dX6_cut_10 : decode cX6_cut 10 = .ok (.sipush 3999, 3) := db_dX6_cut_0.2.2.2.2.2.2.1
theorem dX6_cut_13 : decode cX6_cut 13 = .ok (.invokestatic 69, 3) := db_dX6_cut_0.2.2.2.2.2.2.2
theorem db_dX6_cut_16 : decode cX6_cut 16 = .ok (.ifCond .eq 5, 3) ∧ decode cX6_cut 19 = .ok (.iconst (-1), 1) ∧ decode cX6_cut 20 = .ok (.ireturn, 1) ∧ decode cX6_cut 21 = .ok (.aload_n 0, 1) ∧ decode cX6_cut 22 = .ok (.iload_n 1, 1) ∧ decode cX6_cut 23 = .ok (.iload_n 2, 1) ∧ decode cX6_cut 24 = .ok (.invokevirtual 77, 3) ∧ decode cX6_cut 27 = .ok (.iload_n 3, 1) := by decide +kernel
theorem dX6_cut_16 : decode cX6_cut 16 = .ok (.ifCond .eq 5, 3) := db_dX6_cut_16.1
theorem dX6_cut_19 : decode cX6_cut 19 = .ok (.iconst (-1), 1) := db_dX6_cut_16.2.1
theorem dX6_cut_20 : decode cX6_cut 20 = .ok (.ireturn, 1) := db_dX6_cut_16.2.2.1
theorem dX6_cut_21 : decode cX6_cut 21 = .ok (.aload_n 0, 1) := db_dX6_cut_16.2.2.2.1
theorem dX6_cut_22 : decode cX6_cut 22 = .ok (.iload_n 1, 1) := db_dX6_cut_16.2.2.2.2.1
theorem dX6_cut_23 : decode cX6_cut 23 = .ok (.iload_n 2, 1) := db_dX6_cut_16.2.2.2.2.2.1
theorem dX6_cut_24 : decode cX6_cut 24 = .ok (.invokevirtual 77, 3) := db_dX6_cut_16.2.2.2.2.2.2.1
theorem dX6_cut_27 : decode cX6_cut 27 = .ok (.iload_n 3, 1) := db_dX6_cut_16.2.2.2.2.2.2.2
theorem db_dX6_cut_28 : decode cX6_cut 28 = .ok (.invokevirtual 106, 3) ∧ decode cX6_cut 31 = .ok (.ireturn, 1) := by decide +kernel
theorem dX6_cut_28 : decode cX6_cut 28 = .ok (.invokevirtual 106, 3) := db_dX6_cut_28.1
theorem dX6_cut_31 : decode cX6_cut 31 = .ok (.ireturn, 1) := db_dX6_cut_28.2
theorem db_dX6_value_0 : decode cX6_value 0 = .ok (.iload_n 1, 1) ∧ decode cX6_value 1 = .ok (.iload_n 2, 1) ∧ decode cX6_value 2 = .ok (.invokestatic 65, 3) ∧ decode cX6_value 5 = .ok (.ifCond .ne 14, 3) ∧ decode cX6_value 8 = .ok (.iload_n 3, 1) ∧ decode cX6_value 9 = .ok (.iconst 0, 1) ∧ decode cX6_value 10 = .ok (.sipush 3999, 3) ∧ decode cX6_value 13 = .ok (.invokestatic 69, 3) := by decide +kernel
theorem dX6_value_0 : decode cX6_value 0 = .ok (.iload_n 1, 1) := db_dX6_value_0.1
theorem dX6_value_1 : decode cX6_value 1 = .ok (.iload_n 2, 1) := db_dX6_value_0.2.1
theorem dX6_value_2 : decode cX6_value 2 = .ok (.invokestatic 65, 3) := db_dX6_value_0.2.2.1
theorem dX6_value_5 : decode cX6_value 5 = .ok (.ifCond .ne 14, 3) := db_dX6_value_0.2.2.2.1
theorem dX6_value_8 : decode cX6_value 8 = .ok (.iload_n 3, 1) := db_dX6_value_0.2.2.2.2.1
theorem dX6_value_9 : decode cX6_value 9 = .ok (.iconst 0, 1) := db_dX6_value_0.2.2.2.2.2.1
theorem dX6_value_10 : decode cX6_value 10 = .ok (.sipush 3999, 3) := db_dX6_value_0.2.2.2.2.2.2.1
theorem dX6_value_13 : decode cX6_value 13 = .ok (.invokestatic 69, 3) := db_dX6_value_0.2.2.2.2.2.2.2
theorem db_dX6_value_16 : decode cX6_value 16 = .ok (.ifCond .eq 5, 3) ∧ decode cX6_value 19 = .ok (.iconst (-1), 1) ∧ decode cX6_value 20 = .ok (.ireturn, 1) ∧ decode cX6_value 21 = .ok (.aload_n 0, 1) ∧ decode cX6_value 22 = .ok (.iload_n 1, 1) ∧ decode cX6_value 23 = .ok (.iload_n 2, 1) ∧ decode cX6_value 24 = .ok (.invokevirtual 77, 3) ∧ decode cX6_value 27 = .ok (.iload_n 3, 1) := by decide +kernel
theorem dX6_value_16 : decode cX6_value 16 = .ok (.ifCond .eq 5, 3) := db_dX6_value_16.1
theorem dX6_value_19 : decode cX6_value 19 = .ok (.iconst (-1), 1) := db_dX6_value_16.2.1
theorem dX6_value_20 : decode cX6_value 20 = .ok (.ireturn, 1) := db_dX6_value_16.2.2.1
theorem dX6_value_21 : decode cX6_value 21 = .ok (.aload_n 0, 1) := db_dX6_value_16.2.2.2.1
theorem dX6_value_22 : decode cX6_value 22 = .ok (.iload_n 1, 1) := db_dX6_value_16.2.2.2.2.1
theorem dX6_value_23 : decode cX6_value 23 = .ok (.iload_n 2, 1) := db_dX6_value_16.2.2.2.2.2.1
theorem dX6_value_24 : decode cX6_value 24 = .ok (.invokevirtual 77, 3) := db_dX6_value_16.2.2.2.2.2.2.1
theorem dX6_value_27 : decode cX6_value 27 = .ok (.iload_n 3, 1) := db_dX6_value_16.2.2.2.2.2.2.2
theorem db_dX6_value_28 : decode cX6_value 28 = .ok (.invokevirtual 110, 3) ∧ decode cX6_value 31 = .ok (.ireturn, 1) := by decide +kernel
theorem dX6_value_28 : decode cX6_value 28 = .ok (.invokevirtual 110, 3) := db_dX6_value_28.1
theorem dX6_value_31 : decode cX6_value 31 = .ok (.ireturn, 1) := db_dX6_value_28.2
theorem db_dX6_areChanges_0 : decode cX6_areChanges 0 = .ok (.iload_n 0, 1) ∧ decode cX6_areChanges 1 = .ok (.istore 4, 2) ∧ decode cX6_areChanges 3 = .ok (.iconst 0, 1) ∧ decode cX6_areChanges 4 = .ok (.istore 5, 2) ∧ decode cX6_areChanges 6 = .ok (.iload 5, 2) ∧ decode cX6_areChanges 8 = .ok (.iload_n 1, 1) ∧ decode cX6_areChanges 9 = .ok (.if_icmp .ge 53, 3) ∧ decode cX6_areChanges 12 = .ok (.iload_n 1, 1) := by decide +kernel
theorem dX6_areChanges_0 : decode cX6_areChanges 0 = .ok (.iload_n 0, 1) := db_dX6_areChanges_0.1
theorem dX6_areChanges_1 : decode cX6_areChanges 1 = .ok (.istore 4, 2) := db_dX6_areChanges_0.2.1
theorem dX6_areChanges_3 : decode cX6_areChanges 3 = .ok (.iconst 0, 1) := db_dX6_areChanges_0.2.2.1
theorem dX6_areChanges_4 : decode cX6_areChanges 4 = .ok (.istore 5, 2) := db_dX6_areChanges_0.2.2.2.1
theorem dX6_areChanges_6 : decode cX6_areChanges 6 = .ok (.iload 5, 2) := db_dX6_areChanges_0.2.2.2.2.1
theorem dX6_areChanges_8 : decode cX6_areChanges 8 = .ok (.iload_n 1, 1) := db_dX6_areChanges_0.2.2.2.2.2.1
theorem dX6_areChanges_9 : decode cX6_areChanges 9 = .ok (.if_icmp .ge 53, 3) := db_dX6_areChanges_0.2.2.2.2.2.2.1
theorem dX6_areChanges_12 : decode cX6_areChanges 12 = .ok (.iload_n 1, 1) := db_dX6_areChanges_0.2.2.2.2.2.2.2
theorem db_dX6_areChanges_13 : decode cX6_areChanges 13 = .ok (.lload_n 2, 1) ∧ decode cX6_areChanges 14 = .ok (.iload 5, 2) ∧ decode cX6_areChanges 16 = .ok (.invokestatic 99, 3) ∧ decode cX6_areChanges 19 = .ok (.istore 6, 2) ∧ decode cX6_areChanges 21 = .ok (.iload 4, 2) ∧ decode cX6_areChanges 23 = .ok (.iload 6, 2) ∧ decode cX6_areChanges 25 = .ok (.iadd, 1) ∧ decode cX6_areChanges 26 = .ok (.istore 4, 2) := by decide +kernel
theorem dX6_areChanges_13 : decode cX6_areChanges 13 = .ok (.lload_n 2, 1) := db_dX6_areChanges_13.1
theorem dX6_areChanges_14 : decode cX6_areChanges 14 = .ok (.iload 5, 2) := db_dX6_areChanges_13.2.1
theorem dX6_areChanges_16 : decode cX6_areChanges 16 = .ok (.invokestatic 99, 3) := db_dX6_areChanges_13.2.2.1
theorem dX6_areChanges_19 : decode cX6_areChanges 19 = .ok (.istore 6, 2) := db_dX6_areChanges_13.2.2.2.1
theorem dX6_areChanges_21 : decode cX6_areChanges 21 = .ok (.iload 4, 2) := db_dX6_areChanges_13.2.2.2.2.1
theorem dX6_areChanges_23 : decode cX6_areChanges 23 = .ok (.iload 6, 2) := db_dX6_areChanges_13.2.2.2.2.2.1
theorem dX6_areChanges_25 : decode cX6_areChanges 25 = .ok (.iadd, 1) := db_dX6_areChanges_13.2.2.2.2.2.2.1
theorem dX6_areChanges_26 : decode cX6_areChanges 26 = .ok (.istore 4, 2) := db_dX6_areChanges_13.2.2.2.2.2.2.2
theorem db_dX6_areChanges_28 : decode cX6_areChanges 28 = .ok (.iload 6, 2) ∧ decode cX6_areChanges 30 = .ok (.ifCond .eq 24, 3) ∧ decode cX6_areChanges 33 = .ok (.iload 4, 2) ∧ decode cX6_areChanges 35 = .ok (.sipush 4000, 3) ∧ decode cX6_areChanges 38 = .ok (.if_icmp .ge 16, 3) ∧ decode cX6_areChanges 41 = .ok (.iload_n 1, 1) ∧ decode cX6_areChanges 42 = .ok (.lload_n 2, 1) ∧ decode cX6_areChanges 43 = .ok (.iload 5, 2) := by decide +kernel
theorem dX6_areChanges_28 : decode cX6_areChanges 28 = .ok (.iload 6, 2) := db_dX6_areChanges_28.1
theorem dX6_areChanges_30 : decode cX6_areChanges 30 = .ok (.ifCond .eq 24, 3) := db_dX6_areChanges_28.2.1
theorem dX6_areChanges_33 : decode cX6_areChanges 33 = .ok (.iload 4, 2) := db_dX6_areChanges_28.2.2.1
theorem dX6_areChanges_35 : decode cX6_areChanges 35 = .ok (.sipush 4000, 3) := db_dX6_areChanges_28.2.2.2.1
theorem dX6_areChanges_38 : decode cX6_areChanges 38 = .ok (.if_icmp .ge 16, 3) := db_dX6_areChanges_28.2.2.2.2.1
theorem dX6_areChanges_41 : decode cX6_areChanges 41 = .ok (.iload_n 1, 1) := db_dX6_areChanges_28.2.2.2.2.2.1
theorem dX6_areChanges_42 : decode cX6_areChanges 42 = .ok (.lload_n 2, 1) := db_dX6_areChanges_28.2.2.2.2.2.2.1
theorem dX6_areChanges_43 : decode cX6_areChanges 43 = .ok (.iload 5, 2) := db_dX6_areChanges_28.2.2.2.2.2.2.2
theorem db_dX6_areChanges_45 : decode cX6_areChanges 45 = .ok (.invokestatic 103, 3) ∧ decode cX6_areChanges 48 = .ok (.invokestatic 73, 3) ∧ decode cX6_areChanges 51 = .ok (.ifCond .eq 5, 3) ∧ decode cX6_areChanges 54 = .ok (.iconst 0, 1) ∧ decode cX6_areChanges 55 = .ok (.ireturn, 1) ∧ decode cX6_areChanges 56 = .ok (.iinc 5 1, 3) ∧ decode cX6_areChanges 59 = .ok (.goto (-53), 3) ∧ decode cX6_areChanges 62 = .ok (.iconst 1, 1) := by decide +kernel
theorem dX6_areChanges_45 : decode cX6_areChanges 45 = .ok (.invokestatic 103, 3) := db_dX6_areChanges_45.1
theorem dX6_areChanges_48 : decode cX6_areChanges 48 = .ok (.invokestatic 73, 3) := db_dX6_areChanges_45.2.1
theorem dX6_areChanges_51 : decode cX6_areChanges 51 = .ok (.ifCond .eq 5, 3) := db_dX6_areChanges_45.2.2.1
theorem dX6_areChanges_54 : decode cX6_areChanges 54 = .ok (.iconst 0, 1) := db_dX6_areChanges_45.2.2.2.1
theorem dX6_areChanges_55 : decode cX6_areChanges 55 = .ok (.ireturn, 1) := db_dX6_areChanges_45.2.2.2.2.1
theorem dX6_areChanges_56 : decode cX6_areChanges 56 = .ok (.iinc 5 1, 3) := db_dX6_areChanges_45.2.2.2.2.2.1
theorem dX6_areChanges_59 : decode cX6_areChanges 59 = .ok (.goto (-53), 3) := db_dX6_areChanges_45.2.2.2.2.2.2.1
theorem dX6_areChanges_62 : decode cX6_areChanges 62 = .ok (.iconst 1, 1) := db_dX6_areChanges_45.2.2.2.2.2.2.2
theorem dX6_areChanges_63 : decode cX6_areChanges 63 = .ok (.ireturn, 1) := by decide +kernel
theorem db_dX6_packedTicks_0 : decode cX6_packedTicks 0 = .ok (.iload_n 0, 1) ∧ decode cX6_packedTicks 1 = .ok (.lload_n 1, 1) ∧ decode cX6_packedTicks 2 = .ok (.iload_n 3, 1) ∧ decode cX6_packedTicks 3 = .ok (.invokestatic 113, 3) ∧ decode cX6_packedTicks 6 = .ok (.bipush 9, 2) ∧ decode cX6_packedTicks 8 = .ok (.iushr, 1) ∧ decode cX6_packedTicks 9 = .ok (.ireturn, 1) := by decide +kernel
theorem dX6_packedTicks_0 : decode cX6_packedTicks 0 = .ok (.iload_n 0, 1) := db_dX6_packedTicks_0.1
theorem dX6_packedTicks_1 : decode cX6_packedTicks 1 = .ok (.lload_n 1, 1) := db_dX6_packedTicks_0.2.1
theorem dX6_packedTicks_2 : decode cX6_packedTicks 2 = .ok (.iload_n 3, 1) := db_dX6_packedTicks_0.2.2.1
theorem dX6_packedTicks_3 : decode cX6_packedTicks 3 = .ok (.invokestatic 113, 3) := db_dX6_packedTicks_0.2.2.2.1
theorem dX6_packedTicks_6 : decode cX6_packedTicks 6 = .ok (.bipush 9, 2) := db_dX6_packedTicks_0.2.2.2.2.1
theorem dX6_packedTicks_8 : decode cX6_packedTicks 8 = .ok (.iushr, 1) := db_dX6_packedTicks_0.2.2.2.2.2.1
theorem dX6_packedTicks_9 : decode cX6_packedTicks 9 = .ok (.ireturn, 1) := db_dX6_packedTicks_0.2.2.2.2.2.2
theorem db_dX6_packedValue_0 : decode cX6_packedValue 0 = .ok (.iload_n 0, 1) ∧ decode cX6_packedValue 1 = .ok (.lload_n 1, 1) ∧ decode cX6_packedValue 2 = .ok (.iload_n 3, 1) ∧ decode cX6_packedValue 3 = .ok (.invokestatic 113, 3) ∧ decode cX6_packedValue 6 = .ok (.sipush 511, 3) ∧ decode cX6_packedValue 9 = .ok (.iand, 1) ∧ decode cX6_packedValue 10 = .ok (.ireturn, 1) := by decide +kernel
theorem dX6_packedValue_0 : decode cX6_packedValue 0 = .ok (.iload_n 0, 1) := db_dX6_packedValue_0.1
theorem dX6_packedValue_1 : decode cX6_packedValue 1 = .ok (.lload_n 1, 1) := db_dX6_packedValue_0.2.1
theorem dX6_packedValue_2 : decode cX6_packedValue 2 = .ok (.iload_n 3, 1) := db_dX6_packedValue_0.2.2.1
theorem dX6_packedValue_3 : decode cX6_packedValue 3 = .ok (.invokestatic 113, 3) := db_dX6_packedValue_0.2.2.2.1
theorem dX6_packedValue_6 : decode cX6_packedValue 6 = .ok (.sipush 511, 3) := db_dX6_packedValue_0.2.2.2.2.1
theorem dX6_packedValue_9 : decode cX6_packedValue 9 = .ok (.iand, 1) := db_dX6_packedValue_0.2.2.2.2.2.1
theorem dX6_packedValue_10 : decode cX6_packedValue 10 = .ok (.ireturn, 1) := db_dX6_packedValue_0.2.2.2.2.2.2
theorem db_dX6_packed_0 : decode cX6_packed 0 = .ok (.lload_n 1, 1) ∧ decode cX6_packed 1 = .ok (.bipush 16, 2) ∧ decode cX6_packed 3 = .ok (.iload_n 0, 1) ∧ decode cX6_packed 4 = .ok (.iconst 1, 1) ∧ decode cX6_packed 5 = .ok (.isub, 1) ∧ decode cX6_packed 6 = .ok (.iload_n 3, 1) ∧ decode cX6_packed 7 = .ok (.isub, 1) ∧ decode cX6_packed 8 = .ok (.imul, 1) := by decide +kernel
theorem dX6_packed_0 : decode cX6_packed 0 = .ok (.lload_n 1, 1) := db_dX6_packed_0.1
theorem dX6_packed_1 : decode cX6_packed 1 = .ok (.bipush 16, 2) := db_dX6_packed_0.2.1
theorem dX6_packed_3 : decode cX6_packed 3 = .ok (.iload_n 0, 1) := db_dX6_packed_0.2.2.1
theorem dX6_packed_4 : decode cX6_packed 4 = .ok (.iconst 1, 1) := db_dX6_packed_0.2.2.2.1
theorem dX6_packed_5 : decode cX6_packed 5 = .ok (.isub, 1) := db_dX6_packed_0.2.2.2.2.1
theorem dX6_packed_6 : decode cX6_packed 6 = .ok (.iload_n 3, 1) := db_dX6_packed_0.2.2.2.2.2.1
theorem dX6_packed_7 : decode cX6_packed 7 = .ok (.isub, 1) := db_dX6_packed_0.2.2.2.2.2.2.1
theorem dX6_packed_8 : decode cX6_packed 8 = .ok (.imul, 1) := db_dX6_packed_0.2.2.2.2.2.2.2
theorem db_dX6_packed_9 : decode cX6_packed 9 = .ok (.lushr, 1) ∧ decode cX6_packed 10 = .ok (.l2i, 1) ∧ decode cX6_packed 11 = .ok (.ldc 116, 2) ∧ decode cX6_packed 13 = .ok (.iand, 1) ∧ decode cX6_packed 14 = .ok (.ireturn, 1) := by decide +kernel
theorem dX6_packed_9 : decode cX6_packed 9 = .ok (.lushr, 1) := db_dX6_packed_9.1
theorem dX6_packed_10 : decode cX6_packed 10 = .ok (.l2i, 1) := db_dX6_packed_9.2.1
theorem dX6_packed_11 : decode cX6_packed 11 = .ok (.ldc 116, 2) := db_dX6_packed_9.2.2.1
theorem dX6_packed_13 : decode cX6_packed 13 = .ok (.iand, 1) := db_dX6_packed_9.2.2.2.1
theorem dX6_packed_14 : decode cX6_packed 14 = .ok (.ireturn, 1) := db_dX6_packed_9.2.2.2.2
theorem db_dX6_rule_0 : decode cX6_rule 0 = .ok (.iload_n 1, 1) ∧ decode cX6_rule 1 = .ok (.ifCond .ne 26, 3) ∧ decode cX6_rule 4 = .ok (.iload_n 2, 1) ∧ decode cX6_rule 5 = .ok (.iconst 1, 1) ∧ decode cX6_rule 6 = .ok (.sipush 4000, 3) ∧ decode cX6_rule 9 = .ok (.invokestatic 69, 3) ∧ decode cX6_rule 12 = .ok (.ifCond .ne 15, 3) ∧ decode cX6_rule 15 = .ok (.aload_n 0, 1) := by decide +kernel
theorem dX6_rule_0 : decode cX6_rule 0 = .ok (.iload_n 1, 1) := db_dX6_rule_0.1
theorem dX6_rule_1 : decode cX6_rule 1 = .ok (.ifCond .ne 26, 3) := db_dX6_rule_0.2.1
theorem dX6_rule_4 : decode cX6_rule 4 = .ok (.iload_n 2, 1) := db_dX6_rule_0.2.2.1
theorem dX6_rule_5 : decode cX6_rule 5 = .ok (.iconst 1, 1) := db_dX6_rule_0.2.2.2.1
theorem dX6_rule_6 : decode cX6_rule 6 = .ok (.sipush 4000, 3) := db_dX6_rule_0.2.2.2.2.1
theorem dX6_rule_9 : decode cX6_rule 9 = .ok (.invokestatic 69, 3) := db_dX6_rule_0.2.2.2.2.2.1
theorem dX6_rule_12 : decode cX6_rule 12 = .ok (.ifCond .ne 15, 3) := db_dX6_rule_0.2.2.2.2.2.2.1
theorem dX6_rule_15 : decode cX6_rule 15 = .ok (.aload_n 0, 1) := db_dX6_rule_0.2.2.2.2.2.2.2
theorem db_dX6_rule_16 : decode cX6_rule 16 = .ok (.getfield 54, 3) ∧ decode cX6_rule 19 = .ok (.istore_n 3, 1) ∧ decode cX6_rule 20 = .ok (.aload_n 0, 1) ∧ decode cX6_rule 21 = .ok (.iload_n 2, 1) ∧ decode cX6_rule 22 = .ok (.putfield 54, 3) ∧ decode cX6_rule 25 = .ok (.iload_n 3, 1) ∧ decode cX6_rule 26 = .ok (.ireturn, 1) ∧ decode cX6_rule 27 = .ok (.iload_n 1, 1) := by decide +kernel
theorem dX6_rule_16 : decode cX6_rule 16 = .ok (.getfield 54, 3) := db_dX6_rule_16.1
theorem dX6_rule_19 : decode cX6_rule 19 = .ok (.istore_n 3, 1) := db_dX6_rule_16.2.1
theorem dX6_rule_20 : decode cX6_rule 20 = .ok (.aload_n 0, 1) := db_dX6_rule_16.2.2.1
theorem dX6_rule_21 : decode cX6_rule 21 = .ok (.iload_n 2, 1) := db_dX6_rule_16.2.2.2.1
theorem dX6_rule_22 : decode cX6_rule 22 = .ok (.putfield 54, 3) := db_dX6_rule_16.2.2.2.2.1
theorem dX6_rule_25 : decode cX6_rule 25 = .ok (.iload_n 3, 1) := db_dX6_rule_16.2.2.2.2.2.1
theorem dX6_rule_26 : decode cX6_rule 26 = .ok (.ireturn, 1) := db_dX6_rule_16.2.2.2.2.2.2.1
theorem dX6_rule_27 : decode cX6_rule 27 = .ok (.iload_n 1, 1) := db_dX6_rule_16.2.2.2.2.2.2.2
theorem db_dX6_rule_28 : decode cX6_rule 28 = .ok (.iconst 1, 1) ∧ decode cX6_rule 29 = .ok (.if_icmp .ne 41, 3) ∧ decode cX6_rule 32 = .ok (.iload_n 2, 1) ∧ decode cX6_rule 33 = .ok (.iconst 0, 1) ∧ decode cX6_rule 34 = .ok (.iconst 1, 1) ∧ decode cX6_rule 35 = .ok (.invokestatic 69, 3) ∧ decode cX6_rule 38 = .ok (.ifCond .ne 32, 3) ∧ decode cX6_rule 41 = .ok (.aload_n 0, 1) := by decide +kernel
theorem dX6_rule_28 : decode cX6_rule 28 = .ok (.iconst 1, 1) := db_dX6_rule_28.1
theorem dX6_rule_29 : decode cX6_rule 29 = .ok (.if_icmp .ne 41, 3) := db_dX6_rule_28.2.1
theorem dX6_rule_32 : decode cX6_rule 32 = .ok (.iload_n 2, 1) := db_dX6_rule_28.2.2.1
theorem dX6_rule_33 : decode cX6_rule 33 = .ok (.iconst 0, 1) := db_dX6_rule_28.2.2.2.1
theorem dX6_rule_34 : decode cX6_rule 34 = .ok (.iconst 1, 1) := db_dX6_rule_28.2.2.2.2.1
theorem dX6_rule_35 : decode cX6_rule 35 = .ok (.invokestatic 69, 3) := db_dX6_rule_28.2.2.2.2.2.1
theorem dX6_rule_38 : decode cX6_rule 38 = .ok (.ifCond .ne 32, 3) := db_dX6_rule_28.2.2.2.2.2.2.1
theorem dX6_rule_41 : decode cX6_rule 41 = .ok (.aload_n 0, 1) := db_dX6_rule_28.2.2.2.2.2.2.2
theorem db_dX6_rule_42 : decode cX6_rule 42 = .ok (.getfield 57, 3) ∧ decode cX6_rule 45 = .ok (.ifCond .eq 7, 3) ∧ decode cX6_rule 48 = .ok (.iconst 1, 1) ∧ decode cX6_rule 49 = .ok (.goto 4, 3) ∧ decode cX6_rule 52 = .ok (.iconst 0, 1) ∧ decode cX6_rule 53 = .ok (.istore_n 3, 1) ∧ decode cX6_rule 54 = .ok (.aload_n 0, 1) ∧ decode cX6_rule 55 = .ok (.iload_n 2, 1) := by decide +kernel
theorem dX6_rule_42 : decode cX6_rule 42 = .ok (.getfield 57, 3) := db_dX6_rule_42.1
theorem dX6_rule_45 : decode cX6_rule 45 = .ok (.ifCond .eq 7, 3) := db_dX6_rule_42.2.1
theorem dX6_rule_48 : decode cX6_rule 48 = .ok (.iconst 1, 1) := db_dX6_rule_42.2.2.1
theorem dX6_rule_49 : decode cX6_rule 49 = .ok (.goto 4, 3) := db_dX6_rule_42.2.2.2.1
theorem dX6_rule_52 : decode cX6_rule 52 = .ok (.iconst 0, 1) := db_dX6_rule_42.2.2.2.2.1
theorem dX6_rule_53 : decode cX6_rule 53 = .ok (.istore_n 3, 1) := db_dX6_rule_42.2.2.2.2.2.1
theorem dX6_rule_54 : decode cX6_rule 54 = .ok (.aload_n 0, 1) := db_dX6_rule_42.2.2.2.2.2.2.1
theorem dX6_rule_55 : decode cX6_rule 55 = .ok (.iload_n 2, 1) := db_dX6_rule_42.2.2.2.2.2.2.2
theorem db_dX6_rule_56 : decode cX6_rule 56 = .ok (.iconst 1, 1) ∧ decode cX6_rule 57 = .ok (.if_icmp .ne 7, 3) ∧ decode cX6_rule 60 = .ok (.iconst 1, 1) ∧ decode cX6_rule 61 = .ok (.goto 4, 3) ∧ decode cX6_rule 64 = .ok (.iconst 0, 1) ∧ decode cX6_rule 65 = .ok (.putfield 57, 3) ∧ decode cX6_rule 68 = .ok (.iload_n 3, 1) ∧ decode cX6_rule 69 = .ok (.ireturn, 1) := by decide +kernel
theorem dX6_rule_56 : decode cX6_rule 56 = .ok (.iconst 1, 1) := db_dX6_rule_56.1
theorem dX6_rule_57 : decode cX6_rule 57 = .ok (.if_icmp .ne 7, 3) := db_dX6_rule_56.2.1
theorem dX6_rule_60 : decode cX6_rule 60 = .ok (.iconst 1, 1) := db_dX6_rule_56.2.2.1
theorem dX6_rule_61 : decode cX6_rule 61 = .ok (.goto 4, 3) := db_dX6_rule_56.2.2.2.1
theorem dX6_rule_64 : decode cX6_rule 64 = .ok (.iconst 0, 1) := db_dX6_rule_56.2.2.2.2.1
theorem dX6_rule_65 : decode cX6_rule 65 = .ok (.putfield 57, 3) := db_dX6_rule_56.2.2.2.2.2.1
theorem dX6_rule_68 : decode cX6_rule 68 = .ok (.iload_n 3, 1) := db_dX6_rule_56.2.2.2.2.2.2.1
theorem dX6_rule_69 : decode cX6_rule 69 = .ok (.ireturn, 1) := db_dX6_rule_56.2.2.2.2.2.2.2
theorem db_dX6_rule_70 : decode cX6_rule 70 = .ok (.iconst (-1), 1) ∧ decode cX6_rule 71 = .ok (.ireturn, 1) := by decide +kernel
theorem dX6_rule_70 : decode cX6_rule 70 = .ok (.iconst (-1), 1) := db_dX6_rule_70.1
theorem dX6_rule_71 : decode cX6_rule 71 = .ok (.ireturn, 1) := db_dX6_rule_70.2
theorem db_dX6_call_0 : decode cX6_call 0 = .ok (.iload_n 1, 1) ∧ decode cX6_call 1 = .ok (.invokestatic 117, 3) ∧ decode cX6_call 4 = .ok (.ifCond .eq 5, 3) ∧ decode cX6_call 7 = .ok (.iconst (-1), 1) ∧ decode cX6_call 8 = .ok (.ireturn, 1) ∧ decode cX6_call 9 = .ok (.iload_n 2, 1) ∧ decode cX6_call 10 = .ok (.ifCond .ne 28, 3) ∧ decode cX6_call 13 = .ok (.iload_n 3, 1) := by decide +kernel
theorem dX6_call_0 : decode cX6_call 0 = .ok (.iload_n 1, 1) := db_dX6_call_0.1
theorem dX6_call_1 : decode cX6_call 1 = .ok (.invokestatic 117, 3) := db_dX6_call_0.2.1
theorem dX6_call_4 : decode cX6_call 4 = .ok (.ifCond .eq 5, 3) := db_dX6_call_0.2.2.1
theorem dX6_call_7 : decode cX6_call 7 = .ok (.iconst (-1), 1) := db_dX6_call_0.2.2.2.1
theorem dX6_call_8 : decode cX6_call 8 = .ok (.ireturn, 1) := db_dX6_call_0.2.2.2.2.1
theorem dX6_call_9 : decode cX6_call 9 = .ok (.iload_n 2, 1) := db_dX6_call_0.2.2.2.2.2.1
theorem dX6_call_10 : decode cX6_call 10 = .ok (.ifCond .ne 28, 3) := db_dX6_call_0.2.2.2.2.2.2.1
theorem dX6_call_13 : decode cX6_call 13 = .ok (.iload_n 3, 1) := db_dX6_call_0.2.2.2.2.2.2.2
theorem db_dX6_call_14 : decode cX6_call 14 = .ok (.invokestatic 117, 3) ∧ decode cX6_call 17 = .ok (.ifCond .ne 21, 3) ∧ decode cX6_call 20 = .ok (.aload_n 0, 1) ∧ decode cX6_call 21 = .ok (.getfield 15, 3) ∧ decode cX6_call 24 = .ok (.iload_n 1, 1) ∧ decode cX6_call 25 = .ok (.iaload, 1) ∧ decode cX6_call 26 = .ok (.istore 4, 2) ∧ decode cX6_call 28 = .ok (.aload_n 0, 1) := by decide +kernel
theorem dX6_call_14 : decode cX6_call 14 = .ok (.invokestatic 117, 3) := db_dX6_call_14.1
theorem dX6_call_17 : decode cX6_call 17 = .ok (.ifCond .ne 21, 3) := db_dX6_call_14.2.1
theorem dX6_call_20 : decode cX6_call 20 = .ok (.aload_n 0, 1) := db_dX6_call_14.2.2.1
theorem dX6_call_21 : decode cX6_call 21 = .ok (.getfield 15, 3) := db_dX6_call_14.2.2.2.1
theorem dX6_call_24 : decode cX6_call 24 = .ok (.iload_n 1, 1) := db_dX6_call_14.2.2.2.2.1
theorem dX6_call_25 : decode cX6_call 25 = .ok (.iaload, 1) := db_dX6_call_14.2.2.2.2.2.1
theorem dX6_call_26 : decode cX6_call 26 = .ok (.istore 4, 2) := db_dX6_call_14.2.2.2.2.2.2.1
theorem dX6_call_28 : decode cX6_call 28 = .ok (.aload_n 0, 1) := db_dX6_call_14.2.2.2.2.2.2.2
theorem db_dX6_call_29 : decode cX6_call 29 = .ok (.getfield 15, 3) ∧ decode cX6_call 32 = .ok (.iload_n 1, 1) ∧ decode cX6_call 33 = .ok (.iload_n 3, 1) ∧ decode cX6_call 34 = .ok (.iastore, 1) ∧ decode cX6_call 35 = .ok (.iload 4, 2) ∧ decode cX6_call 37 = .ok (.ireturn, 1) ∧ decode cX6_call 38 = .ok (.iload_n 2, 1) ∧ decode cX6_call 39 = .ok (.iconst 1, 1) := by decide +kernel
theorem dX6_call_29 : decode cX6_call 29 = .ok (.getfield 15, 3) := db_dX6_call_29.1
theorem dX6_call_32 : decode cX6_call 32 = .ok (.iload_n 1, 1) := db_dX6_call_29.2.1
theorem dX6_call_33 : decode cX6_call 33 = .ok (.iload_n 3, 1) := db_dX6_call_29.2.2.1
theorem dX6_call_34 : decode cX6_call 34 = .ok (.iastore, 1) := db_dX6_call_29.2.2.2.1
theorem dX6_call_35 : decode cX6_call 35 = .ok (.iload 4, 2) := db_dX6_call_29.2.2.2.2.1
theorem dX6_call_37 : decode cX6_call 37 = .ok (.ireturn, 1) := db_dX6_call_29.2.2.2.2.2.1
theorem dX6_call_38 : decode cX6_call 38 = .ok (.iload_n 2, 1) := db_dX6_call_29.2.2.2.2.2.2.1
theorem dX6_call_39 : decode cX6_call 39 = .ok (.iconst 1, 1) := db_dX6_call_29.2.2.2.2.2.2.2
theorem db_dX6_call_40 : decode cX6_call 40 = .ok (.if_icmp .ne 30, 3) ∧ decode cX6_call 43 = .ok (.iload_n 3, 1) ∧ decode cX6_call 44 = .ok (.iconst 0, 1) ∧ decode cX6_call 45 = .ok (.iconst 3, 1) ∧ decode cX6_call 46 = .ok (.invokestatic 69, 3) ∧ decode cX6_call 49 = .ok (.ifCond .ne 21, 3) ∧ decode cX6_call 52 = .ok (.aload_n 0, 1) ∧ decode cX6_call 53 = .ok (.getfield 19, 3) := by decide +kernel
theorem dX6_call_40 : decode cX6_call 40 = .ok (.if_icmp .ne 30, 3) := db_dX6_call_40.1
theorem dX6_call_43 : decode cX6_call 43 = .ok (.iload_n 3, 1) := db_dX6_call_40.2.1
theorem dX6_call_44 : decode cX6_call 44 = .ok (.iconst 0, 1) := db_dX6_call_40.2.2.1
theorem dX6_call_45 : decode cX6_call 45 = .ok (.iconst 3, 1) := db_dX6_call_40.2.2.2.1
theorem dX6_call_46 : decode cX6_call 46 = .ok (.invokestatic 69, 3) := db_dX6_call_40.2.2.2.2.1
theorem dX6_call_49 : decode cX6_call 49 = .ok (.ifCond .ne 21, 3) := db_dX6_call_40.2.2.2.2.2.1
theorem dX6_call_52 : decode cX6_call 52 = .ok (.aload_n 0, 1) := db_dX6_call_40.2.2.2.2.2.2.1
theorem dX6_call_53 : decode cX6_call 53 = .ok (.getfield 19, 3) := db_dX6_call_40.2.2.2.2.2.2.2
theorem db_dX6_call_56 : decode cX6_call 56 = .ok (.iload_n 1, 1) ∧ decode cX6_call 57 = .ok (.iaload, 1) ∧ decode cX6_call 58 = .ok (.istore 4, 2) ∧ decode cX6_call 60 = .ok (.aload_n 0, 1) ∧ decode cX6_call 61 = .ok (.getfield 19, 3) ∧ decode cX6_call 64 = .ok (.iload_n 1, 1) ∧ decode cX6_call 65 = .ok (.iload_n 3, 1) ∧ decode cX6_call 66 = .ok (.iastore, 1) := by decide +kernel
theorem dX6_call_56 : decode cX6_call 56 = .ok (.iload_n 1, 1) := db_dX6_call_56.1
theorem dX6_call_57 : decode cX6_call 57 = .ok (.iaload, 1) := db_dX6_call_56.2.1
theorem dX6_call_58 : decode cX6_call 58 = .ok (.istore 4, 2) := db_dX6_call_56.2.2.1
theorem dX6_call_60 : decode cX6_call 60 = .ok (.aload_n 0, 1) := db_dX6_call_56.2.2.2.1
theorem dX6_call_61 : decode cX6_call 61 = .ok (.getfield 19, 3) := db_dX6_call_56.2.2.2.2.1
theorem dX6_call_64 : decode cX6_call 64 = .ok (.iload_n 1, 1) := db_dX6_call_56.2.2.2.2.2.1
theorem dX6_call_65 : decode cX6_call 65 = .ok (.iload_n 3, 1) := db_dX6_call_56.2.2.2.2.2.2.1
theorem dX6_call_66 : decode cX6_call 66 = .ok (.iastore, 1) := db_dX6_call_56.2.2.2.2.2.2.2
theorem db_dX6_call_67 : decode cX6_call 67 = .ok (.iload 4, 2) ∧ decode cX6_call 69 = .ok (.ireturn, 1) ∧ decode cX6_call 70 = .ok (.iconst (-1), 1) ∧ decode cX6_call 71 = .ok (.ireturn, 1) := by decide +kernel
theorem dX6_call_67 : decode cX6_call 67 = .ok (.iload 4, 2) := db_dX6_call_67.1
theorem dX6_call_69 : decode cX6_call 69 = .ok (.ireturn, 1) := db_dX6_call_67.2.1
theorem dX6_call_70 : decode cX6_call 70 = .ok (.iconst (-1), 1) := db_dX6_call_67.2.2.1
theorem dX6_call_71 : decode cX6_call 71 = .ok (.ireturn, 1) := db_dX6_call_67.2.2.2
theorem db_dX6_shift_0 : decode cX6_shift 0 = .ok (.iload_n 1, 1) ∧ decode cX6_shift 1 = .ok (.iconst 0, 1) ∧ decode cX6_shift 2 = .ok (.iconst 3, 1) ∧ decode cX6_shift 3 = .ok (.invokestatic 69, 3) ∧ decode cX6_shift 6 = .ok (.ifCond .ne 14, 3) ∧ decode cX6_shift 9 = .ok (.iload_n 2, 1) ∧ decode cX6_shift 10 = .ok (.bipush (-50), 2) ∧ decode cX6_shift 12 = .ok (.bipush 50, 2) := by decide +kernel
theorem dX6_shift_0 : decode cX6_shift 0 = .ok (.iload_n 1, 1) := db_dX6_shift_0.1
theorem dX6_shift_1 : decode cX6_shift 1 = .ok (.iconst 0, 1) := db_dX6_shift_0.2.1
theorem dX6_shift_2 : decode cX6_shift 2 = .ok (.iconst 3, 1) := db_dX6_shift_0.2.2.1
theorem dX6_shift_3 : decode cX6_shift 3 = .ok (.invokestatic 69, 3) := db_dX6_shift_0.2.2.2.1
theorem dX6_shift_6 : decode cX6_shift 6 = .ok (.ifCond .ne 14, 3) := db_dX6_shift_0.2.2.2.2.1
theorem dX6_shift_9 : decode cX6_shift 9 = .ok (.iload_n 2, 1) := db_dX6_shift_0.2.2.2.2.2.1
theorem dX6_shift_10 : decode cX6_shift 10 = .ok (.bipush (-50), 2) := db_dX6_shift_0.2.2.2.2.2.2.1
theorem dX6_shift_12 : decode cX6_shift 12 = .ok (.bipush 50, 2) := db_dX6_shift_0.2.2.2.2.2.2.2
theorem db_dX6_shift_14 : decode cX6_shift 14 = .ok (.invokestatic 69, 3) ∧ decode cX6_shift 17 = .ok (.ifCond .eq 7, 3) ∧ decode cX6_shift 20 = .ok (.sipush (-1000), 3) ∧ decode cX6_shift 23 = .ok (.ireturn, 1) ∧ decode cX6_shift 24 = .ok (.aload_n 0, 1) ∧ decode cX6_shift 25 = .ok (.getfield 22, 3) ∧ decode cX6_shift 28 = .ok (.iload_n 1, 1) ∧ decode cX6_shift 29 = .ok (.iaload, 1) := by decide +kernel
theorem dX6_shift_14 : decode cX6_shift 14 = .ok (.invokestatic 69, 3) := db_dX6_shift_14.1
theorem dX6_shift_17 : decode cX6_shift 17 = .ok (.ifCond .eq 7, 3) := db_dX6_shift_14.2.1
theorem dX6_shift_20 : decode cX6_shift 20 = .ok (.sipush (-1000), 3) := db_dX6_shift_14.2.2.1
theorem dX6_shift_23 : decode cX6_shift 23 = .ok (.ireturn, 1) := db_dX6_shift_14.2.2.2.1
theorem dX6_shift_24 : decode cX6_shift 24 = .ok (.aload_n 0, 1) := db_dX6_shift_14.2.2.2.2.1
theorem dX6_shift_25 : decode cX6_shift 25 = .ok (.getfield 22, 3) := db_dX6_shift_14.2.2.2.2.2.1
theorem dX6_shift_28 : decode cX6_shift 28 = .ok (.iload_n 1, 1) := db_dX6_shift_14.2.2.2.2.2.2.1
theorem dX6_shift_29 : decode cX6_shift 29 = .ok (.iaload, 1) := db_dX6_shift_14.2.2.2.2.2.2.2
theorem db_dX6_shift_30 : decode cX6_shift 30 = .ok (.istore_n 3, 1) ∧ decode cX6_shift 31 = .ok (.aload_n 0, 1) ∧ decode cX6_shift 32 = .ok (.getfield 22, 3) ∧ decode cX6_shift 35 = .ok (.iload_n 1, 1) ∧ decode cX6_shift 36 = .ok (.iload_n 2, 1) ∧ decode cX6_shift 37 = .ok (.iastore, 1) ∧ decode cX6_shift 38 = .ok (.iload_n 3, 1) ∧ decode cX6_shift 39 = .ok (.ireturn, 1) := by decide +kernel
theorem dX6_shift_30 : decode cX6_shift 30 = .ok (.istore_n 3, 1) := db_dX6_shift_30.1
theorem dX6_shift_31 : decode cX6_shift 31 = .ok (.aload_n 0, 1) := db_dX6_shift_30.2.1
theorem dX6_shift_32 : decode cX6_shift 32 = .ok (.getfield 22, 3) := db_dX6_shift_30.2.2.1
theorem dX6_shift_35 : decode cX6_shift 35 = .ok (.iload_n 1, 1) := db_dX6_shift_30.2.2.2.1
theorem dX6_shift_36 : decode cX6_shift 36 = .ok (.iload_n 2, 1) := db_dX6_shift_30.2.2.2.2.1
theorem dX6_shift_37 : decode cX6_shift 37 = .ok (.iastore, 1) := db_dX6_shift_30.2.2.2.2.2.1
theorem dX6_shift_38 : decode cX6_shift 38 = .ok (.iload_n 3, 1) := db_dX6_shift_30.2.2.2.2.2.2.1
theorem dX6_shift_39 : decode cX6_shift 39 = .ok (.ireturn, 1) := db_dX6_shift_30.2.2.2.2.2.2.2
theorem db_dX6_mask_0 : decode cX6_mask 0 = .ok (.iload_n 1, 1) ∧ decode cX6_mask 1 = .ok (.invokestatic 117, 3) ∧ decode cX6_mask 4 = .ok (.ifCond .ne 19, 3) ∧ decode cX6_mask 7 = .ok (.iload_n 2, 1) ∧ decode cX6_mask 8 = .ok (.ifCond .lt 15, 3) ∧ decode cX6_mask 11 = .ok (.iload_n 2, 1) ∧ decode cX6_mask 12 = .ok (.iload_n 3, 1) ∧ decode cX6_mask 13 = .ok (.if_icmp .ge 10, 3) := by decide +kernel
theorem dX6_mask_0 : decode cX6_mask 0 = .ok (.iload_n 1, 1) := db_dX6_mask_0.1
theorem dX6_mask_1 : decode cX6_mask 1 = .ok (.invokestatic 117, 3) := db_dX6_mask_0.2.1
theorem dX6_mask_4 : decode cX6_mask 4 = .ok (.ifCond .ne 19, 3) := db_dX6_mask_0.2.2.1
theorem dX6_mask_7 : decode cX6_mask 7 = .ok (.iload_n 2, 1) := db_dX6_mask_0.2.2.2.1
theorem dX6_mask_8 : decode cX6_mask 8 = .ok (.ifCond .lt 15, 3) := db_dX6_mask_0.2.2.2.2.1
theorem dX6_mask_11 : decode cX6_mask 11 = .ok (.iload_n 2, 1) := db_dX6_mask_0.2.2.2.2.2.1
theorem dX6_mask_12 : decode cX6_mask 12 = .ok (.iload_n 3, 1) := db_dX6_mask_0.2.2.2.2.2.2.1
theorem dX6_mask_13 : decode cX6_mask 13 = .ok (.if_icmp .ge 10, 3) := db_dX6_mask_0.2.2.2.2.2.2.2
theorem db_dX6_mask_16 : decode cX6_mask 16 = .ok (.iload_n 3, 1) ∧ decode cX6_mask 17 = .ok (.sipush 4000, 3) ∧ decode cX6_mask 20 = .ok (.if_icmp .le 5, 3) ∧ decode cX6_mask 23 = .ok (.iconst (-1), 1) ∧ decode cX6_mask 24 = .ok (.ireturn, 1) ∧ decode cX6_mask 25 = .ok (.aload_n 0, 1) ∧ decode cX6_mask 26 = .ok (.getfield 50, 3) ∧ decode cX6_mask 29 = .ok (.bipush 10, 2) := by decide +kernel
theorem dX6_mask_16 : decode cX6_mask 16 = .ok (.iload_n 3, 1) := db_dX6_mask_16.1
theorem dX6_mask_17 : decode cX6_mask 17 = .ok (.sipush 4000, 3) := db_dX6_mask_16.2.1
theorem dX6_mask_20 : decode cX6_mask 20 = .ok (.if_icmp .le 5, 3) := db_dX6_mask_16.2.2.1
theorem dX6_mask_23 : decode cX6_mask 23 = .ok (.iconst (-1), 1) := db_dX6_mask_16.2.2.2.1
theorem dX6_mask_24 : decode cX6_mask 24 = .ok (.ireturn, 1) := db_dX6_mask_16.2.2.2.2.1
theorem dX6_mask_25 : decode cX6_mask 25 = .ok (.aload_n 0, 1) := db_dX6_mask_16.2.2.2.2.2.1
theorem dX6_mask_26 : decode cX6_mask 26 = .ok (.getfield 50, 3) := db_dX6_mask_16.2.2.2.2.2.2.1
theorem dX6_mask_29 : decode cX6_mask 29 = .ok (.bipush 10, 2) := db_dX6_mask_16.2.2.2.2.2.2.2
theorem db_dX6_mask_31 : decode cX6_mask 31 = .ok (.if_icmp .lt 6, 3) ∧ decode cX6_mask 34 = .ok (.bipush (-3), 2) ∧ decode cX6_mask 36 = .ok (.ireturn, 1) ∧ decode cX6_mask 37 = .ok (.aload_n 0, 1) ∧ decode cX6_mask 38 = .ok (.getfield 27, 3) ∧ decode cX6_mask 41 = .ok (.aload_n 0, 1) ∧ decode cX6_mask 42 = .ok (.getfield 50, 3) ∧ decode cX6_mask 45 = .ok (.aaload, 1) := by decide +kernel
theorem dX6_mask_31 : decode cX6_mask 31 = .ok (.if_icmp .lt 6, 3) := db_dX6_mask_31.1
theorem dX6_mask_34 : decode cX6_mask 34 = .ok (.bipush (-3), 2) := db_dX6_mask_31.2.1
theorem dX6_mask_36 : decode cX6_mask 36 = .ok (.ireturn, 1) := db_dX6_mask_31.2.2.1
theorem dX6_mask_37 : decode cX6_mask 37 = .ok (.aload_n 0, 1) := db_dX6_mask_31.2.2.2.1
theorem dX6_mask_38 : decode cX6_mask 38 = .ok (.getfield 27, 3) := db_dX6_mask_31.2.2.2.2.1
theorem dX6_mask_41 : decode cX6_mask 41 = .ok (.aload_n 0, 1) := db_dX6_mask_31.2.2.2.2.2.1
theorem dX6_mask_42 : decode cX6_mask 42 = .ok (.getfield 50, 3) := db_dX6_mask_31.2.2.2.2.2.2.1
theorem dX6_mask_45 : decode cX6_mask 45 = .ok (.aaload, 1) := db_dX6_mask_31.2.2.2.2.2.2.2
theorem db_dX6_mask_46 : decode cX6_mask 46 = .ok (.iload_n 1, 1) ∧ decode cX6_mask 47 = .ok (.iload_n 2, 1) ∧ decode cX6_mask 48 = .ok (.iload_n 3, 1) ∧ decode cX6_mask 49 = .ok (.invokevirtual 120, 3) ∧ decode cX6_mask 52 = .ok (.aload_n 0, 1) ∧ decode cX6_mask 53 = .ok (.dup, 1) ∧ decode cX6_mask 54 = .ok (.getfield 50, 3) ∧ decode cX6_mask 57 = .ok (.iconst 1, 1) := by decide +kernel
theorem dX6_mask_46 : decode cX6_mask 46 = .ok (.iload_n 1, 1) := db_dX6_mask_46.1
theorem dX6_mask_47 : decode cX6_mask 47 = .ok (.iload_n 2, 1) := db_dX6_mask_46.2.1
theorem dX6_mask_48 : decode cX6_mask 48 = .ok (.iload_n 3, 1) := db_dX6_mask_46.2.2.1
theorem dX6_mask_49 : decode cX6_mask 49 = .ok (.invokevirtual 120, 3) := db_dX6_mask_46.2.2.2.1
theorem dX6_mask_52 : decode cX6_mask 52 = .ok (.aload_n 0, 1) := db_dX6_mask_46.2.2.2.2.1
theorem dX6_mask_53 : decode cX6_mask 53 = .ok (.dup, 1) := db_dX6_mask_46.2.2.2.2.2.1
theorem dX6_mask_54 : decode cX6_mask 54 = .ok (.getfield 50, 3) := db_dX6_mask_46.2.2.2.2.2.2.1
theorem dX6_mask_57 : decode cX6_mask 57 = .ok (.iconst 1, 1) := db_dX6_mask_46.2.2.2.2.2.2.2
theorem db_dX6_mask_58 : decode cX6_mask 58 = .ok (.iadd, 1) ∧ decode cX6_mask 59 = .ok (.putfield 50, 3) ∧ decode cX6_mask 62 = .ok (.aload_n 0, 1) ∧ decode cX6_mask 63 = .ok (.getfield 50, 3) ∧ decode cX6_mask 66 = .ok (.ireturn, 1) := by decide +kernel
theorem dX6_mask_58 : decode cX6_mask 58 = .ok (.iadd, 1) := db_dX6_mask_58.1
theorem dX6_mask_59 : decode cX6_mask 59 = .ok (.putfield 50, 3) := db_dX6_mask_58.2.1
theorem dX6_mask_62 : decode cX6_mask 62 = .ok (.aload_n 0, 1) := db_dX6_mask_58.2.2.1
theorem dX6_mask_63 : decode cX6_mask 63 = .ok (.getfield 50, 3) := db_dX6_mask_58.2.2.2.1
theorem dX6_mask_66 : decode cX6_mask 66 = .ok (.ireturn, 1) := db_dX6_mask_58.2.2.2.2
theorem db_dX6_maskWhile_0 : decode cX6_maskWhile 0 = .ok (.iload_n 1, 1) ∧ decode cX6_maskWhile 1 = .ok (.invokestatic 117, 3) ∧ decode cX6_maskWhile 4 = .ok (.ifCond .ne 17, 3) ∧ decode cX6_maskWhile 7 = .ok (.iload_n 2, 1) ∧ decode cX6_maskWhile 8 = .ok (.invokestatic 117, 3) ∧ decode cX6_maskWhile 11 = .ok (.ifCond .ne 10, 3) ∧ decode cX6_maskWhile 14 = .ok (.iload_n 3, 1) ∧ decode cX6_maskWhile 15 = .ok (.invokestatic 73, 3) := by decide +kernel
theorem dX6_maskWhile_0 : decode cX6_maskWhile 0 = .ok (.iload_n 1, 1) := db_dX6_maskWhile_0.1
theorem dX6_maskWhile_1 : decode cX6_maskWhile 1 = .ok (.invokestatic 117, 3) := db_dX6_maskWhile_0.2.1
theorem dX6_maskWhile_4 : decode cX6_maskWhile 4 = .ok (.ifCond .ne 17, 3) := db_dX6_maskWhile_0.2.2.1
theorem dX6_maskWhile_7 : decode cX6_maskWhile 7 = .ok (.iload_n 2, 1) := db_dX6_maskWhile_0.2.2.2.1
theorem dX6_maskWhile_8 : decode cX6_maskWhile 8 = .ok (.invokestatic 117, 3) := db_dX6_maskWhile_0.2.2.2.2.1
theorem dX6_maskWhile_11 : decode cX6_maskWhile 11 = .ok (.ifCond .ne 10, 3) := db_dX6_maskWhile_0.2.2.2.2.2.1
theorem dX6_maskWhile_14 : decode cX6_maskWhile 14 = .ok (.iload_n 3, 1) := db_dX6_maskWhile_0.2.2.2.2.2.2.1
theorem dX6_maskWhile_15 : decode cX6_maskWhile 15 = .ok (.invokestatic 73, 3) := db_dX6_maskWhile_0.2.2.2.2.2.2.2
theorem db_dX6_maskWhile_18 : decode cX6_maskWhile 18 = .ok (.ifCond .eq 5, 3) ∧ decode cX6_maskWhile 21 = .ok (.iconst (-1), 1) ∧ decode cX6_maskWhile 22 = .ok (.ireturn, 1) ∧ decode cX6_maskWhile 23 = .ok (.aload_n 0, 1) ∧ decode cX6_maskWhile 24 = .ok (.getfield 50, 3) ∧ decode cX6_maskWhile 27 = .ok (.bipush 10, 2) ∧ decode cX6_maskWhile 29 = .ok (.if_icmp .lt 6, 3) ∧ decode cX6_maskWhile 32 = .ok (.bipush (-3), 2) := by decide +kernel
theorem dX6_maskWhile_18 : decode cX6_maskWhile 18 = .ok (.ifCond .eq 5, 3) := db_dX6_maskWhile_18.1
theorem dX6_maskWhile_21 : decode cX6_maskWhile 21 = .ok (.iconst (-1), 1) := db_dX6_maskWhile_18.2.1
theorem dX6_maskWhile_22 : decode cX6_maskWhile 22 = .ok (.ireturn, 1) := db_dX6_maskWhile_18.2.2.1
theorem dX6_maskWhile_23 : decode cX6_maskWhile 23 = .ok (.aload_n 0, 1) := db_dX6_maskWhile_18.2.2.2.1
theorem dX6_maskWhile_24 : decode cX6_maskWhile 24 = .ok (.getfield 50, 3) := db_dX6_maskWhile_18.2.2.2.2.1
theorem dX6_maskWhile_27 : decode cX6_maskWhile 27 = .ok (.bipush 10, 2) := db_dX6_maskWhile_18.2.2.2.2.2.1
theorem dX6_maskWhile_29 : decode cX6_maskWhile 29 = .ok (.if_icmp .lt 6, 3) := db_dX6_maskWhile_18.2.2.2.2.2.2.1
theorem dX6_maskWhile_32 : decode cX6_maskWhile 32 = .ok (.bipush (-3), 2) := db_dX6_maskWhile_18.2.2.2.2.2.2.2
theorem db_dX6_maskWhile_34 : decode cX6_maskWhile 34 = .ok (.ireturn, 1) ∧ decode cX6_maskWhile 35 = .ok (.aload_n 0, 1) ∧ decode cX6_maskWhile 36 = .ok (.getfield 27, 3) ∧ decode cX6_maskWhile 39 = .ok (.aload_n 0, 1) ∧ decode cX6_maskWhile 40 = .ok (.getfield 50, 3) ∧ decode cX6_maskWhile 43 = .ok (.aaload, 1) ∧ decode cX6_maskWhile 44 = .ok (.iload_n 1, 1) ∧ decode cX6_maskWhile 45 = .ok (.aload_n 0, 1) := by decide +kernel
theorem dX6_maskWhile_34 : decode cX6_maskWhile 34 = .ok (.ireturn, 1) := db_dX6_maskWhile_34.1
theorem dX6_maskWhile_35 : decode cX6_maskWhile 35 = .ok (.aload_n 0, 1) := db_dX6_maskWhile_34.2.1
theorem dX6_maskWhile_36 : decode cX6_maskWhile 36 = .ok (.getfield 27, 3) := db_dX6_maskWhile_34.2.2.1
theorem dX6_maskWhile_39 : decode cX6_maskWhile 39 = .ok (.aload_n 0, 1) := db_dX6_maskWhile_34.2.2.2.1
theorem dX6_maskWhile_40 : decode cX6_maskWhile 40 = .ok (.getfield 50, 3) := db_dX6_maskWhile_34.2.2.2.2.1
theorem dX6_maskWhile_43 : decode cX6_maskWhile 43 = .ok (.aaload, 1) := db_dX6_maskWhile_34.2.2.2.2.2.1
theorem dX6_maskWhile_44 : decode cX6_maskWhile 44 = .ok (.iload_n 1, 1) := db_dX6_maskWhile_34.2.2.2.2.2.2.1
theorem dX6_maskWhile_45 : decode cX6_maskWhile 45 = .ok (.aload_n 0, 1) := db_dX6_maskWhile_34.2.2.2.2.2.2.2
theorem db_dX6_maskWhile_46 : decode cX6_maskWhile 46 = .ok (.iconst 0, 1) ∧ decode cX6_maskWhile 47 = .ok (.iload_n 2, 1) ∧ decode cX6_maskWhile 48 = .ok (.invokevirtual 77, 3) ∧ decode cX6_maskWhile 51 = .ok (.iload_n 3, 1) ∧ decode cX6_maskWhile 52 = .ok (.invokevirtual 124, 3) ∧ decode cX6_maskWhile 55 = .ok (.aload_n 0, 1) ∧ decode cX6_maskWhile 56 = .ok (.dup, 1) ∧ decode cX6_maskWhile 57 = .ok (.getfield 50, 3) := by decide +kernel
theorem dX6_maskWhile_46 : decode cX6_maskWhile 46 = .ok (.iconst 0, 1) := db_dX6_maskWhile_46.1
theorem dX6_maskWhile_47 : decode cX6_maskWhile 47 = .ok (.iload_n 2, 1) := db_dX6_maskWhile_46.2.1
theorem dX6_maskWhile_48 : decode cX6_maskWhile 48 = .ok (.invokevirtual 77, 3) := db_dX6_maskWhile_46.2.2.1
theorem dX6_maskWhile_51 : decode cX6_maskWhile 51 = .ok (.iload_n 3, 1) := db_dX6_maskWhile_46.2.2.2.1
theorem dX6_maskWhile_52 : decode cX6_maskWhile 52 = .ok (.invokevirtual 124, 3) := db_dX6_maskWhile_46.2.2.2.2.1
theorem dX6_maskWhile_55 : decode cX6_maskWhile 55 = .ok (.aload_n 0, 1) := db_dX6_maskWhile_46.2.2.2.2.2.1
theorem dX6_maskWhile_56 : decode cX6_maskWhile 56 = .ok (.dup, 1) := db_dX6_maskWhile_46.2.2.2.2.2.2.1
theorem dX6_maskWhile_57 : decode cX6_maskWhile 57 = .ok (.getfield 50, 3) := db_dX6_maskWhile_46.2.2.2.2.2.2.2
theorem db_dX6_maskWhile_60 : decode cX6_maskWhile 60 = .ok (.iconst 1, 1) ∧ decode cX6_maskWhile 61 = .ok (.iadd, 1) ∧ decode cX6_maskWhile 62 = .ok (.putfield 50, 3) ∧ decode cX6_maskWhile 65 = .ok (.aload_n 0, 1) ∧ decode cX6_maskWhile 66 = .ok (.getfield 50, 3) ∧ decode cX6_maskWhile 69 = .ok (.ireturn, 1) := by decide +kernel
theorem dX6_maskWhile_60 : decode cX6_maskWhile 60 = .ok (.iconst 1, 1) := db_dX6_maskWhile_60.1
theorem dX6_maskWhile_61 : decode cX6_maskWhile 61 = .ok (.iadd, 1) := db_dX6_maskWhile_60.2.1
theorem dX6_maskWhile_62 : decode cX6_maskWhile 62 = .ok (.putfield 50, 3) := db_dX6_maskWhile_60.2.2.1
theorem dX6_maskWhile_65 : decode cX6_maskWhile 65 = .ok (.aload_n 0, 1) := db_dX6_maskWhile_60.2.2.2.1
theorem dX6_maskWhile_66 : decode cX6_maskWhile 66 = .ok (.getfield 50, 3) := db_dX6_maskWhile_60.2.2.2.2.1
theorem dX6_maskWhile_69 : decode cX6_maskWhile 69 = .ok (.ireturn, 1) := db_dX6_maskWhile_60.2.2.2.2.2
theorem db_dX6_noMasks_0 : decode cX6_noMasks 0 = .ok (.aload_n 0, 1) ∧ decode cX6_noMasks 1 = .ok (.getfield 50, 3) ∧ decode cX6_noMasks 4 = .ok (.istore_n 1, 1) ∧ decode cX6_noMasks 5 = .ok (.aload_n 0, 1) ∧ decode cX6_noMasks 6 = .ok (.iconst 0, 1) ∧ decode cX6_noMasks 7 = .ok (.putfield 50, 3) ∧ decode cX6_noMasks 10 = .ok (.iload_n 1, 1) ∧ decode cX6_noMasks 11 = .ok (.ireturn, 1) := by decide +kernel
theorem dX6_noMasks_0 : decode cX6_noMasks 0 = .ok (.aload_n 0, 1) := db_dX6_noMasks_0.1
theorem dX6_noMasks_1 : decode cX6_noMasks 1 = .ok (.getfield 50, 3) := db_dX6_noMasks_0.2.1
theorem dX6_noMasks_4 : decode cX6_noMasks 4 = .ok (.istore_n 1, 1) := db_dX6_noMasks_0.2.2.1
theorem dX6_noMasks_5 : decode cX6_noMasks 5 = .ok (.aload_n 0, 1) := db_dX6_noMasks_0.2.2.2.1
theorem dX6_noMasks_6 : decode cX6_noMasks 6 = .ok (.iconst 0, 1) := db_dX6_noMasks_0.2.2.2.2.1
theorem dX6_noMasks_7 : decode cX6_noMasks 7 = .ok (.putfield 50, 3) := db_dX6_noMasks_0.2.2.2.2.2.1
theorem dX6_noMasks_10 : decode cX6_noMasks 10 = .ok (.iload_n 1, 1) := db_dX6_noMasks_0.2.2.2.2.2.2.1
theorem dX6_noMasks_11 : decode cX6_noMasks 11 = .ok (.ireturn, 1) := db_dX6_noMasks_0.2.2.2.2.2.2.2
theorem db_dX6_differences_0 : decode cX6_differences 0 = .ok (.iconst 0, 1) ∧ decode cX6_differences 1 = .ok (.istore_n 1, 1) ∧ decode cX6_differences 2 = .ok (.iconst 0, 1) ∧ decode cX6_differences 3 = .ok (.istore_n 2, 1) ∧ decode cX6_differences 4 = .ok (.iload_n 2, 1) ∧ decode cX6_differences 5 = .ok (.bipush 12, 2) ∧ decode cX6_differences 7 = .ok (.if_icmp .ge 40, 3) ∧ decode cX6_differences 10 = .ok (.aload_n 0, 1) := by decide +kernel
theorem dX6_differences_0 : decode cX6_differences 0 = .ok (.iconst 0, 1) := db_dX6_differences_0.1
theorem dX6_differences_1 : decode cX6_differences 1 = .ok (.istore_n 1, 1) := db_dX6_differences_0.2.1
theorem dX6_differences_2 : decode cX6_differences 2 = .ok (.iconst 0, 1) := db_dX6_differences_0.2.2.1
theorem dX6_differences_3 : decode cX6_differences 3 = .ok (.istore_n 2, 1) := db_dX6_differences_0.2.2.2.1
theorem dX6_differences_4 : decode cX6_differences 4 = .ok (.iload_n 2, 1) := db_dX6_differences_0.2.2.2.2.1
theorem dX6_differences_5 : decode cX6_differences 5 = .ok (.bipush 12, 2) := db_dX6_differences_0.2.2.2.2.2.1
theorem dX6_differences_7 : decode cX6_differences 7 = .ok (.if_icmp .ge 40, 3) := db_dX6_differences_0.2.2.2.2.2.2.1
theorem dX6_differences_10 : decode cX6_differences 10 = .ok (.aload_n 0, 1) := db_dX6_differences_0.2.2.2.2.2.2.2
theorem db_dX6_differences_11 : decode cX6_differences 11 = .ok (.iload_n 2, 1) ∧ decode cX6_differences 12 = .ok (.aload_n 0, 1) ∧ decode cX6_differences 13 = .ok (.getfield 22, 3) ∧ decode cX6_differences 16 = .ok (.aload_n 0, 1) ∧ decode cX6_differences 17 = .ok (.getfield 19, 3) ∧ decode cX6_differences 20 = .ok (.iload_n 2, 1) ∧ decode cX6_differences 21 = .ok (.iaload, 1) ∧ decode cX6_differences 22 = .ok (.iaload, 1) := by decide +kernel
theorem dX6_differences_11 : decode cX6_differences 11 = .ok (.iload_n 2, 1) := db_dX6_differences_11.1
theorem dX6_differences_12 : decode cX6_differences 12 = .ok (.aload_n 0, 1) := db_dX6_differences_11.2.1
theorem dX6_differences_13 : decode cX6_differences 13 = .ok (.getfield 22, 3) := db_dX6_differences_11.2.2.1
theorem dX6_differences_16 : decode cX6_differences 16 = .ok (.aload_n 0, 1) := db_dX6_differences_11.2.2.2.1
theorem dX6_differences_17 : decode cX6_differences 17 = .ok (.getfield 19, 3) := db_dX6_differences_11.2.2.2.2.1
theorem dX6_differences_20 : decode cX6_differences 20 = .ok (.iload_n 2, 1) := db_dX6_differences_11.2.2.2.2.2.1
theorem dX6_differences_21 : decode cX6_differences 21 = .ok (.iaload, 1) := db_dX6_differences_11.2.2.2.2.2.2.1
theorem dX6_differences_22 : decode cX6_differences 22 = .ok (.iaload, 1) := db_dX6_differences_11.2.2.2.2.2.2.2
theorem db_dX6_differences_23 : decode cX6_differences 23 = .ok (.invokevirtual 128, 3) ∧ decode cX6_differences 26 = .ok (.iload_n 1, 1) ∧ decode cX6_differences 27 = .ok (.aload_n 0, 1) ∧ decode cX6_differences 28 = .ok (.getfield 46, 3) ∧ decode cX6_differences 31 = .ok (.iconst 1, 1) ∧ decode cX6_differences 32 = .ok (.aload_n 0, 1) ∧ decode cX6_differences 33 = .ok (.getfield 54, 3) ∧ decode cX6_differences 36 = .ok (.invokevirtual 131, 3) := by decide +kernel
theorem dX6_differences_23 : decode cX6_differences 23 = .ok (.invokevirtual 128, 3) := db_dX6_differences_23.1
theorem dX6_differences_26 : decode cX6_differences 26 = .ok (.iload_n 1, 1) := db_dX6_differences_23.2.1
theorem dX6_differences_27 : decode cX6_differences 27 = .ok (.aload_n 0, 1) := db_dX6_differences_23.2.2.1
theorem dX6_differences_28 : decode cX6_differences 28 = .ok (.getfield 46, 3) := db_dX6_differences_23.2.2.2.1
theorem dX6_differences_31 : decode cX6_differences 31 = .ok (.iconst 1, 1) := db_dX6_differences_23.2.2.2.2.1
theorem dX6_differences_32 : decode cX6_differences 32 = .ok (.aload_n 0, 1) := db_dX6_differences_23.2.2.2.2.2.1
theorem dX6_differences_33 : decode cX6_differences 33 = .ok (.getfield 54, 3) := db_dX6_differences_23.2.2.2.2.2.2.1
theorem dX6_differences_36 : decode cX6_differences 36 = .ok (.invokevirtual 131, 3) := db_dX6_differences_23.2.2.2.2.2.2.2
theorem db_dX6_differences_39 : decode cX6_differences 39 = .ok (.iadd, 1) ∧ decode cX6_differences 40 = .ok (.istore_n 1, 1) ∧ decode cX6_differences 41 = .ok (.iinc 2 1, 3) ∧ decode cX6_differences 44 = .ok (.goto (-40), 3) ∧ decode cX6_differences 47 = .ok (.iload_n 1, 1) ∧ decode cX6_differences 48 = .ok (.ireturn, 1) := by decide +kernel
theorem dX6_differences_39 : decode cX6_differences 39 = .ok (.iadd, 1) := db_dX6_differences_39.1
theorem dX6_differences_40 : decode cX6_differences 40 = .ok (.istore_n 1, 1) := db_dX6_differences_39.2.1
theorem dX6_differences_41 : decode cX6_differences 41 = .ok (.iinc 2 1, 3) := db_dX6_differences_39.2.2.1
theorem dX6_differences_44 : decode cX6_differences 44 = .ok (.goto (-40), 3) := db_dX6_differences_39.2.2.2.1
theorem dX6_differences_47 : decode cX6_differences 47 = .ok (.iload_n 1, 1) := db_dX6_differences_39.2.2.2.2.1
theorem dX6_differences_48 : decode cX6_differences 48 = .ok (.ireturn, 1) := db_dX6_differences_39.2.2.2.2.2
theorem db_dX6_difference_0 : decode cX6_difference 0 = .ok (.iload_n 1, 1) ∧ decode cX6_difference 1 = .ok (.ifCond .lt 12, 3) ∧ decode cX6_difference 4 = .ok (.iload_n 2, 1) ∧ decode cX6_difference 5 = .ok (.iconst 0, 1) ∧ decode cX6_difference 6 = .ok (.iconst 2, 1) ∧ decode cX6_difference 7 = .ok (.invokestatic 69, 3) ∧ decode cX6_difference 10 = .ok (.ifCond .eq 5, 3) ∧ decode cX6_difference 13 = .ok (.iconst (-1), 1) := by decide +kernel
theorem dX6_difference_0 : decode cX6_difference 0 = .ok (.iload_n 1, 1) := db_dX6_difference_0.1
theorem dX6_difference_1 : decode cX6_difference 1 = .ok (.ifCond .lt 12, 3) := db_dX6_difference_0.2.1
theorem dX6_difference_4 : decode cX6_difference 4 = .ok (.iload_n 2, 1) := db_dX6_difference_0.2.2.1
theorem dX6_difference_5 : decode cX6_difference 5 = .ok (.iconst 0, 1) := db_dX6_difference_0.2.2.2.1
theorem dX6_difference_6 : decode cX6_difference 6 = .ok (.iconst 2, 1) := db_dX6_difference_0.2.2.2.2.1
theorem dX6_difference_7 : decode cX6_difference 7 = .ok (.invokestatic 69, 3) := db_dX6_difference_0.2.2.2.2.2.1
theorem dX6_difference_10 : decode cX6_difference 10 = .ok (.ifCond .eq 5, 3) := db_dX6_difference_0.2.2.2.2.2.2.1
theorem dX6_difference_13 : decode cX6_difference 13 = .ok (.iconst (-1), 1) := db_dX6_difference_0.2.2.2.2.2.2.2
theorem db_dX6_difference_14 : decode cX6_difference 14 = .ok (.ireturn, 1) ∧ decode cX6_difference 15 = .ok (.iload_n 1, 1) ∧ decode cX6_difference 16 = .ok (.istore_n 3, 1) ∧ decode cX6_difference 17 = .ok (.iconst 0, 1) ∧ decode cX6_difference 18 = .ok (.istore 4, 2) ∧ decode cX6_difference 20 = .ok (.iload 4, 2) ∧ decode cX6_difference 22 = .ok (.bipush 12, 2) ∧ decode cX6_difference 24 = .ok (.if_icmp .ge 73, 3) := by decide +kernel
theorem dX6_difference_14 : decode cX6_difference 14 = .ok (.ireturn, 1) := db_dX6_difference_14.1
theorem dX6_difference_15 : decode cX6_difference 15 = .ok (.iload_n 1, 1) := db_dX6_difference_14.2.1
theorem dX6_difference_16 : decode cX6_difference 16 = .ok (.istore_n 3, 1) := db_dX6_difference_14.2.2.1
theorem dX6_difference_17 : decode cX6_difference 17 = .ok (.iconst 0, 1) := db_dX6_difference_14.2.2.2.1
theorem dX6_difference_18 : decode cX6_difference 18 = .ok (.istore 4, 2) := db_dX6_difference_14.2.2.2.2.1
theorem dX6_difference_20 : decode cX6_difference 20 = .ok (.iload 4, 2) := db_dX6_difference_14.2.2.2.2.2.1
theorem dX6_difference_22 : decode cX6_difference 22 = .ok (.bipush 12, 2) := db_dX6_difference_14.2.2.2.2.2.2.1
theorem dX6_difference_24 : decode cX6_difference 24 = .ok (.if_icmp .ge 73, 3) := db_dX6_difference_14.2.2.2.2.2.2.2
theorem db_dX6_difference_27 : decode cX6_difference 27 = .ok (.aload_n 0, 1) ∧ decode cX6_difference 28 = .ok (.iload 4, 2) ∧ decode cX6_difference 30 = .ok (.aload_n 0, 1) ∧ decode cX6_difference 31 = .ok (.getfield 22, 3) ∧ decode cX6_difference 34 = .ok (.aload_n 0, 1) ∧ decode cX6_difference 35 = .ok (.getfield 19, 3) ∧ decode cX6_difference 38 = .ok (.iload 4, 2) ∧ decode cX6_difference 40 = .ok (.iaload, 1) := by decide +kernel
theorem dX6_difference_27 : decode cX6_difference 27 = .ok (.aload_n 0, 1) := db_dX6_difference_27.1
theorem dX6_difference_28 : decode cX6_difference 28 = .ok (.iload 4, 2) := db_dX6_difference_27.2.1
theorem dX6_difference_30 : decode cX6_difference 30 = .ok (.aload_n 0, 1) := db_dX6_difference_27.2.2.1
theorem dX6_difference_31 : decode cX6_difference 31 = .ok (.getfield 22, 3) := db_dX6_difference_27.2.2.2.1
theorem dX6_difference_34 : decode cX6_difference 34 = .ok (.aload_n 0, 1) := db_dX6_difference_27.2.2.2.2.1
theorem dX6_difference_35 : decode cX6_difference 35 = .ok (.getfield 19, 3) := db_dX6_difference_27.2.2.2.2.2.1
theorem dX6_difference_38 : decode cX6_difference 38 = .ok (.iload 4, 2) := db_dX6_difference_27.2.2.2.2.2.2.1
theorem dX6_difference_40 : decode cX6_difference 40 = .ok (.iaload, 1) := db_dX6_difference_27.2.2.2.2.2.2.2
theorem db_dX6_difference_41 : decode cX6_difference 41 = .ok (.iaload, 1) ∧ decode cX6_difference 42 = .ok (.invokevirtual 128, 3) ∧ decode cX6_difference 45 = .ok (.aload_n 0, 1) ∧ decode cX6_difference 46 = .ok (.getfield 46, 3) ∧ decode cX6_difference 49 = .ok (.iload_n 3, 1) ∧ decode cX6_difference 50 = .ok (.iconst 1, 1) ∧ decode cX6_difference 51 = .ok (.aload_n 0, 1) ∧ decode cX6_difference 52 = .ok (.getfield 54, 3) := by decide +kernel
theorem dX6_difference_41 : decode cX6_difference 41 = .ok (.iaload, 1) := db_dX6_difference_41.1
theorem dX6_difference_42 : decode cX6_difference 42 = .ok (.invokevirtual 128, 3) := db_dX6_difference_41.2.1
theorem dX6_difference_45 : decode cX6_difference 45 = .ok (.aload_n 0, 1) := db_dX6_difference_41.2.2.1
theorem dX6_difference_46 : decode cX6_difference 46 = .ok (.getfield 46, 3) := db_dX6_difference_41.2.2.2.1
theorem dX6_difference_49 : decode cX6_difference 49 = .ok (.iload_n 3, 1) := db_dX6_difference_41.2.2.2.2.1
theorem dX6_difference_50 : decode cX6_difference 50 = .ok (.iconst 1, 1) := db_dX6_difference_41.2.2.2.2.2.1
theorem dX6_difference_51 : decode cX6_difference 51 = .ok (.aload_n 0, 1) := db_dX6_difference_41.2.2.2.2.2.2.1
theorem dX6_difference_52 : decode cX6_difference 52 = .ok (.getfield 54, 3) := db_dX6_difference_41.2.2.2.2.2.2.2
theorem db_dX6_difference_55 : decode cX6_difference 55 = .ok (.invokevirtual 135, 3) ∧ decode cX6_difference 58 = .ok (.ifCond .eq 23, 3) ∧ decode cX6_difference 61 = .ok (.iload_n 2, 1) ∧ decode cX6_difference 62 = .ok (.ifCond .ne 8, 3) ∧ decode cX6_difference 65 = .ok (.iload 4, 2) ∧ decode cX6_difference 67 = .ok (.goto 13, 3) ∧ decode cX6_difference 70 = .ok (.aload_n 0, 1) ∧ decode cX6_difference 71 = .ok (.getfield 46, 3) := by decide +kernel
theorem dX6_difference_55 : decode cX6_difference 55 = .ok (.invokevirtual 135, 3) := db_dX6_difference_55.1
theorem dX6_difference_58 : decode cX6_difference 58 = .ok (.ifCond .eq 23, 3) := db_dX6_difference_55.2.1
theorem dX6_difference_61 : decode cX6_difference 61 = .ok (.iload_n 2, 1) := db_dX6_difference_55.2.2.1
theorem dX6_difference_62 : decode cX6_difference 62 = .ok (.ifCond .ne 8, 3) := db_dX6_difference_55.2.2.2.1
theorem dX6_difference_65 : decode cX6_difference 65 = .ok (.iload 4, 2) := db_dX6_difference_55.2.2.2.2.1
theorem dX6_difference_67 : decode cX6_difference 67 = .ok (.goto 13, 3) := db_dX6_difference_55.2.2.2.2.2.1
theorem dX6_difference_70 : decode cX6_difference 70 = .ok (.aload_n 0, 1) := db_dX6_difference_55.2.2.2.2.2.2.1
theorem dX6_difference_71 : decode cX6_difference 71 = .ok (.getfield 46, 3) := db_dX6_difference_55.2.2.2.2.2.2.2
theorem db_dX6_difference_74 : decode cX6_difference 74 = .ok (.iload_n 2, 1) ∧ decode cX6_difference 75 = .ok (.iconst 1, 1) ∧ decode cX6_difference 76 = .ok (.isub, 1) ∧ decode cX6_difference 77 = .ok (.invokevirtual 138, 3) ∧ decode cX6_difference 80 = .ok (.ireturn, 1) ∧ decode cX6_difference 81 = .ok (.iload_n 3, 1) ∧ decode cX6_difference 82 = .ok (.aload_n 0, 1) ∧ decode cX6_difference 83 = .ok (.getfield 46, 3) := by decide +kernel
theorem dX6_difference_74 : decode cX6_difference 74 = .ok (.iload_n 2, 1) := db_dX6_difference_74.1
theorem dX6_difference_75 : decode cX6_difference 75 = .ok (.iconst 1, 1) := db_dX6_difference_74.2.1
theorem dX6_difference_76 : decode cX6_difference 76 = .ok (.isub, 1) := db_dX6_difference_74.2.2.1
theorem dX6_difference_77 : decode cX6_difference 77 = .ok (.invokevirtual 138, 3) := db_dX6_difference_74.2.2.2.1
theorem dX6_difference_80 : decode cX6_difference 80 = .ok (.ireturn, 1) := db_dX6_difference_74.2.2.2.2.1
theorem dX6_difference_81 : decode cX6_difference 81 = .ok (.iload_n 3, 1) := db_dX6_difference_74.2.2.2.2.2.1
theorem dX6_difference_82 : decode cX6_difference 82 = .ok (.aload_n 0, 1) := db_dX6_difference_74.2.2.2.2.2.2.1
theorem dX6_difference_83 : decode cX6_difference 83 = .ok (.getfield 46, 3) := db_dX6_difference_74.2.2.2.2.2.2.2
theorem db_dX6_difference_86 : decode cX6_difference 86 = .ok (.invokevirtual 141, 3) ∧ decode cX6_difference 89 = .ok (.isub, 1) ∧ decode cX6_difference 90 = .ok (.istore_n 3, 1) ∧ decode cX6_difference 91 = .ok (.iinc 4 1, 3) ∧ decode cX6_difference 94 = .ok (.goto (-74), 3) ∧ decode cX6_difference 97 = .ok (.bipush (-4), 2) ∧ decode cX6_difference 99 = .ok (.ireturn, 1) := by decide +kernel
theorem dX6_difference_86 : decode cX6_difference 86 = .ok (.invokevirtual 141, 3) := db_dX6_difference_86.1
theorem dX6_difference_89 : decode cX6_difference 89 = .ok (.isub, 1) := db_dX6_difference_86.2.1
theorem dX6_difference_90 : decode cX6_difference 90 = .ok (.istore_n 3, 1) := db_dX6_difference_86.2.2.1
theorem dX6_difference_91 : decode cX6_difference 91 = .ok (.iinc 4 1, 3) := db_dX6_difference_86.2.2.2.1
theorem dX6_difference_94 : decode cX6_difference 94 = .ok (.goto (-74), 3) := db_dX6_difference_86.2.2.2.2.1
theorem dX6_difference_97 : decode cX6_difference 97 = .ok (.bipush (-4), 2) := db_dX6_difference_86.2.2.2.2.2.1
theorem dX6_difference_99 : decode cX6_difference 99 = .ok (.ireturn, 1) := db_dX6_difference_86.2.2.2.2.2.2
theorem db_dX6_first_0 : decode cX6_first 0 = .ok (.aload_n 0, 1) ∧ decode cX6_first 1 = .ok (.getfield 54, 3) ∧ decode cX6_first 4 = .ok (.istore_n 1, 1) ∧ decode cX6_first 5 = .ok (.iconst 0, 1) ∧ decode cX6_first 6 = .ok (.istore_n 2, 1) ∧ decode cX6_first 7 = .ok (.iload_n 2, 1) ∧ decode cX6_first 8 = .ok (.bipush 12, 2) ∧ decode cX6_first 10 = .ok (.if_icmp .ge 35, 3) := by decide +kernel
theorem dX6_first_0 : decode cX6_first 0 = .ok (.aload_n 0, 1) := db_dX6_first_0.1
theorem dX6_first_1 : decode cX6_first 1 = .ok (.getfield 54, 3) := db_dX6_first_0.2.1
theorem dX6_first_4 : decode cX6_first 4 = .ok (.istore_n 1, 1) := db_dX6_first_0.2.2.1
theorem dX6_first_5 : decode cX6_first 5 = .ok (.iconst 0, 1) := db_dX6_first_0.2.2.2.1
theorem dX6_first_6 : decode cX6_first 6 = .ok (.istore_n 2, 1) := db_dX6_first_0.2.2.2.2.1
theorem dX6_first_7 : decode cX6_first 7 = .ok (.iload_n 2, 1) := db_dX6_first_0.2.2.2.2.2.1
theorem dX6_first_8 : decode cX6_first 8 = .ok (.bipush 12, 2) := db_dX6_first_0.2.2.2.2.2.2.1
theorem dX6_first_10 : decode cX6_first 10 = .ok (.if_icmp .ge 35, 3) := db_dX6_first_0.2.2.2.2.2.2.2
theorem db_dX6_first_13 : decode cX6_first 13 = .ok (.aload_n 0, 1) ∧ decode cX6_first 14 = .ok (.iload_n 2, 1) ∧ decode cX6_first 15 = .ok (.aload_n 0, 1) ∧ decode cX6_first 16 = .ok (.getfield 22, 3) ∧ decode cX6_first 19 = .ok (.aload_n 0, 1) ∧ decode cX6_first 20 = .ok (.getfield 19, 3) ∧ decode cX6_first 23 = .ok (.iload_n 2, 1) ∧ decode cX6_first 24 = .ok (.iaload, 1) := by decide +kernel
theorem dX6_first_13 : decode cX6_first 13 = .ok (.aload_n 0, 1) := db_dX6_first_13.1
theorem dX6_first_14 : decode cX6_first 14 = .ok (.iload_n 2, 1) := db_dX6_first_13.2.1
theorem dX6_first_15 : decode cX6_first 15 = .ok (.aload_n 0, 1) := db_dX6_first_13.2.2.1
theorem dX6_first_16 : decode cX6_first 16 = .ok (.getfield 22, 3) := db_dX6_first_13.2.2.2.1
theorem dX6_first_19 : decode cX6_first 19 = .ok (.aload_n 0, 1) := db_dX6_first_13.2.2.2.2.1
theorem dX6_first_20 : decode cX6_first 20 = .ok (.getfield 19, 3) := db_dX6_first_13.2.2.2.2.2.1
theorem dX6_first_23 : decode cX6_first 23 = .ok (.iload_n 2, 1) := db_dX6_first_13.2.2.2.2.2.2.1
theorem dX6_first_24 : decode cX6_first 24 = .ok (.iaload, 1) := db_dX6_first_13.2.2.2.2.2.2.2
theorem db_dX6_first_25 : decode cX6_first 25 = .ok (.iaload, 1) ∧ decode cX6_first 26 = .ok (.invokevirtual 128, 3) ∧ decode cX6_first 29 = .ok (.aload_n 0, 1) ∧ decode cX6_first 30 = .ok (.getfield 46, 3) ∧ decode cX6_first 33 = .ok (.iconst 0, 1) ∧ decode cX6_first 34 = .ok (.iload_n 1, 1) ∧ decode cX6_first 35 = .ok (.invokevirtual 144, 3) ∧ decode cX6_first 38 = .ok (.istore_n 1, 1) := by decide +kernel
theorem dX6_first_25 : decode cX6_first 25 = .ok (.iaload, 1) := db_dX6_first_25.1
theorem dX6_first_26 : decode cX6_first 26 = .ok (.invokevirtual 128, 3) := db_dX6_first_25.2.1
theorem dX6_first_29 : decode cX6_first 29 = .ok (.aload_n 0, 1) := db_dX6_first_25.2.2.1
theorem dX6_first_30 : decode cX6_first 30 = .ok (.getfield 46, 3) := db_dX6_first_25.2.2.2.1
theorem dX6_first_33 : decode cX6_first 33 = .ok (.iconst 0, 1) := db_dX6_first_25.2.2.2.2.1
theorem dX6_first_34 : decode cX6_first 34 = .ok (.iload_n 1, 1) := db_dX6_first_25.2.2.2.2.2.1
theorem dX6_first_35 : decode cX6_first 35 = .ok (.invokevirtual 144, 3) := db_dX6_first_25.2.2.2.2.2.2.1
theorem dX6_first_38 : decode cX6_first 38 = .ok (.istore_n 1, 1) := db_dX6_first_25.2.2.2.2.2.2.2
theorem db_dX6_first_39 : decode cX6_first 39 = .ok (.iinc 2 1, 3) ∧ decode cX6_first 42 = .ok (.goto (-35), 3) ∧ decode cX6_first 45 = .ok (.iload_n 1, 1) ∧ decode cX6_first 46 = .ok (.aload_n 0, 1) ∧ decode cX6_first 47 = .ok (.getfield 54, 3) ∧ decode cX6_first 50 = .ok (.if_icmp .ge 7, 3) ∧ decode cX6_first 53 = .ok (.iload_n 1, 1) ∧ decode cX6_first 54 = .ok (.goto 5, 3) := by decide +kernel
theorem dX6_first_39 : decode cX6_first 39 = .ok (.iinc 2 1, 3) := db_dX6_first_39.1
theorem dX6_first_42 : decode cX6_first 42 = .ok (.goto (-35), 3) := db_dX6_first_39.2.1
theorem dX6_first_45 : decode cX6_first 45 = .ok (.iload_n 1, 1) := db_dX6_first_39.2.2.1
theorem dX6_first_46 : decode cX6_first 46 = .ok (.aload_n 0, 1) := db_dX6_first_39.2.2.2.1
theorem dX6_first_47 : decode cX6_first 47 = .ok (.getfield 54, 3) := db_dX6_first_39.2.2.2.2.1
theorem dX6_first_50 : decode cX6_first 50 = .ok (.if_icmp .ge 7, 3) := db_dX6_first_39.2.2.2.2.2.1
theorem dX6_first_53 : decode cX6_first 53 = .ok (.iload_n 1, 1) := db_dX6_first_39.2.2.2.2.2.2.1
theorem dX6_first_54 : decode cX6_first 54 = .ok (.goto 5, 3) := db_dX6_first_39.2.2.2.2.2.2.2
theorem db_dX6_first_57 : decode cX6_first 57 = .ok (.bipush (-4), 2) ∧ decode cX6_first 59 = .ok (.ireturn, 1) := by decide +kernel
theorem dX6_first_57 : decode cX6_first 57 = .ok (.bipush (-4), 2) := db_dX6_first_57.1
theorem dX6_first_59 : decode cX6_first 59 = .ok (.ireturn, 1) := db_dX6_first_57.2
theorem db_dX6_seekDifferences_0 : decode cX6_seekDifferences 0 = .ok (.aload_n 0, 1) ∧ decode cX6_seekDifferences 1 = .ok (.getfield 46, 3) ∧ decode cX6_seekDifferences 4 = .ok (.invokevirtual 147, 3) ∧ decode cX6_seekDifferences 7 = .ok (.aload_n 0, 1) ∧ decode cX6_seekDifferences 8 = .ok (.getfield 46, 3) ∧ decode cX6_seekDifferences 11 = .ok (.invokevirtual 150, 3) ∧ decode cX6_seekDifferences 14 = .ok (.aload_n 0, 1) ∧ decode cX6_seekDifferences 15 = .ok (.iconst 0, 1) := by decide +kernel
theorem dX6_seekDifferences_0 : decode cX6_seekDifferences 0 = .ok (.aload_n 0, 1) := db_dX6_seekDifferences_0.1
theorem dX6_seekDifferences_1 : decode cX6_seekDifferences 1 = .ok (.getfield 46, 3) := db_dX6_seekDifferences_0.2.1
theorem dX6_seekDifferences_4 : decode cX6_seekDifferences 4 = .ok (.invokevirtual 147, 3) := db_dX6_seekDifferences_0.2.2.1
theorem dX6_seekDifferences_7 : decode cX6_seekDifferences 7 = .ok (.aload_n 0, 1) := db_dX6_seekDifferences_0.2.2.2.1
theorem dX6_seekDifferences_8 : decode cX6_seekDifferences 8 = .ok (.getfield 46, 3) := db_dX6_seekDifferences_0.2.2.2.2.1
theorem dX6_seekDifferences_11 : decode cX6_seekDifferences 11 = .ok (.invokevirtual 150, 3) := db_dX6_seekDifferences_0.2.2.2.2.2.1
theorem dX6_seekDifferences_14 : decode cX6_seekDifferences 14 = .ok (.aload_n 0, 1) := db_dX6_seekDifferences_0.2.2.2.2.2.2.1
theorem dX6_seekDifferences_15 : decode cX6_seekDifferences 15 = .ok (.iconst 0, 1) := db_dX6_seekDifferences_0.2.2.2.2.2.2.2
theorem db_dX6_seekDifferences_16 : decode cX6_seekDifferences 16 = .ok (.iload_n 1, 1) ∧ decode cX6_seekDifferences 17 = .ok (.invokevirtual 77, 3) ∧ decode cX6_seekDifferences 20 = .ok (.aload_n 0, 1) ∧ decode cX6_seekDifferences 21 = .ok (.iconst 1, 1) ∧ decode cX6_seekDifferences 22 = .ok (.iload_n 1, 1) ∧ decode cX6_seekDifferences 23 = .ok (.invokevirtual 154, 3) ∧ decode cX6_seekDifferences 26 = .ok (.iload_n 2, 1) ∧ decode cX6_seekDifferences 27 = .ok (.aload_n 0, 1) := by decide +kernel
theorem dX6_seekDifferences_16 : decode cX6_seekDifferences 16 = .ok (.iload_n 1, 1) := db_dX6_seekDifferences_16.1
theorem dX6_seekDifferences_17 : decode cX6_seekDifferences 17 = .ok (.invokevirtual 77, 3) := db_dX6_seekDifferences_16.2.1
theorem dX6_seekDifferences_20 : decode cX6_seekDifferences 20 = .ok (.aload_n 0, 1) := db_dX6_seekDifferences_16.2.2.1
theorem dX6_seekDifferences_21 : decode cX6_seekDifferences 21 = .ok (.iconst 1, 1) := db_dX6_seekDifferences_16.2.2.2.1
theorem dX6_seekDifferences_22 : decode cX6_seekDifferences 22 = .ok (.iload_n 1, 1) := db_dX6_seekDifferences_16.2.2.2.2.1
theorem dX6_seekDifferences_23 : decode cX6_seekDifferences 23 = .ok (.invokevirtual 154, 3) := db_dX6_seekDifferences_16.2.2.2.2.2.1
theorem dX6_seekDifferences_26 : decode cX6_seekDifferences 26 = .ok (.iload_n 2, 1) := db_dX6_seekDifferences_16.2.2.2.2.2.2.1
theorem dX6_seekDifferences_27 : decode cX6_seekDifferences 27 = .ok (.aload_n 0, 1) := db_dX6_seekDifferences_16.2.2.2.2.2.2.2
theorem db_dX6_seekDifferences_28 : decode cX6_seekDifferences 28 = .ok (.getfield 57, 3) ∧ decode cX6_seekDifferences 31 = .ok (.invokevirtual 157, 3) ∧ decode cX6_seekDifferences 34 = .ok (.iconst 0, 1) ∧ decode cX6_seekDifferences 35 = .ok (.istore_n 3, 1) ∧ decode cX6_seekDifferences 36 = .ok (.iload_n 3, 1) ∧ decode cX6_seekDifferences 37 = .ok (.aload_n 0, 1) ∧ decode cX6_seekDifferences 38 = .ok (.getfield 50, 3) ∧ decode cX6_seekDifferences 41 = .ok (.if_icmp .ge 46, 3) := by decide +kernel
theorem dX6_seekDifferences_28 : decode cX6_seekDifferences 28 = .ok (.getfield 57, 3) := db_dX6_seekDifferences_28.1
theorem dX6_seekDifferences_31 : decode cX6_seekDifferences 31 = .ok (.invokevirtual 157, 3) := db_dX6_seekDifferences_28.2.1
theorem dX6_seekDifferences_34 : decode cX6_seekDifferences 34 = .ok (.iconst 0, 1) := db_dX6_seekDifferences_28.2.2.1
theorem dX6_seekDifferences_35 : decode cX6_seekDifferences 35 = .ok (.istore_n 3, 1) := db_dX6_seekDifferences_28.2.2.2.1
theorem dX6_seekDifferences_36 : decode cX6_seekDifferences 36 = .ok (.iload_n 3, 1) := db_dX6_seekDifferences_28.2.2.2.2.1
theorem dX6_seekDifferences_37 : decode cX6_seekDifferences 37 = .ok (.aload_n 0, 1) := db_dX6_seekDifferences_28.2.2.2.2.2.1
theorem dX6_seekDifferences_38 : decode cX6_seekDifferences 38 = .ok (.getfield 50, 3) := db_dX6_seekDifferences_28.2.2.2.2.2.2.1
theorem dX6_seekDifferences_41 : decode cX6_seekDifferences 41 = .ok (.if_icmp .ge 46, 3) := db_dX6_seekDifferences_28.2.2.2.2.2.2.2
theorem db_dX6_seekDifferences_44 : decode cX6_seekDifferences 44 = .ok (.aload_n 0, 1) ∧ decode cX6_seekDifferences 45 = .ok (.getfield 27, 3) ∧ decode cX6_seekDifferences 48 = .ok (.iload_n 3, 1) ∧ decode cX6_seekDifferences 49 = .ok (.aaload, 1) ∧ decode cX6_seekDifferences 50 = .ok (.astore 4, 2) ∧ decode cX6_seekDifferences 52 = .ok (.aload 4, 2) ∧ decode cX6_seekDifferences 54 = .ok (.getfield 163, 3) ∧ decode cX6_seekDifferences 57 = .ok (.iload_n 1, 1) := by decide +kernel
theorem dX6_seekDifferences_44 : decode cX6_seekDifferences 44 = .ok (.aload_n 0, 1) := db_dX6_seekDifferences_44.1
theorem dX6_seekDifferences_45 : decode cX6_seekDifferences 45 = .ok (.getfield 27, 3) := db_dX6_seekDifferences_44.2.1
theorem dX6_seekDifferences_48 : decode cX6_seekDifferences 48 = .ok (.iload_n 3, 1) := db_dX6_seekDifferences_44.2.2.1
theorem dX6_seekDifferences_49 : decode cX6_seekDifferences 49 = .ok (.aaload, 1) := db_dX6_seekDifferences_44.2.2.2.1
theorem dX6_seekDifferences_50 : decode cX6_seekDifferences 50 = .ok (.astore 4, 2) := db_dX6_seekDifferences_44.2.2.2.2.1
theorem dX6_seekDifferences_52 : decode cX6_seekDifferences 52 = .ok (.aload 4, 2) := db_dX6_seekDifferences_44.2.2.2.2.2.1
theorem dX6_seekDifferences_54 : decode cX6_seekDifferences 54 = .ok (.getfield 163, 3) := db_dX6_seekDifferences_44.2.2.2.2.2.2.1
theorem dX6_seekDifferences_57 : decode cX6_seekDifferences 57 = .ok (.iload_n 1, 1) := db_dX6_seekDifferences_44.2.2.2.2.2.2.2
theorem db_dX6_seekDifferences_58 : decode cX6_seekDifferences 58 = .ok (.if_icmp .ne 23, 3) ∧ decode cX6_seekDifferences 61 = .ok (.aload_n 0, 1) ∧ decode cX6_seekDifferences 62 = .ok (.getfield 46, 3) ∧ decode cX6_seekDifferences 65 = .ok (.invokevirtual 150, 3) ∧ decode cX6_seekDifferences 68 = .ok (.aload 4, 2) ∧ decode cX6_seekDifferences 70 = .ok (.getfield 166, 3) ∧ decode cX6_seekDifferences 73 = .ok (.aload 4, 2) ∧ decode cX6_seekDifferences 75 = .ok (.getfield 170, 3) := by decide +kernel
theorem dX6_seekDifferences_58 : decode cX6_seekDifferences 58 = .ok (.if_icmp .ne 23, 3) := db_dX6_seekDifferences_58.1
theorem dX6_seekDifferences_61 : decode cX6_seekDifferences 61 = .ok (.aload_n 0, 1) := db_dX6_seekDifferences_58.2.1
theorem dX6_seekDifferences_62 : decode cX6_seekDifferences 62 = .ok (.getfield 46, 3) := db_dX6_seekDifferences_58.2.2.1
theorem dX6_seekDifferences_65 : decode cX6_seekDifferences 65 = .ok (.invokevirtual 150, 3) := db_dX6_seekDifferences_58.2.2.2.1
theorem dX6_seekDifferences_68 : decode cX6_seekDifferences 68 = .ok (.aload 4, 2) := db_dX6_seekDifferences_58.2.2.2.2.1
theorem dX6_seekDifferences_70 : decode cX6_seekDifferences 70 = .ok (.getfield 166, 3) := db_dX6_seekDifferences_58.2.2.2.2.2.1
theorem dX6_seekDifferences_73 : decode cX6_seekDifferences 73 = .ok (.aload 4, 2) := db_dX6_seekDifferences_58.2.2.2.2.2.2.1
theorem dX6_seekDifferences_75 : decode cX6_seekDifferences 75 = .ok (.getfield 170, 3) := db_dX6_seekDifferences_58.2.2.2.2.2.2.2
theorem db_dX6_seekDifferences_78 : decode cX6_seekDifferences 78 = .ok (.invokevirtual 173, 3) ∧ decode cX6_seekDifferences 81 = .ok (.iinc 3 1, 3) ∧ decode cX6_seekDifferences 84 = .ok (.goto (-48), 3) ∧ decode cX6_seekDifferences 87 = .ok (.return_, 1) := by decide +kernel
theorem dX6_seekDifferences_78 : decode cX6_seekDifferences 78 = .ok (.invokevirtual 173, 3) := db_dX6_seekDifferences_78.1
theorem dX6_seekDifferences_81 : decode cX6_seekDifferences 81 = .ok (.iinc 3 1, 3) := db_dX6_seekDifferences_78.2.1
theorem dX6_seekDifferences_84 : decode cX6_seekDifferences 84 = .ok (.goto (-48), 3) := db_dX6_seekDifferences_78.2.2.1
theorem dX6_seekDifferences_87 : decode cX6_seekDifferences 87 = .ok (.return_, 1) := db_dX6_seekDifferences_78.2.2.2
theorem db_dX6_channel_0 : decode cX6_channel 0 = .ok (.iload_n 1, 1) ∧ decode cX6_channel 1 = .ok (.iconst 0, 1) ∧ decode cX6_channel 2 = .ok (.iconst 3, 1) ∧ decode cX6_channel 3 = .ok (.invokestatic 69, 3) ∧ decode cX6_channel 6 = .ok (.ifCond .ne 33, 3) ∧ decode cX6_channel 9 = .ok (.iload_n 2, 1) ∧ decode cX6_channel 10 = .ok (.invokestatic 117, 3) ∧ decode cX6_channel 13 = .ok (.ifCond .ne 26, 3) := by decide +kernel
theorem dX6_channel_0 : decode cX6_channel 0 = .ok (.iload_n 1, 1) := db_dX6_channel_0.1
theorem dX6_channel_1 : decode cX6_channel 1 = .ok (.iconst 0, 1) := db_dX6_channel_0.2.1
theorem dX6_channel_2 : decode cX6_channel 2 = .ok (.iconst 3, 1) := db_dX6_channel_0.2.2.1
theorem dX6_channel_3 : decode cX6_channel 3 = .ok (.invokestatic 69, 3) := db_dX6_channel_0.2.2.2.1
theorem dX6_channel_6 : decode cX6_channel 6 = .ok (.ifCond .ne 33, 3) := db_dX6_channel_0.2.2.2.2.1
theorem dX6_channel_9 : decode cX6_channel 9 = .ok (.iload_n 2, 1) := db_dX6_channel_0.2.2.2.2.2.1
theorem dX6_channel_10 : decode cX6_channel 10 = .ok (.invokestatic 117, 3) := db_dX6_channel_0.2.2.2.2.2.2.1
theorem dX6_channel_13 : decode cX6_channel 13 = .ok (.ifCond .ne 26, 3) := db_dX6_channel_0.2.2.2.2.2.2.2
theorem db_dX6_channel_16 : decode cX6_channel 16 = .ok (.iload_n 3, 1) ∧ decode cX6_channel 17 = .ok (.invokestatic 117, 3) ∧ decode cX6_channel 20 = .ok (.ifCond .ne 19, 3) ∧ decode cX6_channel 23 = .ok (.iload 4, 2) ∧ decode cX6_channel 25 = .ok (.invokestatic 117, 3) ∧ decode cX6_channel 28 = .ok (.ifCond .ne 11, 3) ∧ decode cX6_channel 31 = .ok (.iload 5, 2) ∧ decode cX6_channel 33 = .ok (.invokestatic 117, 3) := by decide +kernel
theorem dX6_channel_16 : decode cX6_channel 16 = .ok (.iload_n 3, 1) := db_dX6_channel_16.1
theorem dX6_channel_17 : decode cX6_channel 17 = .ok (.invokestatic 117, 3) := db_dX6_channel_16.2.1
theorem dX6_channel_20 : decode cX6_channel 20 = .ok (.ifCond .ne 19, 3) := db_dX6_channel_16.2.2.1
theorem dX6_channel_23 : decode cX6_channel 23 = .ok (.iload 4, 2) := db_dX6_channel_16.2.2.2.1
theorem dX6_channel_25 : decode cX6_channel 25 = .ok (.invokestatic 117, 3) := db_dX6_channel_16.2.2.2.2.1
theorem dX6_channel_28 : decode cX6_channel 28 = .ok (.ifCond .ne 11, 3) := db_dX6_channel_16.2.2.2.2.2.1
theorem dX6_channel_31 : decode cX6_channel 31 = .ok (.iload 5, 2) := db_dX6_channel_16.2.2.2.2.2.2.1
theorem dX6_channel_33 : decode cX6_channel 33 = .ok (.invokestatic 117, 3) := db_dX6_channel_16.2.2.2.2.2.2.2
theorem db_dX6_channel_36 : decode cX6_channel 36 = .ok (.ifCond .eq 5, 3) ∧ decode cX6_channel 39 = .ok (.iconst (-1), 1) ∧ decode cX6_channel 40 = .ok (.ireturn, 1) ∧ decode cX6_channel 41 = .ok (.aload_n 0, 1) ∧ decode cX6_channel 42 = .ok (.getfield 33, 3) ∧ decode cX6_channel 45 = .ok (.iload_n 1, 1) ∧ decode cX6_channel 46 = .ok (.aaload, 1) ∧ decode cX6_channel 47 = .ok (.iload_n 2, 1) := by decide +kernel
theorem dX6_channel_36 : decode cX6_channel 36 = .ok (.ifCond .eq 5, 3) := db_dX6_channel_36.1
theorem dX6_channel_39 : decode cX6_channel 39 = .ok (.iconst (-1), 1) := db_dX6_channel_36.2.1
theorem dX6_channel_40 : decode cX6_channel 40 = .ok (.ireturn, 1) := db_dX6_channel_36.2.2.1
theorem dX6_channel_41 : decode cX6_channel 41 = .ok (.aload_n 0, 1) := db_dX6_channel_36.2.2.2.1
theorem dX6_channel_42 : decode cX6_channel 42 = .ok (.getfield 33, 3) := db_dX6_channel_36.2.2.2.2.1
theorem dX6_channel_45 : decode cX6_channel 45 = .ok (.iload_n 1, 1) := db_dX6_channel_36.2.2.2.2.2.1
theorem dX6_channel_46 : decode cX6_channel 46 = .ok (.aaload, 1) := db_dX6_channel_36.2.2.2.2.2.2.1
theorem dX6_channel_47 : decode cX6_channel 47 = .ok (.iload_n 2, 1) := db_dX6_channel_36.2.2.2.2.2.2.2
theorem db_dX6_channel_48 : decode cX6_channel 48 = .ok (.iload_n 3, 1) ∧ decode cX6_channel 49 = .ok (.iload 4, 2) ∧ decode cX6_channel 51 = .ok (.iload 5, 2) ∧ decode cX6_channel 53 = .ok (.invokevirtual 177, 3) ∧ decode cX6_channel 56 = .ok (.iconst 0, 1) ∧ decode cX6_channel 57 = .ok (.ireturn, 1) := by decide +kernel
theorem dX6_channel_48 : decode cX6_channel 48 = .ok (.iload_n 3, 1) := db_dX6_channel_48.1
theorem dX6_channel_49 : decode cX6_channel 49 = .ok (.iload 4, 2) := db_dX6_channel_48.2.1
theorem dX6_channel_51 : decode cX6_channel 51 = .ok (.iload 5, 2) := db_dX6_channel_48.2.2.1
theorem dX6_channel_53 : decode cX6_channel 53 = .ok (.invokevirtual 177, 3) := db_dX6_channel_48.2.2.2.1
theorem dX6_channel_56 : decode cX6_channel 56 = .ok (.iconst 0, 1) := db_dX6_channel_48.2.2.2.2.1
theorem dX6_channel_57 : decode cX6_channel 57 = .ok (.ireturn, 1) := db_dX6_channel_48.2.2.2.2.2
theorem db_dX6_act_0 : decode cX6_act 0 = .ok (.iload_n 1, 1) ∧ decode cX6_act 1 = .ok (.iconst 0, 1) ∧ decode cX6_act 2 = .ok (.iconst 3, 1) ∧ decode cX6_act 3 = .ok (.invokestatic 69, 3) ∧ decode cX6_act 6 = .ok (.ifCond .ne 27, 3) ∧ decode cX6_act 9 = .ok (.iload_n 2, 1) ∧ decode cX6_act 10 = .ok (.iconst 0, 1) ∧ decode cX6_act 11 = .ok (.iconst 1, 1) := by decide +kernel
theorem dX6_act_0 : decode cX6_act 0 = .ok (.iload_n 1, 1) := db_dX6_act_0.1
theorem dX6_act_1 : decode cX6_act 1 = .ok (.iconst 0, 1) := db_dX6_act_0.2.1
theorem dX6_act_2 : decode cX6_act 2 = .ok (.iconst 3, 1) := db_dX6_act_0.2.2.1
theorem dX6_act_3 : decode cX6_act 3 = .ok (.invokestatic 69, 3) := db_dX6_act_0.2.2.2.1
theorem dX6_act_6 : decode cX6_act 6 = .ok (.ifCond .ne 27, 3) := db_dX6_act_0.2.2.2.2.1
theorem dX6_act_9 : decode cX6_act 9 = .ok (.iload_n 2, 1) := db_dX6_act_0.2.2.2.2.2.1
theorem dX6_act_10 : decode cX6_act 10 = .ok (.iconst 0, 1) := db_dX6_act_0.2.2.2.2.2.2.1
theorem dX6_act_11 : decode cX6_act 11 = .ok (.iconst 1, 1) := db_dX6_act_0.2.2.2.2.2.2.2
theorem db_dX6_act_12 : decode cX6_act 12 = .ok (.invokestatic 69, 3) ∧ decode cX6_act 15 = .ok (.ifCond .ne 18, 3) ∧ decode cX6_act 18 = .ok (.iload_n 3, 1) ∧ decode cX6_act 19 = .ok (.iconst (-1), 1) ∧ decode cX6_act 20 = .ok (.if_icmp .lt 13, 3) ∧ decode cX6_act 23 = .ok (.iload 4, 2) ∧ decode cX6_act 25 = .ok (.iconst 0, 1) ∧ decode cX6_act 26 = .ok (.iconst 1, 1) := by decide +kernel
theorem dX6_act_12 : decode cX6_act 12 = .ok (.invokestatic 69, 3) := db_dX6_act_12.1
theorem dX6_act_15 : decode cX6_act 15 = .ok (.ifCond .ne 18, 3) := db_dX6_act_12.2.1
theorem dX6_act_18 : decode cX6_act 18 = .ok (.iload_n 3, 1) := db_dX6_act_12.2.2.1
theorem dX6_act_19 : decode cX6_act 19 = .ok (.iconst (-1), 1) := db_dX6_act_12.2.2.2.1
theorem dX6_act_20 : decode cX6_act 20 = .ok (.if_icmp .lt 13, 3) := db_dX6_act_12.2.2.2.2.1
theorem dX6_act_23 : decode cX6_act 23 = .ok (.iload 4, 2) := db_dX6_act_12.2.2.2.2.2.1
theorem dX6_act_25 : decode cX6_act 25 = .ok (.iconst 0, 1) := db_dX6_act_12.2.2.2.2.2.2.1
theorem dX6_act_26 : decode cX6_act 26 = .ok (.iconst 1, 1) := db_dX6_act_12.2.2.2.2.2.2.2
theorem db_dX6_act_27 : decode cX6_act 27 = .ok (.invokestatic 69, 3) ∧ decode cX6_act 30 = .ok (.ifCond .eq 5, 3) ∧ decode cX6_act 33 = .ok (.iconst (-1), 1) ∧ decode cX6_act 34 = .ok (.ireturn, 1) ∧ decode cX6_act 35 = .ok (.aload_n 0, 1) ∧ decode cX6_act 36 = .ok (.getfield 33, 3) ∧ decode cX6_act 39 = .ok (.iload_n 1, 1) ∧ decode cX6_act 40 = .ok (.aaload, 1) := by decide +kernel
theorem dX6_act_27 : decode cX6_act 27 = .ok (.invokestatic 69, 3) := db_dX6_act_27.1
theorem dX6_act_30 : decode cX6_act 30 = .ok (.ifCond .eq 5, 3) := db_dX6_act_27.2.1
theorem dX6_act_33 : decode cX6_act 33 = .ok (.iconst (-1), 1) := db_dX6_act_27.2.2.1
theorem dX6_act_34 : decode cX6_act 34 = .ok (.ireturn, 1) := db_dX6_act_27.2.2.2.1
theorem dX6_act_35 : decode cX6_act 35 = .ok (.aload_n 0, 1) := db_dX6_act_27.2.2.2.2.1
theorem dX6_act_36 : decode cX6_act 36 = .ok (.getfield 33, 3) := db_dX6_act_27.2.2.2.2.2.1
theorem dX6_act_39 : decode cX6_act 39 = .ok (.iload_n 1, 1) := db_dX6_act_27.2.2.2.2.2.2.1
theorem dX6_act_40 : decode cX6_act 40 = .ok (.aaload, 1) := db_dX6_act_27.2.2.2.2.2.2.2
theorem db_dX6_act_41 : decode cX6_act 41 = .ok (.astore 5, 2) ∧ decode cX6_act 43 = .ok (.aload 5, 2) ∧ decode cX6_act 45 = .ok (.getfield 181, 3) ∧ decode cX6_act 48 = .ok (.ifCond .ne 6, 3) ∧ decode cX6_act 51 = .ok (.bipush (-2), 2) ∧ decode cX6_act 53 = .ok (.ireturn, 1) ∧ decode cX6_act 54 = .ok (.iconst 0, 1) ∧ decode cX6_act 55 = .ok (.istore 6, 2) := by decide +kernel
theorem dX6_act_41 : decode cX6_act 41 = .ok (.astore 5, 2) := db_dX6_act_41.1
theorem dX6_act_43 : decode cX6_act 43 = .ok (.aload 5, 2) := db_dX6_act_41.2.1
theorem dX6_act_45 : decode cX6_act 45 = .ok (.getfield 181, 3) := db_dX6_act_41.2.2.1
theorem dX6_act_48 : decode cX6_act 48 = .ok (.ifCond .ne 6, 3) := db_dX6_act_41.2.2.2.1
theorem dX6_act_51 : decode cX6_act 51 = .ok (.bipush (-2), 2) := db_dX6_act_41.2.2.2.2.1
theorem dX6_act_53 : decode cX6_act 53 = .ok (.ireturn, 1) := db_dX6_act_41.2.2.2.2.2.1
theorem dX6_act_54 : decode cX6_act 54 = .ok (.iconst 0, 1) := db_dX6_act_41.2.2.2.2.2.2.1
theorem dX6_act_55 : decode cX6_act 55 = .ok (.istore 6, 2) := db_dX6_act_41.2.2.2.2.2.2.2
theorem db_dX6_act_57 : decode cX6_act 57 = .ok (.aload_n 0, 1) ∧ decode cX6_act 58 = .ok (.aload 5, 2) ∧ decode cX6_act 60 = .ok (.iload_n 2, 1) ∧ decode cX6_act 61 = .ok (.iconst 0, 1) ∧ decode cX6_act 62 = .ok (.invokevirtual 184, 3) ∧ decode cX6_act 65 = .ok (.istore 7, 2) ∧ decode cX6_act 67 = .ok (.iconst 0, 1) ∧ decode cX6_act 68 = .ok (.istore 8, 2) := by decide +kernel
theorem dX6_act_57 : decode cX6_act 57 = .ok (.aload_n 0, 1) := db_dX6_act_57.1
theorem dX6_act_58 : decode cX6_act 58 = .ok (.aload 5, 2) := db_dX6_act_57.2.1
theorem dX6_act_60 : decode cX6_act 60 = .ok (.iload_n 2, 1) := db_dX6_act_57.2.2.1
theorem dX6_act_61 : decode cX6_act 61 = .ok (.iconst 0, 1) := db_dX6_act_57.2.2.2.1
theorem dX6_act_62 : decode cX6_act 62 = .ok (.invokevirtual 184, 3) := db_dX6_act_57.2.2.2.2.1
theorem dX6_act_65 : decode cX6_act 65 = .ok (.istore 7, 2) := db_dX6_act_57.2.2.2.2.2.1
theorem dX6_act_67 : decode cX6_act 67 = .ok (.iconst 0, 1) := db_dX6_act_57.2.2.2.2.2.2.1
theorem dX6_act_68 : decode cX6_act 68 = .ok (.istore 8, 2) := db_dX6_act_57.2.2.2.2.2.2.2
theorem db_dX6_act_70 : decode cX6_act 70 = .ok (.iload 8, 2) ∧ decode cX6_act 72 = .ok (.sipush 4000, 3) ∧ decode cX6_act 75 = .ok (.if_icmp .ge 56, 3) ∧ decode cX6_act 78 = .ok (.iload 7, 2) ∧ decode cX6_act 80 = .ok (.bipush (-4), 2) ∧ decode cX6_act 82 = .ok (.if_icmp .eq 49, 3) ∧ decode cX6_act 85 = .ok (.iload 6, 2) ∧ decode cX6_act 87 = .ok (.iload_n 3, 1) := by decide +kernel
theorem dX6_act_70 : decode cX6_act 70 = .ok (.iload 8, 2) := db_dX6_act_70.1
theorem dX6_act_72 : decode cX6_act 72 = .ok (.sipush 4000, 3) := db_dX6_act_70.2.1
theorem dX6_act_75 : decode cX6_act 75 = .ok (.if_icmp .ge 56, 3) := db_dX6_act_70.2.2.1
theorem dX6_act_78 : decode cX6_act 78 = .ok (.iload 7, 2) := db_dX6_act_70.2.2.2.1
theorem dX6_act_80 : decode cX6_act 80 = .ok (.bipush (-4), 2) := db_dX6_act_70.2.2.2.2.1
theorem dX6_act_82 : decode cX6_act 82 = .ok (.if_icmp .eq 49, 3) := db_dX6_act_70.2.2.2.2.2.1
theorem dX6_act_85 : decode cX6_act 85 = .ok (.iload 6, 2) := db_dX6_act_70.2.2.2.2.2.2.1
theorem dX6_act_87 : decode cX6_act 87 = .ok (.iload_n 3, 1) := db_dX6_act_70.2.2.2.2.2.2.2
theorem db_dX6_act_88 : decode cX6_act 88 = .ok (.if_icmp .ne 23, 3) ∧ decode cX6_act 91 = .ok (.iload 4, 2) ∧ decode cX6_act 93 = .ok (.ifCond .ne 8, 3) ∧ decode cX6_act 96 = .ok (.iload 7, 2) ∧ decode cX6_act 98 = .ok (.goto 12, 3) ∧ decode cX6_act 101 = .ok (.aload_n 0, 1) ∧ decode cX6_act 102 = .ok (.aload 5, 2) ∧ decode cX6_act 104 = .ok (.iload_n 2, 1) := by decide +kernel
theorem dX6_act_88 : decode cX6_act 88 = .ok (.if_icmp .ne 23, 3) := db_dX6_act_88.1
theorem dX6_act_91 : decode cX6_act 91 = .ok (.iload 4, 2) := db_dX6_act_88.2.1
theorem dX6_act_93 : decode cX6_act 93 = .ok (.ifCond .ne 8, 3) := db_dX6_act_88.2.2.1
theorem dX6_act_96 : decode cX6_act 96 = .ok (.iload 7, 2) := db_dX6_act_88.2.2.2.1
theorem dX6_act_98 : decode cX6_act 98 = .ok (.goto 12, 3) := db_dX6_act_88.2.2.2.2.1
theorem dX6_act_101 : decode cX6_act 101 = .ok (.aload_n 0, 1) := db_dX6_act_88.2.2.2.2.2.1
theorem dX6_act_102 : decode cX6_act 102 = .ok (.aload 5, 2) := db_dX6_act_88.2.2.2.2.2.2.1
theorem dX6_act_104 : decode cX6_act 104 = .ok (.iload_n 2, 1) := db_dX6_act_88.2.2.2.2.2.2.2
theorem db_dX6_act_105 : decode cX6_act 105 = .ok (.iload 7, 2) ∧ decode cX6_act 107 = .ok (.invokevirtual 188, 3) ∧ decode cX6_act 110 = .ok (.ireturn, 1) ∧ decode cX6_act 111 = .ok (.iinc 6 1, 3) ∧ decode cX6_act 114 = .ok (.aload_n 0, 1) ∧ decode cX6_act 115 = .ok (.aload 5, 2) ∧ decode cX6_act 117 = .ok (.iload_n 2, 1) ∧ decode cX6_act 118 = .ok (.iload 7, 2) := by decide +kernel
theorem dX6_act_105 : decode cX6_act 105 = .ok (.iload 7, 2) := db_dX6_act_105.1
theorem dX6_act_107 : decode cX6_act 107 = .ok (.invokevirtual 188, 3) := db_dX6_act_105.2.1
theorem dX6_act_110 : decode cX6_act 110 = .ok (.ireturn, 1) := db_dX6_act_105.2.2.1
theorem dX6_act_111 : decode cX6_act 111 = .ok (.iinc 6 1, 3) := db_dX6_act_105.2.2.2.1
theorem dX6_act_114 : decode cX6_act 114 = .ok (.aload_n 0, 1) := db_dX6_act_105.2.2.2.2.1
theorem dX6_act_115 : decode cX6_act 115 = .ok (.aload 5, 2) := db_dX6_act_105.2.2.2.2.2.1
theorem dX6_act_117 : decode cX6_act 117 = .ok (.iload_n 2, 1) := db_dX6_act_105.2.2.2.2.2.2.1
theorem dX6_act_118 : decode cX6_act 118 = .ok (.iload 7, 2) := db_dX6_act_105.2.2.2.2.2.2.2
theorem db_dX6_act_120 : decode cX6_act 120 = .ok (.invokevirtual 184, 3) ∧ decode cX6_act 123 = .ok (.istore 7, 2) ∧ decode cX6_act 125 = .ok (.iinc 8 1, 3) ∧ decode cX6_act 128 = .ok (.goto (-58), 3) ∧ decode cX6_act 131 = .ok (.iload_n 3, 1) ∧ decode cX6_act 132 = .ok (.iconst (-1), 1) ∧ decode cX6_act 133 = .ok (.if_icmp .ne 8, 3) ∧ decode cX6_act 136 = .ok (.iload 6, 2) := by decide +kernel
theorem dX6_act_120 : decode cX6_act 120 = .ok (.invokevirtual 184, 3) := db_dX6_act_120.1
theorem dX6_act_123 : decode cX6_act 123 = .ok (.istore 7, 2) := db_dX6_act_120.2.1
theorem dX6_act_125 : decode cX6_act 125 = .ok (.iinc 8 1, 3) := db_dX6_act_120.2.2.1
theorem dX6_act_128 : decode cX6_act 128 = .ok (.goto (-58), 3) := db_dX6_act_120.2.2.2.1
theorem dX6_act_131 : decode cX6_act 131 = .ok (.iload_n 3, 1) := db_dX6_act_120.2.2.2.2.1
theorem dX6_act_132 : decode cX6_act 132 = .ok (.iconst (-1), 1) := db_dX6_act_120.2.2.2.2.2.1
theorem dX6_act_133 : decode cX6_act 133 = .ok (.if_icmp .ne 8, 3) := db_dX6_act_120.2.2.2.2.2.2.1
theorem dX6_act_136 : decode cX6_act 136 = .ok (.iload 6, 2) := db_dX6_act_120.2.2.2.2.2.2.2
theorem db_dX6_act_138 : decode cX6_act 138 = .ok (.goto 5, 3) ∧ decode cX6_act 141 = .ok (.bipush (-4), 2) ∧ decode cX6_act 143 = .ok (.ireturn, 1) := by decide +kernel
theorem dX6_act_138 : decode cX6_act 138 = .ok (.goto 5, 3) := db_dX6_act_138.1
theorem dX6_act_141 : decode cX6_act 141 = .ok (.bipush (-4), 2) := db_dX6_act_138.2.1
theorem dX6_act_143 : decode cX6_act 143 = .ok (.ireturn, 1) := db_dX6_act_138.2.2
theorem db_dX6_unlike_0 : decode cX6_unlike 0 = .ok (.iload_n 1, 1) ∧ decode cX6_unlike 1 = .ok (.iconst 0, 1) ∧ decode cX6_unlike 2 = .ok (.iconst 3, 1) ∧ decode cX6_unlike 3 = .ok (.invokestatic 69, 3) ∧ decode cX6_unlike 6 = .ok (.ifCond .eq 5, 3) ∧ decode cX6_unlike 9 = .ok (.iconst (-1), 1) ∧ decode cX6_unlike 10 = .ok (.ireturn, 1) ∧ decode cX6_unlike 11 = .ok (.aload_n 0, 1) := by decide +kernel
theorem dX6_unlike_0 : decode cX6_unlike 0 = .ok (.iload_n 1, 1) := db_dX6_unlike_0.1
theorem dX6_unlike_1 : decode cX6_unlike 1 = .ok (.iconst 0, 1) := db_dX6_unlike_0.2.1
theorem dX6_unlike_2 : decode cX6_unlike 2 = .ok (.iconst 3, 1) := db_dX6_unlike_0.2.2.1
theorem dX6_unlike_3 : decode cX6_unlike 3 = .ok (.invokestatic 69, 3) := db_dX6_unlike_0.2.2.2.1
theorem dX6_unlike_6 : decode cX6_unlike 6 = .ok (.ifCond .eq 5, 3) := db_dX6_unlike_0.2.2.2.2.1
theorem dX6_unlike_9 : decode cX6_unlike 9 = .ok (.iconst (-1), 1) := db_dX6_unlike_0.2.2.2.2.2.1
theorem dX6_unlike_10 : decode cX6_unlike 10 = .ok (.ireturn, 1) := db_dX6_unlike_0.2.2.2.2.2.2.1
theorem dX6_unlike_11 : decode cX6_unlike 11 = .ok (.aload_n 0, 1) := db_dX6_unlike_0.2.2.2.2.2.2.2
theorem db_dX6_unlike_12 : decode cX6_unlike 12 = .ok (.getfield 33, 3) ∧ decode cX6_unlike 15 = .ok (.iload_n 1, 1) ∧ decode cX6_unlike 16 = .ok (.aaload, 1) ∧ decode cX6_unlike 17 = .ok (.astore_n 2, 1) ∧ decode cX6_unlike 18 = .ok (.aload_n 2, 1) ∧ decode cX6_unlike 19 = .ok (.getfield 181, 3) ∧ decode cX6_unlike 22 = .ok (.ifCond .ne 6, 3) ∧ decode cX6_unlike 25 = .ok (.bipush (-2), 2) := by decide +kernel
theorem dX6_unlike_12 : decode cX6_unlike 12 = .ok (.getfield 33, 3) := db_dX6_unlike_12.1
theorem dX6_unlike_15 : decode cX6_unlike 15 = .ok (.iload_n 1, 1) := db_dX6_unlike_12.2.1
theorem dX6_unlike_16 : decode cX6_unlike 16 = .ok (.aaload, 1) := db_dX6_unlike_12.2.2.1
theorem dX6_unlike_17 : decode cX6_unlike 17 = .ok (.astore_n 2, 1) := db_dX6_unlike_12.2.2.2.1
theorem dX6_unlike_18 : decode cX6_unlike 18 = .ok (.aload_n 2, 1) := db_dX6_unlike_12.2.2.2.2.1
theorem dX6_unlike_19 : decode cX6_unlike 19 = .ok (.getfield 181, 3) := db_dX6_unlike_12.2.2.2.2.2.1
theorem dX6_unlike_22 : decode cX6_unlike 22 = .ok (.ifCond .ne 6, 3) := db_dX6_unlike_12.2.2.2.2.2.2.1
theorem dX6_unlike_25 : decode cX6_unlike 25 = .ok (.bipush (-2), 2) := db_dX6_unlike_12.2.2.2.2.2.2.2
theorem db_dX6_unlike_27 : decode cX6_unlike 27 = .ok (.ireturn, 1) ∧ decode cX6_unlike 28 = .ok (.aload_n 0, 1) ∧ decode cX6_unlike 29 = .ok (.aload_n 2, 1) ∧ decode cX6_unlike 30 = .ok (.iconst 0, 1) ∧ decode cX6_unlike 31 = .ok (.iconst 0, 1) ∧ decode cX6_unlike 32 = .ok (.invokevirtual 184, 3) ∧ decode cX6_unlike 35 = .ok (.istore_n 3, 1) ∧ decode cX6_unlike 36 = .ok (.aload_n 0, 1) := by decide +kernel
theorem dX6_unlike_27 : decode cX6_unlike 27 = .ok (.ireturn, 1) := db_dX6_unlike_27.1
theorem dX6_unlike_28 : decode cX6_unlike 28 = .ok (.aload_n 0, 1) := db_dX6_unlike_27.2.1
theorem dX6_unlike_29 : decode cX6_unlike 29 = .ok (.aload_n 2, 1) := db_dX6_unlike_27.2.2.1
theorem dX6_unlike_30 : decode cX6_unlike 30 = .ok (.iconst 0, 1) := db_dX6_unlike_27.2.2.2.1
theorem dX6_unlike_31 : decode cX6_unlike 31 = .ok (.iconst 0, 1) := db_dX6_unlike_27.2.2.2.2.1
theorem dX6_unlike_32 : decode cX6_unlike 32 = .ok (.invokevirtual 184, 3) := db_dX6_unlike_27.2.2.2.2.2.1
theorem dX6_unlike_35 : decode cX6_unlike 35 = .ok (.istore_n 3, 1) := db_dX6_unlike_27.2.2.2.2.2.2.1
theorem dX6_unlike_36 : decode cX6_unlike 36 = .ok (.aload_n 0, 1) := db_dX6_unlike_27.2.2.2.2.2.2.2
theorem db_dX6_unlike_37 : decode cX6_unlike 37 = .ok (.aload_n 2, 1) ∧ decode cX6_unlike 38 = .ok (.iconst 1, 1) ∧ decode cX6_unlike 39 = .ok (.iconst 0, 1) ∧ decode cX6_unlike 40 = .ok (.invokevirtual 184, 3) ∧ decode cX6_unlike 43 = .ok (.istore 4, 2) ∧ decode cX6_unlike 45 = .ok (.iconst 0, 1) ∧ decode cX6_unlike 46 = .ok (.istore 5, 2) ∧ decode cX6_unlike 48 = .ok (.iload 5, 2) := by decide +kernel
theorem dX6_unlike_37 : decode cX6_unlike 37 = .ok (.aload_n 2, 1) := db_dX6_unlike_37.1
theorem dX6_unlike_38 : decode cX6_unlike 38 = .ok (.iconst 1, 1) := db_dX6_unlike_37.2.1
theorem dX6_unlike_39 : decode cX6_unlike 39 = .ok (.iconst 0, 1) := db_dX6_unlike_37.2.2.1
theorem dX6_unlike_40 : decode cX6_unlike 40 = .ok (.invokevirtual 184, 3) := db_dX6_unlike_37.2.2.2.1
theorem dX6_unlike_43 : decode cX6_unlike 43 = .ok (.istore 4, 2) := db_dX6_unlike_37.2.2.2.2.1
theorem dX6_unlike_45 : decode cX6_unlike 45 = .ok (.iconst 0, 1) := db_dX6_unlike_37.2.2.2.2.2.1
theorem dX6_unlike_46 : decode cX6_unlike 46 = .ok (.istore 5, 2) := db_dX6_unlike_37.2.2.2.2.2.2.1
theorem dX6_unlike_48 : decode cX6_unlike 48 = .ok (.iload 5, 2) := db_dX6_unlike_37.2.2.2.2.2.2.2
theorem db_dX6_unlike_50 : decode cX6_unlike 50 = .ok (.sipush 4000, 3) ∧ decode cX6_unlike 53 = .ok (.if_icmp .ge 81, 3) ∧ decode cX6_unlike 56 = .ok (.iload_n 3, 1) ∧ decode cX6_unlike 57 = .ok (.bipush (-4), 2) ∧ decode cX6_unlike 59 = .ok (.if_icmp .ne 10, 3) ∧ decode cX6_unlike 62 = .ok (.iload 4, 2) ∧ decode cX6_unlike 64 = .ok (.bipush (-4), 2) ∧ decode cX6_unlike 66 = .ok (.if_icmp .eq 68, 3) := by decide +kernel
theorem dX6_unlike_50 : decode cX6_unlike 50 = .ok (.sipush 4000, 3) := db_dX6_unlike_50.1
theorem dX6_unlike_53 : decode cX6_unlike 53 = .ok (.if_icmp .ge 81, 3) := db_dX6_unlike_50.2.1
theorem dX6_unlike_56 : decode cX6_unlike 56 = .ok (.iload_n 3, 1) := db_dX6_unlike_50.2.2.1
theorem dX6_unlike_57 : decode cX6_unlike 57 = .ok (.bipush (-4), 2) := db_dX6_unlike_50.2.2.2.1
theorem dX6_unlike_59 : decode cX6_unlike 59 = .ok (.if_icmp .ne 10, 3) := db_dX6_unlike_50.2.2.2.2.1
theorem dX6_unlike_62 : decode cX6_unlike 62 = .ok (.iload 4, 2) := db_dX6_unlike_50.2.2.2.2.2.1
theorem dX6_unlike_64 : decode cX6_unlike 64 = .ok (.bipush (-4), 2) := db_dX6_unlike_50.2.2.2.2.2.2.1
theorem dX6_unlike_66 : decode cX6_unlike 66 = .ok (.if_icmp .eq 68, 3) := db_dX6_unlike_50.2.2.2.2.2.2.2
theorem db_dX6_unlike_69 : decode cX6_unlike 69 = .ok (.iload_n 3, 1) ∧ decode cX6_unlike 70 = .ok (.bipush (-4), 2) ∧ decode cX6_unlike 72 = .ok (.if_icmp .eq 35, 3) ∧ decode cX6_unlike 75 = .ok (.iload 4, 2) ∧ decode cX6_unlike 77 = .ok (.bipush (-4), 2) ∧ decode cX6_unlike 79 = .ok (.if_icmp .eq 28, 3) ∧ decode cX6_unlike 82 = .ok (.aload_n 0, 1) ∧ decode cX6_unlike 83 = .ok (.aload_n 2, 1) := by decide +kernel
theorem dX6_unlike_69 : decode cX6_unlike 69 = .ok (.iload_n 3, 1) := db_dX6_unlike_69.1
theorem dX6_unlike_70 : decode cX6_unlike 70 = .ok (.bipush (-4), 2) := db_dX6_unlike_69.2.1
theorem dX6_unlike_72 : decode cX6_unlike 72 = .ok (.if_icmp .eq 35, 3) := db_dX6_unlike_69.2.2.1
theorem dX6_unlike_75 : decode cX6_unlike 75 = .ok (.iload 4, 2) := db_dX6_unlike_69.2.2.2.1
theorem dX6_unlike_77 : decode cX6_unlike 77 = .ok (.bipush (-4), 2) := db_dX6_unlike_69.2.2.2.2.1
theorem dX6_unlike_79 : decode cX6_unlike 79 = .ok (.if_icmp .eq 28, 3) := db_dX6_unlike_69.2.2.2.2.2.1
theorem dX6_unlike_82 : decode cX6_unlike 82 = .ok (.aload_n 0, 1) := db_dX6_unlike_69.2.2.2.2.2.2.1
theorem dX6_unlike_83 : decode cX6_unlike 83 = .ok (.aload_n 2, 1) := db_dX6_unlike_69.2.2.2.2.2.2.2
theorem db_dX6_unlike_84 : decode cX6_unlike 84 = .ok (.iconst 0, 1) ∧ decode cX6_unlike 85 = .ok (.iload_n 3, 1) ∧ decode cX6_unlike 86 = .ok (.invokevirtual 188, 3) ∧ decode cX6_unlike 89 = .ok (.aload_n 0, 1) ∧ decode cX6_unlike 90 = .ok (.aload_n 2, 1) ∧ decode cX6_unlike 91 = .ok (.iconst 1, 1) ∧ decode cX6_unlike 92 = .ok (.iload 4, 2) ∧ decode cX6_unlike 94 = .ok (.invokevirtual 188, 3) := by decide +kernel
theorem dX6_unlike_84 : decode cX6_unlike 84 = .ok (.iconst 0, 1) := db_dX6_unlike_84.1
theorem dX6_unlike_85 : decode cX6_unlike 85 = .ok (.iload_n 3, 1) := db_dX6_unlike_84.2.1
theorem dX6_unlike_86 : decode cX6_unlike 86 = .ok (.invokevirtual 188, 3) := db_dX6_unlike_84.2.2.1
theorem dX6_unlike_89 : decode cX6_unlike 89 = .ok (.aload_n 0, 1) := db_dX6_unlike_84.2.2.2.1
theorem dX6_unlike_90 : decode cX6_unlike 90 = .ok (.aload_n 2, 1) := db_dX6_unlike_84.2.2.2.2.1
theorem dX6_unlike_91 : decode cX6_unlike 91 = .ok (.iconst 1, 1) := db_dX6_unlike_84.2.2.2.2.2.1
theorem dX6_unlike_92 : decode cX6_unlike 92 = .ok (.iload 4, 2) := db_dX6_unlike_84.2.2.2.2.2.2.1
theorem dX6_unlike_94 : decode cX6_unlike 94 = .ok (.invokevirtual 188, 3) := db_dX6_unlike_84.2.2.2.2.2.2.2
theorem db_dX6_unlike_97 : decode cX6_unlike 97 = .ok (.aload_n 0, 1) ∧ decode cX6_unlike 98 = .ok (.getfield 57, 3) ∧ decode cX6_unlike 101 = .ok (.invokestatic 191, 3) ∧ decode cX6_unlike 104 = .ok (.ifCond .ne 6, 3) ∧ decode cX6_unlike 107 = .ok (.iload 5, 2) ∧ decode cX6_unlike 109 = .ok (.ireturn, 1) ∧ decode cX6_unlike 110 = .ok (.aload_n 0, 1) ∧ decode cX6_unlike 111 = .ok (.aload_n 2, 1) := by decide +kernel
theorem dX6_unlike_97 : decode cX6_unlike 97 = .ok (.aload_n 0, 1) := db_dX6_unlike_97.1
theorem dX6_unlike_98 : decode cX6_unlike 98 = .ok (.getfield 57, 3) := db_dX6_unlike_97.2.1
theorem dX6_unlike_101 : decode cX6_unlike 101 = .ok (.invokestatic 191, 3) := db_dX6_unlike_97.2.2.1
theorem dX6_unlike_104 : decode cX6_unlike 104 = .ok (.ifCond .ne 6, 3) := db_dX6_unlike_97.2.2.2.1
theorem dX6_unlike_107 : decode cX6_unlike 107 = .ok (.iload 5, 2) := db_dX6_unlike_97.2.2.2.2.1
theorem dX6_unlike_109 : decode cX6_unlike 109 = .ok (.ireturn, 1) := db_dX6_unlike_97.2.2.2.2.2.1
theorem dX6_unlike_110 : decode cX6_unlike 110 = .ok (.aload_n 0, 1) := db_dX6_unlike_97.2.2.2.2.2.2.1
theorem dX6_unlike_111 : decode cX6_unlike 111 = .ok (.aload_n 2, 1) := db_dX6_unlike_97.2.2.2.2.2.2.2
theorem db_dX6_unlike_112 : decode cX6_unlike 112 = .ok (.iconst 0, 1) ∧ decode cX6_unlike 113 = .ok (.iload_n 3, 1) ∧ decode cX6_unlike 114 = .ok (.invokevirtual 184, 3) ∧ decode cX6_unlike 117 = .ok (.istore_n 3, 1) ∧ decode cX6_unlike 118 = .ok (.aload_n 0, 1) ∧ decode cX6_unlike 119 = .ok (.aload_n 2, 1) ∧ decode cX6_unlike 120 = .ok (.iconst 1, 1) ∧ decode cX6_unlike 121 = .ok (.iload 4, 2) := by decide +kernel
theorem dX6_unlike_112 : decode cX6_unlike 112 = .ok (.iconst 0, 1) := db_dX6_unlike_112.1
theorem dX6_unlike_113 : decode cX6_unlike 113 = .ok (.iload_n 3, 1) := db_dX6_unlike_112.2.1
theorem dX6_unlike_114 : decode cX6_unlike 114 = .ok (.invokevirtual 184, 3) := db_dX6_unlike_112.2.2.1
theorem dX6_unlike_117 : decode cX6_unlike 117 = .ok (.istore_n 3, 1) := db_dX6_unlike_112.2.2.2.1
theorem dX6_unlike_118 : decode cX6_unlike 118 = .ok (.aload_n 0, 1) := db_dX6_unlike_112.2.2.2.2.1
theorem dX6_unlike_119 : decode cX6_unlike 119 = .ok (.aload_n 2, 1) := db_dX6_unlike_112.2.2.2.2.2.1
theorem dX6_unlike_120 : decode cX6_unlike 120 = .ok (.iconst 1, 1) := db_dX6_unlike_112.2.2.2.2.2.2.1
theorem dX6_unlike_121 : decode cX6_unlike 121 = .ok (.iload 4, 2) := db_dX6_unlike_112.2.2.2.2.2.2.2
theorem db_dX6_unlike_123 : decode cX6_unlike 123 = .ok (.invokevirtual 184, 3) ∧ decode cX6_unlike 126 = .ok (.istore 4, 2) ∧ decode cX6_unlike 128 = .ok (.iinc 5 1, 3) ∧ decode cX6_unlike 131 = .ok (.goto (-83), 3) ∧ decode cX6_unlike 134 = .ok (.bipush (-4), 2) ∧ decode cX6_unlike 136 = .ok (.ireturn, 1) := by decide +kernel
theorem dX6_unlike_123 : decode cX6_unlike 123 = .ok (.invokevirtual 184, 3) := db_dX6_unlike_123.1
theorem dX6_unlike_126 : decode cX6_unlike 126 = .ok (.istore 4, 2) := db_dX6_unlike_123.2.1
theorem dX6_unlike_128 : decode cX6_unlike 128 = .ok (.iinc 5 1, 3) := db_dX6_unlike_123.2.2.1
theorem dX6_unlike_131 : decode cX6_unlike 131 = .ok (.goto (-83), 3) := db_dX6_unlike_123.2.2.2.1
theorem dX6_unlike_134 : decode cX6_unlike 134 = .ok (.bipush (-4), 2) := db_dX6_unlike_123.2.2.2.2.1
theorem dX6_unlike_136 : decode cX6_unlike 136 = .ok (.ireturn, 1) := db_dX6_unlike_123.2.2.2.2.2
theorem db_dX6_nextAct_0 : decode cX6_nextAct 0 = .ok (.aload_n 0, 1) ∧ decode cX6_nextAct 1 = .ok (.iload_n 2, 1) ∧ decode cX6_nextAct 2 = .ok (.aload_n 1, 1) ∧ decode cX6_nextAct 3 = .ok (.getfield 195, 3) ∧ decode cX6_nextAct 6 = .ok (.invokevirtual 154, 3) ∧ decode cX6_nextAct 9 = .ok (.astore 4, 2) ∧ decode cX6_nextAct 11 = .ok (.aload 4, 2) ∧ decode cX6_nextAct 13 = .ok (.iload_n 3, 1) := by decide +kernel
theorem dX6_nextAct_0 : decode cX6_nextAct 0 = .ok (.aload_n 0, 1) := db_dX6_nextAct_0.1
theorem dX6_nextAct_1 : decode cX6_nextAct 1 = .ok (.iload_n 2, 1) := db_dX6_nextAct_0.2.1
theorem dX6_nextAct_2 : decode cX6_nextAct 2 = .ok (.aload_n 1, 1) := db_dX6_nextAct_0.2.2.1
theorem dX6_nextAct_3 : decode cX6_nextAct 3 = .ok (.getfield 195, 3) := db_dX6_nextAct_0.2.2.2.1
theorem dX6_nextAct_6 : decode cX6_nextAct 6 = .ok (.invokevirtual 154, 3) := db_dX6_nextAct_0.2.2.2.2.1
theorem dX6_nextAct_9 : decode cX6_nextAct 9 = .ok (.astore 4, 2) := db_dX6_nextAct_0.2.2.2.2.2.1
theorem dX6_nextAct_11 : decode cX6_nextAct 11 = .ok (.aload 4, 2) := db_dX6_nextAct_0.2.2.2.2.2.2.1
theorem dX6_nextAct_13 : decode cX6_nextAct 13 = .ok (.iload_n 3, 1) := db_dX6_nextAct_0.2.2.2.2.2.2.2
theorem db_dX6_nextAct_14 : decode cX6_nextAct 14 = .ok (.aload_n 0, 1) ∧ decode cX6_nextAct 15 = .ok (.getfield 54, 3) ∧ decode cX6_nextAct 18 = .ok (.invokevirtual 198, 3) ∧ decode cX6_nextAct 21 = .ok (.istore 5, 2) ∧ decode cX6_nextAct 23 = .ok (.iconst 0, 1) ∧ decode cX6_nextAct 24 = .ok (.istore 6, 2) ∧ decode cX6_nextAct 26 = .ok (.iload 6, 2) ∧ decode cX6_nextAct 28 = .ok (.sipush 4000, 3) := by decide +kernel
theorem dX6_nextAct_14 : decode cX6_nextAct 14 = .ok (.aload_n 0, 1) := db_dX6_nextAct_14.1
theorem dX6_nextAct_15 : decode cX6_nextAct 15 = .ok (.getfield 54, 3) := db_dX6_nextAct_14.2.1
theorem dX6_nextAct_18 : decode cX6_nextAct 18 = .ok (.invokevirtual 198, 3) := db_dX6_nextAct_14.2.2.1
theorem dX6_nextAct_21 : decode cX6_nextAct 21 = .ok (.istore 5, 2) := db_dX6_nextAct_14.2.2.2.1
theorem dX6_nextAct_23 : decode cX6_nextAct 23 = .ok (.iconst 0, 1) := db_dX6_nextAct_14.2.2.2.2.1
theorem dX6_nextAct_24 : decode cX6_nextAct 24 = .ok (.istore 6, 2) := db_dX6_nextAct_14.2.2.2.2.2.1
theorem dX6_nextAct_26 : decode cX6_nextAct 26 = .ok (.iload 6, 2) := db_dX6_nextAct_14.2.2.2.2.2.2.1
theorem dX6_nextAct_28 : decode cX6_nextAct 28 = .ok (.sipush 4000, 3) := db_dX6_nextAct_14.2.2.2.2.2.2.2
theorem db_dX6_nextAct_31 : decode cX6_nextAct 31 = .ok (.if_icmp .ge 60, 3) ∧ decode cX6_nextAct 34 = .ok (.iload 5, 2) ∧ decode cX6_nextAct 36 = .ok (.bipush (-4), 2) ∧ decode cX6_nextAct 38 = .ok (.if_icmp .eq 53, 3) ∧ decode cX6_nextAct 41 = .ok (.aload_n 0, 1) ∧ decode cX6_nextAct 42 = .ok (.iload_n 2, 1) ∧ decode cX6_nextAct 43 = .ok (.aload_n 1, 1) ∧ decode cX6_nextAct 44 = .ok (.getfield 201, 3) := by decide +kernel
theorem dX6_nextAct_31 : decode cX6_nextAct 31 = .ok (.if_icmp .ge 60, 3) := db_dX6_nextAct_31.1
theorem dX6_nextAct_34 : decode cX6_nextAct 34 = .ok (.iload 5, 2) := db_dX6_nextAct_31.2.1
theorem dX6_nextAct_36 : decode cX6_nextAct 36 = .ok (.bipush (-4), 2) := db_dX6_nextAct_31.2.2.1
theorem dX6_nextAct_38 : decode cX6_nextAct 38 = .ok (.if_icmp .eq 53, 3) := db_dX6_nextAct_31.2.2.2.1
theorem dX6_nextAct_41 : decode cX6_nextAct 41 = .ok (.aload_n 0, 1) := db_dX6_nextAct_31.2.2.2.2.1
theorem dX6_nextAct_42 : decode cX6_nextAct 42 = .ok (.iload_n 2, 1) := db_dX6_nextAct_31.2.2.2.2.2.1
theorem dX6_nextAct_43 : decode cX6_nextAct 43 = .ok (.aload_n 1, 1) := db_dX6_nextAct_31.2.2.2.2.2.2.1
theorem dX6_nextAct_44 : decode cX6_nextAct 44 = .ok (.getfield 201, 3) := db_dX6_nextAct_31.2.2.2.2.2.2.2
theorem db_dX6_nextAct_47 : decode cX6_nextAct 47 = .ok (.iload 5, 2) ∧ decode cX6_nextAct 49 = .ok (.invokevirtual 204, 3) ∧ decode cX6_nextAct 52 = .ok (.ifCond .eq 20, 3) ∧ decode cX6_nextAct 55 = .ok (.aload_n 0, 1) ∧ decode cX6_nextAct 56 = .ok (.iload_n 2, 1) ∧ decode cX6_nextAct 57 = .ok (.aload_n 1, 1) ∧ decode cX6_nextAct 58 = .ok (.getfield 207, 3) ∧ decode cX6_nextAct 61 = .ok (.iload 5, 2) := by decide +kernel
theorem dX6_nextAct_47 : decode cX6_nextAct 47 = .ok (.iload 5, 2) := db_dX6_nextAct_47.1
theorem dX6_nextAct_49 : decode cX6_nextAct 49 = .ok (.invokevirtual 204, 3) := db_dX6_nextAct_47.2.1
theorem dX6_nextAct_52 : decode cX6_nextAct 52 = .ok (.ifCond .eq 20, 3) := db_dX6_nextAct_47.2.2.1
theorem dX6_nextAct_55 : decode cX6_nextAct 55 = .ok (.aload_n 0, 1) := db_dX6_nextAct_47.2.2.2.1
theorem dX6_nextAct_56 : decode cX6_nextAct 56 = .ok (.iload_n 2, 1) := db_dX6_nextAct_47.2.2.2.2.1
theorem dX6_nextAct_57 : decode cX6_nextAct 57 = .ok (.aload_n 1, 1) := db_dX6_nextAct_47.2.2.2.2.2.1
theorem dX6_nextAct_58 : decode cX6_nextAct 58 = .ok (.getfield 207, 3) := db_dX6_nextAct_47.2.2.2.2.2.2.1
theorem dX6_nextAct_61 : decode cX6_nextAct 61 = .ok (.iload 5, 2) := db_dX6_nextAct_47.2.2.2.2.2.2.2
theorem db_dX6_nextAct_63 : decode cX6_nextAct 63 = .ok (.invokevirtual 204, 3) ∧ decode cX6_nextAct 66 = .ok (.ifCond .eq 6, 3) ∧ decode cX6_nextAct 69 = .ok (.iload 5, 2) ∧ decode cX6_nextAct 71 = .ok (.ireturn, 1) ∧ decode cX6_nextAct 72 = .ok (.aload 4, 2) ∧ decode cX6_nextAct 74 = .ok (.iload 5, 2) ∧ decode cX6_nextAct 76 = .ok (.aload_n 0, 1) ∧ decode cX6_nextAct 77 = .ok (.getfield 54, 3) := by decide +kernel
theorem dX6_nextAct_63 : decode cX6_nextAct 63 = .ok (.invokevirtual 204, 3) := db_dX6_nextAct_63.1
theorem dX6_nextAct_66 : decode cX6_nextAct 66 = .ok (.ifCond .eq 6, 3) := db_dX6_nextAct_63.2.1
theorem dX6_nextAct_69 : decode cX6_nextAct 69 = .ok (.iload 5, 2) := db_dX6_nextAct_63.2.2.1
theorem dX6_nextAct_71 : decode cX6_nextAct 71 = .ok (.ireturn, 1) := db_dX6_nextAct_63.2.2.2.1
theorem dX6_nextAct_72 : decode cX6_nextAct 72 = .ok (.aload 4, 2) := db_dX6_nextAct_63.2.2.2.2.1
theorem dX6_nextAct_74 : decode cX6_nextAct 74 = .ok (.iload 5, 2) := db_dX6_nextAct_63.2.2.2.2.2.1
theorem dX6_nextAct_76 : decode cX6_nextAct 76 = .ok (.aload_n 0, 1) := db_dX6_nextAct_63.2.2.2.2.2.2.1
theorem dX6_nextAct_77 : decode cX6_nextAct 77 = .ok (.getfield 54, 3) := db_dX6_nextAct_63.2.2.2.2.2.2.2
theorem db_dX6_nextAct_80 : decode cX6_nextAct 80 = .ok (.invokevirtual 198, 3) ∧ decode cX6_nextAct 83 = .ok (.istore 5, 2) ∧ decode cX6_nextAct 85 = .ok (.iinc 6 1, 3) ∧ decode cX6_nextAct 88 = .ok (.goto (-62), 3) ∧ decode cX6_nextAct 91 = .ok (.bipush (-4), 2) ∧ decode cX6_nextAct 93 = .ok (.ireturn, 1) := by decide +kernel
theorem dX6_nextAct_80 : decode cX6_nextAct 80 = .ok (.invokevirtual 198, 3) := db_dX6_nextAct_80.1
theorem dX6_nextAct_83 : decode cX6_nextAct 83 = .ok (.istore 5, 2) := db_dX6_nextAct_80.2.1
theorem dX6_nextAct_85 : decode cX6_nextAct 85 = .ok (.iinc 6 1, 3) := db_dX6_nextAct_80.2.2.1
theorem dX6_nextAct_88 : decode cX6_nextAct 88 = .ok (.goto (-62), 3) := db_dX6_nextAct_80.2.2.2.1
theorem dX6_nextAct_91 : decode cX6_nextAct 91 = .ok (.bipush (-4), 2) := db_dX6_nextAct_80.2.2.2.2.1
theorem dX6_nextAct_93 : decode cX6_nextAct 93 = .ok (.ireturn, 1) := db_dX6_nextAct_80.2.2.2.2.2
theorem db_dX6_hadOneAhead_0 : decode cX6_hadOneAhead 0 = .ok (.aload_n 0, 1) ∧ decode cX6_hadOneAhead 1 = .ok (.iload_n 1, 1) ∧ decode cX6_hadOneAhead 2 = .ok (.iload_n 2, 1) ∧ decode cX6_hadOneAhead 3 = .ok (.invokevirtual 154, 3) ∧ decode cX6_hadOneAhead 6 = .ok (.iload_n 3, 1) ∧ decode cX6_hadOneAhead 7 = .ok (.iconst 1, 1) ∧ decode cX6_hadOneAhead 8 = .ok (.isub, 1) ∧ decode cX6_hadOneAhead 9 = .ok (.invokevirtual 110, 3) := by decide +kernel
theorem dX6_hadOneAhead_0 : decode cX6_hadOneAhead 0 = .ok (.aload_n 0, 1) := db_dX6_hadOneAhead_0.1
theorem dX6_hadOneAhead_1 : decode cX6_hadOneAhead 1 = .ok (.iload_n 1, 1) := db_dX6_hadOneAhead_0.2.1
theorem dX6_hadOneAhead_2 : decode cX6_hadOneAhead 2 = .ok (.iload_n 2, 1) := db_dX6_hadOneAhead_0.2.2.1
theorem dX6_hadOneAhead_3 : decode cX6_hadOneAhead 3 = .ok (.invokevirtual 154, 3) := db_dX6_hadOneAhead_0.2.2.2.1
theorem dX6_hadOneAhead_6 : decode cX6_hadOneAhead 6 = .ok (.iload_n 3, 1) := db_dX6_hadOneAhead_0.2.2.2.2.1
theorem dX6_hadOneAhead_7 : decode cX6_hadOneAhead 7 = .ok (.iconst 1, 1) := db_dX6_hadOneAhead_0.2.2.2.2.2.1
theorem dX6_hadOneAhead_8 : decode cX6_hadOneAhead 8 = .ok (.isub, 1) := db_dX6_hadOneAhead_0.2.2.2.2.2.2.1
theorem dX6_hadOneAhead_9 : decode cX6_hadOneAhead 9 = .ok (.invokevirtual 110, 3) := db_dX6_hadOneAhead_0.2.2.2.2.2.2.2
theorem db_dX6_hadOneAhead_12 : decode cX6_hadOneAhead 12 = .ok (.iconst 1, 1) ∧ decode cX6_hadOneAhead 13 = .ok (.if_icmp .ne 7, 3) ∧ decode cX6_hadOneAhead 16 = .ok (.iconst 1, 1) ∧ decode cX6_hadOneAhead 17 = .ok (.goto 4, 3) ∧ decode cX6_hadOneAhead 20 = .ok (.iconst 0, 1) ∧ decode cX6_hadOneAhead 21 = .ok (.ireturn, 1) := by decide +kernel
theorem dX6_hadOneAhead_12 : decode cX6_hadOneAhead 12 = .ok (.iconst 1, 1) := db_dX6_hadOneAhead_12.1
theorem dX6_hadOneAhead_13 : decode cX6_hadOneAhead 13 = .ok (.if_icmp .ne 7, 3) := db_dX6_hadOneAhead_12.2.1
theorem dX6_hadOneAhead_16 : decode cX6_hadOneAhead 16 = .ok (.iconst 1, 1) := db_dX6_hadOneAhead_12.2.2.1
theorem dX6_hadOneAhead_17 : decode cX6_hadOneAhead 17 = .ok (.goto 4, 3) := db_dX6_hadOneAhead_12.2.2.2.1
theorem dX6_hadOneAhead_20 : decode cX6_hadOneAhead 20 = .ok (.iconst 0, 1) := db_dX6_hadOneAhead_12.2.2.2.2.1
theorem dX6_hadOneAhead_21 : decode cX6_hadOneAhead 21 = .ok (.ireturn, 1) := db_dX6_hadOneAhead_12.2.2.2.2.2
theorem db_dX6_dataAhead_0 : decode cX6_dataAhead 0 = .ok (.aload_n 0, 1) ∧ decode cX6_dataAhead 1 = .ok (.iload_n 2, 1) ∧ decode cX6_dataAhead 2 = .ok (.aload_n 1, 1) ∧ decode cX6_dataAhead 3 = .ok (.getfield 210, 3) ∧ decode cX6_dataAhead 6 = .ok (.invokevirtual 154, 3) ∧ decode cX6_dataAhead 9 = .ok (.iload_n 3, 1) ∧ decode cX6_dataAhead 10 = .ok (.iconst 1, 1) ∧ decode cX6_dataAhead 11 = .ok (.isub, 1) := by decide +kernel
theorem dX6_dataAhead_0 : decode cX6_dataAhead 0 = .ok (.aload_n 0, 1) := db_dX6_dataAhead_0.1
theorem dX6_dataAhead_1 : decode cX6_dataAhead 1 = .ok (.iload_n 2, 1) := db_dX6_dataAhead_0.2.1
theorem dX6_dataAhead_2 : decode cX6_dataAhead 2 = .ok (.aload_n 1, 1) := db_dX6_dataAhead_0.2.2.1
theorem dX6_dataAhead_3 : decode cX6_dataAhead 3 = .ok (.getfield 210, 3) := db_dX6_dataAhead_0.2.2.2.1
theorem dX6_dataAhead_6 : decode cX6_dataAhead 6 = .ok (.invokevirtual 154, 3) := db_dX6_dataAhead_0.2.2.2.2.1
theorem dX6_dataAhead_9 : decode cX6_dataAhead 9 = .ok (.iload_n 3, 1) := db_dX6_dataAhead_0.2.2.2.2.2.1
theorem dX6_dataAhead_10 : decode cX6_dataAhead 10 = .ok (.iconst 1, 1) := db_dX6_dataAhead_0.2.2.2.2.2.2.1
theorem dX6_dataAhead_11 : decode cX6_dataAhead 11 = .ok (.isub, 1) := db_dX6_dataAhead_0.2.2.2.2.2.2.2
theorem db_dX6_dataAhead_12 : decode cX6_dataAhead 12 = .ok (.invokevirtual 110, 3) ∧ decode cX6_dataAhead 15 = .ok (.ireturn, 1) := by decide +kernel
theorem dX6_dataAhead_12 : decode cX6_dataAhead 12 = .ok (.invokevirtual 110, 3) := db_dX6_dataAhead_12.1
theorem dX6_dataAhead_15 : decode cX6_dataAhead 15 = .ok (.ireturn, 1) := db_dX6_dataAhead_12.2
theorem db_dX6_fit_0 : decode cX6_fit 0 = .ok (.iload_n 1, 1) ∧ decode cX6_fit 1 = .ok (.iconst 0, 1) ∧ decode cX6_fit 2 = .ok (.iconst 3, 1) ∧ decode cX6_fit 3 = .ok (.invokestatic 69, 3) ∧ decode cX6_fit 6 = .ok (.ifCond .eq 7, 3) ∧ decode cX6_fit 9 = .ok (.sipush (-1001), 3) ∧ decode cX6_fit 12 = .ok (.ireturn, 1) ∧ decode cX6_fit 13 = .ok (.aload_n 0, 1) := by decide +kernel
theorem dX6_fit_0 : decode cX6_fit 0 = .ok (.iload_n 1, 1) := db_dX6_fit_0.1
theorem dX6_fit_1 : decode cX6_fit 1 = .ok (.iconst 0, 1) := db_dX6_fit_0.2.1
theorem dX6_fit_2 : decode cX6_fit 2 = .ok (.iconst 3, 1) := db_dX6_fit_0.2.2.1
theorem dX6_fit_3 : decode cX6_fit 3 = .ok (.invokestatic 69, 3) := db_dX6_fit_0.2.2.2.1
theorem dX6_fit_6 : decode cX6_fit 6 = .ok (.ifCond .eq 7, 3) := db_dX6_fit_0.2.2.2.2.1
theorem dX6_fit_9 : decode cX6_fit 9 = .ok (.sipush (-1001), 3) := db_dX6_fit_0.2.2.2.2.2.1
theorem dX6_fit_12 : decode cX6_fit 12 = .ok (.ireturn, 1) := db_dX6_fit_0.2.2.2.2.2.2.1
theorem dX6_fit_13 : decode cX6_fit 13 = .ok (.aload_n 0, 1) := db_dX6_fit_0.2.2.2.2.2.2.2
theorem db_dX6_fit_14 : decode cX6_fit 14 = .ok (.iload_n 1, 1) ∧ decode cX6_fit 15 = .ok (.invokevirtual 213, 3) ∧ decode cX6_fit 18 = .ok (.ifCond .ne 7, 3) ∧ decode cX6_fit 21 = .ok (.sipush (-1002), 3) ∧ decode cX6_fit 24 = .ok (.ireturn, 1) ∧ decode cX6_fit 25 = .ok (.iconst 0, 1) ∧ decode cX6_fit 26 = .ok (.istore_n 2, 1) ∧ decode cX6_fit 27 = .ok (.iload_n 2, 1) := by decide +kernel
theorem dX6_fit_14 : decode cX6_fit 14 = .ok (.iload_n 1, 1) := db_dX6_fit_14.1
theorem dX6_fit_15 : decode cX6_fit 15 = .ok (.invokevirtual 213, 3) := db_dX6_fit_14.2.1
theorem dX6_fit_18 : decode cX6_fit 18 = .ok (.ifCond .ne 7, 3) := db_dX6_fit_14.2.2.1
theorem dX6_fit_21 : decode cX6_fit 21 = .ok (.sipush (-1002), 3) := db_dX6_fit_14.2.2.2.1
theorem dX6_fit_24 : decode cX6_fit 24 = .ok (.ireturn, 1) := db_dX6_fit_14.2.2.2.2.1
theorem dX6_fit_25 : decode cX6_fit 25 = .ok (.iconst 0, 1) := db_dX6_fit_14.2.2.2.2.2.1
theorem dX6_fit_26 : decode cX6_fit 26 = .ok (.istore_n 2, 1) := db_dX6_fit_14.2.2.2.2.2.2.1
theorem dX6_fit_27 : decode cX6_fit 27 = .ok (.iload_n 2, 1) := db_dX6_fit_14.2.2.2.2.2.2.2
theorem db_dX6_fit_28 : decode cX6_fit 28 = .ok (.bipush 50, 2) ∧ decode cX6_fit 30 = .ok (.if_icmp .gt 33, 3) ∧ decode cX6_fit 33 = .ok (.aload_n 0, 1) ∧ decode cX6_fit 34 = .ok (.iload_n 1, 1) ∧ decode cX6_fit 35 = .ok (.iload_n 2, 1) ∧ decode cX6_fit 36 = .ok (.ineg, 1) ∧ decode cX6_fit 37 = .ok (.invokevirtual 216, 3) ∧ decode cX6_fit 40 = .ok (.ifCond .eq 6, 3) := by decide +kernel
theorem dX6_fit_28 : decode cX6_fit 28 = .ok (.bipush 50, 2) := db_dX6_fit_28.1
theorem dX6_fit_30 : decode cX6_fit 30 = .ok (.if_icmp .gt 33, 3) := db_dX6_fit_28.2.1
theorem dX6_fit_33 : decode cX6_fit 33 = .ok (.aload_n 0, 1) := db_dX6_fit_28.2.2.1
theorem dX6_fit_34 : decode cX6_fit 34 = .ok (.iload_n 1, 1) := db_dX6_fit_28.2.2.2.1
theorem dX6_fit_35 : decode cX6_fit 35 = .ok (.iload_n 2, 1) := db_dX6_fit_28.2.2.2.2.1
theorem dX6_fit_36 : decode cX6_fit 36 = .ok (.ineg, 1) := db_dX6_fit_28.2.2.2.2.2.1
theorem dX6_fit_37 : decode cX6_fit 37 = .ok (.invokevirtual 216, 3) := db_dX6_fit_28.2.2.2.2.2.2.1
theorem dX6_fit_40 : decode cX6_fit 40 = .ok (.ifCond .eq 6, 3) := db_dX6_fit_28.2.2.2.2.2.2.2
theorem db_dX6_fit_43 : decode cX6_fit 43 = .ok (.iload_n 2, 1) ∧ decode cX6_fit 44 = .ok (.ineg, 1) ∧ decode cX6_fit 45 = .ok (.ireturn, 1) ∧ decode cX6_fit 46 = .ok (.aload_n 0, 1) ∧ decode cX6_fit 47 = .ok (.iload_n 1, 1) ∧ decode cX6_fit 48 = .ok (.iload_n 2, 1) ∧ decode cX6_fit 49 = .ok (.invokevirtual 216, 3) ∧ decode cX6_fit 52 = .ok (.ifCond .eq 5, 3) := by decide +kernel
theorem dX6_fit_43 : decode cX6_fit 43 = .ok (.iload_n 2, 1) := db_dX6_fit_43.1
theorem dX6_fit_44 : decode cX6_fit 44 = .ok (.ineg, 1) := db_dX6_fit_43.2.1
theorem dX6_fit_45 : decode cX6_fit 45 = .ok (.ireturn, 1) := db_dX6_fit_43.2.2.1
theorem dX6_fit_46 : decode cX6_fit 46 = .ok (.aload_n 0, 1) := db_dX6_fit_43.2.2.2.1
theorem dX6_fit_47 : decode cX6_fit 47 = .ok (.iload_n 1, 1) := db_dX6_fit_43.2.2.2.2.1
theorem dX6_fit_48 : decode cX6_fit 48 = .ok (.iload_n 2, 1) := db_dX6_fit_43.2.2.2.2.2.1
theorem dX6_fit_49 : decode cX6_fit 49 = .ok (.invokevirtual 216, 3) := db_dX6_fit_43.2.2.2.2.2.2.1
theorem dX6_fit_52 : decode cX6_fit 52 = .ok (.ifCond .eq 5, 3) := db_dX6_fit_43.2.2.2.2.2.2.2
theorem db_dX6_fit_55 : decode cX6_fit 55 = .ok (.iload_n 2, 1) ∧ decode cX6_fit 56 = .ok (.ireturn, 1) ∧ decode cX6_fit 57 = .ok (.iinc 2 1, 3) ∧ decode cX6_fit 60 = .ok (.goto (-33), 3) ∧ decode cX6_fit 63 = .ok (.sipush (-1004), 3) ∧ decode cX6_fit 66 = .ok (.ireturn, 1) := by decide +kernel
theorem dX6_fit_55 : decode cX6_fit 55 = .ok (.iload_n 2, 1) := db_dX6_fit_55.1
theorem dX6_fit_56 : decode cX6_fit 56 = .ok (.ireturn, 1) := db_dX6_fit_55.2.1
theorem dX6_fit_57 : decode cX6_fit 57 = .ok (.iinc 2 1, 3) := db_dX6_fit_55.2.2.1
theorem dX6_fit_60 : decode cX6_fit 60 = .ok (.goto (-33), 3) := db_dX6_fit_55.2.2.2.1
theorem dX6_fit_63 : decode cX6_fit 63 = .ok (.sipush (-1004), 3) := db_dX6_fit_55.2.2.2.2.1
theorem dX6_fit_66 : decode cX6_fit 66 = .ok (.ireturn, 1) := db_dX6_fit_55.2.2.2.2.2
theorem db_dX6_hasSignals_0 : decode cX6_hasSignals 0 = .ok (.iconst 0, 1) ∧ decode cX6_hasSignals 1 = .ok (.istore_n 2, 1) ∧ decode cX6_hasSignals 2 = .ok (.iload_n 2, 1) ∧ decode cX6_hasSignals 3 = .ok (.bipush 12, 2) ∧ decode cX6_hasSignals 5 = .ok (.if_icmp .ge 21, 3) ∧ decode cX6_hasSignals 8 = .ok (.aload_n 0, 1) ∧ decode cX6_hasSignals 9 = .ok (.getfield 19, 3) ∧ decode cX6_hasSignals 12 = .ok (.iload_n 2, 1) := by decide +kernel
theorem dX6_hasSignals_0 : decode cX6_hasSignals 0 = .ok (.iconst 0, 1) := db_dX6_hasSignals_0.1
theorem dX6_hasSignals_1 : decode cX6_hasSignals 1 = .ok (.istore_n 2, 1) := db_dX6_hasSignals_0.2.1
theorem dX6_hasSignals_2 : decode cX6_hasSignals 2 = .ok (.iload_n 2, 1) := db_dX6_hasSignals_0.2.2.1
theorem dX6_hasSignals_3 : decode cX6_hasSignals 3 = .ok (.bipush 12, 2) := db_dX6_hasSignals_0.2.2.2.1
theorem dX6_hasSignals_5 : decode cX6_hasSignals 5 = .ok (.if_icmp .ge 21, 3) := db_dX6_hasSignals_0.2.2.2.2.1
theorem dX6_hasSignals_8 : decode cX6_hasSignals 8 = .ok (.aload_n 0, 1) := db_dX6_hasSignals_0.2.2.2.2.2.1
theorem dX6_hasSignals_9 : decode cX6_hasSignals 9 = .ok (.getfield 19, 3) := db_dX6_hasSignals_0.2.2.2.2.2.2.1
theorem dX6_hasSignals_12 : decode cX6_hasSignals 12 = .ok (.iload_n 2, 1) := db_dX6_hasSignals_0.2.2.2.2.2.2.2
theorem db_dX6_hasSignals_13 : decode cX6_hasSignals 13 = .ok (.iaload, 1) ∧ decode cX6_hasSignals 14 = .ok (.iload_n 1, 1) ∧ decode cX6_hasSignals 15 = .ok (.if_icmp .ne 5, 3) ∧ decode cX6_hasSignals 18 = .ok (.iconst 1, 1) ∧ decode cX6_hasSignals 19 = .ok (.ireturn, 1) ∧ decode cX6_hasSignals 20 = .ok (.iinc 2 1, 3) ∧ decode cX6_hasSignals 23 = .ok (.goto (-21), 3) ∧ decode cX6_hasSignals 26 = .ok (.iconst 0, 1) := by decide +kernel
theorem dX6_hasSignals_13 : decode cX6_hasSignals 13 = .ok (.iaload, 1) := db_dX6_hasSignals_13.1
theorem dX6_hasSignals_14 : decode cX6_hasSignals 14 = .ok (.iload_n 1, 1) := db_dX6_hasSignals_13.2.1
theorem dX6_hasSignals_15 : decode cX6_hasSignals 15 = .ok (.if_icmp .ne 5, 3) := db_dX6_hasSignals_13.2.2.1
theorem dX6_hasSignals_18 : decode cX6_hasSignals 18 = .ok (.iconst 1, 1) := db_dX6_hasSignals_13.2.2.2.1
theorem dX6_hasSignals_19 : decode cX6_hasSignals 19 = .ok (.ireturn, 1) := db_dX6_hasSignals_13.2.2.2.2.1
theorem dX6_hasSignals_20 : decode cX6_hasSignals 20 = .ok (.iinc 2 1, 3) := db_dX6_hasSignals_13.2.2.2.2.2.1
theorem dX6_hasSignals_23 : decode cX6_hasSignals 23 = .ok (.goto (-21), 3) := db_dX6_hasSignals_13.2.2.2.2.2.2.1
theorem dX6_hasSignals_26 : decode cX6_hasSignals 26 = .ok (.iconst 0, 1) := db_dX6_hasSignals_13.2.2.2.2.2.2.2
theorem dX6_hasSignals_27 : decode cX6_hasSignals 27 = .ok (.ireturn, 1) := by decide +kernel
theorem db_dX6_fitsBy_0 : decode cX6_fitsBy 0 = .ok (.iconst 0, 1) ∧ decode cX6_fitsBy 1 = .ok (.iload_n 2, 1) ∧ decode cX6_fitsBy 2 = .ok (.ineg, 1) ∧ decode cX6_fitsBy 3 = .ok (.invokestatic 219, 3) ∧ decode cX6_fitsBy 6 = .ok (.istore_n 3, 1) ∧ decode cX6_fitsBy 7 = .ok (.aload_n 0, 1) ∧ decode cX6_fitsBy 8 = .ok (.getfield 54, 3) ∧ decode cX6_fitsBy 11 = .ok (.aload_n 0, 1) := by decide +kernel
theorem dX6_fitsBy_0 : decode cX6_fitsBy 0 = .ok (.iconst 0, 1) := db_dX6_fitsBy_0.1
theorem dX6_fitsBy_1 : decode cX6_fitsBy 1 = .ok (.iload_n 2, 1) := db_dX6_fitsBy_0.2.1
theorem dX6_fitsBy_2 : decode cX6_fitsBy 2 = .ok (.ineg, 1) := db_dX6_fitsBy_0.2.2.1
theorem dX6_fitsBy_3 : decode cX6_fitsBy 3 = .ok (.invokestatic 219, 3) := db_dX6_fitsBy_0.2.2.2.1
theorem dX6_fitsBy_6 : decode cX6_fitsBy 6 = .ok (.istore_n 3, 1) := db_dX6_fitsBy_0.2.2.2.2.1
theorem dX6_fitsBy_7 : decode cX6_fitsBy 7 = .ok (.aload_n 0, 1) := db_dX6_fitsBy_0.2.2.2.2.2.1
theorem dX6_fitsBy_8 : decode cX6_fitsBy 8 = .ok (.getfield 54, 3) := db_dX6_fitsBy_0.2.2.2.2.2.2.1
theorem dX6_fitsBy_11 : decode cX6_fitsBy 11 = .ok (.aload_n 0, 1) := db_dX6_fitsBy_0.2.2.2.2.2.2.2
theorem db_dX6_fitsBy_12 : decode cX6_fitsBy 12 = .ok (.getfield 54, 3) ∧ decode cX6_fitsBy 15 = .ok (.iload_n 2, 1) ∧ decode cX6_fitsBy 16 = .ok (.isub, 1) ∧ decode cX6_fitsBy 17 = .ok (.invokestatic 224, 3) ∧ decode cX6_fitsBy 20 = .ok (.istore 4, 2) ∧ decode cX6_fitsBy 22 = .ok (.iload_n 3, 1) ∧ decode cX6_fitsBy 23 = .ok (.iload 4, 2) ∧ decode cX6_fitsBy 25 = .ok (.if_icmp .lt 5, 3) := by decide +kernel
theorem dX6_fitsBy_12 : decode cX6_fitsBy 12 = .ok (.getfield 54, 3) := db_dX6_fitsBy_12.1
theorem dX6_fitsBy_15 : decode cX6_fitsBy 15 = .ok (.iload_n 2, 1) := db_dX6_fitsBy_12.2.1
theorem dX6_fitsBy_16 : decode cX6_fitsBy 16 = .ok (.isub, 1) := db_dX6_fitsBy_12.2.2.1
theorem dX6_fitsBy_17 : decode cX6_fitsBy 17 = .ok (.invokestatic 224, 3) := db_dX6_fitsBy_12.2.2.2.1
theorem dX6_fitsBy_20 : decode cX6_fitsBy 20 = .ok (.istore 4, 2) := db_dX6_fitsBy_12.2.2.2.2.1
theorem dX6_fitsBy_22 : decode cX6_fitsBy 22 = .ok (.iload_n 3, 1) := db_dX6_fitsBy_12.2.2.2.2.2.1
theorem dX6_fitsBy_23 : decode cX6_fitsBy 23 = .ok (.iload 4, 2) := db_dX6_fitsBy_12.2.2.2.2.2.2.1
theorem dX6_fitsBy_25 : decode cX6_fitsBy 25 = .ok (.if_icmp .lt 5, 3) := db_dX6_fitsBy_12.2.2.2.2.2.2.2
theorem db_dX6_fitsBy_28 : decode cX6_fitsBy 28 = .ok (.iconst 0, 1) ∧ decode cX6_fitsBy 29 = .ok (.ireturn, 1) ∧ decode cX6_fitsBy 30 = .ok (.iconst 0, 1) ∧ decode cX6_fitsBy 31 = .ok (.istore 5, 2) ∧ decode cX6_fitsBy 33 = .ok (.iload 5, 2) ∧ decode cX6_fitsBy 35 = .ok (.bipush 12, 2) ∧ decode cX6_fitsBy 37 = .ok (.if_icmp .ge 44, 3) ∧ decode cX6_fitsBy 40 = .ok (.aload_n 0, 1) := by decide +kernel
theorem dX6_fitsBy_28 : decode cX6_fitsBy 28 = .ok (.iconst 0, 1) := db_dX6_fitsBy_28.1
theorem dX6_fitsBy_29 : decode cX6_fitsBy 29 = .ok (.ireturn, 1) := db_dX6_fitsBy_28.2.1
theorem dX6_fitsBy_30 : decode cX6_fitsBy 30 = .ok (.iconst 0, 1) := db_dX6_fitsBy_28.2.2.1
theorem dX6_fitsBy_31 : decode cX6_fitsBy 31 = .ok (.istore 5, 2) := db_dX6_fitsBy_28.2.2.2.1
theorem dX6_fitsBy_33 : decode cX6_fitsBy 33 = .ok (.iload 5, 2) := db_dX6_fitsBy_28.2.2.2.2.1
theorem dX6_fitsBy_35 : decode cX6_fitsBy 35 = .ok (.bipush 12, 2) := db_dX6_fitsBy_28.2.2.2.2.2.1
theorem dX6_fitsBy_37 : decode cX6_fitsBy 37 = .ok (.if_icmp .ge 44, 3) := db_dX6_fitsBy_28.2.2.2.2.2.2.1
theorem dX6_fitsBy_40 : decode cX6_fitsBy 40 = .ok (.aload_n 0, 1) := db_dX6_fitsBy_28.2.2.2.2.2.2.2
theorem db_dX6_fitsBy_41 : decode cX6_fitsBy 41 = .ok (.getfield 19, 3) ∧ decode cX6_fitsBy 44 = .ok (.iload 5, 2) ∧ decode cX6_fitsBy 46 = .ok (.iaload, 1) ∧ decode cX6_fitsBy 47 = .ok (.iload_n 1, 1) ∧ decode cX6_fitsBy 48 = .ok (.if_icmp .ne 27, 3) ∧ decode cX6_fitsBy 51 = .ok (.aload_n 0, 1) ∧ decode cX6_fitsBy 52 = .ok (.iload 5, 2) ∧ decode cX6_fitsBy 54 = .ok (.iload_n 2, 1) := by decide +kernel
theorem dX6_fitsBy_41 : decode cX6_fitsBy 41 = .ok (.getfield 19, 3) := db_dX6_fitsBy_41.1
theorem dX6_fitsBy_44 : decode cX6_fitsBy 44 = .ok (.iload 5, 2) := db_dX6_fitsBy_41.2.1
theorem dX6_fitsBy_46 : decode cX6_fitsBy 46 = .ok (.iaload, 1) := db_dX6_fitsBy_41.2.2.1
theorem dX6_fitsBy_47 : decode cX6_fitsBy 47 = .ok (.iload_n 1, 1) := db_dX6_fitsBy_41.2.2.2.1
theorem dX6_fitsBy_48 : decode cX6_fitsBy 48 = .ok (.if_icmp .ne 27, 3) := db_dX6_fitsBy_41.2.2.2.2.1
theorem dX6_fitsBy_51 : decode cX6_fitsBy 51 = .ok (.aload_n 0, 1) := db_dX6_fitsBy_41.2.2.2.2.2.1
theorem dX6_fitsBy_52 : decode cX6_fitsBy 52 = .ok (.iload 5, 2) := db_dX6_fitsBy_41.2.2.2.2.2.2.1
theorem dX6_fitsBy_54 : decode cX6_fitsBy 54 = .ok (.iload_n 2, 1) := db_dX6_fitsBy_41.2.2.2.2.2.2.2
theorem db_dX6_fitsBy_55 : decode cX6_fitsBy 55 = .ok (.invokevirtual 128, 3) ∧ decode cX6_fitsBy 58 = .ok (.aload_n 0, 1) ∧ decode cX6_fitsBy 59 = .ok (.getfield 46, 3) ∧ decode cX6_fitsBy 62 = .ok (.iload_n 3, 1) ∧ decode cX6_fitsBy 63 = .ok (.iload 4, 2) ∧ decode cX6_fitsBy 65 = .ok (.invokevirtual 144, 3) ∧ decode cX6_fitsBy 68 = .ok (.iload 4, 2) ∧ decode cX6_fitsBy 70 = .ok (.if_icmp .ge 5, 3) := by decide +kernel
theorem dX6_fitsBy_55 : decode cX6_fitsBy 55 = .ok (.invokevirtual 128, 3) := db_dX6_fitsBy_55.1
theorem dX6_fitsBy_58 : decode cX6_fitsBy 58 = .ok (.aload_n 0, 1) := db_dX6_fitsBy_55.2.1
theorem dX6_fitsBy_59 : decode cX6_fitsBy 59 = .ok (.getfield 46, 3) := db_dX6_fitsBy_55.2.2.1
theorem dX6_fitsBy_62 : decode cX6_fitsBy 62 = .ok (.iload_n 3, 1) := db_dX6_fitsBy_55.2.2.2.1
theorem dX6_fitsBy_63 : decode cX6_fitsBy 63 = .ok (.iload 4, 2) := db_dX6_fitsBy_55.2.2.2.2.1
theorem dX6_fitsBy_65 : decode cX6_fitsBy 65 = .ok (.invokevirtual 144, 3) := db_dX6_fitsBy_55.2.2.2.2.2.1
theorem dX6_fitsBy_68 : decode cX6_fitsBy 68 = .ok (.iload 4, 2) := db_dX6_fitsBy_55.2.2.2.2.2.2.1
theorem dX6_fitsBy_70 : decode cX6_fitsBy 70 = .ok (.if_icmp .ge 5, 3) := db_dX6_fitsBy_55.2.2.2.2.2.2.2
theorem db_dX6_fitsBy_73 : decode cX6_fitsBy 73 = .ok (.iconst 0, 1) ∧ decode cX6_fitsBy 74 = .ok (.ireturn, 1) ∧ decode cX6_fitsBy 75 = .ok (.iinc 5 1, 3) ∧ decode cX6_fitsBy 78 = .ok (.goto (-45), 3) ∧ decode cX6_fitsBy 81 = .ok (.iconst 1, 1) ∧ decode cX6_fitsBy 82 = .ok (.ireturn, 1) := by decide +kernel
theorem dX6_fitsBy_73 : decode cX6_fitsBy 73 = .ok (.iconst 0, 1) := db_dX6_fitsBy_73.1
theorem dX6_fitsBy_74 : decode cX6_fitsBy 74 = .ok (.ireturn, 1) := db_dX6_fitsBy_73.2.1
theorem dX6_fitsBy_75 : decode cX6_fitsBy 75 = .ok (.iinc 5 1, 3) := db_dX6_fitsBy_73.2.2.1
theorem dX6_fitsBy_78 : decode cX6_fitsBy 78 = .ok (.goto (-45), 3) := db_dX6_fitsBy_73.2.2.2.1
theorem dX6_fitsBy_81 : decode cX6_fitsBy 81 = .ok (.iconst 1, 1) := db_dX6_fitsBy_73.2.2.2.2.1
theorem dX6_fitsBy_82 : decode cX6_fitsBy 82 = .ok (.ireturn, 1) := db_dX6_fitsBy_73.2.2.2.2.2
theorem db_dX6_gate_0 : decode cX6_gate 0 = .ok (.iload_n 1, 1) ∧ decode cX6_gate 1 = .ok (.invokestatic 117, 3) ∧ decode cX6_gate 4 = .ok (.ifCond .ne 20, 3) ∧ decode cX6_gate 7 = .ok (.iload_n 2, 1) ∧ decode cX6_gate 8 = .ok (.iconst 0, 1) ∧ decode cX6_gate 9 = .ok (.bipush 6, 2) ∧ decode cX6_gate 11 = .ok (.invokestatic 69, 3) ∧ decode cX6_gate 14 = .ok (.ifCond .ne 10, 3) := by decide +kernel
theorem dX6_gate_0 : decode cX6_gate 0 = .ok (.iload_n 1, 1) := db_dX6_gate_0.1
theorem dX6_gate_1 : decode cX6_gate 1 = .ok (.invokestatic 117, 3) := db_dX6_gate_0.2.1
theorem dX6_gate_4 : decode cX6_gate 4 = .ok (.ifCond .ne 20, 3) := db_dX6_gate_0.2.2.1
theorem dX6_gate_7 : decode cX6_gate 7 = .ok (.iload_n 2, 1) := db_dX6_gate_0.2.2.2.1
theorem dX6_gate_8 : decode cX6_gate 8 = .ok (.iconst 0, 1) := db_dX6_gate_0.2.2.2.2.1
theorem dX6_gate_9 : decode cX6_gate 9 = .ok (.bipush 6, 2) := db_dX6_gate_0.2.2.2.2.2.1
theorem dX6_gate_11 : decode cX6_gate 11 = .ok (.invokestatic 69, 3) := db_dX6_gate_0.2.2.2.2.2.2.1
theorem dX6_gate_14 : decode cX6_gate 14 = .ok (.ifCond .ne 10, 3) := db_dX6_gate_0.2.2.2.2.2.2.2
theorem db_dX6_gate_17 : decode cX6_gate 17 = .ok (.iload_n 3, 1) ∧ decode cX6_gate 18 = .ok (.invokestatic 117, 3) ∧ decode cX6_gate 21 = .ok (.ifCond .eq 5, 3) ∧ decode cX6_gate 24 = .ok (.iconst (-1), 1) ∧ decode cX6_gate 25 = .ok (.ireturn, 1) ∧ decode cX6_gate 26 = .ok (.iload_n 2, 1) ∧ decode cX6_gate 27 = .ok (.ifCond .eq 10, 3) ∧ decode cX6_gate 30 = .ok (.iload_n 3, 1) := by decide +kernel
theorem dX6_gate_17 : decode cX6_gate 17 = .ok (.iload_n 3, 1) := db_dX6_gate_17.1
theorem dX6_gate_18 : decode cX6_gate 18 = .ok (.invokestatic 117, 3) := db_dX6_gate_17.2.1
theorem dX6_gate_21 : decode cX6_gate 21 = .ok (.ifCond .eq 5, 3) := db_dX6_gate_17.2.2.1
theorem dX6_gate_24 : decode cX6_gate 24 = .ok (.iconst (-1), 1) := db_dX6_gate_17.2.2.2.1
theorem dX6_gate_25 : decode cX6_gate 25 = .ok (.ireturn, 1) := db_dX6_gate_17.2.2.2.2.1
theorem dX6_gate_26 : decode cX6_gate 26 = .ok (.iload_n 2, 1) := db_dX6_gate_17.2.2.2.2.2.1
theorem dX6_gate_27 : decode cX6_gate 27 = .ok (.ifCond .eq 10, 3) := db_dX6_gate_17.2.2.2.2.2.2.1
theorem dX6_gate_30 : decode cX6_gate 30 = .ok (.iload_n 3, 1) := db_dX6_gate_17.2.2.2.2.2.2.2
theorem db_dX6_gate_31 : decode cX6_gate 31 = .ok (.iload_n 1, 1) ∧ decode cX6_gate 32 = .ok (.if_icmp .ne 5, 3) ∧ decode cX6_gate 35 = .ok (.iconst (-1), 1) ∧ decode cX6_gate 36 = .ok (.ireturn, 1) ∧ decode cX6_gate 37 = .ok (.iload_n 2, 1) ∧ decode cX6_gate 38 = .ok (.iconst 1, 1) ∧ decode cX6_gate 39 = .ok (.if_icmp .le 19, 3) ∧ decode cX6_gate 42 = .ok (.iload 4, 2) := by decide +kernel
theorem dX6_gate_31 : decode cX6_gate 31 = .ok (.iload_n 1, 1) := db_dX6_gate_31.1
theorem dX6_gate_32 : decode cX6_gate 32 = .ok (.if_icmp .ne 5, 3) := db_dX6_gate_31.2.1
theorem dX6_gate_35 : decode cX6_gate 35 = .ok (.iconst (-1), 1) := db_dX6_gate_31.2.2.1
theorem dX6_gate_36 : decode cX6_gate 36 = .ok (.ireturn, 1) := db_dX6_gate_31.2.2.2.1
theorem dX6_gate_37 : decode cX6_gate 37 = .ok (.iload_n 2, 1) := db_dX6_gate_31.2.2.2.2.1
theorem dX6_gate_38 : decode cX6_gate 38 = .ok (.iconst 1, 1) := db_dX6_gate_31.2.2.2.2.2.1
theorem dX6_gate_39 : decode cX6_gate 39 = .ok (.if_icmp .le 19, 3) := db_dX6_gate_31.2.2.2.2.2.2.1
theorem dX6_gate_42 : decode cX6_gate 42 = .ok (.iload 4, 2) := db_dX6_gate_31.2.2.2.2.2.2.2
theorem db_dX6_gate_44 : decode cX6_gate 44 = .ok (.invokestatic 117, 3) ∧ decode cX6_gate 47 = .ok (.ifCond .ne 9, 3) ∧ decode cX6_gate 50 = .ok (.iload 4, 2) ∧ decode cX6_gate 52 = .ok (.iload_n 1, 1) ∧ decode cX6_gate 53 = .ok (.if_icmp .ne 5, 3) ∧ decode cX6_gate 56 = .ok (.iconst (-1), 1) ∧ decode cX6_gate 57 = .ok (.ireturn, 1) ∧ decode cX6_gate 58 = .ok (.aload_n 0, 1) := by decide +kernel
theorem dX6_gate_44 : decode cX6_gate 44 = .ok (.invokestatic 117, 3) := db_dX6_gate_44.1
theorem dX6_gate_47 : decode cX6_gate 47 = .ok (.ifCond .ne 9, 3) := db_dX6_gate_44.2.1
theorem dX6_gate_50 : decode cX6_gate 50 = .ok (.iload 4, 2) := db_dX6_gate_44.2.2.1
theorem dX6_gate_52 : decode cX6_gate 52 = .ok (.iload_n 1, 1) := db_dX6_gate_44.2.2.2.1
theorem dX6_gate_53 : decode cX6_gate 53 = .ok (.if_icmp .ne 5, 3) := db_dX6_gate_44.2.2.2.2.1
theorem dX6_gate_56 : decode cX6_gate 56 = .ok (.iconst (-1), 1) := db_dX6_gate_44.2.2.2.2.2.1
theorem dX6_gate_57 : decode cX6_gate 57 = .ok (.ireturn, 1) := db_dX6_gate_44.2.2.2.2.2.2.1
theorem dX6_gate_58 : decode cX6_gate 58 = .ok (.aload_n 0, 1) := db_dX6_gate_44.2.2.2.2.2.2.2
theorem db_dX6_gate_59 : decode cX6_gate 59 = .ok (.getfield 39, 3) ∧ decode cX6_gate 62 = .ok (.iload_n 1, 1) ∧ decode cX6_gate 63 = .ok (.aaload, 1) ∧ decode cX6_gate 64 = .ok (.getfield 227, 3) ∧ decode cX6_gate 67 = .ok (.istore 5, 2) ∧ decode cX6_gate 69 = .ok (.aload_n 0, 1) ∧ decode cX6_gate 70 = .ok (.getfield 39, 3) ∧ decode cX6_gate 73 = .ok (.iload_n 1, 1) := by decide +kernel
theorem dX6_gate_59 : decode cX6_gate 59 = .ok (.getfield 39, 3) := db_dX6_gate_59.1
theorem dX6_gate_62 : decode cX6_gate 62 = .ok (.iload_n 1, 1) := db_dX6_gate_59.2.1
theorem dX6_gate_63 : decode cX6_gate 63 = .ok (.aaload, 1) := db_dX6_gate_59.2.2.1
theorem dX6_gate_64 : decode cX6_gate 64 = .ok (.getfield 227, 3) := db_dX6_gate_59.2.2.2.1
theorem dX6_gate_67 : decode cX6_gate 67 = .ok (.istore 5, 2) := db_dX6_gate_59.2.2.2.2.1
theorem dX6_gate_69 : decode cX6_gate 69 = .ok (.aload_n 0, 1) := db_dX6_gate_59.2.2.2.2.2.1
theorem dX6_gate_70 : decode cX6_gate 70 = .ok (.getfield 39, 3) := db_dX6_gate_59.2.2.2.2.2.2.1
theorem dX6_gate_73 : decode cX6_gate 73 = .ok (.iload_n 1, 1) := db_dX6_gate_59.2.2.2.2.2.2.2
theorem db_dX6_gate_74 : decode cX6_gate 74 = .ok (.aaload, 1) ∧ decode cX6_gate 75 = .ok (.iload_n 2, 1) ∧ decode cX6_gate 76 = .ok (.iload_n 3, 1) ∧ decode cX6_gate 77 = .ok (.iload_n 2, 1) ∧ decode cX6_gate 78 = .ok (.iconst 1, 1) ∧ decode cX6_gate 79 = .ok (.if_icmp .le 8, 3) ∧ decode cX6_gate 82 = .ok (.iload 4, 2) ∧ decode cX6_gate 84 = .ok (.goto 4, 3) := by decide +kernel
theorem dX6_gate_74 : decode cX6_gate 74 = .ok (.aaload, 1) := db_dX6_gate_74.1
theorem dX6_gate_75 : decode cX6_gate 75 = .ok (.iload_n 2, 1) := db_dX6_gate_74.2.1
theorem dX6_gate_76 : decode cX6_gate 76 = .ok (.iload_n 3, 1) := db_dX6_gate_74.2.2.1
theorem dX6_gate_77 : decode cX6_gate 77 = .ok (.iload_n 2, 1) := db_dX6_gate_74.2.2.2.1
theorem dX6_gate_78 : decode cX6_gate 78 = .ok (.iconst 1, 1) := db_dX6_gate_74.2.2.2.2.1
theorem dX6_gate_79 : decode cX6_gate 79 = .ok (.if_icmp .le 8, 3) := db_dX6_gate_74.2.2.2.2.2.1
theorem dX6_gate_82 : decode cX6_gate 82 = .ok (.iload 4, 2) := db_dX6_gate_74.2.2.2.2.2.2.1
theorem dX6_gate_84 : decode cX6_gate 84 = .ok (.goto 4, 3) := db_dX6_gate_74.2.2.2.2.2.2.2
theorem db_dX6_gate_87 : decode cX6_gate 87 = .ok (.iload_n 3, 1) ∧ decode cX6_gate 88 = .ok (.invokevirtual 230, 3) ∧ decode cX6_gate 91 = .ok (.iload 5, 2) ∧ decode cX6_gate 93 = .ok (.ireturn, 1) := by decide +kernel
theorem dX6_gate_87 : decode cX6_gate 87 = .ok (.iload_n 3, 1) := db_dX6_gate_87.1
theorem dX6_gate_88 : decode cX6_gate 88 = .ok (.invokevirtual 230, 3) := db_dX6_gate_87.2.1
theorem dX6_gate_91 : decode cX6_gate 91 = .ok (.iload 5, 2) := db_dX6_gate_87.2.2.1
theorem dX6_gate_93 : decode cX6_gate 93 = .ok (.ireturn, 1) := db_dX6_gate_87.2.2.2
theorem db_dX6_guilty_0 : decode cX6_guilty 0 = .ok (.iload_n 1, 1) ∧ decode cX6_guilty 1 = .ok (.iconst 0, 1) ∧ decode cX6_guilty 2 = .ok (.aload_n 0, 1) ∧ decode cX6_guilty 3 = .ok (.getfield 54, 3) ∧ decode cX6_guilty 6 = .ok (.iconst 1, 1) ∧ decode cX6_guilty 7 = .ok (.isub, 1) ∧ decode cX6_guilty 8 = .ok (.invokestatic 69, 3) ∧ decode cX6_guilty 11 = .ok (.ifCond .eq 5, 3) := by decide +kernel
theorem dX6_guilty_0 : decode cX6_guilty 0 = .ok (.iload_n 1, 1) := db_dX6_guilty_0.1
theorem dX6_guilty_1 : decode cX6_guilty 1 = .ok (.iconst 0, 1) := db_dX6_guilty_0.2.1
theorem dX6_guilty_2 : decode cX6_guilty 2 = .ok (.aload_n 0, 1) := db_dX6_guilty_0.2.2.1
theorem dX6_guilty_3 : decode cX6_guilty 3 = .ok (.getfield 54, 3) := db_dX6_guilty_0.2.2.2.1
theorem dX6_guilty_6 : decode cX6_guilty 6 = .ok (.iconst 1, 1) := db_dX6_guilty_0.2.2.2.2.1
theorem dX6_guilty_7 : decode cX6_guilty 7 = .ok (.isub, 1) := db_dX6_guilty_0.2.2.2.2.2.1
theorem dX6_guilty_8 : decode cX6_guilty 8 = .ok (.invokestatic 69, 3) := db_dX6_guilty_0.2.2.2.2.2.2.1
theorem dX6_guilty_11 : decode cX6_guilty 11 = .ok (.ifCond .eq 5, 3) := db_dX6_guilty_0.2.2.2.2.2.2.2
theorem db_dX6_guilty_14 : decode cX6_guilty 14 = .ok (.iconst (-1), 1) ∧ decode cX6_guilty 15 = .ok (.ireturn, 1) ∧ decode cX6_guilty 16 = .ok (.iconst 0, 1) ∧ decode cX6_guilty 17 = .ok (.istore_n 2, 1) ∧ decode cX6_guilty 18 = .ok (.iload_n 2, 1) ∧ decode cX6_guilty 19 = .ok (.bipush 12, 2) ∧ decode cX6_guilty 21 = .ok (.if_icmp .ge 43, 3) ∧ decode cX6_guilty 24 = .ok (.aload_n 0, 1) := by decide +kernel
theorem dX6_guilty_14 : decode cX6_guilty 14 = .ok (.iconst (-1), 1) := db_dX6_guilty_14.1
theorem dX6_guilty_15 : decode cX6_guilty 15 = .ok (.ireturn, 1) := db_dX6_guilty_14.2.1
theorem dX6_guilty_16 : decode cX6_guilty 16 = .ok (.iconst 0, 1) := db_dX6_guilty_14.2.2.1
theorem dX6_guilty_17 : decode cX6_guilty 17 = .ok (.istore_n 2, 1) := db_dX6_guilty_14.2.2.2.1
theorem dX6_guilty_18 : decode cX6_guilty 18 = .ok (.iload_n 2, 1) := db_dX6_guilty_14.2.2.2.2.1
theorem dX6_guilty_19 : decode cX6_guilty 19 = .ok (.bipush 12, 2) := db_dX6_guilty_14.2.2.2.2.2.1
theorem dX6_guilty_21 : decode cX6_guilty 21 = .ok (.if_icmp .ge 43, 3) := db_dX6_guilty_14.2.2.2.2.2.2.1
theorem dX6_guilty_24 : decode cX6_guilty 24 = .ok (.aload_n 0, 1) := db_dX6_guilty_14.2.2.2.2.2.2.2
theorem db_dX6_guilty_25 : decode cX6_guilty 25 = .ok (.getfield 39, 3) ∧ decode cX6_guilty 28 = .ok (.iload_n 2, 1) ∧ decode cX6_guilty 29 = .ok (.aaload, 1) ∧ decode cX6_guilty 30 = .ok (.astore_n 3, 1) ∧ decode cX6_guilty 31 = .ok (.aload_n 3, 1) ∧ decode cX6_guilty 32 = .ok (.getfield 227, 3) ∧ decode cX6_guilty 35 = .ok (.ifCond .eq 23, 3) ∧ decode cX6_guilty 38 = .ok (.aload_n 0, 1) := by decide +kernel
theorem dX6_guilty_25 : decode cX6_guilty 25 = .ok (.getfield 39, 3) := db_dX6_guilty_25.1
theorem dX6_guilty_28 : decode cX6_guilty 28 = .ok (.iload_n 2, 1) := db_dX6_guilty_25.2.1
theorem dX6_guilty_29 : decode cX6_guilty 29 = .ok (.aaload, 1) := db_dX6_guilty_25.2.2.1
theorem dX6_guilty_30 : decode cX6_guilty 30 = .ok (.astore_n 3, 1) := db_dX6_guilty_25.2.2.2.1
theorem dX6_guilty_31 : decode cX6_guilty 31 = .ok (.aload_n 3, 1) := db_dX6_guilty_25.2.2.2.2.1
theorem dX6_guilty_32 : decode cX6_guilty 32 = .ok (.getfield 227, 3) := db_dX6_guilty_25.2.2.2.2.2.1
theorem dX6_guilty_35 : decode cX6_guilty 35 = .ok (.ifCond .eq 23, 3) := db_dX6_guilty_25.2.2.2.2.2.2.1
theorem dX6_guilty_38 : decode cX6_guilty 38 = .ok (.aload_n 0, 1) := db_dX6_guilty_25.2.2.2.2.2.2.2
theorem db_dX6_guilty_39 : decode cX6_guilty 39 = .ok (.iload_n 2, 1) ∧ decode cX6_guilty 40 = .ok (.iload_n 1, 1) ∧ decode cX6_guilty 41 = .ok (.invokevirtual 232, 3) ∧ decode cX6_guilty 44 = .ok (.ifCond .ne 14, 3) ∧ decode cX6_guilty 47 = .ok (.aload_n 0, 1) ∧ decode cX6_guilty 48 = .ok (.aload_n 3, 1) ∧ decode cX6_guilty 49 = .ok (.iload_n 1, 1) ∧ decode cX6_guilty 50 = .ok (.invokevirtual 235, 3) := by decide +kernel
theorem dX6_guilty_39 : decode cX6_guilty 39 = .ok (.iload_n 2, 1) := db_dX6_guilty_39.1
theorem dX6_guilty_40 : decode cX6_guilty 40 = .ok (.iload_n 1, 1) := db_dX6_guilty_39.2.1
theorem dX6_guilty_41 : decode cX6_guilty 41 = .ok (.invokevirtual 232, 3) := db_dX6_guilty_39.2.2.1
theorem dX6_guilty_44 : decode cX6_guilty 44 = .ok (.ifCond .ne 14, 3) := db_dX6_guilty_39.2.2.2.1
theorem dX6_guilty_47 : decode cX6_guilty 47 = .ok (.aload_n 0, 1) := db_dX6_guilty_39.2.2.2.2.1
theorem dX6_guilty_48 : decode cX6_guilty 48 = .ok (.aload_n 3, 1) := db_dX6_guilty_39.2.2.2.2.2.1
theorem dX6_guilty_49 : decode cX6_guilty 49 = .ok (.iload_n 1, 1) := db_dX6_guilty_39.2.2.2.2.2.2.1
theorem dX6_guilty_50 : decode cX6_guilty 50 = .ok (.invokevirtual 235, 3) := db_dX6_guilty_39.2.2.2.2.2.2.2
theorem db_dX6_guilty_53 : decode cX6_guilty 53 = .ok (.ifCond .eq 5, 3) ∧ decode cX6_guilty 56 = .ok (.iload_n 2, 1) ∧ decode cX6_guilty 57 = .ok (.ireturn, 1) ∧ decode cX6_guilty 58 = .ok (.iinc 2 1, 3) ∧ decode cX6_guilty 61 = .ok (.goto (-43), 3) ∧ decode cX6_guilty 64 = .ok (.bipush (-4), 2) ∧ decode cX6_guilty 66 = .ok (.ireturn, 1) := by decide +kernel
theorem dX6_guilty_53 : decode cX6_guilty 53 = .ok (.ifCond .eq 5, 3) := db_dX6_guilty_53.1
theorem dX6_guilty_56 : decode cX6_guilty 56 = .ok (.iload_n 2, 1) := db_dX6_guilty_53.2.1
theorem dX6_guilty_57 : decode cX6_guilty 57 = .ok (.ireturn, 1) := db_dX6_guilty_53.2.2.1
theorem dX6_guilty_58 : decode cX6_guilty 58 = .ok (.iinc 2 1, 3) := db_dX6_guilty_53.2.2.2.1
theorem dX6_guilty_61 : decode cX6_guilty 61 = .ok (.goto (-43), 3) := db_dX6_guilty_53.2.2.2.2.1
theorem dX6_guilty_64 : decode cX6_guilty 64 = .ok (.bipush (-4), 2) := db_dX6_guilty_53.2.2.2.2.2.1
theorem dX6_guilty_66 : decode cX6_guilty 66 = .ok (.ireturn, 1) := db_dX6_guilty_53.2.2.2.2.2.2
theorem db_dX6_inputsAgree_0 : decode cX6_inputsAgree 0 = .ok (.aload_n 1, 1) ∧ decode cX6_inputsAgree 1 = .ok (.getfield 227, 3) ∧ decode cX6_inputsAgree 4 = .ok (.bipush 6, 2) ∧ decode cX6_inputsAgree 6 = .ok (.if_icmp .ne 10, 3) ∧ decode cX6_inputsAgree 9 = .ok (.aload_n 0, 1) ∧ decode cX6_inputsAgree 10 = .ok (.aload_n 1, 1) ∧ decode cX6_inputsAgree 11 = .ok (.iload_n 2, 1) ∧ decode cX6_inputsAgree 12 = .ok (.invokevirtual 239, 3) := by decide +kernel
theorem dX6_inputsAgree_0 : decode cX6_inputsAgree 0 = .ok (.aload_n 1, 1) := db_dX6_inputsAgree_0.1
theorem dX6_inputsAgree_1 : decode cX6_inputsAgree 1 = .ok (.getfield 227, 3) := db_dX6_inputsAgree_0.2.1
theorem dX6_inputsAgree_4 : decode cX6_inputsAgree 4 = .ok (.bipush 6, 2) := db_dX6_inputsAgree_0.2.2.1
theorem dX6_inputsAgree_6 : decode cX6_inputsAgree 6 = .ok (.if_icmp .ne 10, 3) := db_dX6_inputsAgree_0.2.2.2.1
theorem dX6_inputsAgree_9 : decode cX6_inputsAgree 9 = .ok (.aload_n 0, 1) := db_dX6_inputsAgree_0.2.2.2.2.1
theorem dX6_inputsAgree_10 : decode cX6_inputsAgree 10 = .ok (.aload_n 1, 1) := db_dX6_inputsAgree_0.2.2.2.2.2.1
theorem dX6_inputsAgree_11 : decode cX6_inputsAgree 11 = .ok (.iload_n 2, 1) := db_dX6_inputsAgree_0.2.2.2.2.2.2.1
theorem dX6_inputsAgree_12 : decode cX6_inputsAgree 12 = .ok (.invokevirtual 239, 3) := db_dX6_inputsAgree_0.2.2.2.2.2.2.2
theorem db_dX6_inputsAgree_15 : decode cX6_inputsAgree 15 = .ok (.ireturn, 1) ∧ decode cX6_inputsAgree 16 = .ok (.aload_n 0, 1) ∧ decode cX6_inputsAgree 17 = .ok (.aload_n 1, 1) ∧ decode cX6_inputsAgree 18 = .ok (.getfield 242, 3) ∧ decode cX6_inputsAgree 21 = .ok (.iload_n 2, 1) ∧ decode cX6_inputsAgree 22 = .ok (.invokevirtual 232, 3) ∧ decode cX6_inputsAgree 25 = .ok (.ifCond .eq 27, 3) ∧ decode cX6_inputsAgree 28 = .ok (.aload_n 1, 1) := by decide +kernel
theorem dX6_inputsAgree_15 : decode cX6_inputsAgree 15 = .ok (.ireturn, 1) := db_dX6_inputsAgree_15.1
theorem dX6_inputsAgree_16 : decode cX6_inputsAgree 16 = .ok (.aload_n 0, 1) := db_dX6_inputsAgree_15.2.1
theorem dX6_inputsAgree_17 : decode cX6_inputsAgree 17 = .ok (.aload_n 1, 1) := db_dX6_inputsAgree_15.2.2.1
theorem dX6_inputsAgree_18 : decode cX6_inputsAgree 18 = .ok (.getfield 242, 3) := db_dX6_inputsAgree_15.2.2.2.1
theorem dX6_inputsAgree_21 : decode cX6_inputsAgree 21 = .ok (.iload_n 2, 1) := db_dX6_inputsAgree_15.2.2.2.2.1
theorem dX6_inputsAgree_22 : decode cX6_inputsAgree 22 = .ok (.invokevirtual 232, 3) := db_dX6_inputsAgree_15.2.2.2.2.2.1
theorem dX6_inputsAgree_25 : decode cX6_inputsAgree 25 = .ok (.ifCond .eq 27, 3) := db_dX6_inputsAgree_15.2.2.2.2.2.2.1
theorem dX6_inputsAgree_28 : decode cX6_inputsAgree 28 = .ok (.aload_n 1, 1) := db_dX6_inputsAgree_15.2.2.2.2.2.2.2
theorem db_dX6_inputsAgree_29 : decode cX6_inputsAgree 29 = .ok (.getfield 227, 3) ∧ decode cX6_inputsAgree 32 = .ok (.iconst 1, 1) ∧ decode cX6_inputsAgree 33 = .ok (.if_icmp .eq 15, 3) ∧ decode cX6_inputsAgree 36 = .ok (.aload_n 0, 1) ∧ decode cX6_inputsAgree 37 = .ok (.aload_n 1, 1) ∧ decode cX6_inputsAgree 38 = .ok (.getfield 245, 3) ∧ decode cX6_inputsAgree 41 = .ok (.iload_n 2, 1) ∧ decode cX6_inputsAgree 42 = .ok (.invokevirtual 232, 3) := by decide +kernel
theorem dX6_inputsAgree_29 : decode cX6_inputsAgree 29 = .ok (.getfield 227, 3) := db_dX6_inputsAgree_29.1
theorem dX6_inputsAgree_32 : decode cX6_inputsAgree 32 = .ok (.iconst 1, 1) := db_dX6_inputsAgree_29.2.1
theorem dX6_inputsAgree_33 : decode cX6_inputsAgree 33 = .ok (.if_icmp .eq 15, 3) := db_dX6_inputsAgree_29.2.2.1
theorem dX6_inputsAgree_36 : decode cX6_inputsAgree 36 = .ok (.aload_n 0, 1) := db_dX6_inputsAgree_29.2.2.2.1
theorem dX6_inputsAgree_37 : decode cX6_inputsAgree 37 = .ok (.aload_n 1, 1) := db_dX6_inputsAgree_29.2.2.2.2.1
theorem dX6_inputsAgree_38 : decode cX6_inputsAgree 38 = .ok (.getfield 245, 3) := db_dX6_inputsAgree_29.2.2.2.2.2.1
theorem dX6_inputsAgree_41 : decode cX6_inputsAgree 41 = .ok (.iload_n 2, 1) := db_dX6_inputsAgree_29.2.2.2.2.2.2.1
theorem dX6_inputsAgree_42 : decode cX6_inputsAgree 42 = .ok (.invokevirtual 232, 3) := db_dX6_inputsAgree_29.2.2.2.2.2.2.2
theorem db_dX6_inputsAgree_45 : decode cX6_inputsAgree 45 = .ok (.ifCond .eq 7, 3) ∧ decode cX6_inputsAgree 48 = .ok (.iconst 1, 1) ∧ decode cX6_inputsAgree 49 = .ok (.goto 4, 3) ∧ decode cX6_inputsAgree 52 = .ok (.iconst 0, 1) ∧ decode cX6_inputsAgree 53 = .ok (.ireturn, 1) := by decide +kernel
theorem dX6_inputsAgree_45 : decode cX6_inputsAgree 45 = .ok (.ifCond .eq 7, 3) := db_dX6_inputsAgree_45.1
theorem dX6_inputsAgree_48 : decode cX6_inputsAgree 48 = .ok (.iconst 1, 1) := db_dX6_inputsAgree_45.2.1
theorem dX6_inputsAgree_49 : decode cX6_inputsAgree 49 = .ok (.goto 4, 3) := db_dX6_inputsAgree_45.2.2.1
theorem dX6_inputsAgree_52 : decode cX6_inputsAgree 52 = .ok (.iconst 0, 1) := db_dX6_inputsAgree_45.2.2.2.1
theorem dX6_inputsAgree_53 : decode cX6_inputsAgree 53 = .ok (.ireturn, 1) := db_dX6_inputsAgree_45.2.2.2.2
theorem db_dX6_storedAgree_0 : decode cX6_storedAgree 0 = .ok (.aload_n 0, 1) ∧ decode cX6_storedAgree 1 = .ok (.iconst 0, 1) ∧ decode cX6_storedAgree 2 = .ok (.aload_n 1, 1) ∧ decode cX6_storedAgree 3 = .ok (.getfield 245, 3) ∧ decode cX6_storedAgree 6 = .ok (.invokevirtual 154, 3) ∧ decode cX6_storedAgree 9 = .ok (.iload_n 2, 1) ∧ decode cX6_storedAgree 10 = .ok (.invokevirtual 248, 3) ∧ decode cX6_storedAgree 13 = .ok (.istore_n 3, 1) := by decide +kernel
theorem dX6_storedAgree_0 : decode cX6_storedAgree 0 = .ok (.aload_n 0, 1) := db_dX6_storedAgree_0.1
theorem dX6_storedAgree_1 : decode cX6_storedAgree 1 = .ok (.iconst 0, 1) := db_dX6_storedAgree_0.2.1
theorem dX6_storedAgree_2 : decode cX6_storedAgree 2 = .ok (.aload_n 1, 1) := db_dX6_storedAgree_0.2.2.1
theorem dX6_storedAgree_3 : decode cX6_storedAgree 3 = .ok (.getfield 245, 3) := db_dX6_storedAgree_0.2.2.2.1
theorem dX6_storedAgree_6 : decode cX6_storedAgree 6 = .ok (.invokevirtual 154, 3) := db_dX6_storedAgree_0.2.2.2.2.1
theorem dX6_storedAgree_9 : decode cX6_storedAgree 9 = .ok (.iload_n 2, 1) := db_dX6_storedAgree_0.2.2.2.2.2.1
theorem dX6_storedAgree_10 : decode cX6_storedAgree 10 = .ok (.invokevirtual 248, 3) := db_dX6_storedAgree_0.2.2.2.2.2.2.1
theorem dX6_storedAgree_13 : decode cX6_storedAgree 13 = .ok (.istore_n 3, 1) := db_dX6_storedAgree_0.2.2.2.2.2.2.2
theorem db_dX6_storedAgree_14 : decode cX6_storedAgree 14 = .ok (.iload_n 3, 1) ∧ decode cX6_storedAgree 15 = .ok (.bipush (-4), 2) ∧ decode cX6_storedAgree 17 = .ok (.if_icmp .eq 38, 3) ∧ decode cX6_storedAgree 20 = .ok (.iload_n 3, 1) ∧ decode cX6_storedAgree 21 = .ok (.aload_n 0, 1) ∧ decode cX6_storedAgree 22 = .ok (.iconst 1, 1) ∧ decode cX6_storedAgree 23 = .ok (.aload_n 1, 1) ∧ decode cX6_storedAgree 24 = .ok (.getfield 245, 3) := by decide +kernel
theorem dX6_storedAgree_14 : decode cX6_storedAgree 14 = .ok (.iload_n 3, 1) := db_dX6_storedAgree_14.1
theorem dX6_storedAgree_15 : decode cX6_storedAgree 15 = .ok (.bipush (-4), 2) := db_dX6_storedAgree_14.2.1
theorem dX6_storedAgree_17 : decode cX6_storedAgree 17 = .ok (.if_icmp .eq 38, 3) := db_dX6_storedAgree_14.2.2.1
theorem dX6_storedAgree_20 : decode cX6_storedAgree 20 = .ok (.iload_n 3, 1) := db_dX6_storedAgree_14.2.2.2.1
theorem dX6_storedAgree_21 : decode cX6_storedAgree 21 = .ok (.aload_n 0, 1) := db_dX6_storedAgree_14.2.2.2.2.1
theorem dX6_storedAgree_22 : decode cX6_storedAgree 22 = .ok (.iconst 1, 1) := db_dX6_storedAgree_14.2.2.2.2.2.1
theorem dX6_storedAgree_23 : decode cX6_storedAgree 23 = .ok (.aload_n 1, 1) := db_dX6_storedAgree_14.2.2.2.2.2.2.1
theorem dX6_storedAgree_24 : decode cX6_storedAgree 24 = .ok (.getfield 245, 3) := db_dX6_storedAgree_14.2.2.2.2.2.2.2
theorem db_dX6_storedAgree_27 : decode cX6_storedAgree 27 = .ok (.invokevirtual 154, 3) ∧ decode cX6_storedAgree 30 = .ok (.iload_n 2, 1) ∧ decode cX6_storedAgree 31 = .ok (.invokevirtual 248, 3) ∧ decode cX6_storedAgree 34 = .ok (.if_icmp .ne 21, 3) ∧ decode cX6_storedAgree 37 = .ok (.aload_n 0, 1) ∧ decode cX6_storedAgree 38 = .ok (.aload_n 1, 1) ∧ decode cX6_storedAgree 39 = .ok (.getfield 242, 3) ∧ decode cX6_storedAgree 42 = .ok (.iload_n 3, 1) := by decide +kernel
theorem dX6_storedAgree_27 : decode cX6_storedAgree 27 = .ok (.invokevirtual 154, 3) := db_dX6_storedAgree_27.1
theorem dX6_storedAgree_30 : decode cX6_storedAgree 30 = .ok (.iload_n 2, 1) := db_dX6_storedAgree_27.2.1
theorem dX6_storedAgree_31 : decode cX6_storedAgree 31 = .ok (.invokevirtual 248, 3) := db_dX6_storedAgree_27.2.2.1
theorem dX6_storedAgree_34 : decode cX6_storedAgree 34 = .ok (.if_icmp .ne 21, 3) := db_dX6_storedAgree_27.2.2.2.1
theorem dX6_storedAgree_37 : decode cX6_storedAgree 37 = .ok (.aload_n 0, 1) := db_dX6_storedAgree_27.2.2.2.2.1
theorem dX6_storedAgree_38 : decode cX6_storedAgree 38 = .ok (.aload_n 1, 1) := db_dX6_storedAgree_27.2.2.2.2.2.1
theorem dX6_storedAgree_39 : decode cX6_storedAgree 39 = .ok (.getfield 242, 3) := db_dX6_storedAgree_27.2.2.2.2.2.2.1
theorem dX6_storedAgree_42 : decode cX6_storedAgree 42 = .ok (.iload_n 3, 1) := db_dX6_storedAgree_27.2.2.2.2.2.2.2
theorem db_dX6_storedAgree_43 : decode cX6_storedAgree 43 = .ok (.iconst 1, 1) ∧ decode cX6_storedAgree 44 = .ok (.isub, 1) ∧ decode cX6_storedAgree 45 = .ok (.invokevirtual 232, 3) ∧ decode cX6_storedAgree 48 = .ok (.ifCond .eq 7, 3) ∧ decode cX6_storedAgree 51 = .ok (.iconst 1, 1) ∧ decode cX6_storedAgree 52 = .ok (.goto 4, 3) ∧ decode cX6_storedAgree 55 = .ok (.iconst 0, 1) ∧ decode cX6_storedAgree 56 = .ok (.ireturn, 1) := by decide +kernel
theorem dX6_storedAgree_43 : decode cX6_storedAgree 43 = .ok (.iconst 1, 1) := db_dX6_storedAgree_43.1
theorem dX6_storedAgree_44 : decode cX6_storedAgree 44 = .ok (.isub, 1) := db_dX6_storedAgree_43.2.1
theorem dX6_storedAgree_45 : decode cX6_storedAgree 45 = .ok (.invokevirtual 232, 3) := db_dX6_storedAgree_43.2.2.1
theorem dX6_storedAgree_48 : decode cX6_storedAgree 48 = .ok (.ifCond .eq 7, 3) := db_dX6_storedAgree_43.2.2.2.1
theorem dX6_storedAgree_51 : decode cX6_storedAgree 51 = .ok (.iconst 1, 1) := db_dX6_storedAgree_43.2.2.2.2.1
theorem dX6_storedAgree_52 : decode cX6_storedAgree 52 = .ok (.goto 4, 3) := db_dX6_storedAgree_43.2.2.2.2.2.1
theorem dX6_storedAgree_55 : decode cX6_storedAgree 55 = .ok (.iconst 0, 1) := db_dX6_storedAgree_43.2.2.2.2.2.2.1
theorem dX6_storedAgree_56 : decode cX6_storedAgree 56 = .ok (.ireturn, 1) := db_dX6_storedAgree_43.2.2.2.2.2.2.2
theorem db_dX6_agreeAt_0 : decode cX6_agreeAt 0 = .ok (.aload_n 0, 1) ∧ decode cX6_agreeAt 1 = .ok (.iconst 0, 1) ∧ decode cX6_agreeAt 2 = .ok (.iload_n 1, 1) ∧ decode cX6_agreeAt 3 = .ok (.invokevirtual 77, 3) ∧ decode cX6_agreeAt 6 = .ok (.iload_n 2, 1) ∧ decode cX6_agreeAt 7 = .ok (.invokevirtual 110, 3) ∧ decode cX6_agreeAt 10 = .ok (.aload_n 0, 1) ∧ decode cX6_agreeAt 11 = .ok (.iconst 1, 1) := by decide +kernel
theorem dX6_agreeAt_0 : decode cX6_agreeAt 0 = .ok (.aload_n 0, 1) := db_dX6_agreeAt_0.1
theorem dX6_agreeAt_1 : decode cX6_agreeAt 1 = .ok (.iconst 0, 1) := db_dX6_agreeAt_0.2.1
theorem dX6_agreeAt_2 : decode cX6_agreeAt 2 = .ok (.iload_n 1, 1) := db_dX6_agreeAt_0.2.2.1
theorem dX6_agreeAt_3 : decode cX6_agreeAt 3 = .ok (.invokevirtual 77, 3) := db_dX6_agreeAt_0.2.2.2.1
theorem dX6_agreeAt_6 : decode cX6_agreeAt 6 = .ok (.iload_n 2, 1) := db_dX6_agreeAt_0.2.2.2.2.1
theorem dX6_agreeAt_7 : decode cX6_agreeAt 7 = .ok (.invokevirtual 110, 3) := db_dX6_agreeAt_0.2.2.2.2.2.1
theorem dX6_agreeAt_10 : decode cX6_agreeAt 10 = .ok (.aload_n 0, 1) := db_dX6_agreeAt_0.2.2.2.2.2.2.1
theorem dX6_agreeAt_11 : decode cX6_agreeAt 11 = .ok (.iconst 1, 1) := db_dX6_agreeAt_0.2.2.2.2.2.2.2
theorem db_dX6_agreeAt_12 : decode cX6_agreeAt 12 = .ok (.iload_n 1, 1) ∧ decode cX6_agreeAt 13 = .ok (.invokevirtual 154, 3) ∧ decode cX6_agreeAt 16 = .ok (.iload_n 2, 1) ∧ decode cX6_agreeAt 17 = .ok (.invokevirtual 110, 3) ∧ decode cX6_agreeAt 20 = .ok (.aload_n 0, 1) ∧ decode cX6_agreeAt 21 = .ok (.getfield 57, 3) ∧ decode cX6_agreeAt 24 = .ok (.invokestatic 191, 3) ∧ decode cX6_agreeAt 27 = .ok (.ireturn, 1) := by decide +kernel
theorem dX6_agreeAt_12 : decode cX6_agreeAt 12 = .ok (.iload_n 1, 1) := db_dX6_agreeAt_12.1
theorem dX6_agreeAt_13 : decode cX6_agreeAt 13 = .ok (.invokevirtual 154, 3) := db_dX6_agreeAt_12.2.1
theorem dX6_agreeAt_16 : decode cX6_agreeAt 16 = .ok (.iload_n 2, 1) := db_dX6_agreeAt_12.2.2.1
theorem dX6_agreeAt_17 : decode cX6_agreeAt 17 = .ok (.invokevirtual 110, 3) := db_dX6_agreeAt_12.2.2.2.1
theorem dX6_agreeAt_20 : decode cX6_agreeAt 20 = .ok (.aload_n 0, 1) := db_dX6_agreeAt_12.2.2.2.2.1
theorem dX6_agreeAt_21 : decode cX6_agreeAt 21 = .ok (.getfield 57, 3) := db_dX6_agreeAt_12.2.2.2.2.2.1
theorem dX6_agreeAt_24 : decode cX6_agreeAt 24 = .ok (.invokestatic 191, 3) := db_dX6_agreeAt_12.2.2.2.2.2.2.1
theorem dX6_agreeAt_27 : decode cX6_agreeAt 27 = .ok (.ireturn, 1) := db_dX6_agreeAt_12.2.2.2.2.2.2.2
theorem db_dX6_alike_0 : decode cX6_alike 0 = .ok (.iload_n 1, 1) ∧ decode cX6_alike 1 = .ok (.invokestatic 117, 3) ∧ decode cX6_alike 4 = .ok (.ifCond .eq 5, 3) ∧ decode cX6_alike 7 = .ok (.iconst (-1), 1) ∧ decode cX6_alike 8 = .ok (.ireturn, 1) ∧ decode cX6_alike 9 = .ok (.iconst 0, 1) ∧ decode cX6_alike 10 = .ok (.istore_n 2, 1) ∧ decode cX6_alike 11 = .ok (.iconst 0, 1) := by decide +kernel
theorem dX6_alike_0 : decode cX6_alike 0 = .ok (.iload_n 1, 1) := db_dX6_alike_0.1
theorem dX6_alike_1 : decode cX6_alike 1 = .ok (.invokestatic 117, 3) := db_dX6_alike_0.2.1
theorem dX6_alike_4 : decode cX6_alike 4 = .ok (.ifCond .eq 5, 3) := db_dX6_alike_0.2.2.1
theorem dX6_alike_7 : decode cX6_alike 7 = .ok (.iconst (-1), 1) := db_dX6_alike_0.2.2.2.1
theorem dX6_alike_8 : decode cX6_alike 8 = .ok (.ireturn, 1) := db_dX6_alike_0.2.2.2.2.1
theorem dX6_alike_9 : decode cX6_alike 9 = .ok (.iconst 0, 1) := db_dX6_alike_0.2.2.2.2.2.1
theorem dX6_alike_10 : decode cX6_alike 10 = .ok (.istore_n 2, 1) := db_dX6_alike_0.2.2.2.2.2.2.1
theorem dX6_alike_11 : decode cX6_alike 11 = .ok (.iconst 0, 1) := db_dX6_alike_0.2.2.2.2.2.2.2
theorem db_dX6_alike_12 : decode cX6_alike 12 = .ok (.istore_n 3, 1) ∧ decode cX6_alike 13 = .ok (.iload_n 3, 1) ∧ decode cX6_alike 14 = .ok (.bipush 12, 2) ∧ decode cX6_alike 16 = .ok (.if_icmp .ge 68, 3) ∧ decode cX6_alike 19 = .ok (.aload_n 0, 1) ∧ decode cX6_alike 20 = .ok (.getfield 46, 3) ∧ decode cX6_alike 23 = .ok (.invokevirtual 147, 3) ∧ decode cX6_alike 26 = .ok (.aload_n 0, 1) := by decide +kernel
theorem dX6_alike_12 : decode cX6_alike 12 = .ok (.istore_n 3, 1) := db_dX6_alike_12.1
theorem dX6_alike_13 : decode cX6_alike 13 = .ok (.iload_n 3, 1) := db_dX6_alike_12.2.1
theorem dX6_alike_14 : decode cX6_alike 14 = .ok (.bipush 12, 2) := db_dX6_alike_12.2.2.1
theorem dX6_alike_16 : decode cX6_alike 16 = .ok (.if_icmp .ge 68, 3) := db_dX6_alike_12.2.2.2.1
theorem dX6_alike_19 : decode cX6_alike 19 = .ok (.aload_n 0, 1) := db_dX6_alike_12.2.2.2.2.1
theorem dX6_alike_20 : decode cX6_alike 20 = .ok (.getfield 46, 3) := db_dX6_alike_12.2.2.2.2.2.1
theorem dX6_alike_23 : decode cX6_alike 23 = .ok (.invokevirtual 147, 3) := db_dX6_alike_12.2.2.2.2.2.2.1
theorem dX6_alike_26 : decode cX6_alike 26 = .ok (.aload_n 0, 1) := db_dX6_alike_12.2.2.2.2.2.2.2
theorem db_dX6_alike_27 : decode cX6_alike 27 = .ok (.getfield 46, 3) ∧ decode cX6_alike 30 = .ok (.invokevirtual 150, 3) ∧ decode cX6_alike 33 = .ok (.aload_n 0, 1) ∧ decode cX6_alike 34 = .ok (.iconst 0, 1) ∧ decode cX6_alike 35 = .ok (.iload_n 1, 1) ∧ decode cX6_alike 36 = .ok (.invokevirtual 77, 3) ∧ decode cX6_alike 39 = .ok (.aload_n 0, 1) ∧ decode cX6_alike 40 = .ok (.iconst 1, 1) := by decide +kernel
theorem dX6_alike_27 : decode cX6_alike 27 = .ok (.getfield 46, 3) := db_dX6_alike_27.1
theorem dX6_alike_30 : decode cX6_alike 30 = .ok (.invokevirtual 150, 3) := db_dX6_alike_27.2.1
theorem dX6_alike_33 : decode cX6_alike 33 = .ok (.aload_n 0, 1) := db_dX6_alike_27.2.2.1
theorem dX6_alike_34 : decode cX6_alike 34 = .ok (.iconst 0, 1) := db_dX6_alike_27.2.2.2.1
theorem dX6_alike_35 : decode cX6_alike 35 = .ok (.iload_n 1, 1) := db_dX6_alike_27.2.2.2.2.1
theorem dX6_alike_36 : decode cX6_alike 36 = .ok (.invokevirtual 77, 3) := db_dX6_alike_27.2.2.2.2.2.1
theorem dX6_alike_39 : decode cX6_alike 39 = .ok (.aload_n 0, 1) := db_dX6_alike_27.2.2.2.2.2.2.1
theorem dX6_alike_40 : decode cX6_alike 40 = .ok (.iconst 1, 1) := db_dX6_alike_27.2.2.2.2.2.2.2
theorem db_dX6_alike_41 : decode cX6_alike 41 = .ok (.iload_n 3, 1) ∧ decode cX6_alike 42 = .ok (.invokevirtual 77, 3) ∧ decode cX6_alike 45 = .ok (.iconst 0, 1) ∧ decode cX6_alike 46 = .ok (.aload_n 0, 1) ∧ decode cX6_alike 47 = .ok (.getfield 57, 3) ∧ decode cX6_alike 50 = .ok (.invokevirtual 157, 3) ∧ decode cX6_alike 53 = .ok (.aload_n 0, 1) ∧ decode cX6_alike 54 = .ok (.getfield 46, 3) := by decide +kernel
theorem dX6_alike_41 : decode cX6_alike 41 = .ok (.iload_n 3, 1) := db_dX6_alike_41.1
theorem dX6_alike_42 : decode cX6_alike 42 = .ok (.invokevirtual 77, 3) := db_dX6_alike_41.2.1
theorem dX6_alike_45 : decode cX6_alike 45 = .ok (.iconst 0, 1) := db_dX6_alike_41.2.2.1
theorem dX6_alike_46 : decode cX6_alike 46 = .ok (.aload_n 0, 1) := db_dX6_alike_41.2.2.2.1
theorem dX6_alike_47 : decode cX6_alike 47 = .ok (.getfield 57, 3) := db_dX6_alike_41.2.2.2.2.1
theorem dX6_alike_50 : decode cX6_alike 50 = .ok (.invokevirtual 157, 3) := db_dX6_alike_41.2.2.2.2.2.1
theorem dX6_alike_53 : decode cX6_alike 53 = .ok (.aload_n 0, 1) := db_dX6_alike_41.2.2.2.2.2.2.1
theorem dX6_alike_54 : decode cX6_alike 54 = .ok (.getfield 46, 3) := db_dX6_alike_41.2.2.2.2.2.2.2
theorem db_dX6_alike_57 : decode cX6_alike 57 = .ok (.iconst 0, 1) ∧ decode cX6_alike 58 = .ok (.aload_n 0, 1) ∧ decode cX6_alike 59 = .ok (.getfield 54, 3) ∧ decode cX6_alike 62 = .ok (.invokevirtual 144, 3) ∧ decode cX6_alike 65 = .ok (.aload_n 0, 1) ∧ decode cX6_alike 66 = .ok (.getfield 54, 3) ∧ decode cX6_alike 69 = .ok (.if_icmp .lt 9, 3) ∧ decode cX6_alike 72 = .ok (.iload_n 2, 1) := by decide +kernel
theorem dX6_alike_57 : decode cX6_alike 57 = .ok (.iconst 0, 1) := db_dX6_alike_57.1
theorem dX6_alike_58 : decode cX6_alike 58 = .ok (.aload_n 0, 1) := db_dX6_alike_57.2.1
theorem dX6_alike_59 : decode cX6_alike 59 = .ok (.getfield 54, 3) := db_dX6_alike_57.2.2.1
theorem dX6_alike_62 : decode cX6_alike 62 = .ok (.invokevirtual 144, 3) := db_dX6_alike_57.2.2.2.1
theorem dX6_alike_65 : decode cX6_alike 65 = .ok (.aload_n 0, 1) := db_dX6_alike_57.2.2.2.2.1
theorem dX6_alike_66 : decode cX6_alike 66 = .ok (.getfield 54, 3) := db_dX6_alike_57.2.2.2.2.2.1
theorem dX6_alike_69 : decode cX6_alike 69 = .ok (.if_icmp .lt 9, 3) := db_dX6_alike_57.2.2.2.2.2.2.1
theorem dX6_alike_72 : decode cX6_alike 72 = .ok (.iload_n 2, 1) := db_dX6_alike_57.2.2.2.2.2.2.2
theorem db_dX6_alike_73 : decode cX6_alike 73 = .ok (.iconst 1, 1) ∧ decode cX6_alike 74 = .ok (.iload_n 3, 1) ∧ decode cX6_alike 75 = .ok (.ishl, 1) ∧ decode cX6_alike 76 = .ok (.ior, 1) ∧ decode cX6_alike 77 = .ok (.istore_n 2, 1) ∧ decode cX6_alike 78 = .ok (.iinc 3 1, 3) ∧ decode cX6_alike 81 = .ok (.goto (-68), 3) ∧ decode cX6_alike 84 = .ok (.iload_n 2, 1) := by decide +kernel
theorem dX6_alike_73 : decode cX6_alike 73 = .ok (.iconst 1, 1) := db_dX6_alike_73.1
theorem dX6_alike_74 : decode cX6_alike 74 = .ok (.iload_n 3, 1) := db_dX6_alike_73.2.1
theorem dX6_alike_75 : decode cX6_alike 75 = .ok (.ishl, 1) := db_dX6_alike_73.2.2.1
theorem dX6_alike_76 : decode cX6_alike 76 = .ok (.ior, 1) := db_dX6_alike_73.2.2.2.1
theorem dX6_alike_77 : decode cX6_alike 77 = .ok (.istore_n 2, 1) := db_dX6_alike_73.2.2.2.2.1
theorem dX6_alike_78 : decode cX6_alike 78 = .ok (.iinc 3 1, 3) := db_dX6_alike_73.2.2.2.2.2.1
theorem dX6_alike_81 : decode cX6_alike 81 = .ok (.goto (-68), 3) := db_dX6_alike_73.2.2.2.2.2.2.1
theorem dX6_alike_84 : decode cX6_alike 84 = .ok (.iload_n 2, 1) := db_dX6_alike_73.2.2.2.2.2.2.2
theorem dX6_alike_85 : decode cX6_alike 85 = .ok (.ireturn, 1) := by decide +kernel
theorem db_dX6_holds_0 : decode cX6_holds 0 = .ok (.iload_n 1, 1) ∧ decode cX6_holds 1 = .ok (.iload_n 2, 1) ∧ decode cX6_holds 2 = .ok (.invokestatic 65, 3) ∧ decode cX6_holds 5 = .ok (.ifCond .ne 26, 3) ∧ decode cX6_holds 8 = .ok (.iload_n 3, 1) ∧ decode cX6_holds 9 = .ok (.invokestatic 73, 3) ∧ decode cX6_holds 12 = .ok (.ifCond .ne 19, 3) ∧ decode cX6_holds 15 = .ok (.iload 4, 2) := by decide +kernel
theorem dX6_holds_0 : decode cX6_holds 0 = .ok (.iload_n 1, 1) := db_dX6_holds_0.1
theorem dX6_holds_1 : decode cX6_holds 1 = .ok (.iload_n 2, 1) := db_dX6_holds_0.2.1
theorem dX6_holds_2 : decode cX6_holds 2 = .ok (.invokestatic 65, 3) := db_dX6_holds_0.2.2.1
theorem dX6_holds_5 : decode cX6_holds 5 = .ok (.ifCond .ne 26, 3) := db_dX6_holds_0.2.2.2.1
theorem dX6_holds_8 : decode cX6_holds 8 = .ok (.iload_n 3, 1) := db_dX6_holds_0.2.2.2.2.1
theorem dX6_holds_9 : decode cX6_holds 9 = .ok (.invokestatic 73, 3) := db_dX6_holds_0.2.2.2.2.2.1
theorem dX6_holds_12 : decode cX6_holds 12 = .ok (.ifCond .ne 19, 3) := db_dX6_holds_0.2.2.2.2.2.2.1
theorem dX6_holds_15 : decode cX6_holds 15 = .ok (.iload 4, 2) := db_dX6_holds_0.2.2.2.2.2.2.2
theorem db_dX6_holds_17 : decode cX6_holds 17 = .ok (.invokestatic 117, 3) ∧ decode cX6_holds 20 = .ok (.ifCond .ne 11, 3) ∧ decode cX6_holds 23 = .ok (.iload 5, 2) ∧ decode cX6_holds 25 = .ok (.invokestatic 73, 3) ∧ decode cX6_holds 28 = .ok (.ifCond .eq 5, 3) ∧ decode cX6_holds 31 = .ok (.iconst (-1), 1) ∧ decode cX6_holds 32 = .ok (.ireturn, 1) ∧ decode cX6_holds 33 = .ok (.iload 6, 2) := by decide +kernel
theorem dX6_holds_17 : decode cX6_holds 17 = .ok (.invokestatic 117, 3) := db_dX6_holds_17.1
theorem dX6_holds_20 : decode cX6_holds 20 = .ok (.ifCond .ne 11, 3) := db_dX6_holds_17.2.1
theorem dX6_holds_23 : decode cX6_holds 23 = .ok (.iload 5, 2) := db_dX6_holds_17.2.2.1
theorem dX6_holds_25 : decode cX6_holds 25 = .ok (.invokestatic 73, 3) := db_dX6_holds_17.2.2.2.1
theorem dX6_holds_28 : decode cX6_holds 28 = .ok (.ifCond .eq 5, 3) := db_dX6_holds_17.2.2.2.2.1
theorem dX6_holds_31 : decode cX6_holds 31 = .ok (.iconst (-1), 1) := db_dX6_holds_17.2.2.2.2.2.1
theorem dX6_holds_32 : decode cX6_holds 32 = .ok (.ireturn, 1) := db_dX6_holds_17.2.2.2.2.2.2.1
theorem dX6_holds_33 : decode cX6_holds 33 = .ok (.iload 6, 2) := db_dX6_holds_17.2.2.2.2.2.2.2
theorem db_dX6_holds_35 : decode cX6_holds 35 = .ok (.iconst 1, 1) ∧ decode cX6_holds 36 = .ok (.sipush 4000, 3) ∧ decode cX6_holds 39 = .ok (.invokestatic 69, 3) ∧ decode cX6_holds 42 = .ok (.ifCond .ne 19, 3) ∧ decode cX6_holds 45 = .ok (.iload 7, 2) ∧ decode cX6_holds 47 = .ok (.iconst (-1), 1) ∧ decode cX6_holds 48 = .ok (.if_icmp .lt 13, 3) ∧ decode cX6_holds 51 = .ok (.iload 8, 2) := by decide +kernel
theorem dX6_holds_35 : decode cX6_holds 35 = .ok (.iconst 1, 1) := db_dX6_holds_35.1
theorem dX6_holds_36 : decode cX6_holds 36 = .ok (.sipush 4000, 3) := db_dX6_holds_35.2.1
theorem dX6_holds_39 : decode cX6_holds 39 = .ok (.invokestatic 69, 3) := db_dX6_holds_35.2.2.1
theorem dX6_holds_42 : decode cX6_holds 42 = .ok (.ifCond .ne 19, 3) := db_dX6_holds_35.2.2.2.1
theorem dX6_holds_45 : decode cX6_holds 45 = .ok (.iload 7, 2) := db_dX6_holds_35.2.2.2.2.1
theorem dX6_holds_47 : decode cX6_holds 47 = .ok (.iconst (-1), 1) := db_dX6_holds_35.2.2.2.2.2.1
theorem dX6_holds_48 : decode cX6_holds 48 = .ok (.if_icmp .lt 13, 3) := db_dX6_holds_35.2.2.2.2.2.2.1
theorem dX6_holds_51 : decode cX6_holds 51 = .ok (.iload 8, 2) := db_dX6_holds_35.2.2.2.2.2.2.2
theorem db_dX6_holds_53 : decode cX6_holds 53 = .ok (.iconst 0, 1) ∧ decode cX6_holds 54 = .ok (.iconst 1, 1) ∧ decode cX6_holds 55 = .ok (.invokestatic 69, 3) ∧ decode cX6_holds 58 = .ok (.ifCond .eq 5, 3) ∧ decode cX6_holds 61 = .ok (.iconst (-1), 1) ∧ decode cX6_holds 62 = .ok (.ireturn, 1) ∧ decode cX6_holds 63 = .ok (.aload_n 0, 1) ∧ decode cX6_holds 64 = .ok (.getfield 46, 3) := by decide +kernel
theorem dX6_holds_53 : decode cX6_holds 53 = .ok (.iconst 0, 1) := db_dX6_holds_53.1
theorem dX6_holds_54 : decode cX6_holds 54 = .ok (.iconst 1, 1) := db_dX6_holds_53.2.1
theorem dX6_holds_55 : decode cX6_holds 55 = .ok (.invokestatic 69, 3) := db_dX6_holds_53.2.2.1
theorem dX6_holds_58 : decode cX6_holds 58 = .ok (.ifCond .eq 5, 3) := db_dX6_holds_53.2.2.2.1
theorem dX6_holds_61 : decode cX6_holds 61 = .ok (.iconst (-1), 1) := db_dX6_holds_53.2.2.2.2.1
theorem dX6_holds_62 : decode cX6_holds 62 = .ok (.ireturn, 1) := db_dX6_holds_53.2.2.2.2.2.1
theorem dX6_holds_63 : decode cX6_holds 63 = .ok (.aload_n 0, 1) := db_dX6_holds_53.2.2.2.2.2.2.1
theorem dX6_holds_64 : decode cX6_holds 64 = .ok (.getfield 46, 3) := db_dX6_holds_53.2.2.2.2.2.2.2
theorem db_dX6_holds_67 : decode cX6_holds 67 = .ok (.invokevirtual 147, 3) ∧ decode cX6_holds 70 = .ok (.aload_n 0, 1) ∧ decode cX6_holds 71 = .ok (.getfield 46, 3) ∧ decode cX6_holds 74 = .ok (.invokevirtual 150, 3) ∧ decode cX6_holds 77 = .ok (.aload_n 0, 1) ∧ decode cX6_holds 78 = .ok (.iload_n 1, 1) ∧ decode cX6_holds 79 = .ok (.iload_n 2, 1) ∧ decode cX6_holds 80 = .ok (.invokevirtual 77, 3) := by decide +kernel
theorem dX6_holds_67 : decode cX6_holds 67 = .ok (.invokevirtual 147, 3) := db_dX6_holds_67.1
theorem dX6_holds_70 : decode cX6_holds 70 = .ok (.aload_n 0, 1) := db_dX6_holds_67.2.1
theorem dX6_holds_71 : decode cX6_holds 71 = .ok (.getfield 46, 3) := db_dX6_holds_67.2.2.1
theorem dX6_holds_74 : decode cX6_holds 74 = .ok (.invokevirtual 150, 3) := db_dX6_holds_67.2.2.2.1
theorem dX6_holds_77 : decode cX6_holds 77 = .ok (.aload_n 0, 1) := db_dX6_holds_67.2.2.2.2.1
theorem dX6_holds_78 : decode cX6_holds 78 = .ok (.iload_n 1, 1) := db_dX6_holds_67.2.2.2.2.2.1
theorem dX6_holds_79 : decode cX6_holds 79 = .ok (.iload_n 2, 1) := db_dX6_holds_67.2.2.2.2.2.2.1
theorem dX6_holds_80 : decode cX6_holds 80 = .ok (.invokevirtual 77, 3) := db_dX6_holds_67.2.2.2.2.2.2.2
theorem db_dX6_holds_83 : decode cX6_holds 83 = .ok (.iload_n 3, 1) ∧ decode cX6_holds 84 = .ok (.invokevirtual 251, 3) ∧ decode cX6_holds 87 = .ok (.iload 4, 2) ∧ decode cX6_holds 89 = .ok (.iload_n 2, 1) ∧ decode cX6_holds 90 = .ok (.if_icmp .eq 22, 3) ∧ decode cX6_holds 93 = .ok (.aload_n 0, 1) ∧ decode cX6_holds 94 = .ok (.getfield 46, 3) ∧ decode cX6_holds 97 = .ok (.invokevirtual 150, 3) := by decide +kernel
theorem dX6_holds_83 : decode cX6_holds 83 = .ok (.iload_n 3, 1) := db_dX6_holds_83.1
theorem dX6_holds_84 : decode cX6_holds 84 = .ok (.invokevirtual 251, 3) := db_dX6_holds_83.2.1
theorem dX6_holds_87 : decode cX6_holds 87 = .ok (.iload 4, 2) := db_dX6_holds_83.2.2.1
theorem dX6_holds_89 : decode cX6_holds 89 = .ok (.iload_n 2, 1) := db_dX6_holds_83.2.2.2.1
theorem dX6_holds_90 : decode cX6_holds 90 = .ok (.if_icmp .eq 22, 3) := db_dX6_holds_83.2.2.2.2.1
theorem dX6_holds_93 : decode cX6_holds 93 = .ok (.aload_n 0, 1) := db_dX6_holds_83.2.2.2.2.2.1
theorem dX6_holds_94 : decode cX6_holds 94 = .ok (.getfield 46, 3) := db_dX6_holds_83.2.2.2.2.2.2.1
theorem dX6_holds_97 : decode cX6_holds 97 = .ok (.invokevirtual 150, 3) := db_dX6_holds_83.2.2.2.2.2.2.2
theorem db_dX6_holds_100 : decode cX6_holds 100 = .ok (.aload_n 0, 1) ∧ decode cX6_holds 101 = .ok (.iload_n 1, 1) ∧ decode cX6_holds 102 = .ok (.iload 4, 2) ∧ decode cX6_holds 104 = .ok (.invokevirtual 77, 3) ∧ decode cX6_holds 107 = .ok (.iload 5, 2) ∧ decode cX6_holds 109 = .ok (.invokevirtual 173, 3) ∧ decode cX6_holds 112 = .ok (.iload 7, 2) ∧ decode cX6_holds 114 = .ok (.iconst (-1), 1) := by decide +kernel
theorem dX6_holds_100 : decode cX6_holds 100 = .ok (.aload_n 0, 1) := db_dX6_holds_100.1
theorem dX6_holds_101 : decode cX6_holds 101 = .ok (.iload_n 1, 1) := db_dX6_holds_100.2.1
theorem dX6_holds_102 : decode cX6_holds 102 = .ok (.iload 4, 2) := db_dX6_holds_100.2.2.1
theorem dX6_holds_104 : decode cX6_holds 104 = .ok (.invokevirtual 77, 3) := db_dX6_holds_100.2.2.2.1
theorem dX6_holds_107 : decode cX6_holds 107 = .ok (.iload 5, 2) := db_dX6_holds_100.2.2.2.2.1
theorem dX6_holds_109 : decode cX6_holds 109 = .ok (.invokevirtual 173, 3) := db_dX6_holds_100.2.2.2.2.2.1
theorem dX6_holds_112 : decode cX6_holds 112 = .ok (.iload 7, 2) := db_dX6_holds_100.2.2.2.2.2.2.1
theorem dX6_holds_114 : decode cX6_holds 114 = .ok (.iconst (-1), 1) := db_dX6_holds_100.2.2.2.2.2.2.2
theorem db_dX6_holds_115 : decode cX6_holds 115 = .ok (.if_icmp .ne 17, 3) ∧ decode cX6_holds 118 = .ok (.aload_n 0, 1) ∧ decode cX6_holds 119 = .ok (.getfield 46, 3) ∧ decode cX6_holds 122 = .ok (.iload 6, 2) ∧ decode cX6_holds 124 = .ok (.aload_n 0, 1) ∧ decode cX6_holds 125 = .ok (.getfield 54, 3) ∧ decode cX6_holds 128 = .ok (.invokevirtual 131, 3) ∧ decode cX6_holds 131 = .ok (.ireturn, 1) := by decide +kernel
theorem dX6_holds_115 : decode cX6_holds 115 = .ok (.if_icmp .ne 17, 3) := db_dX6_holds_115.1
theorem dX6_holds_118 : decode cX6_holds 118 = .ok (.aload_n 0, 1) := db_dX6_holds_115.2.1
theorem dX6_holds_119 : decode cX6_holds 119 = .ok (.getfield 46, 3) := db_dX6_holds_115.2.2.1
theorem dX6_holds_122 : decode cX6_holds 122 = .ok (.iload 6, 2) := db_dX6_holds_115.2.2.2.1
theorem dX6_holds_124 : decode cX6_holds 124 = .ok (.aload_n 0, 1) := db_dX6_holds_115.2.2.2.2.1
theorem dX6_holds_125 : decode cX6_holds 125 = .ok (.getfield 54, 3) := db_dX6_holds_115.2.2.2.2.2.1
theorem dX6_holds_128 : decode cX6_holds 128 = .ok (.invokevirtual 131, 3) := db_dX6_holds_115.2.2.2.2.2.2.1
theorem dX6_holds_131 : decode cX6_holds 131 = .ok (.ireturn, 1) := db_dX6_holds_115.2.2.2.2.2.2.2
theorem db_dX6_holds_132 : decode cX6_holds 132 = .ok (.aload_n 0, 1) ∧ decode cX6_holds 133 = .ok (.getfield 46, 3) ∧ decode cX6_holds 136 = .ok (.iload 7, 2) ∧ decode cX6_holds 138 = .ok (.iload 6, 2) ∧ decode cX6_holds 140 = .ok (.aload_n 0, 1) ∧ decode cX6_holds 141 = .ok (.getfield 54, 3) ∧ decode cX6_holds 144 = .ok (.invokevirtual 135, 3) ∧ decode cX6_holds 147 = .ok (.ifCond .eq 15, 3) := by decide +kernel
theorem dX6_holds_132 : decode cX6_holds 132 = .ok (.aload_n 0, 1) := db_dX6_holds_132.1
theorem dX6_holds_133 : decode cX6_holds 133 = .ok (.getfield 46, 3) := db_dX6_holds_132.2.1
theorem dX6_holds_136 : decode cX6_holds 136 = .ok (.iload 7, 2) := db_dX6_holds_132.2.2.1
theorem dX6_holds_138 : decode cX6_holds 138 = .ok (.iload 6, 2) := db_dX6_holds_132.2.2.2.1
theorem dX6_holds_140 : decode cX6_holds 140 = .ok (.aload_n 0, 1) := db_dX6_holds_132.2.2.2.2.1
theorem dX6_holds_141 : decode cX6_holds 141 = .ok (.getfield 54, 3) := db_dX6_holds_132.2.2.2.2.2.1
theorem dX6_holds_144 : decode cX6_holds 144 = .ok (.invokevirtual 135, 3) := db_dX6_holds_132.2.2.2.2.2.2.1
theorem dX6_holds_147 : decode cX6_holds 147 = .ok (.ifCond .eq 15, 3) := db_dX6_holds_132.2.2.2.2.2.2.2
theorem db_dX6_holds_150 : decode cX6_holds 150 = .ok (.aload_n 0, 1) ∧ decode cX6_holds 151 = .ok (.getfield 46, 3) ∧ decode cX6_holds 154 = .ok (.iload 8, 2) ∧ decode cX6_holds 156 = .ok (.invokevirtual 138, 3) ∧ decode cX6_holds 159 = .ok (.goto 5, 3) ∧ decode cX6_holds 162 = .ok (.bipush (-4), 2) ∧ decode cX6_holds 164 = .ok (.ireturn, 1) := by decide +kernel
theorem dX6_holds_150 : decode cX6_holds 150 = .ok (.aload_n 0, 1) := db_dX6_holds_150.1
theorem dX6_holds_151 : decode cX6_holds 151 = .ok (.getfield 46, 3) := db_dX6_holds_150.2.1
theorem dX6_holds_154 : decode cX6_holds 154 = .ok (.iload 8, 2) := db_dX6_holds_150.2.2.1
theorem dX6_holds_156 : decode cX6_holds 156 = .ok (.invokevirtual 138, 3) := db_dX6_holds_150.2.2.2.1
theorem dX6_holds_159 : decode cX6_holds 159 = .ok (.goto 5, 3) := db_dX6_holds_150.2.2.2.2.1
theorem dX6_holds_162 : decode cX6_holds 162 = .ok (.bipush (-4), 2) := db_dX6_holds_150.2.2.2.2.2.1
theorem dX6_holds_164 : decode cX6_holds 164 = .ok (.ireturn, 1) := db_dX6_holds_150.2.2.2.2.2.2
theorem db_dX6_window_0 : decode cX6_window 0 = .ok (.iload_n 1, 1) ∧ decode cX6_window 1 = .ok (.iload_n 2, 1) ∧ decode cX6_window 2 = .ok (.invokestatic 65, 3) ∧ decode cX6_window 5 = .ok (.ifCond .ne 32, 3) ∧ decode cX6_window 8 = .ok (.iload_n 3, 1) ∧ decode cX6_window 9 = .ok (.ifCond .lt 28, 3) ∧ decode cX6_window 12 = .ok (.iload_n 3, 1) ∧ decode cX6_window 13 = .ok (.iload 4, 2) := by decide +kernel
theorem dX6_window_0 : decode cX6_window 0 = .ok (.iload_n 1, 1) := db_dX6_window_0.1
theorem dX6_window_1 : decode cX6_window 1 = .ok (.iload_n 2, 1) := db_dX6_window_0.2.1
theorem dX6_window_2 : decode cX6_window 2 = .ok (.invokestatic 65, 3) := db_dX6_window_0.2.2.1
theorem dX6_window_5 : decode cX6_window 5 = .ok (.ifCond .ne 32, 3) := db_dX6_window_0.2.2.2.1
theorem dX6_window_8 : decode cX6_window 8 = .ok (.iload_n 3, 1) := db_dX6_window_0.2.2.2.2.1
theorem dX6_window_9 : decode cX6_window 9 = .ok (.ifCond .lt 28, 3) := db_dX6_window_0.2.2.2.2.2.1
theorem dX6_window_12 : decode cX6_window 12 = .ok (.iload_n 3, 1) := db_dX6_window_0.2.2.2.2.2.2.1
theorem dX6_window_13 : decode cX6_window 13 = .ok (.iload 4, 2) := db_dX6_window_0.2.2.2.2.2.2.2
theorem db_dX6_window_15 : decode cX6_window 15 = .ok (.if_icmp .ge 22, 3) ∧ decode cX6_window 18 = .ok (.iload 4, 2) ∧ decode cX6_window 20 = .ok (.aload_n 0, 1) ∧ decode cX6_window 21 = .ok (.getfield 54, 3) ∧ decode cX6_window 24 = .ok (.if_icmp .gt 13, 3) ∧ decode cX6_window 27 = .ok (.iload 5, 2) ∧ decode cX6_window 29 = .ok (.iconst 0, 1) ∧ decode cX6_window 30 = .ok (.iconst 2, 1) := by decide +kernel
theorem dX6_window_15 : decode cX6_window 15 = .ok (.if_icmp .ge 22, 3) := db_dX6_window_15.1
theorem dX6_window_18 : decode cX6_window 18 = .ok (.iload 4, 2) := db_dX6_window_15.2.1
theorem dX6_window_20 : decode cX6_window 20 = .ok (.aload_n 0, 1) := db_dX6_window_15.2.2.1
theorem dX6_window_21 : decode cX6_window 21 = .ok (.getfield 54, 3) := db_dX6_window_15.2.2.2.1
theorem dX6_window_24 : decode cX6_window 24 = .ok (.if_icmp .gt 13, 3) := db_dX6_window_15.2.2.2.2.1
theorem dX6_window_27 : decode cX6_window 27 = .ok (.iload 5, 2) := db_dX6_window_15.2.2.2.2.2.1
theorem dX6_window_29 : decode cX6_window 29 = .ok (.iconst 0, 1) := db_dX6_window_15.2.2.2.2.2.2.1
theorem dX6_window_30 : decode cX6_window 30 = .ok (.iconst 2, 1) := db_dX6_window_15.2.2.2.2.2.2.2
theorem db_dX6_window_31 : decode cX6_window 31 = .ok (.invokestatic 69, 3) ∧ decode cX6_window 34 = .ok (.ifCond .eq 5, 3) ∧ decode cX6_window 37 = .ok (.iconst (-1), 1) ∧ decode cX6_window 38 = .ok (.ireturn, 1) ∧ decode cX6_window 39 = .ok (.aload_n 0, 1) ∧ decode cX6_window 40 = .ok (.iload_n 1, 1) ∧ decode cX6_window 41 = .ok (.iload_n 2, 1) ∧ decode cX6_window 42 = .ok (.invokevirtual 77, 3) := by decide +kernel
theorem dX6_window_31 : decode cX6_window 31 = .ok (.invokestatic 69, 3) := db_dX6_window_31.1
theorem dX6_window_34 : decode cX6_window 34 = .ok (.ifCond .eq 5, 3) := db_dX6_window_31.2.1
theorem dX6_window_37 : decode cX6_window 37 = .ok (.iconst (-1), 1) := db_dX6_window_31.2.2.1
theorem dX6_window_38 : decode cX6_window 38 = .ok (.ireturn, 1) := db_dX6_window_31.2.2.2.1
theorem dX6_window_39 : decode cX6_window 39 = .ok (.aload_n 0, 1) := db_dX6_window_31.2.2.2.2.1
theorem dX6_window_40 : decode cX6_window 40 = .ok (.iload_n 1, 1) := db_dX6_window_31.2.2.2.2.2.1
theorem dX6_window_41 : decode cX6_window 41 = .ok (.iload_n 2, 1) := db_dX6_window_31.2.2.2.2.2.2.1
theorem dX6_window_42 : decode cX6_window 42 = .ok (.invokevirtual 77, 3) := db_dX6_window_31.2.2.2.2.2.2.2
theorem db_dX6_window_45 : decode cX6_window 45 = .ok (.astore 6, 2) ∧ decode cX6_window 47 = .ok (.iload 5, 2) ∧ decode cX6_window 49 = .ok (.ifCond .ne 12, 3) ∧ decode cX6_window 52 = .ok (.aload 6, 2) ∧ decode cX6_window 54 = .ok (.iload_n 3, 1) ∧ decode cX6_window 55 = .ok (.iload 4, 2) ∧ decode cX6_window 57 = .ok (.invokevirtual 254, 3) ∧ decode cX6_window 60 = .ok (.ireturn, 1) := by decide +kernel
theorem dX6_window_45 : decode cX6_window 45 = .ok (.astore 6, 2) := db_dX6_window_45.1
theorem dX6_window_47 : decode cX6_window 47 = .ok (.iload 5, 2) := db_dX6_window_45.2.1
theorem dX6_window_49 : decode cX6_window 49 = .ok (.ifCond .ne 12, 3) := db_dX6_window_45.2.2.1
theorem dX6_window_52 : decode cX6_window 52 = .ok (.aload 6, 2) := db_dX6_window_45.2.2.2.1
theorem dX6_window_54 : decode cX6_window 54 = .ok (.iload_n 3, 1) := db_dX6_window_45.2.2.2.2.1
theorem dX6_window_55 : decode cX6_window 55 = .ok (.iload 4, 2) := db_dX6_window_45.2.2.2.2.2.1
theorem dX6_window_57 : decode cX6_window 57 = .ok (.invokevirtual 254, 3) := db_dX6_window_45.2.2.2.2.2.2.1
theorem dX6_window_60 : decode cX6_window 60 = .ok (.ireturn, 1) := db_dX6_window_45.2.2.2.2.2.2.2
theorem db_dX6_window_61 : decode cX6_window 61 = .ok (.iload 5, 2) ∧ decode cX6_window 63 = .ok (.iconst 1, 1) ∧ decode cX6_window 64 = .ok (.if_icmp .ne 14, 3) ∧ decode cX6_window 67 = .ok (.aload 6, 2) ∧ decode cX6_window 69 = .ok (.iload_n 3, 1) ∧ decode cX6_window 70 = .ok (.iload 4, 2) ∧ decode cX6_window 72 = .ok (.invokevirtual 257, 3) ∧ decode cX6_window 75 = .ok (.goto 11, 3) := by decide +kernel
theorem dX6_window_61 : decode cX6_window 61 = .ok (.iload 5, 2) := db_dX6_window_61.1
theorem dX6_window_63 : decode cX6_window 63 = .ok (.iconst 1, 1) := db_dX6_window_61.2.1
theorem dX6_window_64 : decode cX6_window 64 = .ok (.if_icmp .ne 14, 3) := db_dX6_window_61.2.2.1
theorem dX6_window_67 : decode cX6_window 67 = .ok (.aload 6, 2) := db_dX6_window_61.2.2.2.1
theorem dX6_window_69 : decode cX6_window 69 = .ok (.iload_n 3, 1) := db_dX6_window_61.2.2.2.2.1
theorem dX6_window_70 : decode cX6_window 70 = .ok (.iload 4, 2) := db_dX6_window_61.2.2.2.2.2.1
theorem dX6_window_72 : decode cX6_window 72 = .ok (.invokevirtual 257, 3) := db_dX6_window_61.2.2.2.2.2.2.1
theorem dX6_window_75 : decode cX6_window 75 = .ok (.goto 11, 3) := db_dX6_window_61.2.2.2.2.2.2.2
theorem db_dX6_window_78 : decode cX6_window 78 = .ok (.aload 6, 2) ∧ decode cX6_window 80 = .ok (.iload_n 3, 1) ∧ decode cX6_window 81 = .ok (.iload 4, 2) ∧ decode cX6_window 83 = .ok (.invokevirtual 260, 3) ∧ decode cX6_window 86 = .ok (.ireturn, 1) := by decide +kernel
theorem dX6_window_78 : decode cX6_window 78 = .ok (.aload 6, 2) := db_dX6_window_78.1
theorem dX6_window_80 : decode cX6_window 80 = .ok (.iload_n 3, 1) := db_dX6_window_78.2.1
theorem dX6_window_81 : decode cX6_window 81 = .ok (.iload 4, 2) := db_dX6_window_78.2.2.1
theorem dX6_window_83 : decode cX6_window 83 = .ok (.invokevirtual 260, 3) := db_dX6_window_78.2.2.2.1
theorem dX6_window_86 : decode cX6_window 86 = .ok (.ireturn, 1) := db_dX6_window_78.2.2.2.2
theorem db_dX6_count_0 : decode cX6_count 0 = .ok (.iload_n 1, 1) ∧ decode cX6_count 1 = .ok (.tableswitch 51 0 3 #[31, 36, 41, 46], 31) ∧ decode cX6_count 32 = .ok (.aload_n 0, 1) ∧ decode cX6_count 33 = .ok (.invokevirtual 263, 3) ∧ decode cX6_count 36 = .ok (.ireturn, 1) ∧ decode cX6_count 37 = .ok (.aload_n 0, 1) ∧ decode cX6_count 38 = .ok (.getfield 50, 3) ∧ decode cX6_count 41 = .ok (.ireturn, 1) := by decide +kernel
theorem dX6_count_0 : decode cX6_count 0 = .ok (.iload_n 1, 1) := db_dX6_count_0.1
theorem dX6_count_1 : decode cX6_count 1 = .ok (.tableswitch 51 0 3 #[31, 36, 41, 46], 31) := db_dX6_count_0.2.1
theorem dX6_count_32 : decode cX6_count 32 = .ok (.aload_n 0, 1) := db_dX6_count_0.2.2.1
theorem dX6_count_33 : decode cX6_count 33 = .ok (.invokevirtual 263, 3) := db_dX6_count_0.2.2.2.1
theorem dX6_count_36 : decode cX6_count 36 = .ok (.ireturn, 1) := db_dX6_count_0.2.2.2.2.1
theorem dX6_count_37 : decode cX6_count 37 = .ok (.aload_n 0, 1) := db_dX6_count_0.2.2.2.2.2.1
theorem dX6_count_38 : decode cX6_count 38 = .ok (.getfield 50, 3) := db_dX6_count_0.2.2.2.2.2.2.1
theorem dX6_count_41 : decode cX6_count 41 = .ok (.ireturn, 1) := db_dX6_count_0.2.2.2.2.2.2.2
theorem db_dX6_count_42 : decode cX6_count 42 = .ok (.aload_n 0, 1) ∧ decode cX6_count 43 = .ok (.invokevirtual 266, 3) ∧ decode cX6_count 46 = .ok (.ireturn, 1) ∧ decode cX6_count 47 = .ok (.aload_n 0, 1) ∧ decode cX6_count 48 = .ok (.invokevirtual 269, 3) ∧ decode cX6_count 51 = .ok (.ireturn, 1) ∧ decode cX6_count 52 = .ok (.iconst (-1), 1) ∧ decode cX6_count 53 = .ok (.ireturn, 1) := by decide +kernel
theorem dX6_count_42 : decode cX6_count 42 = .ok (.aload_n 0, 1) := db_dX6_count_42.1
theorem dX6_count_43 : decode cX6_count 43 = .ok (.invokevirtual 266, 3) := db_dX6_count_42.2.1
theorem dX6_count_46 : decode cX6_count 46 = .ok (.ireturn, 1) := db_dX6_count_42.2.2.1
theorem dX6_count_47 : decode cX6_count 47 = .ok (.aload_n 0, 1) := db_dX6_count_42.2.2.2.1
theorem dX6_count_48 : decode cX6_count 48 = .ok (.invokevirtual 269, 3) := db_dX6_count_42.2.2.2.2.1
theorem dX6_count_51 : decode cX6_count 51 = .ok (.ireturn, 1) := db_dX6_count_42.2.2.2.2.2.1
theorem dX6_count_52 : decode cX6_count 52 = .ok (.iconst (-1), 1) := db_dX6_count_42.2.2.2.2.2.2.1
theorem dX6_count_53 : decode cX6_count 53 = .ok (.ireturn, 1) := db_dX6_count_42.2.2.2.2.2.2.2
theorem db_dX6_countChanges_0 : decode cX6_countChanges 0 = .ok (.iconst 0, 1) ∧ decode cX6_countChanges 1 = .ok (.istore_n 1, 1) ∧ decode cX6_countChanges 2 = .ok (.aload_n 0, 1) ∧ decode cX6_countChanges 3 = .ok (.getfield 11, 3) ∧ decode cX6_countChanges 6 = .ok (.astore_n 2, 1) ∧ decode cX6_countChanges 7 = .ok (.aload_n 2, 1) ∧ decode cX6_countChanges 8 = .ok (.arraylength, 1) ∧ decode cX6_countChanges 9 = .ok (.istore_n 3, 1) := by decide +kernel
theorem dX6_countChanges_0 : decode cX6_countChanges 0 = .ok (.iconst 0, 1) := db_dX6_countChanges_0.1
theorem dX6_countChanges_1 : decode cX6_countChanges 1 = .ok (.istore_n 1, 1) := db_dX6_countChanges_0.2.1
theorem dX6_countChanges_2 : decode cX6_countChanges 2 = .ok (.aload_n 0, 1) := db_dX6_countChanges_0.2.2.1
theorem dX6_countChanges_3 : decode cX6_countChanges 3 = .ok (.getfield 11, 3) := db_dX6_countChanges_0.2.2.2.1
theorem dX6_countChanges_6 : decode cX6_countChanges 6 = .ok (.astore_n 2, 1) := db_dX6_countChanges_0.2.2.2.2.1
theorem dX6_countChanges_7 : decode cX6_countChanges 7 = .ok (.aload_n 2, 1) := db_dX6_countChanges_0.2.2.2.2.2.1
theorem dX6_countChanges_8 : decode cX6_countChanges 8 = .ok (.arraylength, 1) := db_dX6_countChanges_0.2.2.2.2.2.2.1
theorem dX6_countChanges_9 : decode cX6_countChanges 9 = .ok (.istore_n 3, 1) := db_dX6_countChanges_0.2.2.2.2.2.2.2
theorem db_dX6_countChanges_10 : decode cX6_countChanges 10 = .ok (.iconst 0, 1) ∧ decode cX6_countChanges 11 = .ok (.istore 4, 2) ∧ decode cX6_countChanges 13 = .ok (.iload 4, 2) ∧ decode cX6_countChanges 15 = .ok (.iload_n 3, 1) ∧ decode cX6_countChanges 16 = .ok (.if_icmp .ge 23, 3) ∧ decode cX6_countChanges 19 = .ok (.aload_n 2, 1) ∧ decode cX6_countChanges 20 = .ok (.iload 4, 2) ∧ decode cX6_countChanges 22 = .ok (.aaload, 1) := by decide +kernel
theorem dX6_countChanges_10 : decode cX6_countChanges 10 = .ok (.iconst 0, 1) := db_dX6_countChanges_10.1
theorem dX6_countChanges_11 : decode cX6_countChanges 11 = .ok (.istore 4, 2) := db_dX6_countChanges_10.2.1
theorem dX6_countChanges_13 : decode cX6_countChanges 13 = .ok (.iload 4, 2) := db_dX6_countChanges_10.2.2.1
theorem dX6_countChanges_15 : decode cX6_countChanges 15 = .ok (.iload_n 3, 1) := db_dX6_countChanges_10.2.2.2.1
theorem dX6_countChanges_16 : decode cX6_countChanges 16 = .ok (.if_icmp .ge 23, 3) := db_dX6_countChanges_10.2.2.2.2.1
theorem dX6_countChanges_19 : decode cX6_countChanges 19 = .ok (.aload_n 2, 1) := db_dX6_countChanges_10.2.2.2.2.2.1
theorem dX6_countChanges_20 : decode cX6_countChanges 20 = .ok (.iload 4, 2) := db_dX6_countChanges_10.2.2.2.2.2.2.1
theorem dX6_countChanges_22 : decode cX6_countChanges 22 = .ok (.aaload, 1) := db_dX6_countChanges_10.2.2.2.2.2.2.2
theorem db_dX6_countChanges_23 : decode cX6_countChanges 23 = .ok (.astore 5, 2) ∧ decode cX6_countChanges 25 = .ok (.iload_n 1, 1) ∧ decode cX6_countChanges 26 = .ok (.aload 5, 2) ∧ decode cX6_countChanges 28 = .ok (.invokevirtual 92, 3) ∧ decode cX6_countChanges 31 = .ok (.iadd, 1) ∧ decode cX6_countChanges 32 = .ok (.istore_n 1, 1) ∧ decode cX6_countChanges 33 = .ok (.iinc 4 1, 3) ∧ decode cX6_countChanges 36 = .ok (.goto (-23), 3) := by decide +kernel
theorem dX6_countChanges_23 : decode cX6_countChanges 23 = .ok (.astore 5, 2) := db_dX6_countChanges_23.1
theorem dX6_countChanges_25 : decode cX6_countChanges 25 = .ok (.iload_n 1, 1) := db_dX6_countChanges_23.2.1
theorem dX6_countChanges_26 : decode cX6_countChanges 26 = .ok (.aload 5, 2) := db_dX6_countChanges_23.2.2.1
theorem dX6_countChanges_28 : decode cX6_countChanges 28 = .ok (.invokevirtual 92, 3) := db_dX6_countChanges_23.2.2.2.1
theorem dX6_countChanges_31 : decode cX6_countChanges 31 = .ok (.iadd, 1) := db_dX6_countChanges_23.2.2.2.2.1
theorem dX6_countChanges_32 : decode cX6_countChanges 32 = .ok (.istore_n 1, 1) := db_dX6_countChanges_23.2.2.2.2.2.1
theorem dX6_countChanges_33 : decode cX6_countChanges 33 = .ok (.iinc 4 1, 3) := db_dX6_countChanges_23.2.2.2.2.2.2.1
theorem dX6_countChanges_36 : decode cX6_countChanges 36 = .ok (.goto (-23), 3) := db_dX6_countChanges_23.2.2.2.2.2.2.2
theorem db_dX6_countChanges_39 : decode cX6_countChanges 39 = .ok (.iload_n 1, 1) ∧ decode cX6_countChanges 40 = .ok (.ireturn, 1) := by decide +kernel
theorem dX6_countChanges_39 : decode cX6_countChanges 39 = .ok (.iload_n 1, 1) := db_dX6_countChanges_39.1
theorem dX6_countChanges_40 : decode cX6_countChanges 40 = .ok (.ireturn, 1) := db_dX6_countChanges_39.2
theorem db_dX6_countChannels_0 : decode cX6_countChannels 0 = .ok (.iconst 0, 1) ∧ decode cX6_countChannels 1 = .ok (.istore_n 1, 1) ∧ decode cX6_countChannels 2 = .ok (.aload_n 0, 1) ∧ decode cX6_countChannels 3 = .ok (.getfield 33, 3) ∧ decode cX6_countChannels 6 = .ok (.astore_n 2, 1) ∧ decode cX6_countChannels 7 = .ok (.aload_n 2, 1) ∧ decode cX6_countChannels 8 = .ok (.arraylength, 1) ∧ decode cX6_countChannels 9 = .ok (.istore_n 3, 1) := by decide +kernel
theorem dX6_countChannels_0 : decode cX6_countChannels 0 = .ok (.iconst 0, 1) := db_dX6_countChannels_0.1
theorem dX6_countChannels_1 : decode cX6_countChannels 1 = .ok (.istore_n 1, 1) := db_dX6_countChannels_0.2.1
theorem dX6_countChannels_2 : decode cX6_countChannels 2 = .ok (.aload_n 0, 1) := db_dX6_countChannels_0.2.2.1
theorem dX6_countChannels_3 : decode cX6_countChannels 3 = .ok (.getfield 33, 3) := db_dX6_countChannels_0.2.2.2.1
theorem dX6_countChannels_6 : decode cX6_countChannels 6 = .ok (.astore_n 2, 1) := db_dX6_countChannels_0.2.2.2.2.1
theorem dX6_countChannels_7 : decode cX6_countChannels 7 = .ok (.aload_n 2, 1) := db_dX6_countChannels_0.2.2.2.2.2.1
theorem dX6_countChannels_8 : decode cX6_countChannels 8 = .ok (.arraylength, 1) := db_dX6_countChannels_0.2.2.2.2.2.2.1
theorem dX6_countChannels_9 : decode cX6_countChannels 9 = .ok (.istore_n 3, 1) := db_dX6_countChannels_0.2.2.2.2.2.2.2
theorem db_dX6_countChannels_10 : decode cX6_countChannels 10 = .ok (.iconst 0, 1) ∧ decode cX6_countChannels 11 = .ok (.istore 4, 2) ∧ decode cX6_countChannels 13 = .ok (.iload 4, 2) ∧ decode cX6_countChannels 15 = .ok (.iload_n 3, 1) ∧ decode cX6_countChannels 16 = .ok (.if_icmp .ge 31, 3) ∧ decode cX6_countChannels 19 = .ok (.aload_n 2, 1) ∧ decode cX6_countChannels 20 = .ok (.iload 4, 2) ∧ decode cX6_countChannels 22 = .ok (.aaload, 1) := by decide +kernel
theorem dX6_countChannels_10 : decode cX6_countChannels 10 = .ok (.iconst 0, 1) := db_dX6_countChannels_10.1
theorem dX6_countChannels_11 : decode cX6_countChannels 11 = .ok (.istore 4, 2) := db_dX6_countChannels_10.2.1
theorem dX6_countChannels_13 : decode cX6_countChannels 13 = .ok (.iload 4, 2) := db_dX6_countChannels_10.2.2.1
theorem dX6_countChannels_15 : decode cX6_countChannels 15 = .ok (.iload_n 3, 1) := db_dX6_countChannels_10.2.2.2.1
theorem dX6_countChannels_16 : decode cX6_countChannels 16 = .ok (.if_icmp .ge 31, 3) := db_dX6_countChannels_10.2.2.2.2.1
theorem dX6_countChannels_19 : decode cX6_countChannels 19 = .ok (.aload_n 2, 1) := db_dX6_countChannels_10.2.2.2.2.2.1
theorem dX6_countChannels_20 : decode cX6_countChannels 20 = .ok (.iload 4, 2) := db_dX6_countChannels_10.2.2.2.2.2.2.1
theorem dX6_countChannels_22 : decode cX6_countChannels 22 = .ok (.aaload, 1) := db_dX6_countChannels_10.2.2.2.2.2.2.2
theorem db_dX6_countChannels_23 : decode cX6_countChannels 23 = .ok (.astore 5, 2) ∧ decode cX6_countChannels 25 = .ok (.iload_n 1, 1) ∧ decode cX6_countChannels 26 = .ok (.aload 5, 2) ∧ decode cX6_countChannels 28 = .ok (.getfield 181, 3) ∧ decode cX6_countChannels 31 = .ok (.ifCond .eq 7, 3) ∧ decode cX6_countChannels 34 = .ok (.iconst 1, 1) ∧ decode cX6_countChannels 35 = .ok (.goto 4, 3) ∧ decode cX6_countChannels 38 = .ok (.iconst 0, 1) := by decide +kernel
theorem dX6_countChannels_23 : decode cX6_countChannels 23 = .ok (.astore 5, 2) := db_dX6_countChannels_23.1
theorem dX6_countChannels_25 : decode cX6_countChannels 25 = .ok (.iload_n 1, 1) := db_dX6_countChannels_23.2.1
theorem dX6_countChannels_26 : decode cX6_countChannels 26 = .ok (.aload 5, 2) := db_dX6_countChannels_23.2.2.1
theorem dX6_countChannels_28 : decode cX6_countChannels 28 = .ok (.getfield 181, 3) := db_dX6_countChannels_23.2.2.2.1
theorem dX6_countChannels_31 : decode cX6_countChannels 31 = .ok (.ifCond .eq 7, 3) := db_dX6_countChannels_23.2.2.2.2.1
theorem dX6_countChannels_34 : decode cX6_countChannels 34 = .ok (.iconst 1, 1) := db_dX6_countChannels_23.2.2.2.2.2.1
theorem dX6_countChannels_35 : decode cX6_countChannels 35 = .ok (.goto 4, 3) := db_dX6_countChannels_23.2.2.2.2.2.2.1
theorem dX6_countChannels_38 : decode cX6_countChannels 38 = .ok (.iconst 0, 1) := db_dX6_countChannels_23.2.2.2.2.2.2.2
theorem db_dX6_countChannels_39 : decode cX6_countChannels 39 = .ok (.iadd, 1) ∧ decode cX6_countChannels 40 = .ok (.istore_n 1, 1) ∧ decode cX6_countChannels 41 = .ok (.iinc 4 1, 3) ∧ decode cX6_countChannels 44 = .ok (.goto (-31), 3) ∧ decode cX6_countChannels 47 = .ok (.iload_n 1, 1) ∧ decode cX6_countChannels 48 = .ok (.ireturn, 1) := by decide +kernel
theorem dX6_countChannels_39 : decode cX6_countChannels 39 = .ok (.iadd, 1) := db_dX6_countChannels_39.1
theorem dX6_countChannels_40 : decode cX6_countChannels 40 = .ok (.istore_n 1, 1) := db_dX6_countChannels_39.2.1
theorem dX6_countChannels_41 : decode cX6_countChannels 41 = .ok (.iinc 4 1, 3) := db_dX6_countChannels_39.2.2.1
theorem dX6_countChannels_44 : decode cX6_countChannels 44 = .ok (.goto (-31), 3) := db_dX6_countChannels_39.2.2.2.1
theorem dX6_countChannels_47 : decode cX6_countChannels 47 = .ok (.iload_n 1, 1) := db_dX6_countChannels_39.2.2.2.2.1
theorem dX6_countChannels_48 : decode cX6_countChannels 48 = .ok (.ireturn, 1) := db_dX6_countChannels_39.2.2.2.2.2
theorem db_dX6_countGates_0 : decode cX6_countGates 0 = .ok (.iconst 0, 1) ∧ decode cX6_countGates 1 = .ok (.istore_n 1, 1) ∧ decode cX6_countGates 2 = .ok (.aload_n 0, 1) ∧ decode cX6_countGates 3 = .ok (.getfield 39, 3) ∧ decode cX6_countGates 6 = .ok (.astore_n 2, 1) ∧ decode cX6_countGates 7 = .ok (.aload_n 2, 1) ∧ decode cX6_countGates 8 = .ok (.arraylength, 1) ∧ decode cX6_countGates 9 = .ok (.istore_n 3, 1) := by decide +kernel
theorem dX6_countGates_0 : decode cX6_countGates 0 = .ok (.iconst 0, 1) := db_dX6_countGates_0.1
theorem dX6_countGates_1 : decode cX6_countGates 1 = .ok (.istore_n 1, 1) := db_dX6_countGates_0.2.1
theorem dX6_countGates_2 : decode cX6_countGates 2 = .ok (.aload_n 0, 1) := db_dX6_countGates_0.2.2.1
theorem dX6_countGates_3 : decode cX6_countGates 3 = .ok (.getfield 39, 3) := db_dX6_countGates_0.2.2.2.1
theorem dX6_countGates_6 : decode cX6_countGates 6 = .ok (.astore_n 2, 1) := db_dX6_countGates_0.2.2.2.2.1
theorem dX6_countGates_7 : decode cX6_countGates 7 = .ok (.aload_n 2, 1) := db_dX6_countGates_0.2.2.2.2.2.1
theorem dX6_countGates_8 : decode cX6_countGates 8 = .ok (.arraylength, 1) := db_dX6_countGates_0.2.2.2.2.2.2.1
theorem dX6_countGates_9 : decode cX6_countGates 9 = .ok (.istore_n 3, 1) := db_dX6_countGates_0.2.2.2.2.2.2.2
theorem db_dX6_countGates_10 : decode cX6_countGates 10 = .ok (.iconst 0, 1) ∧ decode cX6_countGates 11 = .ok (.istore 4, 2) ∧ decode cX6_countGates 13 = .ok (.iload 4, 2) ∧ decode cX6_countGates 15 = .ok (.iload_n 3, 1) ∧ decode cX6_countGates 16 = .ok (.if_icmp .ge 31, 3) ∧ decode cX6_countGates 19 = .ok (.aload_n 2, 1) ∧ decode cX6_countGates 20 = .ok (.iload 4, 2) ∧ decode cX6_countGates 22 = .ok (.aaload, 1) := by decide +kernel
theorem dX6_countGates_10 : decode cX6_countGates 10 = .ok (.iconst 0, 1) := db_dX6_countGates_10.1
theorem dX6_countGates_11 : decode cX6_countGates 11 = .ok (.istore 4, 2) := db_dX6_countGates_10.2.1
theorem dX6_countGates_13 : decode cX6_countGates 13 = .ok (.iload 4, 2) := db_dX6_countGates_10.2.2.1
theorem dX6_countGates_15 : decode cX6_countGates 15 = .ok (.iload_n 3, 1) := db_dX6_countGates_10.2.2.2.1
theorem dX6_countGates_16 : decode cX6_countGates 16 = .ok (.if_icmp .ge 31, 3) := db_dX6_countGates_10.2.2.2.2.1
theorem dX6_countGates_19 : decode cX6_countGates 19 = .ok (.aload_n 2, 1) := db_dX6_countGates_10.2.2.2.2.2.1
theorem dX6_countGates_20 : decode cX6_countGates 20 = .ok (.iload 4, 2) := db_dX6_countGates_10.2.2.2.2.2.2.1
theorem dX6_countGates_22 : decode cX6_countGates 22 = .ok (.aaload, 1) := db_dX6_countGates_10.2.2.2.2.2.2.2
theorem db_dX6_countGates_23 : decode cX6_countGates 23 = .ok (.astore 5, 2) ∧ decode cX6_countGates 25 = .ok (.iload_n 1, 1) ∧ decode cX6_countGates 26 = .ok (.aload 5, 2) ∧ decode cX6_countGates 28 = .ok (.getfield 227, 3) ∧ decode cX6_countGates 31 = .ok (.ifCond .eq 7, 3) ∧ decode cX6_countGates 34 = .ok (.iconst 1, 1) ∧ decode cX6_countGates 35 = .ok (.goto 4, 3) ∧ decode cX6_countGates 38 = .ok (.iconst 0, 1) := by decide +kernel
theorem dX6_countGates_23 : decode cX6_countGates 23 = .ok (.astore 5, 2) := db_dX6_countGates_23.1
theorem dX6_countGates_25 : decode cX6_countGates 25 = .ok (.iload_n 1, 1) := db_dX6_countGates_23.2.1
theorem dX6_countGates_26 : decode cX6_countGates 26 = .ok (.aload 5, 2) := db_dX6_countGates_23.2.2.1
theorem dX6_countGates_28 : decode cX6_countGates 28 = .ok (.getfield 227, 3) := db_dX6_countGates_23.2.2.2.1
theorem dX6_countGates_31 : decode cX6_countGates 31 = .ok (.ifCond .eq 7, 3) := db_dX6_countGates_23.2.2.2.2.1
theorem dX6_countGates_34 : decode cX6_countGates 34 = .ok (.iconst 1, 1) := db_dX6_countGates_23.2.2.2.2.2.1
theorem dX6_countGates_35 : decode cX6_countGates 35 = .ok (.goto 4, 3) := db_dX6_countGates_23.2.2.2.2.2.2.1
theorem dX6_countGates_38 : decode cX6_countGates 38 = .ok (.iconst 0, 1) := db_dX6_countGates_23.2.2.2.2.2.2.2
theorem db_dX6_countGates_39 : decode cX6_countGates 39 = .ok (.iadd, 1) ∧ decode cX6_countGates 40 = .ok (.istore_n 1, 1) ∧ decode cX6_countGates 41 = .ok (.iinc 4 1, 3) ∧ decode cX6_countGates 44 = .ok (.goto (-31), 3) ∧ decode cX6_countGates 47 = .ok (.iload_n 1, 1) ∧ decode cX6_countGates 48 = .ok (.ireturn, 1) := by decide +kernel
theorem dX6_countGates_39 : decode cX6_countGates 39 = .ok (.iadd, 1) := db_dX6_countGates_39.1
theorem dX6_countGates_40 : decode cX6_countGates 40 = .ok (.istore_n 1, 1) := db_dX6_countGates_39.2.1
theorem dX6_countGates_41 : decode cX6_countGates 41 = .ok (.iinc 4 1, 3) := db_dX6_countGates_39.2.2.1
theorem dX6_countGates_44 : decode cX6_countGates 44 = .ok (.goto (-31), 3) := db_dX6_countGates_39.2.2.2.1
theorem dX6_countGates_47 : decode cX6_countGates 47 = .ok (.iload_n 1, 1) := db_dX6_countGates_39.2.2.2.2.1
theorem dX6_countGates_48 : decode cX6_countGates 48 = .ok (.ireturn, 1) := db_dX6_countGates_39.2.2.2.2.2
theorem db_dX6_outside_0 : decode cX6_outside 0 = .ok (.iload_n 0, 1) ∧ decode cX6_outside 1 = .ok (.iload_n 1, 1) ∧ decode cX6_outside 2 = .ok (.if_icmp .lt 8, 3) ∧ decode cX6_outside 5 = .ok (.iload_n 0, 1) ∧ decode cX6_outside 6 = .ok (.iload_n 2, 1) ∧ decode cX6_outside 7 = .ok (.if_icmp .le 7, 3) ∧ decode cX6_outside 10 = .ok (.iconst 1, 1) ∧ decode cX6_outside 11 = .ok (.goto 4, 3) := by decide +kernel
theorem dX6_outside_0 : decode cX6_outside 0 = .ok (.iload_n 0, 1) := db_dX6_outside_0.1
theorem dX6_outside_1 : decode cX6_outside 1 = .ok (.iload_n 1, 1) := db_dX6_outside_0.2.1
theorem dX6_outside_2 : decode cX6_outside 2 = .ok (.if_icmp .lt 8, 3) := db_dX6_outside_0.2.2.1
theorem dX6_outside_5 : decode cX6_outside 5 = .ok (.iload_n 0, 1) := db_dX6_outside_0.2.2.2.1
theorem dX6_outside_6 : decode cX6_outside 6 = .ok (.iload_n 2, 1) := db_dX6_outside_0.2.2.2.2.1
theorem dX6_outside_7 : decode cX6_outside 7 = .ok (.if_icmp .le 7, 3) := db_dX6_outside_0.2.2.2.2.2.1
theorem dX6_outside_10 : decode cX6_outside 10 = .ok (.iconst 1, 1) := db_dX6_outside_0.2.2.2.2.2.2.1
theorem dX6_outside_11 : decode cX6_outside 11 = .ok (.goto 4, 3) := db_dX6_outside_0.2.2.2.2.2.2.2
theorem db_dX6_outside_14 : decode cX6_outside 14 = .ok (.iconst 0, 1) ∧ decode cX6_outside 15 = .ok (.ireturn, 1) := by decide +kernel
theorem dX6_outside_14 : decode cX6_outside 14 = .ok (.iconst 0, 1) := db_dX6_outside_14.1
theorem dX6_outside_15 : decode cX6_outside 15 = .ok (.ireturn, 1) := db_dX6_outside_14.2
theorem db_dX6_isNoSignal_0 : decode cX6_isNoSignal 0 = .ok (.iload_n 0, 1) ∧ decode cX6_isNoSignal 1 = .ok (.iconst 0, 1) ∧ decode cX6_isNoSignal 2 = .ok (.bipush 11, 2) ∧ decode cX6_isNoSignal 4 = .ok (.invokestatic 69, 3) ∧ decode cX6_isNoSignal 7 = .ok (.ireturn, 1) := by decide +kernel
theorem dX6_isNoSignal_0 : decode cX6_isNoSignal 0 = .ok (.iload_n 0, 1) := db_dX6_isNoSignal_0.1
theorem dX6_isNoSignal_1 : decode cX6_isNoSignal 1 = .ok (.iconst 0, 1) := db_dX6_isNoSignal_0.2.1
theorem dX6_isNoSignal_2 : decode cX6_isNoSignal 2 = .ok (.bipush 11, 2) := db_dX6_isNoSignal_0.2.2.1
theorem dX6_isNoSignal_4 : decode cX6_isNoSignal 4 = .ok (.invokestatic 69, 3) := db_dX6_isNoSignal_0.2.2.2.1
theorem dX6_isNoSignal_7 : decode cX6_isNoSignal 7 = .ok (.ireturn, 1) := db_dX6_isNoSignal_0.2.2.2.2
theorem db_dX6_isNoRow_0 : decode cX6_isNoRow 0 = .ok (.iload_n 0, 1) ∧ decode cX6_isNoRow 1 = .ok (.iconst 0, 1) ∧ decode cX6_isNoRow 2 = .ok (.iconst 1, 1) ∧ decode cX6_isNoRow 3 = .ok (.invokestatic 69, 3) ∧ decode cX6_isNoRow 6 = .ok (.ifCond .ne 10, 3) ∧ decode cX6_isNoRow 9 = .ok (.iload_n 1, 1) ∧ decode cX6_isNoRow 10 = .ok (.invokestatic 117, 3) ∧ decode cX6_isNoRow 13 = .ok (.ifCond .eq 7, 3) := by decide +kernel
theorem dX6_isNoRow_0 : decode cX6_isNoRow 0 = .ok (.iload_n 0, 1) := db_dX6_isNoRow_0.1
theorem dX6_isNoRow_1 : decode cX6_isNoRow 1 = .ok (.iconst 0, 1) := db_dX6_isNoRow_0.2.1
theorem dX6_isNoRow_2 : decode cX6_isNoRow 2 = .ok (.iconst 1, 1) := db_dX6_isNoRow_0.2.2.1
theorem dX6_isNoRow_3 : decode cX6_isNoRow 3 = .ok (.invokestatic 69, 3) := db_dX6_isNoRow_0.2.2.2.1
theorem dX6_isNoRow_6 : decode cX6_isNoRow 6 = .ok (.ifCond .ne 10, 3) := db_dX6_isNoRow_0.2.2.2.2.1
theorem dX6_isNoRow_9 : decode cX6_isNoRow 9 = .ok (.iload_n 1, 1) := db_dX6_isNoRow_0.2.2.2.2.2.1
theorem dX6_isNoRow_10 : decode cX6_isNoRow 10 = .ok (.invokestatic 117, 3) := db_dX6_isNoRow_0.2.2.2.2.2.2.1
theorem dX6_isNoRow_13 : decode cX6_isNoRow 13 = .ok (.ifCond .eq 7, 3) := db_dX6_isNoRow_0.2.2.2.2.2.2.2
theorem db_dX6_isNoRow_16 : decode cX6_isNoRow 16 = .ok (.iconst 1, 1) ∧ decode cX6_isNoRow 17 = .ok (.goto 4, 3) ∧ decode cX6_isNoRow 20 = .ok (.iconst 0, 1) ∧ decode cX6_isNoRow 21 = .ok (.ireturn, 1) := by decide +kernel
theorem dX6_isNoRow_16 : decode cX6_isNoRow 16 = .ok (.iconst 1, 1) := db_dX6_isNoRow_16.1
theorem dX6_isNoRow_17 : decode cX6_isNoRow 17 = .ok (.goto 4, 3) := db_dX6_isNoRow_16.2.1
theorem dX6_isNoRow_20 : decode cX6_isNoRow 20 = .ok (.iconst 0, 1) := db_dX6_isNoRow_16.2.2.1
theorem dX6_isNoRow_21 : decode cX6_isNoRow 21 = .ok (.ireturn, 1) := db_dX6_isNoRow_16.2.2.2
theorem db_dX6_isNoValue_0 : decode cX6_isNoValue 0 = .ok (.iload_n 0, 1) ∧ decode cX6_isNoValue 1 = .ok (.iconst 0, 1) ∧ decode cX6_isNoValue 2 = .ok (.sipush 256, 3) ∧ decode cX6_isNoValue 5 = .ok (.invokestatic 69, 3) ∧ decode cX6_isNoValue 8 = .ok (.ireturn, 1) := by decide +kernel
theorem dX6_isNoValue_0 : decode cX6_isNoValue 0 = .ok (.iload_n 0, 1) := db_dX6_isNoValue_0.1
theorem dX6_isNoValue_1 : decode cX6_isNoValue 1 = .ok (.iconst 0, 1) := db_dX6_isNoValue_0.2.1
theorem dX6_isNoValue_2 : decode cX6_isNoValue 2 = .ok (.sipush 256, 3) := db_dX6_isNoValue_0.2.2.1
theorem dX6_isNoValue_5 : decode cX6_isNoValue 5 = .ok (.invokestatic 69, 3) := db_dX6_isNoValue_0.2.2.2.1
theorem dX6_isNoValue_8 : decode cX6_isNoValue 8 = .ok (.ireturn, 1) := db_dX6_isNoValue_0.2.2.2.2
theorem db_dX6_agree_0 : decode cX6_agree 0 = .ok (.iload_n 0, 1) ∧ decode cX6_agree 1 = .ok (.iload_n 1, 1) ∧ decode cX6_agree 2 = .ok (.if_icmp .eq 21, 3) ∧ decode cX6_agree 5 = .ok (.iload_n 2, 1) ∧ decode cX6_agree 6 = .ok (.ifCond .eq 21, 3) ∧ decode cX6_agree 9 = .ok (.iload_n 0, 1) ∧ decode cX6_agree 10 = .ok (.sipush 256, 3) ∧ decode cX6_agree 13 = .ok (.if_icmp .eq 10, 3) := by decide +kernel
theorem dX6_agree_0 : decode cX6_agree 0 = .ok (.iload_n 0, 1) := db_dX6_agree_0.1
theorem dX6_agree_1 : decode cX6_agree 1 = .ok (.iload_n 1, 1) := db_dX6_agree_0.2.1
theorem dX6_agree_2 : decode cX6_agree 2 = .ok (.if_icmp .eq 21, 3) := db_dX6_agree_0.2.2.1
theorem dX6_agree_5 : decode cX6_agree 5 = .ok (.iload_n 2, 1) := db_dX6_agree_0.2.2.2.1
theorem dX6_agree_6 : decode cX6_agree 6 = .ok (.ifCond .eq 21, 3) := db_dX6_agree_0.2.2.2.2.1
theorem dX6_agree_9 : decode cX6_agree 9 = .ok (.iload_n 0, 1) := db_dX6_agree_0.2.2.2.2.2.1
theorem dX6_agree_10 : decode cX6_agree 10 = .ok (.sipush 256, 3) := db_dX6_agree_0.2.2.2.2.2.2.1
theorem dX6_agree_13 : decode cX6_agree 13 = .ok (.if_icmp .eq 10, 3) := db_dX6_agree_0.2.2.2.2.2.2.2
theorem db_dX6_agree_16 : decode cX6_agree 16 = .ok (.iload_n 1, 1) ∧ decode cX6_agree 17 = .ok (.sipush 256, 3) ∧ decode cX6_agree 20 = .ok (.if_icmp .ne 7, 3) ∧ decode cX6_agree 23 = .ok (.iconst 1, 1) ∧ decode cX6_agree 24 = .ok (.goto 4, 3) ∧ decode cX6_agree 27 = .ok (.iconst 0, 1) ∧ decode cX6_agree 28 = .ok (.ireturn, 1) := by decide +kernel
theorem dX6_agree_16 : decode cX6_agree 16 = .ok (.iload_n 1, 1) := db_dX6_agree_16.1
theorem dX6_agree_17 : decode cX6_agree 17 = .ok (.sipush 256, 3) := db_dX6_agree_16.2.1
theorem dX6_agree_20 : decode cX6_agree 20 = .ok (.if_icmp .ne 7, 3) := db_dX6_agree_16.2.2.1
theorem dX6_agree_23 : decode cX6_agree 23 = .ok (.iconst 1, 1) := db_dX6_agree_16.2.2.2.1
theorem dX6_agree_24 : decode cX6_agree 24 = .ok (.goto 4, 3) := db_dX6_agree_16.2.2.2.2.1
theorem dX6_agree_27 : decode cX6_agree 27 = .ok (.iconst 0, 1) := db_dX6_agree_16.2.2.2.2.2.1
theorem dX6_agree_28 : decode cX6_agree 28 = .ok (.ireturn, 1) := db_dX6_agree_16.2.2.2.2.2.2
theorem db_dX6_rowOf_0 : decode cX6_rowOf 0 = .ok (.aload_n 0, 1) ∧ decode cX6_rowOf 1 = .ok (.getfield 11, 3) ∧ decode cX6_rowOf 4 = .ok (.iload_n 1, 1) ∧ decode cX6_rowOf 5 = .ok (.bipush 12, 2) ∧ decode cX6_rowOf 7 = .ok (.imul, 1) ∧ decode cX6_rowOf 8 = .ok (.iload_n 2, 1) ∧ decode cX6_rowOf 9 = .ok (.iadd, 1) ∧ decode cX6_rowOf 10 = .ok (.aaload, 1) := by decide +kernel
theorem dX6_rowOf_0 : decode cX6_rowOf 0 = .ok (.aload_n 0, 1) := db_dX6_rowOf_0.1
theorem dX6_rowOf_1 : decode cX6_rowOf 1 = .ok (.getfield 11, 3) := db_dX6_rowOf_0.2.1
theorem dX6_rowOf_4 : decode cX6_rowOf 4 = .ok (.iload_n 1, 1) := db_dX6_rowOf_0.2.2.1
theorem dX6_rowOf_5 : decode cX6_rowOf 5 = .ok (.bipush 12, 2) := db_dX6_rowOf_0.2.2.2.1
theorem dX6_rowOf_7 : decode cX6_rowOf 7 = .ok (.imul, 1) := db_dX6_rowOf_0.2.2.2.2.1
theorem dX6_rowOf_8 : decode cX6_rowOf 8 = .ok (.iload_n 2, 1) := db_dX6_rowOf_0.2.2.2.2.2.1
theorem dX6_rowOf_9 : decode cX6_rowOf 9 = .ok (.iadd, 1) := db_dX6_rowOf_0.2.2.2.2.2.2.1
theorem dX6_rowOf_10 : decode cX6_rowOf 10 = .ok (.aaload, 1) := db_dX6_rowOf_0.2.2.2.2.2.2.2
theorem dX6_rowOf_11 : decode cX6_rowOf 11 = .ok (.areturn, 1) := by decide +kernel
theorem db_dX6_namedRow_0 : decode cX6_namedRow 0 = .ok (.iload_n 1, 1) ∧ decode cX6_namedRow 1 = .ok (.ifCond .ne 12, 3) ∧ decode cX6_namedRow 4 = .ok (.aload_n 0, 1) ∧ decode cX6_namedRow 5 = .ok (.iconst 0, 1) ∧ decode cX6_namedRow 6 = .ok (.iload_n 2, 1) ∧ decode cX6_namedRow 7 = .ok (.invokevirtual 77, 3) ∧ decode cX6_namedRow 10 = .ok (.goto 14, 3) ∧ decode cX6_namedRow 13 = .ok (.aload_n 0, 1) := by decide +kernel
theorem dX6_namedRow_0 : decode cX6_namedRow 0 = .ok (.iload_n 1, 1) := db_dX6_namedRow_0.1
theorem dX6_namedRow_1 : decode cX6_namedRow 1 = .ok (.ifCond .ne 12, 3) := db_dX6_namedRow_0.2.1
theorem dX6_namedRow_4 : decode cX6_namedRow 4 = .ok (.aload_n 0, 1) := db_dX6_namedRow_0.2.2.1
theorem dX6_namedRow_5 : decode cX6_namedRow 5 = .ok (.iconst 0, 1) := db_dX6_namedRow_0.2.2.2.1
theorem dX6_namedRow_6 : decode cX6_namedRow 6 = .ok (.iload_n 2, 1) := db_dX6_namedRow_0.2.2.2.2.1
theorem dX6_namedRow_7 : decode cX6_namedRow 7 = .ok (.invokevirtual 77, 3) := db_dX6_namedRow_0.2.2.2.2.2.1
theorem dX6_namedRow_10 : decode cX6_namedRow 10 = .ok (.goto 14, 3) := db_dX6_namedRow_0.2.2.2.2.2.2.1
theorem dX6_namedRow_13 : decode cX6_namedRow 13 = .ok (.aload_n 0, 1) := db_dX6_namedRow_0.2.2.2.2.2.2.2
theorem db_dX6_namedRow_14 : decode cX6_namedRow 14 = .ok (.iconst 1, 1) ∧ decode cX6_namedRow 15 = .ok (.aload_n 0, 1) ∧ decode cX6_namedRow 16 = .ok (.getfield 15, 3) ∧ decode cX6_namedRow 19 = .ok (.iload_n 2, 1) ∧ decode cX6_namedRow 20 = .ok (.iaload, 1) ∧ decode cX6_namedRow 21 = .ok (.invokevirtual 77, 3) ∧ decode cX6_namedRow 24 = .ok (.areturn, 1) := by decide +kernel
theorem dX6_namedRow_14 : decode cX6_namedRow 14 = .ok (.iconst 1, 1) := db_dX6_namedRow_14.1
theorem dX6_namedRow_15 : decode cX6_namedRow 15 = .ok (.aload_n 0, 1) := db_dX6_namedRow_14.2.1
theorem dX6_namedRow_16 : decode cX6_namedRow 16 = .ok (.getfield 15, 3) := db_dX6_namedRow_14.2.2.1
theorem dX6_namedRow_19 : decode cX6_namedRow 19 = .ok (.iload_n 2, 1) := db_dX6_namedRow_14.2.2.2.1
theorem dX6_namedRow_20 : decode cX6_namedRow 20 = .ok (.iaload, 1) := db_dX6_namedRow_14.2.2.2.2.1
theorem dX6_namedRow_21 : decode cX6_namedRow 21 = .ok (.invokevirtual 77, 3) := db_dX6_namedRow_14.2.2.2.2.2.1
theorem dX6_namedRow_24 : decode cX6_namedRow 24 = .ok (.areturn, 1) := db_dX6_namedRow_14.2.2.2.2.2.2
