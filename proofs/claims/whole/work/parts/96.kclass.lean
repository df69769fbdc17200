theorem dX0_init_0 : decode cX0_init 0 = .ok (.aload_n 0, 1) := by decide +kernel
theorem dX0_init_1 : decode cX0_init 1 = .ok (.invokespecial 3, 3) := by decide +kernel
theorem dX0_init_4 : decode cX0_init 4 = .ok (.aload_n 0, 1) := by decide +kernel
theorem dX0_init_5 : decode cX0_init 5 = .ok (.bipush 20, 2) := by decide +kernel
theorem dX0_init_7 : decode cX0_init 7 = .ok (.newarray .int, 2) := by decide +kernel
theorem dX0_init_9 : decode cX0_init 9 = .ok (.putfield 9, 3) := by decide +kernel
theorem dX0_init_12 : decode cX0_init 12 = .ok (.return_, 1) := by decide +kernel
theorem dX10_init_0 : decode cX10_init 0 = .ok (.aload_n 0, 1) := by decide +kernel
theorem dX10_init_1 : decode cX10_init 1 = .ok (.invokespecial 3, 3) := by decide +kernel
theorem dX10_init_4 : decode cX10_init 4 = .ok (.aload_n 0, 1) := by decide +kernel
theorem dX10_init_5 : decode cX10_init 5 = .ok (.bipush 24, 2) := by decide +kernel
theorem dX10_init_7 : decode cX10_init 7 = .ok (.newarray .int, 2) := by decide +kernel
theorem dX10_init_9 : decode cX10_init 9 = .ok (.putfield 9, 3) := by decide +kernel
theorem dX10_init_12 : decode cX10_init 12 = .ok (.aload_n 0, 1) := by decide +kernel
theorem dX10_init_13 : decode cX10_init 13 = .ok (.bipush 30, 2) := by decide +kernel
theorem dX10_init_15 : decode cX10_init 15 = .ok (.newarray .int, 2) := by decide +kernel
theorem dX10_init_17 : decode cX10_init 17 = .ok (.putfield 15, 3) := by decide +kernel
theorem dX10_init_20 : decode cX10_init 20 = .ok (.aload_n 0, 1) := by decide +kernel
theorem dX10_init_21 : decode cX10_init 21 = .ok (.bipush 30, 2) := by decide +kernel
theorem dX10_init_23 : decode cX10_init 23 = .ok (.newarray .int, 2) := by decide +kernel
theorem dX10_init_25 : decode cX10_init 25 = .ok (.putfield 18, 3) := by decide +kernel
theorem dX10_init_28 : decode cX10_init 28 = .ok (.aload_n 0, 1) := by decide +kernel
theorem dX10_init_29 : decode cX10_init 29 = .ok (.bipush 30, 2) := by decide +kernel
theorem dX10_init_31 : decode cX10_init 31 = .ok (.newarray .int, 2) := by decide +kernel
theorem dX10_init_33 : decode cX10_init 33 = .ok (.putfield 21, 3) := by decide +kernel
theorem dX10_init_36 : decode cX10_init 36 = .ok (.aload_n 0, 1) := by decide +kernel
theorem dX10_init_37 : decode cX10_init 37 = .ok (.bipush 30, 2) := by decide +kernel
theorem dX10_init_39 : decode cX10_init 39 = .ok (.newarray .int, 2) := by decide +kernel
theorem dX10_init_41 : decode cX10_init 41 = .ok (.putfield 24, 3) := by decide +kernel
theorem dX10_init_44 : decode cX10_init 44 = .ok (.return_, 1) := by decide +kernel
theorem dX11_init_0 : decode cX11_init 0 = .ok (.aload_n 0, 1) := by decide +kernel
theorem dX11_init_1 : decode cX11_init 1 = .ok (.invokespecial 3, 3) := by decide +kernel
theorem dX11_init_4 : decode cX11_init 4 = .ok (.aload_n 0, 1) := by decide +kernel
theorem dX11_init_5 : decode cX11_init 5 = .ok (.bipush 8, 2) := by decide +kernel
theorem dX11_init_7 : decode cX11_init 7 = .ok (.newarray .int, 2) := by decide +kernel
theorem dX11_init_9 : decode cX11_init 9 = .ok (.putfield 11, 3) := by decide +kernel
theorem dX11_init_12 : decode cX11_init 12 = .ok (.aload_n 0, 1) := by decide +kernel
theorem dX11_init_13 : decode cX11_init 13 = .ok (.bipush 8, 2) := by decide +kernel
theorem dX11_init_15 : decode cX11_init 15 = .ok (.newarray .int, 2) := by decide +kernel
theorem dX11_init_17 : decode cX11_init 17 = .ok (.putfield 15, 3) := by decide +kernel
theorem dX11_init_20 : decode cX11_init 20 = .ok (.aload_n 0, 1) := by decide +kernel
theorem dX11_init_21 : decode cX11_init 21 = .ok (.bipush 60, 2) := by decide +kernel
theorem dX11_init_23 : decode cX11_init 23 = .ok (.anewarray 18, 3) := by decide +kernel
theorem dX11_init_26 : decode cX11_init 26 = .ok (.putfield 20, 3) := by decide +kernel
theorem dX11_init_29 : decode cX11_init 29 = .ok (.aload_n 0, 1) := by decide +kernel
theorem dX11_init_30 : decode cX11_init 30 = .ok (.bipush 30, 2) := by decide +kernel
theorem dX11_init_32 : decode cX11_init 32 = .ok (.anewarray 24, 3) := by decide +kernel
theorem dX11_init_35 : decode cX11_init 35 = .ok (.putfield 26, 3) := by decide +kernel
theorem dX11_init_38 : decode cX11_init 38 = .ok (.aload_n 0, 1) := by decide +kernel
theorem dX11_init_39 : decode cX11_init 39 = .ok (.new 30, 3) := by decide +kernel
theorem dX11_init_42 : decode cX11_init 42 = .ok (.dup, 1) := by decide +kernel
theorem dX11_init_43 : decode cX11_init 43 = .ok (.invokespecial 32, 3) := by decide +kernel
theorem dX11_init_46 : decode cX11_init 46 = .ok (.putfield 33, 3) := by decide +kernel
theorem dX11_init_49 : decode cX11_init 49 = .ok (.aload_n 0, 1) := by decide +kernel
theorem dX11_init_50 : decode cX11_init 50 = .ok (.new 37, 3) := by decide +kernel
theorem dX11_init_53 : decode cX11_init 53 = .ok (.dup, 1) := by decide +kernel
theorem dX11_init_54 : decode cX11_init 54 = .ok (.invokespecial 39, 3) := by decide +kernel
theorem dX11_init_57 : decode cX11_init 57 = .ok (.putfield 40, 3) := by decide +kernel
theorem dX11_init_60 : decode cX11_init 60 = .ok (.aload_n 0, 1) := by decide +kernel
theorem dX11_init_61 : decode cX11_init 61 = .ok (.new 44, 3) := by decide +kernel
theorem dX11_init_64 : decode cX11_init 64 = .ok (.dup, 1) := by decide +kernel
theorem dX11_init_65 : decode cX11_init 65 = .ok (.invokespecial 46, 3) := by decide +kernel
theorem dX11_init_68 : decode cX11_init 68 = .ok (.putfield 47, 3) := by decide +kernel
theorem dX11_init_71 : decode cX11_init 71 = .ok (.aload_n 0, 1) := by decide +kernel
theorem dX11_init_72 : decode cX11_init 72 = .ok (.bipush 10, 2) := by decide +kernel
theorem dX11_init_74 : decode cX11_init 74 = .ok (.anewarray 51, 3) := by decide +kernel
theorem dX11_init_77 : decode cX11_init 77 = .ok (.putfield 53, 3) := by decide +kernel
theorem dX11_init_80 : decode cX11_init 80 = .ok (.aload_n 0, 1) := by decide +kernel
theorem dX11_init_81 : decode cX11_init 81 = .ok (.new 57, 3) := by decide +kernel
theorem dX11_init_84 : decode cX11_init 84 = .ok (.dup, 1) := by decide +kernel
theorem dX11_init_85 : decode cX11_init 85 = .ok (.invokespecial 59, 3) := by decide +kernel
theorem dX11_init_88 : decode cX11_init 88 = .ok (.putfield 60, 3) := by decide +kernel
theorem dX11_init_91 : decode cX11_init 91 = .ok (.aload_n 0, 1) := by decide +kernel
theorem dX11_init_92 : decode cX11_init 92 = .ok (.new 64, 3) := by decide +kernel
theorem dX11_init_95 : decode cX11_init 95 = .ok (.dup, 1) := by decide +kernel
theorem dX11_init_96 : decode cX11_init 96 = .ok (.invokespecial 66, 3) := by decide +kernel
theorem dX11_init_99 : decode cX11_init 99 = .ok (.putfield 67, 3) := by decide +kernel
theorem dX11_init_102 : decode cX11_init 102 = .ok (.aload_n 0, 1) := by decide +kernel
theorem dX11_init_103 : decode cX11_init 103 = .ok (.new 71, 3) := by decide +kernel
theorem dX11_init_106 : decode cX11_init 106 = .ok (.dup, 1) := by decide +kernel
theorem dX11_init_107 : decode cX11_init 107 = .ok (.invokespecial 73, 3) := by decide +kernel
theorem dX11_init_110 : decode cX11_init 110 = .ok (.putfield 74, 3) := by decide +kernel
theorem dX11_init_113 : decode cX11_init 113 = .ok (.aload_n 0, 1) := by decide +kernel
theorem dX11_init_114 : decode cX11_init 114 = .ok (.bipush 6, 2) := by decide +kernel
theorem dX11_init_116 : decode cX11_init 116 = .ok (.anewarray 78, 3) := by decide +kernel
theorem dX11_init_119 : decode cX11_init 119 = .ok (.putfield 80, 3) := by decide +kernel
theorem dX11_init_122 : decode cX11_init 122 = .ok (.iconst 0, 1) := by decide +kernel
theorem dX11_init_123 : decode cX11_init 123 = .ok (.istore_n 1, 1) := by decide +kernel
theorem dX11_init_124 : decode cX11_init 124 = .ok (.iload_n 1, 1) := by decide +kernel
theorem dX11_init_125 : decode cX11_init 125 = .ok (.bipush 8, 2) := by decide +kernel
theorem dX11_init_127 : decode cX11_init 127 = .ok (.if_icmp .ge 25, 3) := by decide +kernel
theorem dX11_init_130 : decode cX11_init 130 = .ok (.aload_n 0, 1) := by decide +kernel
theorem dX11_init_131 : decode cX11_init 131 = .ok (.getfield 11, 3) := by decide +kernel
theorem dX11_init_134 : decode cX11_init 134 = .ok (.iload_n 1, 1) := by decide +kernel
theorem dX11_init_135 : decode cX11_init 135 = .ok (.bipush 7, 2) := by decide +kernel
theorem dX11_init_137 : decode cX11_init 137 = .ok (.iastore, 1) := by decide +kernel
theorem dX11_init_138 : decode cX11_init 138 = .ok (.aload_n 0, 1) := by decide +kernel
theorem dX11_init_139 : decode cX11_init 139 = .ok (.getfield 15, 3) := by decide +kernel
theorem dX11_init_142 : decode cX11_init 142 = .ok (.iload_n 1, 1) := by decide +kernel
theorem dX11_init_143 : decode cX11_init 143 = .ok (.bipush 14, 2) := by decide +kernel
theorem dX11_init_145 : decode cX11_init 145 = .ok (.iastore, 1) := by decide +kernel
theorem dX11_init_146 : decode cX11_init 146 = .ok (.iinc 1 1, 3) := by decide +kernel
theorem dX11_init_149 : decode cX11_init 149 = .ok (.goto (-25), 3) := by decide +kernel
theorem dX11_init_152 : decode cX11_init 152 = .ok (.iconst 0, 1) := by decide +kernel
theorem dX11_init_153 : decode cX11_init 153 = .ok (.istore_n 1, 1) := by decide +kernel
theorem dX11_init_154 : decode cX11_init 154 = .ok (.iload_n 1, 1) := by decide +kernel
theorem dX11_init_155 : decode cX11_init 155 = .ok (.bipush 30, 2) := by decide +kernel
theorem dX11_init_157 : decode cX11_init 157 = .ok (.if_icmp .ge 23, 3) := by decide +kernel
theorem dX11_init_160 : decode cX11_init 160 = .ok (.aload_n 0, 1) := by decide +kernel
theorem dX11_init_161 : decode cX11_init 161 = .ok (.getfield 26, 3) := by decide +kernel
theorem dX11_init_164 : decode cX11_init 164 = .ok (.iload_n 1, 1) := by decide +kernel
theorem dX11_init_165 : decode cX11_init 165 = .ok (.new 24, 3) := by decide +kernel
theorem dX11_init_168 : decode cX11_init 168 = .ok (.dup, 1) := by decide +kernel
theorem dX11_init_169 : decode cX11_init 169 = .ok (.iload_n 1, 1) := by decide +kernel
theorem dX11_init_170 : decode cX11_init 170 = .ok (.invokespecial 84, 3) := by decide +kernel
theorem dX11_init_173 : decode cX11_init 173 = .ok (.aastore, 1) := by decide +kernel
theorem dX11_init_174 : decode cX11_init 174 = .ok (.iinc 1 1, 3) := by decide +kernel
theorem dX11_init_177 : decode cX11_init 177 = .ok (.goto (-23), 3) := by decide +kernel
theorem dX11_init_180 : decode cX11_init 180 = .ok (.iconst 0, 1) := by decide +kernel
theorem dX11_init_181 : decode cX11_init 181 = .ok (.istore_n 1, 1) := by decide +kernel
theorem dX11_init_182 : decode cX11_init 182 = .ok (.iload_n 1, 1) := by decide +kernel
theorem dX11_init_183 : decode cX11_init 183 = .ok (.bipush 6, 2) := by decide +kernel
theorem dX11_init_185 : decode cX11_init 185 = .ok (.if_icmp .ge 22, 3) := by decide +kernel
theorem dX11_init_188 : decode cX11_init 188 = .ok (.aload_n 0, 1) := by decide +kernel
theorem dX11_init_189 : decode cX11_init 189 = .ok (.getfield 80, 3) := by decide +kernel
theorem dX11_init_192 : decode cX11_init 192 = .ok (.iload_n 1, 1) := by decide +kernel
theorem dX11_init_193 : decode cX11_init 193 = .ok (.new 78, 3) := by decide +kernel
theorem dX11_init_196 : decode cX11_init 196 = .ok (.dup, 1) := by decide +kernel
theorem dX11_init_197 : decode cX11_init 197 = .ok (.invokespecial 87, 3) := by decide +kernel
theorem dX11_init_200 : decode cX11_init 200 = .ok (.aastore, 1) := by decide +kernel
theorem dX11_init_201 : decode cX11_init 201 = .ok (.iinc 1 1, 3) := by decide +kernel
theorem dX11_init_204 : decode cX11_init 204 = .ok (.goto (-22), 3) := by decide +kernel
theorem dX11_init_207 : decode cX11_init 207 = .ok (.return_, 1) := by decide +kernel
theorem dX1_init_0 : decode cX1_init 0 = .ok (.aload_n 0, 1) := by decide +kernel
theorem dX1_init_1 : decode cX1_init 1 = .ok (.invokespecial 3, 3) := by decide +kernel
theorem dX1_init_4 : decode cX1_init 4 = .ok (.aload_n 0, 1) := by decide +kernel
theorem dX1_init_5 : decode cX1_init 5 = .ok (.iconst (-1), 1) := by decide +kernel
theorem dX1_init_6 : decode cX1_init 6 = .ok (.putfield 9, 3) := by decide +kernel
theorem dX1_init_9 : decode cX1_init 9 = .ok (.aload_n 0, 1) := by decide +kernel
theorem dX1_init_10 : decode cX1_init 10 = .ok (.bipush 6, 2) := by decide +kernel
theorem dX1_init_12 : decode cX1_init 12 = .ok (.anewarray 15, 3) := by decide +kernel
theorem dX1_init_15 : decode cX1_init 15 = .ok (.putfield 17, 3) := by decide +kernel
theorem dX1_init_18 : decode cX1_init 18 = .ok (.aload_n 0, 1) := by decide +kernel
theorem dX1_init_19 : decode cX1_init 19 = .ok (.bipush 24, 2) := by decide +kernel
theorem dX1_init_21 : decode cX1_init 21 = .ok (.anewarray 15, 3) := by decide +kernel
theorem dX1_init_24 : decode cX1_init 24 = .ok (.putfield 21, 3) := by decide +kernel
theorem dX1_init_27 : decode cX1_init 27 = .ok (.aload_n 0, 1) := by decide +kernel
theorem dX1_init_28 : decode cX1_init 28 = .ok (.iload_n 1, 1) := by decide +kernel
theorem dX1_init_29 : decode cX1_init 29 = .ok (.putfield 24, 3) := by decide +kernel
theorem dX1_init_32 : decode cX1_init 32 = .ok (.return_, 1) := by decide +kernel
theorem dX3_init_0 : decode cX3_init 0 = .ok (.aload_n 0, 1) := by decide +kernel
theorem dX3_init_1 : decode cX3_init 1 = .ok (.invokespecial 3, 3) := by decide +kernel
theorem dX3_init_4 : decode cX3_init 4 = .ok (.aload_n 0, 1) := by decide +kernel
theorem dX3_init_5 : decode cX3_init 5 = .ok (.bipush 10, 2) := by decide +kernel
theorem dX3_init_7 : decode cX3_init 7 = .ok (.anewarray 9, 3) := by decide +kernel
theorem dX3_init_10 : decode cX3_init 10 = .ok (.putfield 11, 3) := by decide +kernel
theorem dX3_init_13 : decode cX3_init 13 = .ok (.aload_n 0, 1) := by decide +kernel
theorem dX3_init_14 : decode cX3_init 14 = .ok (.bipush 6, 2) := by decide +kernel
theorem dX3_init_16 : decode cX3_init 16 = .ok (.newarray .int, 2) := by decide +kernel
theorem dX3_init_18 : decode cX3_init 18 = .ok (.putfield 17, 3) := by decide +kernel
theorem dX3_init_21 : decode cX3_init 21 = .ok (.iconst 0, 1) := by decide +kernel
theorem dX3_init_22 : decode cX3_init 22 = .ok (.istore_n 1, 1) := by decide +kernel
theorem dX3_init_23 : decode cX3_init 23 = .ok (.iload_n 1, 1) := by decide +kernel
theorem dX3_init_24 : decode cX3_init 24 = .ok (.bipush 10, 2) := by decide +kernel
theorem dX3_init_26 : decode cX3_init 26 = .ok (.if_icmp .ge 22, 3) := by decide +kernel
theorem dX3_init_29 : decode cX3_init 29 = .ok (.aload_n 0, 1) := by decide +kernel
theorem dX3_init_30 : decode cX3_init 30 = .ok (.getfield 11, 3) := by decide +kernel
theorem dX3_init_33 : decode cX3_init 33 = .ok (.iload_n 1, 1) := by decide +kernel
theorem dX3_init_34 : decode cX3_init 34 = .ok (.new 9, 3) := by decide +kernel
theorem dX3_init_37 : decode cX3_init 37 = .ok (.dup, 1) := by decide +kernel
theorem dX3_init_38 : decode cX3_init 38 = .ok (.invokespecial 21, 3) := by decide +kernel
theorem dX3_init_41 : decode cX3_init 41 = .ok (.aastore, 1) := by decide +kernel
theorem dX3_init_42 : decode cX3_init 42 = .ok (.iinc 1 1, 3) := by decide +kernel
theorem dX3_init_45 : decode cX3_init 45 = .ok (.goto (-22), 3) := by decide +kernel
theorem dX3_init_48 : decode cX3_init 48 = .ok (.return_, 1) := by decide +kernel
theorem dX5_init_0 : decode cX5_init 0 = .ok (.aload_n 0, 1) := by decide +kernel
theorem dX5_init_1 : decode cX5_init 1 = .ok (.invokespecial 3, 3) := by decide +kernel
theorem dX5_init_4 : decode cX5_init 4 = .ok (.aload_n 0, 1) := by decide +kernel
theorem dX5_init_5 : decode cX5_init 5 = .ok (.bipush 8, 2) := by decide +kernel
theorem dX5_init_7 : decode cX5_init 7 = .ok (.newarray .int, 2) := by decide +kernel
theorem dX5_init_9 : decode cX5_init 9 = .ok (.putfield 9, 3) := by decide +kernel
theorem dX5_init_12 : decode cX5_init 12 = .ok (.aload_n 0, 1) := by decide +kernel
theorem dX5_init_13 : decode cX5_init 13 = .ok (.bipush 8, 2) := by decide +kernel
theorem dX5_init_15 : decode cX5_init 15 = .ok (.newarray .int, 2) := by decide +kernel
theorem dX5_init_17 : decode cX5_init 17 = .ok (.putfield 15, 3) := by decide +kernel
theorem dX5_init_20 : decode cX5_init 20 = .ok (.aload_n 0, 1) := by decide +kernel
theorem dX5_init_21 : decode cX5_init 21 = .ok (.bipush 8, 2) := by decide +kernel
theorem dX5_init_23 : decode cX5_init 23 = .ok (.newarray .int, 2) := by decide +kernel
theorem dX5_init_25 : decode cX5_init 25 = .ok (.putfield 18, 3) := by decide +kernel
theorem dX5_init_28 : decode cX5_init 28 = .ok (.return_, 1) := by decide +kernel
theorem dX6_init_0 : decode cX6_init 0 = .ok (.aload_n 0, 1) := by decide +kernel
theorem dX6_init_1 : decode cX6_init 1 = .ok (.invokespecial 3, 3) := by decide +kernel
theorem dX6_init_4 : decode cX6_init 4 = .ok (.aload_n 0, 1) := by decide +kernel
theorem dX6_init_5 : decode cX6_init 5 = .ok (.bipush 20, 2) := by decide +kernel
theorem dX6_init_7 : decode cX6_init 7 = .ok (.newarray .int, 2) := by decide +kernel
theorem dX6_init_9 : decode cX6_init 9 = .ok (.putfield 9, 3) := by decide +kernel
theorem dX6_init_12 : decode cX6_init 12 = .ok (.aload_n 0, 1) := by decide +kernel
theorem dX6_init_13 : decode cX6_init 13 = .ok (.bipush 20, 2) := by decide +kernel
theorem dX6_init_15 : decode cX6_init 15 = .ok (.newarray .int, 2) := by decide +kernel
theorem dX6_init_17 : decode cX6_init 17 = .ok (.putfield 15, 3) := by decide +kernel
theorem dX6_init_20 : decode cX6_init 20 = .ok (.aload_n 0, 1) := by decide +kernel
theorem dX6_init_21 : decode cX6_init 21 = .ok (.bipush 20, 2) := by decide +kernel
theorem dX6_init_23 : decode cX6_init 23 = .ok (.newarray .int, 2) := by decide +kernel
theorem dX6_init_25 : decode cX6_init 25 = .ok (.putfield 18, 3) := by decide +kernel
theorem dX6_init_28 : decode cX6_init 28 = .ok (.aload_n 0, 1) := by decide +kernel
theorem dX6_init_29 : decode cX6_init 29 = .ok (.bipush 20, 2) := by decide +kernel
theorem dX6_init_31 : decode cX6_init 31 = .ok (.newarray .int, 2) := by decide +kernel
theorem dX6_init_33 : decode cX6_init 33 = .ok (.putfield 21, 3) := by decide +kernel
theorem dX6_init_36 : decode cX6_init 36 = .ok (.aload_n 0, 1) := by decide +kernel
theorem dX6_init_37 : decode cX6_init 37 = .ok (.bipush 8, 2) := by decide +kernel
theorem dX6_init_39 : decode cX6_init 39 = .ok (.newarray .int, 2) := by decide +kernel
theorem dX6_init_41 : decode cX6_init 41 = .ok (.putfield 24, 3) := by decide +kernel
theorem dX6_init_44 : decode cX6_init 44 = .ok (.aload_n 0, 1) := by decide +kernel
theorem dX6_init_45 : decode cX6_init 45 = .ok (.bipush 8, 2) := by decide +kernel
theorem dX6_init_47 : decode cX6_init 47 = .ok (.newarray .int, 2) := by decide +kernel
theorem dX6_init_49 : decode cX6_init 49 = .ok (.putfield 27, 3) := by decide +kernel
theorem dX6_init_52 : decode cX6_init 52 = .ok (.aload_n 0, 1) := by decide +kernel
theorem dX6_init_53 : decode cX6_init 53 = .ok (.bipush 8, 2) := by decide +kernel
theorem dX6_init_55 : decode cX6_init 55 = .ok (.newarray .int, 2) := by decide +kernel
theorem dX6_init_57 : decode cX6_init 57 = .ok (.putfield 30, 3) := by decide +kernel
theorem dX6_init_60 : decode cX6_init 60 = .ok (.aload_n 0, 1) := by decide +kernel
theorem dX6_init_61 : decode cX6_init 61 = .ok (.bipush 8, 2) := by decide +kernel
theorem dX6_init_63 : decode cX6_init 63 = .ok (.newarray .int, 2) := by decide +kernel
theorem dX6_init_65 : decode cX6_init 65 = .ok (.putfield 33, 3) := by decide +kernel
theorem dX6_init_68 : decode cX6_init 68 = .ok (.return_, 1) := by decide +kernel
theorem dX7_init_0 : decode cX7_init 0 = .ok (.aload_n 0, 1) := by decide +kernel
theorem dX7_init_1 : decode cX7_init 1 = .ok (.invokespecial 3, 3) := by decide +kernel
theorem dX7_init_4 : decode cX7_init 4 = .ok (.aload_n 0, 1) := by decide +kernel
theorem dX7_init_5 : decode cX7_init 5 = .ok (.bipush 100, 2) := by decide +kernel
theorem dX7_init_7 : decode cX7_init 7 = .ok (.newarray .int, 2) := by decide +kernel
theorem dX7_init_9 : decode cX7_init 9 = .ok (.putfield 9, 3) := by decide +kernel
theorem dX7_init_12 : decode cX7_init 12 = .ok (.return_, 1) := by decide +kernel
theorem dX8_init_0 : decode cX8_init 0 = .ok (.aload_n 0, 1) := by decide +kernel
theorem dX8_init_1 : decode cX8_init 1 = .ok (.invokespecial 3, 3) := by decide +kernel
theorem dX8_init_4 : decode cX8_init 4 = .ok (.aload_n 0, 1) := by decide +kernel
theorem dX8_init_5 : decode cX8_init 5 = .ok (.iconst (-1), 1) := by decide +kernel
theorem dX8_init_6 : decode cX8_init 6 = .ok (.putfield 9, 3) := by decide +kernel
theorem dX8_init_9 : decode cX8_init 9 = .ok (.aload_n 0, 1) := by decide +kernel
theorem dX8_init_10 : decode cX8_init 10 = .ok (.bipush 60, 2) := by decide +kernel
theorem dX8_init_12 : decode cX8_init 12 = .ok (.newarray .long, 2) := by decide +kernel
theorem dX8_init_14 : decode cX8_init 14 = .ok (.putfield 15, 3) := by decide +kernel
theorem dX8_init_17 : decode cX8_init 17 = .ok (.return_, 1) := by decide +kernel
theorem dX9_init_0 : decode cX9_init 0 = .ok (.aload_n 0, 1) := by decide +kernel
theorem dX9_init_1 : decode cX9_init 1 = .ok (.invokespecial 3, 3) := by decide +kernel
theorem dX9_init_4 : decode cX9_init 4 = .ok (.aload_n 0, 1) := by decide +kernel
theorem dX9_init_5 : decode cX9_init 5 = .ok (.bipush 8, 2) := by decide +kernel
theorem dX9_init_7 : decode cX9_init 7 = .ok (.newarray .int, 2) := by decide +kernel
theorem dX9_init_9 : decode cX9_init 9 = .ok (.putfield 9, 3) := by decide +kernel
theorem dX9_init_12 : decode cX9_init 12 = .ok (.aload_n 0, 1) := by decide +kernel
theorem dX9_init_13 : decode cX9_init 13 = .ok (.bipush 8, 2) := by decide +kernel
theorem dX9_init_15 : decode cX9_init 15 = .ok (.newarray .int, 2) := by decide +kernel
theorem dX9_init_17 : decode cX9_init 17 = .ok (.putfield 15, 3) := by decide +kernel
theorem dX9_init_20 : decode cX9_init 20 = .ok (.aload_n 0, 1) := by decide +kernel
theorem dX9_init_21 : decode cX9_init 21 = .ok (.bipush 100, 2) := by decide +kernel
theorem dX9_init_23 : decode cX9_init 23 = .ok (.newarray .int, 2) := by decide +kernel
theorem dX9_init_25 : decode cX9_init 25 = .ok (.putfield 18, 3) := by decide +kernel
theorem dX9_init_28 : decode cX9_init 28 = .ok (.return_, 1) := by decide +kernel
def q_C0 : Mem := (fun _ _ _ => 0, fun _ _ _ => 0, fun r x k => if r = 997 then pC x k else 0)
theorem zl_C0 : Zl q_C0 := fun _ _ _ => rfl
theorem zi_C0 : Zi q_C0 := fun _ _ _ => rfl
def q_EC_1 : Mem := sN q_C0 0
theorem zl_EC_1 : Zl q_EC_1 := zl_C0.n
theorem zi_EC_1 : Zi q_EC_1 := zi_C0.n
theorem b_EC_1 : 0 = gR q_C0 999 0 0 := by decide +kernel
theorem a_EC_1 : gR q_C0 997 0 0 = gR q_C0 998 0 0 := by decide +kernel
def q_X11_init_1 : Mem := sN q_EC_1 1
theorem zl_X11_init_1 : Zl q_X11_init_1 := zl_EC_1.n
theorem zi_X11_init_1 : Zi q_X11_init_1 := zi_EC_1.n
theorem b_X11_init_1 : 0 = gR q_EC_1 999 1 0 := by decide +kernel
theorem a_X11_init_1 : gR q_EC_1 997 1 0 = gR q_EC_1 998 0 0 := by decide +kernel
theorem h_X11_init_1 : 0 < gR q_X11_init_1 999 0 0 := by decide +kernel
def q_X11_init_2 : Mem := sR q_X11_init_1 0 0 1 (0 + 1)
theorem zl_X11_init_2 : Zl q_X11_init_2 := zl_X11_init_1.r
theorem zi_X11_init_2 : Zi q_X11_init_2 := zi_X11_init_1.r
def q_X11_init_3 : Mem := sN q_X11_init_2 2
theorem zl_X11_init_3 : Zl q_X11_init_3 := zl_X11_init_2.n
theorem zi_X11_init_3 : Zi q_X11_init_3 := zi_X11_init_2.n
theorem b_X11_init_3 : 0 = gR q_X11_init_2 999 2 0 := by decide +kernel
theorem a_X11_init_3 : gR q_X11_init_2 997 2 0 = gR q_X11_init_2 998 0 0 := by decide +kernel
theorem h_X11_init_2 : 0 < gR q_X11_init_3 999 0 0 := by decide +kernel
def q_X11_init_4 : Mem := sR q_X11_init_3 0 0 2 (0 + 1)
theorem zl_X11_init_4 : Zl q_X11_init_4 := zl_X11_init_3.r
theorem zi_X11_init_4 : Zi q_X11_init_4 := zi_X11_init_3.r
def q_X11_init_5 : Mem := sN q_X11_init_4 3
theorem zl_X11_init_5 : Zl q_X11_init_5 := zl_X11_init_4.n
theorem zi_X11_init_5 : Zi q_X11_init_5 := zi_X11_init_4.n
theorem b_X11_init_5 : 0 = gR q_X11_init_4 999 3 0 := by decide +kernel
theorem a_X11_init_5 : gR q_X11_init_4 997 3 0 = gR q_X11_init_4 998 0 0 := by decide +kernel
theorem h_X11_init_3 : 0 < gR q_X11_init_5 999 0 0 := by decide +kernel
def q_X11_init_6 : Mem := sR q_X11_init_5 0 0 3 (0 + 1)
theorem zl_X11_init_6 : Zl q_X11_init_6 := zl_X11_init_5.r
theorem zi_X11_init_6 : Zi q_X11_init_6 := zi_X11_init_5.r
def q_X11_init_7 : Mem := sN q_X11_init_6 4
theorem zl_X11_init_7 : Zl q_X11_init_7 := zl_X11_init_6.n
theorem zi_X11_init_7 : Zi q_X11_init_7 := zi_X11_init_6.n
theorem b_X11_init_7 : 0 = gR q_X11_init_6 999 4 0 := by decide +kernel
theorem a_X11_init_7 : gR q_X11_init_6 997 4 0 = gR q_X11_init_6 998 0 0 := by decide +kernel
theorem h_X11_init_4 : 0 < gR q_X11_init_7 999 0 0 := by decide +kernel
def q_X11_init_8 : Mem := sR q_X11_init_7 0 0 5 (0 + 1)
theorem zl_X11_init_8 : Zl q_X11_init_8 := zl_X11_init_7.r
theorem zi_X11_init_8 : Zi q_X11_init_8 := zi_X11_init_7.r
def q_X11_init_9 : Mem := sN q_X11_init_8 5
theorem zl_X11_init_9 : Zl q_X11_init_9 := zl_X11_init_8.n
theorem zi_X11_init_9 : Zi q_X11_init_9 := zi_X11_init_8.n
theorem b_X11_init_9 : 0 = gR q_X11_init_8 999 5 0 := by decide +kernel
theorem a_X11_init_9 : gR q_X11_init_8 997 5 0 = gR q_X11_init_8 998 0 0 := by decide +kernel
def q_X7_init_1 : Mem := sN q_X11_init_9 16
theorem zl_X7_init_1 : Zl q_X7_init_1 := zl_X11_init_9.n
theorem zi_X7_init_1 : Zi q_X7_init_1 := zi_X11_init_9.n
theorem b_X7_init_1 : 0 = gR q_X11_init_9 999 16 0 := by decide +kernel
theorem a_X7_init_1 : gR q_X11_init_9 997 16 0 = gR q_X11_init_9 998 0 0 := by decide +kernel
theorem h_X7_init_5 : 0 < gR q_X7_init_1 999 5 0 := by decide +kernel
def q_X7_init_2 : Mem := sR q_X7_init_1 5 0 1 (0 + 1)
theorem zl_X7_init_2 : Zl q_X7_init_2 := zl_X7_init_1.r
theorem zi_X7_init_2 : Zi q_X7_init_2 := zi_X7_init_1.r
theorem h_X11_init_6 : 0 < gR q_X7_init_2 999 0 0 := by decide +kernel
def q_X11_init_10 : Mem := sR q_X7_init_2 0 0 6 (0 + 1)
theorem zl_X11_init_10 : Zl q_X11_init_10 := zl_X7_init_2.r
theorem zi_X11_init_10 : Zi q_X11_init_10 := zi_X7_init_2.r
def q_X11_init_11 : Mem := sN q_X11_init_10 6
theorem zl_X11_init_11 : Zl q_X11_init_11 := zl_X11_init_10.n
theorem zi_X11_init_11 : Zi q_X11_init_11 := zi_X11_init_10.n
theorem b_X11_init_11 : 0 = gR q_X11_init_10 999 6 0 := by decide +kernel
theorem a_X11_init_11 : gR q_X11_init_10 997 6 0 = gR q_X11_init_10 998 0 0 := by decide +kernel
def q_X3_init_1 : Mem := sN q_X11_init_11 17
theorem zl_X3_init_1 : Zl q_X3_init_1 := zl_X11_init_11.n
theorem zi_X3_init_1 : Zi q_X3_init_1 := zi_X11_init_11.n
theorem b_X3_init_1 : 0 = gR q_X11_init_11 999 17 0 := by decide +kernel
theorem a_X3_init_1 : gR q_X11_init_11 997 17 0 = gR q_X11_init_11 998 0 0 := by decide +kernel
theorem h_X3_init_7 : 0 < gR q_X3_init_1 999 6 0 := by decide +kernel
def q_X3_init_2 : Mem := sR q_X3_init_1 6 0 1 (0 + 1)
theorem zl_X3_init_2 : Zl q_X3_init_2 := zl_X3_init_1.r
theorem zi_X3_init_2 : Zi q_X3_init_2 := zi_X3_init_1.r
def q_X3_init_3 : Mem := sN q_X3_init_2 18
theorem zl_X3_init_3 : Zl q_X3_init_3 := zl_X3_init_2.n
theorem zi_X3_init_3 : Zi q_X3_init_3 := zi_X3_init_2.n
theorem b_X3_init_3 : 0 = gR q_X3_init_2 999 18 0 := by decide +kernel
theorem a_X3_init_3 : gR q_X3_init_2 997 18 0 = gR q_X3_init_2 998 0 0 := by decide +kernel
theorem h_X3_init_8 : 0 < gR q_X3_init_3 999 6 0 := by decide +kernel
def q_X3_init_4 : Mem := sR q_X3_init_3 6 0 2 (0 + 1)
theorem zl_X3_init_4 : Zl q_X3_init_4 := zl_X3_init_3.r
theorem zi_X3_init_4 : Zi q_X3_init_4 := zi_X3_init_3.r
def q_Tx (j : Nat) : Mem := (q_X3_init_4.1, q_X3_init_4.2.1, fun r x k => if r = 19 ∧ x < j ∧ 3 ≤ k ∧ k ≤ 5 then x + 1 else if r = 17 ∧ x = 0 ∧ k < j then k + 1 else if r = 999 ∧ 19 ≤ x ∧ x ≤ 22 ∧ k = 0 then j else if r = 998 ∧ x = 0 ∧ k = 0 then 10 + 4 * j else gR q_X3_init_4 r x k)
theorem v_Tx {j : Nat} : ∀ r x k, gR (q_Tx j) r x k = if r = 19 ∧ x < j ∧ 3 ≤ k ∧ k ≤ 5 then x + 1 else if r = 17 ∧ x = 0 ∧ k < j then k + 1 else if r = 999 ∧ 19 ≤ x ∧ x ≤ 22 ∧ k = 0 then j else if r = 998 ∧ x = 0 ∧ k = 0 then 10 + 4 * j else gR q_X3_init_4 r x k := fun _ _ _ => rfl
theorem u_Tx {j : Nat} : ∀ r x k, gI (q_Tx j) r x k = gI q_X3_init_4 r x k := fun _ _ _ => rfl
theorem zl_Tx {j : Nat} : Zl (q_Tx j) := zl_X3_init_4
theorem zi_Tx {j : Nat} : Zi (q_Tx j) := zi_X3_init_4
theorem Tx_z : ∀ r x k, 19 ≤ r → r ≤ 22 → gR q_X3_init_4 r x k = 0 := by
  intro r x k h1 h2
  rcases (show r = 19 ∨ r = 20 ∨ r = 21 ∨ r = 22 by omega) with rfl | rfl | rfl | rfl <;> rfl
theorem Tx_0 : q_Tx 0 = q_X3_init_4 := by
  have e9 : ∀ x, 19 ≤ x → x ≤ 22 → gR q_X3_init_4 999 x 0 = 0 := by
    intro x h1 h2
    rcases (show x = 19 ∨ x = 20 ∨ x = 21 ∨ x = 22 by omega) with rfl | rfl | rfl | rfl <;> decide +kernel
  have e8 : gR q_X3_init_4 998 0 0 = 10 := by decide +kernel
  refine Prod.ext rfl (Prod.ext rfl (funext fun r => funext fun x => funext fun k => ?_))
  show gR (q_Tx 0) r x k = gR q_X3_init_4 r x k
  rw [v_Tx, if_neg (by omega), if_neg (by omega)]
  by_cases a : r = 999 ∧ 19 ≤ x ∧ x ≤ 22 ∧ k = 0
  · rw [if_pos a, a.1, a.2.2.2]; exact (e9 x a.2.1 a.2.2.1).symm
  · rw [if_neg a]
    by_cases b : r = 998 ∧ x = 0 ∧ k = 0
    · rw [if_pos b, b.1, b.2.1, b.2.2]; exact e8.symm
    · rw [if_neg b]
set_option maxRecDepth 100000 in
theorem h_X3_23_9 {j : Nat} : 0 < gR (q_Tx j) 999 6 0 := (show 0 < 1 from Nat.zero_lt_one)
set_option maxRecDepth 100000 in
theorem g_X3_init_10 {j : Nat} : gR (q_Tx j) 6 0 1 = 1 := rfl
def q_X3_23_1 (j : Nat) : Mem := sN (q_Tx j) 19
theorem zl_X3_23_1 {j : Nat} : Zl (q_X3_23_1 j) := zl_Tx.n
theorem zi_X3_23_1 {j : Nat} : Zi (q_X3_23_1 j) := zi_Tx.n
theorem v_X3_23_1 {j : Nat} : ∀ r x k, gR (q_X3_23_1 j) r x k = if r = 999 ∧ x = 19 ∧ k = 0 then j + 1 else if r = 998 ∧ x = 0 ∧ k = 0 then 10 + 4 * j + 1 else if r = 19 ∧ x = j then 0 else gR (q_Tx j) r x k := fun _ _ _ => rfl
theorem u_X3_23_1 {j : Nat} : ∀ r x k, gI (q_X3_23_1 j) r x k = if r = 19 ∧ x = j then 0 else gI (q_Tx j) r x k := fun _ _ _ => rfl
theorem b_X3_23_1 {j : Nat} : j = gR (q_Tx j) 999 19 0 := rfl
theorem a_X3_23_1 {j : Nat} (hj : j < 10) : gR (q_Tx j) 997 19 j = gR (q_Tx j) 998 0 0 := p_19 hj
def q_X9_init_1 (j : Nat) : Mem := sN (q_X3_23_1 j) 20
theorem zl_X9_init_1 {j : Nat} : Zl (q_X9_init_1 j) := zl_X3_23_1.n
theorem zi_X9_init_1 {j : Nat} : Zi (q_X9_init_1 j) := zi_X3_23_1.n
theorem v_X9_init_1 {j : Nat} : ∀ r x k, gR (q_X9_init_1 j) r x k = if r = 999 ∧ x = 20 ∧ k = 0 then j + 1 else if r = 998 ∧ x = 0 ∧ k = 0 then 10 + 4 * j + 1 + 1 else if r = 20 ∧ x = j then 0 else gR (q_X3_23_1 j) r x k := fun _ _ _ => rfl
theorem u_X9_init_1 {j : Nat} : ∀ r x k, gI (q_X9_init_1 j) r x k = if r = 20 ∧ x = j then 0 else gI (q_X3_23_1 j) r x k := fun _ _ _ => rfl
theorem b_X9_init_1 {j : Nat} : j = gR (q_X3_23_1 j) 999 20 0 := rfl
theorem a_X9_init_1 {j : Nat} (hj : j < 10) : gR (q_X3_23_1 j) 997 20 j = gR (q_X3_23_1 j) 998 0 0 := p_20 hj
set_option maxRecDepth 100000 in
theorem h_X9_init_11 {j : Nat} : j < gR (q_X9_init_1 j) 999 19 0 := (show j < j + 1 from Nat.lt_succ_self j)
def q_X9_init_2 (j : Nat) : Mem := sR (q_X9_init_1 j) 19 j 3 (j + 1)
theorem zl_X9_init_2 {j : Nat} : Zl (q_X9_init_2 j) := zl_X9_init_1.r
theorem zi_X9_init_2 {j : Nat} : Zi (q_X9_init_2 j) := zi_X9_init_1.r
theorem v_X9_init_2 {j : Nat} : ∀ r x k, gR (q_X9_init_2 j) r x k = if r = 19 ∧ x = j ∧ k = 3 then j + 1 else gR (q_X9_init_1 j) r x k := fun _ _ _ => rfl
theorem u_X9_init_2 {j : Nat} : ∀ r x k, gI (q_X9_init_2 j) r x k = gI (q_X9_init_1 j) r x k := fun _ _ _ => rfl
def q_X9_init_3 (j : Nat) : Mem := sN (q_X9_init_2 j) 21
theorem zl_X9_init_3 {j : Nat} : Zl (q_X9_init_3 j) := zl_X9_init_2.n
theorem zi_X9_init_3 {j : Nat} : Zi (q_X9_init_3 j) := zi_X9_init_2.n
theorem v_X9_init_3 {j : Nat} : ∀ r x k, gR (q_X9_init_3 j) r x k = if r = 999 ∧ x = 21 ∧ k = 0 then j + 1 else if r = 998 ∧ x = 0 ∧ k = 0 then 10 + 4 * j + 1 + 1 + 1 else if r = 21 ∧ x = j then 0 else gR (q_X9_init_2 j) r x k := fun _ _ _ => rfl
theorem u_X9_init_3 {j : Nat} : ∀ r x k, gI (q_X9_init_3 j) r x k = if r = 21 ∧ x = j then 0 else gI (q_X9_init_2 j) r x k := fun _ _ _ => rfl
theorem b_X9_init_3 {j : Nat} : j = gR (q_X9_init_2 j) 999 21 0 := rfl
theorem a_X9_init_3 {j : Nat} (hj : j < 10) : gR (q_X9_init_2 j) 997 21 j = gR (q_X9_init_2 j) 998 0 0 := p_21 hj
set_option maxRecDepth 100000 in
theorem h_X9_init_12 {j : Nat} : j < gR (q_X9_init_3 j) 999 19 0 := (show j < j + 1 from Nat.lt_succ_self j)
def q_X9_init_4 (j : Nat) : Mem := sR (q_X9_init_3 j) 19 j 4 (j + 1)
theorem zl_X9_init_4 {j : Nat} : Zl (q_X9_init_4 j) := zl_X9_init_3.r
theorem zi_X9_init_4 {j : Nat} : Zi (q_X9_init_4 j) := zi_X9_init_3.r
theorem v_X9_init_4 {j : Nat} : ∀ r x k, gR (q_X9_init_4 j) r x k = if r = 19 ∧ x = j ∧ k = 4 then j + 1 else gR (q_X9_init_3 j) r x k := fun _ _ _ => rfl
theorem u_X9_init_4 {j : Nat} : ∀ r x k, gI (q_X9_init_4 j) r x k = gI (q_X9_init_3 j) r x k := fun _ _ _ => rfl
def q_X9_init_5 (j : Nat) : Mem := sN (q_X9_init_4 j) 22
theorem zl_X9_init_5 {j : Nat} : Zl (q_X9_init_5 j) := zl_X9_init_4.n
theorem zi_X9_init_5 {j : Nat} : Zi (q_X9_init_5 j) := zi_X9_init_4.n
theorem v_X9_init_5 {j : Nat} : ∀ r x k, gR (q_X9_init_5 j) r x k = if r = 999 ∧ x = 22 ∧ k = 0 then j + 1 else if r = 998 ∧ x = 0 ∧ k = 0 then 10 + 4 * j + 1 + 1 + 1 + 1 else if r = 22 ∧ x = j then 0 else gR (q_X9_init_4 j) r x k := fun _ _ _ => rfl
theorem u_X9_init_5 {j : Nat} : ∀ r x k, gI (q_X9_init_5 j) r x k = if r = 22 ∧ x = j then 0 else gI (q_X9_init_4 j) r x k := fun _ _ _ => rfl
theorem b_X9_init_5 {j : Nat} : j = gR (q_X9_init_4 j) 999 22 0 := rfl
theorem a_X9_init_5 {j : Nat} (hj : j < 10) : gR (q_X9_init_4 j) 997 22 j = gR (q_X9_init_4 j) 998 0 0 := p_22 hj
set_option maxRecDepth 100000 in
theorem h_X9_init_13 {j : Nat} : j < gR (q_X9_init_5 j) 999 19 0 := (show j < j + 1 from Nat.lt_succ_self j)
def q_X9_init_6 (j : Nat) : Mem := sR (q_X9_init_5 j) 19 j 5 (j + 1)
theorem zl_X9_init_6 {j : Nat} : Zl (q_X9_init_6 j) := zl_X9_init_5.r
theorem zi_X9_init_6 {j : Nat} : Zi (q_X9_init_6 j) := zi_X9_init_5.r
theorem v_X9_init_6 {j : Nat} : ∀ r x k, gR (q_X9_init_6 j) r x k = if r = 19 ∧ x = j ∧ k = 5 then j + 1 else gR (q_X9_init_5 j) r x k := fun _ _ _ => rfl
theorem u_X9_init_6 {j : Nat} : ∀ r x k, gI (q_X9_init_6 j) r x k = gI (q_X9_init_5 j) r x k := fun _ _ _ => rfl
set_option maxRecDepth 100000 in
theorem h_X3_23_14 {j : Nat} : 0 < gR (q_X9_init_6 j) 999 17 0 := (show 0 < 1 from Nat.zero_lt_one)
set_option maxRecDepth 100000 in
theorem h_X3_23_15 {j : Nat} : j < gR (q_X9_init_6 j) 999 19 0 := (show j < j + 1 from Nat.lt_succ_self j)
def q_X3_23_2 (j : Nat) : Mem := sR (q_X9_init_6 j) 17 0 j (j + 1)
theorem zl_X3_23_2 {j : Nat} : Zl (q_X3_23_2 j) := zl_X9_init_6.r
theorem zi_X3_23_2 {j : Nat} : Zi (q_X3_23_2 j) := zi_X9_init_6.r
theorem v_X3_23_2 {j : Nat} : ∀ r x k, gR (q_X3_23_2 j) r x k = if r = 17 ∧ x = 0 ∧ k = j then j + 1 else gR (q_X9_init_6 j) r x k := fun _ _ _ => rfl
theorem u_X3_23_2 {j : Nat} : ∀ r x k, gI (q_X3_23_2 j) r x k = gI (q_X9_init_6 j) r x k := fun _ _ _ => rfl
set_option maxRecDepth 100000 in
set_option maxHeartbeats 4000000 in
theorem Tx_s {j : Nat} (hj : j < 10) : (q_X3_23_2 j) = q_Tx (j + 1) := by
  refine Prod.ext (funext fun r => funext fun x => funext fun k => ?_) (Prod.ext (funext fun r => funext fun x => funext fun k => ?_) (funext fun r => funext fun x => funext fun k => ?_))
  · exact (zi_X3_23_2 r x k).trans (zi_Tx (j := j + 1) r x k).symm
  · exact (zl_X3_23_2 r x k).trans (zl_Tx (j := j + 1) r x k).symm
  · show gR (q_X3_23_2 j) r x k = gR (q_Tx (j + 1)) r x k
    have hz := Tx_z r x k
    simp only [v_X3_23_1, v_X9_init_1, v_X9_init_2, v_X9_init_3, v_X9_init_4, v_X9_init_5, v_X9_init_6, v_X3_23_2, v_Tx]
    generalize gR q_X3_init_4 r x k = g at hz ⊢
    rcases (show r = 17 ∨ r = 19 ∨ r = 20 ∨ r = 21 ∨ r = 22 ∨ r = 998 ∨ r = 999 ∨ (¬ r = 17 ∧ ¬ r = 19 ∧ ¬ r = 20 ∧ ¬ r = 21 ∧ ¬ r = 22 ∧ ¬ r = 998 ∧ ¬ r = 999) by omega) with rfl | rfl | rfl | rfl | rfl | rfl | rfl | ⟨n17, n19, n20, n21, n22, n998, n999⟩
    · simp (decide := true) only [true_and, false_and, if_true, if_false]
      repeat' (first | (refine iteL (fun _ => ?_) (fun _ => ?_)) | (refine iteR (fun _ => ?_) (fun _ => ?_)))
      all_goals first | rfl | omega | exact (hz (by omega) (by omega)).symm
    · simp (decide := true) only [true_and, false_and, if_true, if_false]
      repeat' (first | (refine iteL (fun _ => ?_) (fun _ => ?_)) | (refine iteR (fun _ => ?_) (fun _ => ?_)))
      all_goals first | rfl | omega | exact (hz (by omega) (by omega)).symm
    · simp (decide := true) only [true_and, false_and, if_true, if_false]
      repeat' (first | (refine iteL (fun _ => ?_) (fun _ => ?_)) | (refine iteR (fun _ => ?_) (fun _ => ?_)))
      all_goals first | rfl | omega | exact (hz (by omega) (by omega)).symm
    · simp (decide := true) only [true_and, false_and, if_true, if_false]
      repeat' (first | (refine iteL (fun _ => ?_) (fun _ => ?_)) | (refine iteR (fun _ => ?_) (fun _ => ?_)))
      all_goals first | rfl | omega | exact (hz (by omega) (by omega)).symm
    · simp (decide := true) only [true_and, false_and, if_true, if_false]
      repeat' (first | (refine iteL (fun _ => ?_) (fun _ => ?_)) | (refine iteR (fun _ => ?_) (fun _ => ?_)))
      all_goals first | rfl | omega | exact (hz (by omega) (by omega)).symm
    · simp (decide := true) only [true_and, false_and, if_true, if_false]
      repeat' (first | (refine iteL (fun _ => ?_) (fun _ => ?_)) | (refine iteR (fun _ => ?_) (fun _ => ?_)))
      all_goals first | rfl | omega | exact (hz (by omega) (by omega)).symm
    · simp (decide := true) only [true_and, false_and, if_true, if_false]
      repeat' (first | (refine iteL (fun _ => ?_) (fun _ => ?_)) | (refine iteR (fun _ => ?_) (fun _ => ?_)))
      all_goals first | rfl | omega | exact (hz (by omega) (by omega)).symm
    · simp only [n17, n19, n20, n21, n22, n998, n999, false_and, if_false]
theorem h_X11_init_16 : 0 < gR (q_Tx 10) 999 0 0 := by decide +kernel
def q_X11_init_12 : Mem := sR (q_Tx 10) 0 0 7 (0 + 1)
theorem zl_X11_init_12 : Zl q_X11_init_12 := zl_Tx.r
def q_X11_init_13 : Mem := sN q_X11_init_12 7
theorem zl_X11_init_13 : Zl q_X11_init_13 := zl_X11_init_12.n
theorem b_X11_init_13 : 0 = gR q_X11_init_12 999 7 0 := by decide +kernel
theorem a_X11_init_13 : gR q_X11_init_12 997 7 0 = gR q_X11_init_12 998 0 0 := by decide +kernel
def q_X10_init_1 : Mem := sN q_X11_init_13 25
theorem zl_X10_init_1 : Zl q_X10_init_1 := zl_X11_init_13.n
theorem b_X10_init_1 : 0 = gR q_X11_init_13 999 25 0 := by decide +kernel
theorem a_X10_init_1 : gR q_X11_init_13 997 25 0 = gR q_X11_init_13 998 0 0 := by decide +kernel
theorem h_X10_init_17 : 0 < gR q_X10_init_1 999 7 0 := by decide +kernel
def q_X10_init_2 : Mem := sR q_X10_init_1 7 0 0 (0 + 1)
theorem zl_X10_init_2 : Zl q_X10_init_2 := zl_X10_init_1.r
def q_X10_init_3 : Mem := sN q_X10_init_2 26
theorem zl_X10_init_3 : Zl q_X10_init_3 := zl_X10_init_2.n
theorem b_X10_init_3 : 0 = gR q_X10_init_2 999 26 0 := by decide +kernel
theorem a_X10_init_3 : gR q_X10_init_2 997 26 0 = gR q_X10_init_2 998 0 0 := by decide +kernel
theorem h_X10_init_18 : 0 < gR q_X10_init_3 999 7 0 := by decide +kernel
def q_X10_init_4 : Mem := sR q_X10_init_3 7 0 1 (0 + 1)
theorem zl_X10_init_4 : Zl q_X10_init_4 := zl_X10_init_3.r
def q_X10_init_5 : Mem := sN q_X10_init_4 27
theorem zl_X10_init_5 : Zl q_X10_init_5 := zl_X10_init_4.n
theorem b_X10_init_5 : 0 = gR q_X10_init_4 999 27 0 := by decide +kernel
theorem a_X10_init_5 : gR q_X10_init_4 997 27 0 = gR q_X10_init_4 998 0 0 := by decide +kernel
theorem h_X10_init_19 : 0 < gR q_X10_init_5 999 7 0 := by decide +kernel
def q_X10_init_6 : Mem := sR q_X10_init_5 7 0 2 (0 + 1)
theorem zl_X10_init_6 : Zl q_X10_init_6 := zl_X10_init_5.r
def q_X10_init_7 : Mem := sN q_X10_init_6 28
theorem zl_X10_init_7 : Zl q_X10_init_7 := zl_X10_init_6.n
theorem b_X10_init_7 : 0 = gR q_X10_init_6 999 28 0 := by decide +kernel
theorem a_X10_init_7 : gR q_X10_init_6 997 28 0 = gR q_X10_init_6 998 0 0 := by decide +kernel
theorem h_X10_init_20 : 0 < gR q_X10_init_7 999 7 0 := by decide +kernel
def q_X10_init_8 : Mem := sR q_X10_init_7 7 0 3 (0 + 1)
theorem zl_X10_init_8 : Zl q_X10_init_8 := zl_X10_init_7.r
def q_X10_init_9 : Mem := sN q_X10_init_8 29
theorem zl_X10_init_9 : Zl q_X10_init_9 := zl_X10_init_8.n
theorem b_X10_init_9 : 0 = gR q_X10_init_8 999 29 0 := by decide +kernel
theorem a_X10_init_9 : gR q_X10_init_8 997 29 0 = gR q_X10_init_8 998 0 0 := by decide +kernel
theorem h_X10_init_21 : 0 < gR q_X10_init_9 999 7 0 := by decide +kernel
def q_X10_init_10 : Mem := sR q_X10_init_9 7 0 4 (0 + 1)
theorem zl_X10_init_10 : Zl q_X10_init_10 := zl_X10_init_9.r
theorem h_X11_init_22 : 0 < gR q_X10_init_10 999 0 0 := by decide +kernel
def q_X11_init_14 : Mem := sR q_X10_init_10 0 0 8 (0 + 1)
theorem zl_X11_init_14 : Zl q_X11_init_14 := zl_X10_init_10.r
def q_X11_init_15 : Mem := sN q_X11_init_14 8
theorem zl_X11_init_15 : Zl q_X11_init_15 := zl_X11_init_14.n
theorem b_X11_init_15 : 0 = gR q_X11_init_14 999 8 0 := by decide +kernel
theorem a_X11_init_15 : gR q_X11_init_14 997 8 0 = gR q_X11_init_14 998 0 0 := by decide +kernel
theorem h_X11_init_23 : 0 < gR q_X11_init_15 999 0 0 := by decide +kernel
def q_X11_init_16 : Mem := sR q_X11_init_15 0 0 9 (0 + 1)
theorem zl_X11_init_16 : Zl q_X11_init_16 := zl_X11_init_15.r
def q_X11_init_17 : Mem := sN q_X11_init_16 9
theorem zl_X11_init_17 : Zl q_X11_init_17 := zl_X11_init_16.n
theorem b_X11_init_17 : 0 = gR q_X11_init_16 999 9 0 := by decide +kernel
theorem a_X11_init_17 : gR q_X11_init_16 997 9 0 = gR q_X11_init_16 998 0 0 := by decide +kernel
def q_X6_init_1 : Mem := sN q_X11_init_17 30
theorem zl_X6_init_1 : Zl q_X6_init_1 := zl_X11_init_17.n
theorem b_X6_init_1 : 0 = gR q_X11_init_17 999 30 0 := by decide +kernel
theorem a_X6_init_1 : gR q_X11_init_17 997 30 0 = gR q_X11_init_17 998 0 0 := by decide +kernel
theorem h_X6_init_24 : 0 < gR q_X6_init_1 999 9 0 := by decide +kernel
def q_X6_init_2 : Mem := sR q_X6_init_1 9 0 2 (0 + 1)
theorem zl_X6_init_2 : Zl q_X6_init_2 := zl_X6_init_1.r
def q_X6_init_3 : Mem := sN q_X6_init_2 31
theorem zl_X6_init_3 : Zl q_X6_init_3 := zl_X6_init_2.n
theorem b_X6_init_3 : 0 = gR q_X6_init_2 999 31 0 := by decide +kernel
theorem a_X6_init_3 : gR q_X6_init_2 997 31 0 = gR q_X6_init_2 998 0 0 := by decide +kernel
theorem h_X6_init_25 : 0 < gR q_X6_init_3 999 9 0 := by decide +kernel
def q_X6_init_4 : Mem := sR q_X6_init_3 9 0 3 (0 + 1)
theorem zl_X6_init_4 : Zl q_X6_init_4 := zl_X6_init_3.r
def q_X6_init_5 : Mem := sN q_X6_init_4 32
theorem zl_X6_init_5 : Zl q_X6_init_5 := zl_X6_init_4.n
theorem b_X6_init_5 : 0 = gR q_X6_init_4 999 32 0 := by decide +kernel
theorem a_X6_init_5 : gR q_X6_init_4 997 32 0 = gR q_X6_init_4 998 0 0 := by decide +kernel
theorem h_X6_init_26 : 0 < gR q_X6_init_5 999 9 0 := by decide +kernel
def q_X6_init_6 : Mem := sR q_X6_init_5 9 0 4 (0 + 1)
theorem zl_X6_init_6 : Zl q_X6_init_6 := zl_X6_init_5.r
def q_X6_init_7 : Mem := sN q_X6_init_6 33
theorem zl_X6_init_7 : Zl q_X6_init_7 := zl_X6_init_6.n
theorem b_X6_init_7 : 0 = gR q_X6_init_6 999 33 0 := by decide +kernel
theorem a_X6_init_7 : gR q_X6_init_6 997 33 0 = gR q_X6_init_6 998 0 0 := by decide +kernel
theorem h_X6_init_27 : 0 < gR q_X6_init_7 999 9 0 := by decide +kernel
def q_X6_init_8 : Mem := sR q_X6_init_7 9 0 5 (0 + 1)
theorem zl_X6_init_8 : Zl q_X6_init_8 := zl_X6_init_7.r
def q_X6_init_9 : Mem := sN q_X6_init_8 34
theorem zl_X6_init_9 : Zl q_X6_init_9 := zl_X6_init_8.n
theorem b_X6_init_9 : 0 = gR q_X6_init_8 999 34 0 := by decide +kernel
theorem a_X6_init_9 : gR q_X6_init_8 997 34 0 = gR q_X6_init_8 998 0 0 := by decide +kernel
theorem h_X6_init_28 : 0 < gR q_X6_init_9 999 9 0 := by decide +kernel
def q_X6_init_10 : Mem := sR q_X6_init_9 9 0 6 (0 + 1)
theorem zl_X6_init_10 : Zl q_X6_init_10 := zl_X6_init_9.r
def q_X6_init_11 : Mem := sN q_X6_init_10 35
theorem zl_X6_init_11 : Zl q_X6_init_11 := zl_X6_init_10.n
theorem b_X6_init_11 : 0 = gR q_X6_init_10 999 35 0 := by decide +kernel
theorem a_X6_init_11 : gR q_X6_init_10 997 35 0 = gR q_X6_init_10 998 0 0 := by decide +kernel
theorem h_X6_init_29 : 0 < gR q_X6_init_11 999 9 0 := by decide +kernel
def q_X6_init_12 : Mem := sR q_X6_init_11 9 0 7 (0 + 1)
theorem zl_X6_init_12 : Zl q_X6_init_12 := zl_X6_init_11.r
def q_X6_init_13 : Mem := sN q_X6_init_12 36
theorem zl_X6_init_13 : Zl q_X6_init_13 := zl_X6_init_12.n
theorem b_X6_init_13 : 0 = gR q_X6_init_12 999 36 0 := by decide +kernel
theorem a_X6_init_13 : gR q_X6_init_12 997 36 0 = gR q_X6_init_12 998 0 0 := by decide +kernel
theorem h_X6_init_30 : 0 < gR q_X6_init_13 999 9 0 := by decide +kernel
def q_X6_init_14 : Mem := sR q_X6_init_13 9 0 8 (0 + 1)
theorem zl_X6_init_14 : Zl q_X6_init_14 := zl_X6_init_13.r
def q_X6_init_15 : Mem := sN q_X6_init_14 37
theorem zl_X6_init_15 : Zl q_X6_init_15 := zl_X6_init_14.n
theorem b_X6_init_15 : 0 = gR q_X6_init_14 999 37 0 := by decide +kernel
theorem a_X6_init_15 : gR q_X6_init_14 997 37 0 = gR q_X6_init_14 998 0 0 := by decide +kernel
theorem h_X6_init_31 : 0 < gR q_X6_init_15 999 9 0 := by decide +kernel
def q_X6_init_16 : Mem := sR q_X6_init_15 9 0 9 (0 + 1)
theorem zl_X6_init_16 : Zl q_X6_init_16 := zl_X6_init_15.r
theorem h_X11_init_32 : 0 < gR q_X6_init_16 999 0 0 := by decide +kernel
def q_X11_init_18 : Mem := sR q_X6_init_16 0 0 11 (0 + 1)
theorem zl_X11_init_18 : Zl q_X11_init_18 := zl_X6_init_16.r
def q_X11_init_19 : Mem := sN q_X11_init_18 10
theorem zl_X11_init_19 : Zl q_X11_init_19 := zl_X11_init_18.n
theorem b_X11_init_19 : 0 = gR q_X11_init_18 999 10 0 := by decide +kernel
theorem a_X11_init_19 : gR q_X11_init_18 997 10 0 = gR q_X11_init_18 998 0 0 := by decide +kernel
def q_X5_init_1 : Mem := sN q_X11_init_19 38
theorem zl_X5_init_1 : Zl q_X5_init_1 := zl_X11_init_19.n
theorem b_X5_init_1 : 0 = gR q_X11_init_19 999 38 0 := by decide +kernel
theorem a_X5_init_1 : gR q_X11_init_19 997 38 0 = gR q_X11_init_19 998 0 0 := by decide +kernel
theorem h_X5_init_33 : 0 < gR q_X5_init_1 999 10 0 := by decide +kernel
def q_X5_init_2 : Mem := sR q_X5_init_1 10 0 0 (0 + 1)
theorem zl_X5_init_2 : Zl q_X5_init_2 := zl_X5_init_1.r
def q_X5_init_3 : Mem := sN q_X5_init_2 39
theorem zl_X5_init_3 : Zl q_X5_init_3 := zl_X5_init_2.n
theorem b_X5_init_3 : 0 = gR q_X5_init_2 999 39 0 := by decide +kernel
theorem a_X5_init_3 : gR q_X5_init_2 997 39 0 = gR q_X5_init_2 998 0 0 := by decide +kernel
theorem h_X5_init_34 : 0 < gR q_X5_init_3 999 10 0 := by decide +kernel
def q_X5_init_4 : Mem := sR q_X5_init_3 10 0 1 (0 + 1)
theorem zl_X5_init_4 : Zl q_X5_init_4 := zl_X5_init_3.r
def q_X5_init_5 : Mem := sN q_X5_init_4 40
theorem zl_X5_init_5 : Zl q_X5_init_5 := zl_X5_init_4.n
theorem b_X5_init_5 : 0 = gR q_X5_init_4 999 40 0 := by decide +kernel
theorem a_X5_init_5 : gR q_X5_init_4 997 40 0 = gR q_X5_init_4 998 0 0 := by decide +kernel
theorem h_X5_init_35 : 0 < gR q_X5_init_5 999 10 0 := by decide +kernel
def q_X5_init_6 : Mem := sR q_X5_init_5 10 0 2 (0 + 1)
theorem zl_X5_init_6 : Zl q_X5_init_6 := zl_X5_init_5.r
theorem h_X11_init_36 : 0 < gR q_X5_init_6 999 0 0 := by decide +kernel
def q_X11_init_20 : Mem := sR q_X5_init_6 0 0 12 (0 + 1)
theorem zl_X11_init_20 : Zl q_X11_init_20 := zl_X5_init_6.r
def q_X11_init_21 : Mem := sN q_X11_init_20 11
theorem zl_X11_init_21 : Zl q_X11_init_21 := zl_X11_init_20.n
theorem b_X11_init_21 : 0 = gR q_X11_init_20 999 11 0 := by decide +kernel
theorem a_X11_init_21 : gR q_X11_init_20 997 11 0 = gR q_X11_init_20 998 0 0 := by decide +kernel
def q_X0_init_1 : Mem := sN q_X11_init_21 41
theorem zl_X0_init_1 : Zl q_X0_init_1 := zl_X11_init_21.n
theorem b_X0_init_1 : 0 = gR q_X11_init_21 999 41 0 := by decide +kernel
theorem a_X0_init_1 : gR q_X11_init_21 997 41 0 = gR q_X11_init_21 998 0 0 := by decide +kernel
theorem h_X0_init_37 : 0 < gR q_X0_init_1 999 11 0 := by decide +kernel
def q_X0_init_2 : Mem := sR q_X0_init_1 11 0 1 (0 + 1)
theorem zl_X0_init_2 : Zl q_X0_init_2 := zl_X0_init_1.r
theorem h_X11_init_38 : 0 < gR q_X0_init_2 999 0 0 := by decide +kernel
def q_X11_init_22 : Mem := sR q_X0_init_2 0 0 13 (0 + 1)
theorem zl_X11_init_22 : Zl q_X11_init_22 := zl_X0_init_2.r
def q_X11_init_23 : Mem := sN q_X11_init_22 12
theorem zl_X11_init_23 : Zl q_X11_init_23 := zl_X11_init_22.n
theorem b_X11_init_23 : 0 = gR q_X11_init_22 999 12 0 := by decide +kernel
theorem a_X11_init_23 : gR q_X11_init_22 997 12 0 = gR q_X11_init_22 998 0 0 := by decide +kernel
theorem h_X11_init_39 : 0 < gR q_X11_init_23 999 0 0 := by decide +kernel
def q_X11_init_24 : Mem := sR q_X11_init_23 0 0 14 (0 + 1)
theorem zl_X11_init_24 : Zl q_X11_init_24 := zl_X11_init_23.r
def q_Fl (j : Nat) : Mem := (fun r x k => if r = 1 ∧ x = 0 ∧ k < j then 7 else if r = 2 ∧ x = 0 ∧ k < j then 14 else gI q_X11_init_24 r x k, q_X11_init_24.2.1, q_X11_init_24.2.2)
theorem u_Fl {j : Nat} : ∀ r x k, gI (q_Fl j) r x k = if r = 1 ∧ x = 0 ∧ k < j then 7 else if r = 2 ∧ x = 0 ∧ k < j then 14 else gI q_X11_init_24 r x k := fun _ _ _ => rfl
theorem zl_Fl {j : Nat} : Zl (q_Fl j) := zl_X11_init_24
theorem Fl_0 : q_Fl 0 = q_X11_init_24 := Prod.ext (funext fun r => funext fun x => funext fun k => by
  show gI (q_Fl 0) r x k = gI q_X11_init_24 r x k
  rw [u_Fl, if_neg (by omega), if_neg (by omega)]) rfl
set_option maxRecDepth 100000 in
theorem h_X11_124_40 {j : Nat} : 0 < gR (q_Fl j) 999 0 0 := (show 0 < 1 from Nat.zero_lt_one)
set_option maxRecDepth 100000 in
theorem g_X11_init_41 {j : Nat} : gR (q_Fl j) 0 0 1 = 1 := rfl
set_option maxRecDepth 100000 in
theorem h_X11_124_42 {j : Nat} : 0 < gR (q_Fl j) 999 1 0 := (show 0 < 1 from Nat.zero_lt_one)
def q_X11_124_1 (j : Nat) : Mem := sI (q_Fl j) 1 0 j 7
theorem zl_X11_124_1 {j : Nat} : Zl (q_X11_124_1 j) := zl_Fl.i
theorem v_X11_124_1 {j : Nat} : ∀ r x k, gR (q_X11_124_1 j) r x k = gR (q_Fl j) r x k := fun _ _ _ => rfl
theorem u_X11_124_1 {j : Nat} : ∀ r x k, gI (q_X11_124_1 j) r x k = if r = 1 ∧ x = 0 ∧ k = j then 7 else gI (q_Fl j) r x k := fun _ _ _ => rfl
set_option maxRecDepth 100000 in
theorem h_X11_124_43 {j : Nat} : 0 < gR (q_X11_124_1 j) 999 0 0 := (show 0 < 1 from Nat.zero_lt_one)
set_option maxRecDepth 100000 in
theorem g_X11_init_44 {j : Nat} : gR (q_X11_124_1 j) 0 0 2 = 1 := rfl
set_option maxRecDepth 100000 in
theorem h_X11_124_45 {j : Nat} : 0 < gR (q_X11_124_1 j) 999 2 0 := (show 0 < 1 from Nat.zero_lt_one)
def q_X11_124_2 (j : Nat) : Mem := sI (q_X11_124_1 j) 2 0 j 14
theorem zl_X11_124_2 {j : Nat} : Zl (q_X11_124_2 j) := zl_X11_124_1.i
theorem v_X11_124_2 {j : Nat} : ∀ r x k, gR (q_X11_124_2 j) r x k = gR (q_X11_124_1 j) r x k := fun _ _ _ => rfl
theorem u_X11_124_2 {j : Nat} : ∀ r x k, gI (q_X11_124_2 j) r x k = if r = 2 ∧ x = 0 ∧ k = j then 14 else gI (q_X11_124_1 j) r x k := fun _ _ _ => rfl
theorem Fl_s {j : Nat} (hj : j < 8) : (q_X11_124_2 j) = q_Fl (j + 1) := by
  refine Prod.ext (funext fun r => funext fun x => funext fun k => ?_) rfl
  show gI (q_X11_124_2 j) r x k = gI (q_Fl (j + 1)) r x k
  simp only [u_X11_124_1, u_X11_124_2, u_Fl]
  generalize gI q_X11_init_24 r x k = g
  repeat' (first | (refine iteL (fun _ => ?_) (fun _ => ?_)) | (refine iteR (fun _ => ?_) (fun _ => ?_)))
  all_goals first | rfl | (exfalso; omega)
def q_By (j : Nat) : Mem := (fun r x k => if r = 13 ∧ x < j ∧ k = 0 then nI x else if r = 13 ∧ x < j ∧ k = 5 then -1 else gI (q_Fl 8) r x k, (q_Fl 8).2.1, fun r x k => if r = 13 ∧ x < j ∧ 6 ≤ k ∧ k ≤ 7 then x + 1 else if r = 4 ∧ x = 0 ∧ k < j then k + 1 else if r = 999 ∧ 13 ≤ x ∧ x ≤ 15 ∧ k = 0 then j else if r = 998 ∧ x = 0 ∧ k = 0 then 73 + 3 * j else gR (q_Fl 8) r x k)
theorem v_By {j : Nat} : ∀ r x k, gR (q_By j) r x k = if r = 13 ∧ x < j ∧ 6 ≤ k ∧ k ≤ 7 then x + 1 else if r = 4 ∧ x = 0 ∧ k < j then k + 1 else if r = 999 ∧ 13 ≤ x ∧ x ≤ 15 ∧ k = 0 then j else if r = 998 ∧ x = 0 ∧ k = 0 then 73 + 3 * j else gR (q_Fl 8) r x k := fun _ _ _ => rfl
theorem u_By {j : Nat} : ∀ r x k, gI (q_By j) r x k = if r = 13 ∧ x < j ∧ k = 0 then nI x else if r = 13 ∧ x < j ∧ k = 5 then -1 else gI (q_Fl 8) r x k := fun _ _ _ => rfl
theorem zl_By {j : Nat} : Zl (q_By j) := zl_Fl (j := 8)
theorem By_z : ∀ r x k, 13 ≤ r → r ≤ 15 → gR (q_Fl 8) r x k = 0 := by
  intro r x k h1 h2
  rcases (show r = 13 ∨ r = 14 ∨ r = 15 by omega) with rfl | rfl | rfl <;> rfl
theorem By_zi : ∀ r x k, 13 ≤ r → r ≤ 15 → gI (q_Fl 8) r x k = 0 := by
  intro r x k h1 h2
  rcases (show r = 13 ∨ r = 14 ∨ r = 15 by omega) with rfl | rfl | rfl <;> first | rfl | exact zi_X3_init_4 _ _ _
theorem By_0 : q_By 0 = (q_Fl 8) := by
  have e9 : ∀ x, 13 ≤ x → x ≤ 15 → gR (q_Fl 8) 999 x 0 = 0 := by
    intro x h1 h2
    rcases (show x = 13 ∨ x = 14 ∨ x = 15 by omega) with rfl | rfl | rfl <;> decide +kernel
  have e8 : gR (q_Fl 8) 998 0 0 = 73 := by decide +kernel
  refine Prod.ext (funext fun r => funext fun x => funext fun k => by show gI (q_By 0) r x k = gI (q_Fl 8) r x k; rw [u_By, if_neg (by omega), if_neg (by omega)]) (Prod.ext rfl (funext fun r => funext fun x => funext fun k => ?_))
  show gR (q_By 0) r x k = gR (q_Fl 8) r x k
  rw [v_By, if_neg (by omega), if_neg (by omega)]
  by_cases a : r = 999 ∧ 13 ≤ x ∧ x ≤ 15 ∧ k = 0
  · rw [if_pos a, a.1, a.2.2.2]; exact (e9 x a.2.1 a.2.2.1).symm
  · rw [if_neg a]
    by_cases b : r = 998 ∧ x = 0 ∧ k = 0
    · rw [if_pos b, b.1, b.2.1, b.2.2]; exact e8.symm
    · rw [if_neg b]
set_option maxRecDepth 100000 in
theorem h_X11_154_46 {j : Nat} : 0 < gR (q_By j) 999 0 0 := (show 0 < 1 from Nat.zero_lt_one)
set_option maxRecDepth 100000 in
theorem g_X11_init_47 {j : Nat} : gR (q_By j) 0 0 5 = 1 := rfl
def q_X11_154_1 (j : Nat) : Mem := sN (q_By j) 13
theorem zl_X11_154_1 {j : Nat} : Zl (q_X11_154_1 j) := zl_By.n
theorem v_X11_154_1 {j : Nat} : ∀ r x k, gR (q_X11_154_1 j) r x k = if r = 999 ∧ x = 13 ∧ k = 0 then j + 1 else if r = 998 ∧ x = 0 ∧ k = 0 then 73 + 3 * j + 1 else if r = 13 ∧ x = j then 0 else gR (q_By j) r x k := fun _ _ _ => rfl
theorem u_X11_154_1 {j : Nat} : ∀ r x k, gI (q_X11_154_1 j) r x k = if r = 13 ∧ x = j then 0 else gI (q_By j) r x k := fun _ _ _ => rfl
theorem b_X11_154_1 {j : Nat} : j = gR (q_By j) 999 13 0 := rfl
theorem a_X11_154_1 {j : Nat} (hj : j < 30) : gR (q_By j) 997 13 j = gR (q_By j) 998 0 0 := p_13 hj
set_option maxRecDepth 100000 in
theorem h_X1_init_48 {j : Nat} : j < gR (q_X11_154_1 j) 999 13 0 := (show j < j + 1 from Nat.lt_succ_self j)
def q_X1_init_1 (j : Nat) : Mem := sI (q_X11_154_1 j) 13 j 5 (-1)
theorem zl_X1_init_1 {j : Nat} : Zl (q_X1_init_1 j) := zl_X11_154_1.i
theorem v_X1_init_1 {j : Nat} : ∀ r x k, gR (q_X1_init_1 j) r x k = gR (q_X11_154_1 j) r x k := fun _ _ _ => rfl
theorem u_X1_init_1 {j : Nat} : ∀ r x k, gI (q_X1_init_1 j) r x k = if r = 13 ∧ x = j ∧ k = 5 then (-1) else gI (q_X11_154_1 j) r x k := fun _ _ _ => rfl
def q_X1_init_2 (j : Nat) : Mem := sN (q_X1_init_1 j) 14
theorem zl_X1_init_2 {j : Nat} : Zl (q_X1_init_2 j) := zl_X1_init_1.n
theorem v_X1_init_2 {j : Nat} : ∀ r x k, gR (q_X1_init_2 j) r x k = if r = 999 ∧ x = 14 ∧ k = 0 then j + 1 else if r = 998 ∧ x = 0 ∧ k = 0 then 73 + 3 * j + 1 + 1 else if r = 14 ∧ x = j then 0 else gR (q_X1_init_1 j) r x k := fun _ _ _ => rfl
theorem u_X1_init_2 {j : Nat} : ∀ r x k, gI (q_X1_init_2 j) r x k = if r = 14 ∧ x = j then 0 else gI (q_X1_init_1 j) r x k := fun _ _ _ => rfl
theorem b_X1_init_2 {j : Nat} : j = gR (q_X1_init_1 j) 999 14 0 := rfl
theorem a_X1_init_2 {j : Nat} (hj : j < 30) : gR (q_X1_init_1 j) 997 14 j = gR (q_X1_init_1 j) 998 0 0 := p_14 hj
set_option maxRecDepth 100000 in
theorem h_X1_init_49 {j : Nat} : j < gR (q_X1_init_2 j) 999 13 0 := (show j < j + 1 from Nat.lt_succ_self j)
def q_X1_init_3 (j : Nat) : Mem := sR (q_X1_init_2 j) 13 j 6 (j + 1)
theorem zl_X1_init_3 {j : Nat} : Zl (q_X1_init_3 j) := zl_X1_init_2.r
theorem v_X1_init_3 {j : Nat} : ∀ r x k, gR (q_X1_init_3 j) r x k = if r = 13 ∧ x = j ∧ k = 6 then j + 1 else gR (q_X1_init_2 j) r x k := fun _ _ _ => rfl
theorem u_X1_init_3 {j : Nat} : ∀ r x k, gI (q_X1_init_3 j) r x k = gI (q_X1_init_2 j) r x k := fun _ _ _ => rfl
def q_X1_init_4 (j : Nat) : Mem := sN (q_X1_init_3 j) 15
theorem zl_X1_init_4 {j : Nat} : Zl (q_X1_init_4 j) := zl_X1_init_3.n
theorem v_X1_init_4 {j : Nat} : ∀ r x k, gR (q_X1_init_4 j) r x k = if r = 999 ∧ x = 15 ∧ k = 0 then j + 1 else if r = 998 ∧ x = 0 ∧ k = 0 then 73 + 3 * j + 1 + 1 + 1 else if r = 15 ∧ x = j then 0 else gR (q_X1_init_3 j) r x k := fun _ _ _ => rfl
theorem u_X1_init_4 {j : Nat} : ∀ r x k, gI (q_X1_init_4 j) r x k = if r = 15 ∧ x = j then 0 else gI (q_X1_init_3 j) r x k := fun _ _ _ => rfl
theorem b_X1_init_4 {j : Nat} : j = gR (q_X1_init_3 j) 999 15 0 := rfl
theorem a_X1_init_4 {j : Nat} (hj : j < 30) : gR (q_X1_init_3 j) 997 15 j = gR (q_X1_init_3 j) 998 0 0 := p_15 hj
set_option maxRecDepth 100000 in
theorem h_X1_init_50 {j : Nat} : j < gR (q_X1_init_4 j) 999 13 0 := (show j < j + 1 from Nat.lt_succ_self j)
def q_X1_init_5 (j : Nat) : Mem := sR (q_X1_init_4 j) 13 j 7 (j + 1)
theorem zl_X1_init_5 {j : Nat} : Zl (q_X1_init_5 j) := zl_X1_init_4.r
theorem v_X1_init_5 {j : Nat} : ∀ r x k, gR (q_X1_init_5 j) r x k = if r = 13 ∧ x = j ∧ k = 7 then j + 1 else gR (q_X1_init_4 j) r x k := fun _ _ _ => rfl
theorem u_X1_init_5 {j : Nat} : ∀ r x k, gI (q_X1_init_5 j) r x k = gI (q_X1_init_4 j) r x k := fun _ _ _ => rfl
set_option maxRecDepth 100000 in
theorem h_X1_init_51 {j : Nat} : j < gR (q_X1_init_5 j) 999 13 0 := (show j < j + 1 from Nat.lt_succ_self j)
def q_X1_init_6 (j : Nat) : Mem := sI (q_X1_init_5 j) 13 j 0 (nI j)
theorem zl_X1_init_6 {j : Nat} : Zl (q_X1_init_6 j) := zl_X1_init_5.i
theorem v_X1_init_6 {j : Nat} : ∀ r x k, gR (q_X1_init_6 j) r x k = gR (q_X1_init_5 j) r x k := fun _ _ _ => rfl
theorem u_X1_init_6 {j : Nat} : ∀ r x k, gI (q_X1_init_6 j) r x k = if r = 13 ∧ x = j ∧ k = 0 then (nI j) else gI (q_X1_init_5 j) r x k := fun _ _ _ => rfl
set_option maxRecDepth 100000 in
theorem h_X11_154_52 {j : Nat} : 0 < gR (q_X1_init_6 j) 999 4 0 := (show 0 < 1 from Nat.zero_lt_one)
set_option maxRecDepth 100000 in
theorem h_X11_154_53 {j : Nat} : j < gR (q_X1_init_6 j) 999 13 0 := (show j < j + 1 from Nat.lt_succ_self j)
def q_X11_154_2 (j : Nat) : Mem := sR (q_X1_init_6 j) 4 0 j (j + 1)
theorem zl_X11_154_2 {j : Nat} : Zl (q_X11_154_2 j) := zl_X1_init_6.r
theorem v_X11_154_2 {j : Nat} : ∀ r x k, gR (q_X11_154_2 j) r x k = if r = 4 ∧ x = 0 ∧ k = j then j + 1 else gR (q_X1_init_6 j) r x k := fun _ _ _ => rfl
theorem u_X11_154_2 {j : Nat} : ∀ r x k, gI (q_X11_154_2 j) r x k = gI (q_X1_init_6 j) r x k := fun _ _ _ => rfl
set_option maxRecDepth 100000 in
set_option maxHeartbeats 4000000 in
theorem By_s {j : Nat} (hj : j < 30) : (q_X11_154_2 j) = q_By (j + 1) := by
  refine Prod.ext (funext fun r => funext fun x => funext fun k => ?_) (Prod.ext (funext fun r => funext fun x => funext fun k => ?_) (funext fun r => funext fun x => funext fun k => ?_))
  · show gI (q_X11_154_2 j) r x k = gI (q_By (j + 1)) r x k
    have hz := By_zi r x k
    simp only [u_X11_154_1, u_X1_init_1, u_X1_init_2, u_X1_init_3, u_X1_init_4, u_X1_init_5, u_X1_init_6, u_X11_154_2, u_By]
    generalize gI (q_Fl 8) r x k = g at hz ⊢
    rcases (show r = 13 ∨ r = 14 ∨ r = 15 ∨ (¬ r = 13 ∧ ¬ r = 14 ∧ ¬ r = 15) by omega) with rfl | rfl | rfl | ⟨n13, n14, n15⟩
    · simp (decide := true) only [true_and, false_and, if_true, if_false]
      repeat' (first | (refine iteL (fun _ => ?_) (fun _ => ?_)) | (refine iteR (fun _ => ?_) (fun _ => ?_)))
      all_goals first | rfl | (exfalso; omega) | (have e : x = j := (by omega); subst e; rfl) | exact (hz (by omega) (by omega)).symm
    · simp (decide := true) only [true_and, false_and, if_true, if_false]
      repeat' (first | (refine iteL (fun _ => ?_) (fun _ => ?_)) | (refine iteR (fun _ => ?_) (fun _ => ?_)))
      all_goals first | rfl | (exfalso; omega) | (have e : x = j := (by omega); subst e; rfl) | exact (hz (by omega) (by omega)).symm
    · simp (decide := true) only [true_and, false_and, if_true, if_false]
      repeat' (first | (refine iteL (fun _ => ?_) (fun _ => ?_)) | (refine iteR (fun _ => ?_) (fun _ => ?_)))
      all_goals first | rfl | (exfalso; omega) | (have e : x = j := (by omega); subst e; rfl) | exact (hz (by omega) (by omega)).symm
    · simp only [n13, n14, n15, false_and, if_false]
  · exact (zl_X11_154_2 r x k).trans (zl_By (j := j + 1) r x k).symm
  · show gR (q_X11_154_2 j) r x k = gR (q_By (j + 1)) r x k
    have hz := By_z r x k
    simp only [v_X11_154_1, v_X1_init_1, v_X1_init_2, v_X1_init_3, v_X1_init_4, v_X1_init_5, v_X1_init_6, v_X11_154_2, v_By]
    generalize gR (q_Fl 8) r x k = g at hz ⊢
    rcases (show r = 4 ∨ r = 13 ∨ r = 14 ∨ r = 15 ∨ r = 998 ∨ r = 999 ∨ (¬ r = 4 ∧ ¬ r = 13 ∧ ¬ r = 14 ∧ ¬ r = 15 ∧ ¬ r = 998 ∧ ¬ r = 999) by omega) with rfl | rfl | rfl | rfl | rfl | rfl | ⟨n4, n13, n14, n15, n998, n999⟩
    · simp (decide := true) only [true_and, false_and, if_true, if_false]
      repeat' (first | (refine iteL (fun _ => ?_) (fun _ => ?_)) | (refine iteR (fun _ => ?_) (fun _ => ?_)))
      all_goals first | rfl | omega | exact (hz (by omega) (by omega)).symm
    · simp (decide := true) only [true_and, false_and, if_true, if_false]
      repeat' (first | (refine iteL (fun _ => ?_) (fun _ => ?_)) | (refine iteR (fun _ => ?_) (fun _ => ?_)))
      all_goals first | rfl | omega | exact (hz (by omega) (by omega)).symm
    · simp (decide := true) only [true_and, false_and, if_true, if_false]
      repeat' (first | (refine iteL (fun _ => ?_) (fun _ => ?_)) | (refine iteR (fun _ => ?_) (fun _ => ?_)))
      all_goals first | rfl | omega | exact (hz (by omega) (by omega)).symm
    · simp (decide := true) only [true_and, false_and, if_true, if_false]
      repeat' (first | (refine iteL (fun _ => ?_) (fun _ => ?_)) | (refine iteR (fun _ => ?_) (fun _ => ?_)))
      all_goals first | rfl | omega | exact (hz (by omega) (by omega)).symm
    · simp (decide := true) only [true_and, false_and, if_true, if_false]
      repeat' (first | (refine iteL (fun _ => ?_) (fun _ => ?_)) | (refine iteR (fun _ => ?_) (fun _ => ?_)))
      all_goals first | rfl | omega | exact (hz (by omega) (by omega)).symm
    · simp (decide := true) only [true_and, false_and, if_true, if_false]
      repeat' (first | (refine iteL (fun _ => ?_) (fun _ => ?_)) | (refine iteR (fun _ => ?_) (fun _ => ?_)))
      all_goals first | rfl | omega | exact (hz (by omega) (by omega)).symm
    · simp only [n4, n13, n14, n15, n998, n999, false_and, if_false]
def q_Tp (j : Nat) : Mem := (fun r x k => if r = 42 ∧ x < j ∧ k = 0 then -1 else gI (q_By 30) r x k, (q_By 30).2.1, fun r x k => if r = 42 ∧ x < j ∧ k = 1 then x + 1 else if r = 12 ∧ x = 0 ∧ k < j then k + 1 else if r = 999 ∧ 42 ≤ x ∧ x ≤ 43 ∧ k = 0 then j else if r = 998 ∧ x = 0 ∧ k = 0 then 163 + 2 * j else gR (q_By 30) r x k)
theorem v_Tp {j : Nat} : ∀ r x k, gR (q_Tp j) r x k = if r = 42 ∧ x < j ∧ k = 1 then x + 1 else if r = 12 ∧ x = 0 ∧ k < j then k + 1 else if r = 999 ∧ 42 ≤ x ∧ x ≤ 43 ∧ k = 0 then j else if r = 998 ∧ x = 0 ∧ k = 0 then 163 + 2 * j else gR (q_By 30) r x k := fun _ _ _ => rfl
theorem u_Tp {j : Nat} : ∀ r x k, gI (q_Tp j) r x k = if r = 42 ∧ x < j ∧ k = 0 then -1 else gI (q_By 30) r x k := fun _ _ _ => rfl
theorem zl_Tp {j : Nat} : Zl (q_Tp j) := zl_By (j := 30)
theorem Tp_z : ∀ r x k, 42 ≤ r → r ≤ 43 → gR (q_By 30) r x k = 0 := by
  intro r x k h1 h2
  rcases (show r = 42 ∨ r = 43 by omega) with rfl | rfl <;> rfl
theorem Tp_zi : ∀ r x k, 42 ≤ r → r ≤ 43 → gI (q_By 30) r x k = 0 := by
  intro r x k h1 h2
  rcases (show r = 42 ∨ r = 43 by omega) with rfl | rfl <;> first | rfl | exact zi_X3_init_4 _ _ _
theorem Tp_0 : q_Tp 0 = (q_By 30) := by
  have e9 : ∀ x, 42 ≤ x → x ≤ 43 → gR (q_By 30) 999 x 0 = 0 := by
    intro x h1 h2
    rcases (show x = 42 ∨ x = 43 by omega) with rfl | rfl <;> decide +kernel
  have e8 : gR (q_By 30) 998 0 0 = 163 := by decide +kernel
  refine Prod.ext (funext fun r => funext fun x => funext fun k => by show gI (q_Tp 0) r x k = gI (q_By 30) r x k; rw [u_Tp, if_neg (by omega)]) (Prod.ext rfl (funext fun r => funext fun x => funext fun k => ?_))
  show gR (q_Tp 0) r x k = gR (q_By 30) r x k
  rw [v_Tp, if_neg (by omega), if_neg (by omega)]
  by_cases a : r = 999 ∧ 42 ≤ x ∧ x ≤ 43 ∧ k = 0
  · rw [if_pos a, a.1, a.2.2.2]; exact (e9 x a.2.1 a.2.2.1).symm
  · rw [if_neg a]
    by_cases b : r = 998 ∧ x = 0 ∧ k = 0
    · rw [if_pos b, b.1, b.2.1, b.2.2]; exact e8.symm
    · rw [if_neg b]
set_option maxRecDepth 100000 in
theorem h_X11_182_54 {j : Nat} : 0 < gR (q_Tp j) 999 0 0 := (show 0 < 1 from Nat.zero_lt_one)
set_option maxRecDepth 100000 in
theorem g_X11_init_55 {j : Nat} : gR (q_Tp j) 0 0 14 = 1 := rfl
def q_X11_182_1 (j : Nat) : Mem := sN (q_Tp j) 42
theorem zl_X11_182_1 {j : Nat} : Zl (q_X11_182_1 j) := zl_Tp.n
theorem v_X11_182_1 {j : Nat} : ∀ r x k, gR (q_X11_182_1 j) r x k = if r = 999 ∧ x = 42 ∧ k = 0 then j + 1 else if r = 998 ∧ x = 0 ∧ k = 0 then 163 + 2 * j + 1 else if r = 42 ∧ x = j then 0 else gR (q_Tp j) r x k := fun _ _ _ => rfl
theorem u_X11_182_1 {j : Nat} : ∀ r x k, gI (q_X11_182_1 j) r x k = if r = 42 ∧ x = j then 0 else gI (q_Tp j) r x k := fun _ _ _ => rfl
theorem b_X11_182_1 {j : Nat} : j = gR (q_Tp j) 999 42 0 := rfl
theorem a_X11_182_1 {j : Nat} (hj : j < 6) : gR (q_Tp j) 997 42 j = gR (q_Tp j) 998 0 0 := p_42 hj
set_option maxRecDepth 100000 in
theorem h_X8_init_56 {j : Nat} : j < gR (q_X11_182_1 j) 999 42 0 := (show j < j + 1 from Nat.lt_succ_self j)
def q_X8_init_1 (j : Nat) : Mem := sI (q_X11_182_1 j) 42 j 0 (-1)
theorem zl_X8_init_1 {j : Nat} : Zl (q_X8_init_1 j) := zl_X11_182_1.i
theorem v_X8_init_1 {j : Nat} : ∀ r x k, gR (q_X8_init_1 j) r x k = gR (q_X11_182_1 j) r x k := fun _ _ _ => rfl
theorem u_X8_init_1 {j : Nat} : ∀ r x k, gI (q_X8_init_1 j) r x k = if r = 42 ∧ x = j ∧ k = 0 then (-1) else gI (q_X11_182_1 j) r x k := fun _ _ _ => rfl
def q_X8_init_2 (j : Nat) : Mem := sN (q_X8_init_1 j) 43
theorem zl_X8_init_2 {j : Nat} : Zl (q_X8_init_2 j) := zl_X8_init_1.n
theorem v_X8_init_2 {j : Nat} : ∀ r x k, gR (q_X8_init_2 j) r x k = if r = 999 ∧ x = 43 ∧ k = 0 then j + 1 else if r = 998 ∧ x = 0 ∧ k = 0 then 163 + 2 * j + 1 + 1 else if r = 43 ∧ x = j then 0 else gR (q_X8_init_1 j) r x k := fun _ _ _ => rfl
theorem u_X8_init_2 {j : Nat} : ∀ r x k, gI (q_X8_init_2 j) r x k = if r = 43 ∧ x = j then 0 else gI (q_X8_init_1 j) r x k := fun _ _ _ => rfl
theorem b_X8_init_2 {j : Nat} : j = gR (q_X8_init_1 j) 999 43 0 := rfl
theorem a_X8_init_2 {j : Nat} (hj : j < 6) : gR (q_X8_init_1 j) 997 43 j = gR (q_X8_init_1 j) 998 0 0 := p_43 hj
set_option maxRecDepth 100000 in
theorem h_X8_init_57 {j : Nat} : j < gR (q_X8_init_2 j) 999 42 0 := (show j < j + 1 from Nat.lt_succ_self j)
def q_X8_init_3 (j : Nat) : Mem := sR (q_X8_init_2 j) 42 j 1 (j + 1)
theorem zl_X8_init_3 {j : Nat} : Zl (q_X8_init_3 j) := zl_X8_init_2.r
theorem v_X8_init_3 {j : Nat} : ∀ r x k, gR (q_X8_init_3 j) r x k = if r = 42 ∧ x = j ∧ k = 1 then j + 1 else gR (q_X8_init_2 j) r x k := fun _ _ _ => rfl
theorem u_X8_init_3 {j : Nat} : ∀ r x k, gI (q_X8_init_3 j) r x k = gI (q_X8_init_2 j) r x k := fun _ _ _ => rfl
set_option maxRecDepth 100000 in
theorem h_X11_182_58 {j : Nat} : 0 < gR (q_X8_init_3 j) 999 12 0 := (show 0 < 1 from Nat.zero_lt_one)
set_option maxRecDepth 100000 in
theorem h_X11_182_59 {j : Nat} : j < gR (q_X8_init_3 j) 999 42 0 := (show j < j + 1 from Nat.lt_succ_self j)
def q_X11_182_2 (j : Nat) : Mem := sR (q_X8_init_3 j) 12 0 j (j + 1)
theorem zl_X11_182_2 {j : Nat} : Zl (q_X11_182_2 j) := zl_X8_init_3.r
theorem v_X11_182_2 {j : Nat} : ∀ r x k, gR (q_X11_182_2 j) r x k = if r = 12 ∧ x = 0 ∧ k = j then j + 1 else gR (q_X8_init_3 j) r x k := fun _ _ _ => rfl
theorem u_X11_182_2 {j : Nat} : ∀ r x k, gI (q_X11_182_2 j) r x k = gI (q_X8_init_3 j) r x k := fun _ _ _ => rfl
set_option maxRecDepth 100000 in
set_option maxHeartbeats 4000000 in
theorem Tp_s {j : Nat} (hj : j < 6) : (q_X11_182_2 j) = q_Tp (j + 1) := by
  refine Prod.ext (funext fun r => funext fun x => funext fun k => ?_) (Prod.ext (funext fun r => funext fun x => funext fun k => ?_) (funext fun r => funext fun x => funext fun k => ?_))
  · show gI (q_X11_182_2 j) r x k = gI (q_Tp (j + 1)) r x k
    have hz := Tp_zi r x k
    simp only [u_X11_182_1, u_X8_init_1, u_X8_init_2, u_X8_init_3, u_X11_182_2, u_Tp]
    generalize gI (q_By 30) r x k = g at hz ⊢
    rcases (show r = 42 ∨ r = 43 ∨ (¬ r = 42 ∧ ¬ r = 43) by omega) with rfl | rfl | ⟨n42, n43⟩
    · simp (decide := true) only [true_and, false_and, if_true, if_false]
      repeat' (first | (refine iteL (fun _ => ?_) (fun _ => ?_)) | (refine iteR (fun _ => ?_) (fun _ => ?_)))
      all_goals first | rfl | (exfalso; omega) | (have e : x = j := (by omega); subst e; rfl) | exact (hz (by omega) (by omega)).symm
    · simp (decide := true) only [true_and, false_and, if_true, if_false]
      repeat' (first | (refine iteL (fun _ => ?_) (fun _ => ?_)) | (refine iteR (fun _ => ?_) (fun _ => ?_)))
      all_goals first | rfl | (exfalso; omega) | (have e : x = j := (by omega); subst e; rfl) | exact (hz (by omega) (by omega)).symm
    · simp only [n42, n43, false_and, if_false]
  · exact (zl_X11_182_2 r x k).trans (zl_Tp (j := j + 1) r x k).symm
  · show gR (q_X11_182_2 j) r x k = gR (q_Tp (j + 1)) r x k
    have hz := Tp_z r x k
    simp only [v_X11_182_1, v_X8_init_1, v_X8_init_2, v_X8_init_3, v_X11_182_2, v_Tp]
    generalize gR (q_By 30) r x k = g at hz ⊢
    rcases (show r = 12 ∨ r = 42 ∨ r = 43 ∨ r = 998 ∨ r = 999 ∨ (¬ r = 12 ∧ ¬ r = 42 ∧ ¬ r = 43 ∧ ¬ r = 998 ∧ ¬ r = 999) by omega) with rfl | rfl | rfl | rfl | rfl | ⟨n12, n42, n43, n998, n999⟩
    · simp (decide := true) only [true_and, false_and, if_true, if_false]
      repeat' (first | (refine iteL (fun _ => ?_) (fun _ => ?_)) | (refine iteR (fun _ => ?_) (fun _ => ?_)))
      all_goals first | rfl | omega | exact (hz (by omega) (by omega)).symm
    · simp (decide := true) only [true_and, false_and, if_true, if_false]
      repeat' (first | (refine iteL (fun _ => ?_) (fun _ => ?_)) | (refine iteR (fun _ => ?_) (fun _ => ?_)))
      all_goals first | rfl | omega | exact (hz (by omega) (by omega)).symm
    · simp (decide := true) only [true_and, false_and, if_true, if_false]
      repeat' (first | (refine iteL (fun _ => ?_) (fun _ => ?_)) | (refine iteR (fun _ => ?_) (fun _ => ?_)))
      all_goals first | rfl | omega | exact (hz (by omega) (by omega)).symm
    · simp (decide := true) only [true_and, false_and, if_true, if_false]
      repeat' (first | (refine iteL (fun _ => ?_) (fun _ => ?_)) | (refine iteR (fun _ => ?_) (fun _ => ?_)))
      all_goals first | rfl | omega | exact (hz (by omega) (by omega)).symm
    · simp (decide := true) only [true_and, false_and, if_true, if_false]
      repeat' (first | (refine iteL (fun _ => ?_) (fun _ => ?_)) | (refine iteR (fun _ => ?_) (fun _ => ?_)))
      all_goals first | rfl | omega | exact (hz (by omega) (by omega)).symm
    · simp only [n12, n42, n43, n998, n999, false_and, if_false]
set_option maxRecDepth 100000 in
set_option maxHeartbeats 4000000 in
theorem c_X7_init {l : Launch} {K : KG} {ad : Nat → Nat → Nat} : Met l yX7_init (Cond.code yX7_init cX7_init 1 none :: ztb) (RM (1) 1 100) (zPc K LK ad q_X11_init_9 [.ref (ad 5 0)]) (zQ K LK ad none q_X7_init_2) 1 100 (zA ad) := by
  refine z_enter (by decide) (Nat.le_of_ble_eq_true rfl) ?_
  intro p e s m args below meth c ls C hin hargs Z hl
  replace C : Cx p s m args meth c cX7_init 1 "GlassPalace$Script" none := C
  replace hl : lv_has ls 1 [(0, .ref (ad 5 0))] := hl
  have hR : 1 ≤ (RM (1) 1 100).frames ∧ 40 * 1 ≤ (RM (1) 1 100).locals := ⟨Nat.le_refl _, Nat.le_refl _⟩
  refine lv_aload_n C.x C.b dX7_init_0 rfl (lv_at hl 0 rfl) ?_
  refine z_obj C kk_140 k_129 k_130 hl.1 hR (by decide) (Nat.le_of_ble_eq_true rfl) dX7_init_1 ?_
  refine lv_aload_n C.x C.b dX7_init_4 rfl (lv_at hl 0 rfl) ?_
  refine lv_bipush (v := 100) C.x C.b dX7_init_5 (by decide) ?_
  refine z_newa (atype := .int) (ty := .int) (i := 0) (N := 100) (r := 16) (b := 0) (M1 := q_X7_init_1) C Z rfl rfl rfl kk_155 (by decide) (b_X7_init_1) (a_X7_init_1) rfl (fun k => sv0_new (by decide) b_X7_init_1 rfl) (lc0B (by decide) b_X7_init_1) (lc0N (by decide) b_X7_init_1 rfl) (lc0O (by decide) rfl) (lc0H (by decide)) (by decide) (by decide) (Nat.le_of_ble_eq_true rfl) (Nat.le_of_ble_eq_true rfl) (Nat.le_of_ble_eq_true rfl) dX7_init_7 (fun H Z => ?_)
  refine z_put (M1 := q_X7_init_2) C Z (lc0L (by decide) h_X7_init_5) (by decide) rfl zc7 zin7 tyX7_ok nmX7 1 (by decide) k_143 rfl (zUp_R (v := 0 + 1) (t := 16) rfl (by decide) rfl) (Or.inr ⟨hin rfl, rfl⟩) rfl rfl dX7_init_9 (fun H locs Z => ?_)
  refine W.widen (k := 1) (n := 100) (Nat.le_of_ble_eq_true rfl) (Nat.le_of_ble_eq_true rfl) ?_
  exact z_vret C Z dX7_init_12
set_option maxRecDepth 100000 in
set_option maxHeartbeats 4000000 in
theorem c_X9_init {l : Launch} {K : KG} {ad : Nat → Nat → Nat} {j : Nat} (hj : j < 10) : Met l yX9_init (Cond.code yX9_init cX9_init 1 none :: ztb) (RM (1) 3 116) (zPc K LK ad (q_X3_23_1 j) [.ref (ad 19 j)]) (zQ K LK ad none (q_X9_init_6 j)) 3 116 (zA ad) := by
  refine z_enter (by decide) (Nat.le_of_ble_eq_true rfl) ?_
  intro p e s m args below meth c ls C hin hargs Z hl
  replace C : Cx p s m args meth c cX9_init 1 "GlassPalace$Text" none := C
  replace hl : lv_has ls 1 [(0, .ref (ad 19 j))] := hl
  have hR : 1 ≤ (RM (1) 3 116).frames ∧ 40 * 1 ≤ (RM (1) 3 116).locals := ⟨Nat.le_refl _, Nat.le_refl _⟩
  refine lv_aload_n C.x C.b dX9_init_0 rfl (lv_at hl 0 rfl) ?_
  refine z_obj C kk_168 k_129 k_130 hl.1 hR (by decide) (Nat.le_of_ble_eq_true rfl) dX9_init_1 ?_
  refine lv_aload_n C.x C.b dX9_init_4 rfl (lv_at hl 0 rfl) ?_
  refine lv_bipush (v := 8) C.x C.b dX9_init_5 (by decide) ?_
  refine z_newa (atype := .int) (ty := .int) (i := 0) (N := 8) (r := 20) (b := j) (M1 := q_X9_init_1 j) C Z rfl rfl rfl kk_155 (by decide) (b_X9_init_1) (a_X9_init_1 hj) rfl (fun k => sv0_new (by decide) b_X9_init_1 rfl) (lc0B (by decide) b_X9_init_1) (lc0N (by decide) b_X9_init_1 rfl) (lc0O (by decide) rfl) (lc0H (by decide)) (by decide) (by decide) (Nat.le_of_ble_eq_true rfl) (Nat.le_of_ble_eq_true rfl) (Nat.le_of_ble_eq_true rfl) dX9_init_7 (fun H Z => ?_)
  refine z_put (M1 := q_X9_init_2 j) C Z (lc0L (by decide) h_X9_init_11) (by decide) rfl zc9 zin9 tyX9_ok nmX9 3 (by decide) k_174 rfl (zUp_R (v := j + 1) (t := 20) rfl (by decide) rfl) (Or.inr ⟨hin rfl, rfl⟩) rfl rfl dX9_init_9 (fun H locs Z => ?_)
  refine lv_aload_n C.x C.b dX9_init_12 rfl (lv_at hl 0 rfl) ?_
  refine lv_bipush (v := 8) C.x C.b dX9_init_13 (by decide) ?_
  refine z_newa (atype := .int) (ty := .int) (i := 0) (N := 8) (r := 21) (b := j) (M1 := q_X9_init_3 j) C Z rfl rfl rfl kk_155 (by decide) (b_X9_init_3) (a_X9_init_3 hj) rfl (fun k => sv0_new (by decide) b_X9_init_3 rfl) (lc0B (by decide) b_X9_init_3) (lc0N (by decide) b_X9_init_3 rfl) (lc0O (by decide) rfl) (lc0H (by decide)) (by decide) (by decide) (Nat.le_of_ble_eq_true rfl) (Nat.le_of_ble_eq_true rfl) (Nat.le_of_ble_eq_true rfl) dX9_init_15 (fun H Z => ?_)
  refine z_put (M1 := q_X9_init_4 j) C Z (lc0L (by decide) h_X9_init_12) (by decide) rfl zc9 zin9 tyX9_ok nmX9 4 (by decide) k_175 rfl (zUp_R (v := j + 1) (t := 21) rfl (by decide) rfl) (Or.inr ⟨hin rfl, rfl⟩) rfl rfl dX9_init_17 (fun H locs Z => ?_)
  refine lv_aload_n C.x C.b dX9_init_20 rfl (lv_at hl 0 rfl) ?_
  refine lv_bipush (v := 100) C.x C.b dX9_init_21 (by decide) ?_
  refine z_newa (atype := .int) (ty := .int) (i := 0) (N := 100) (r := 22) (b := j) (M1 := q_X9_init_5 j) C Z rfl rfl rfl kk_155 (by decide) (b_X9_init_5) (a_X9_init_5 hj) rfl (fun k => sv0_new (by decide) b_X9_init_5 rfl) (lc0B (by decide) b_X9_init_5) (lc0N (by decide) b_X9_init_5 rfl) (lc0O (by decide) rfl) (lc0H (by decide)) (by decide) (by decide) (Nat.le_of_ble_eq_true rfl) (Nat.le_of_ble_eq_true rfl) (Nat.le_of_ble_eq_true rfl) dX9_init_23 (fun H Z => ?_)
  refine z_put (M1 := q_X9_init_6 j) C Z (lc0L (by decide) h_X9_init_13) (by decide) rfl zc9 zin9 tyX9_ok nmX9 5 (by decide) k_176 rfl (zUp_R (v := j + 1) (t := 22) rfl (by decide) rfl) (Or.inr ⟨hin rfl, rfl⟩) rfl rfl dX9_init_25 (fun H locs Z => ?_)
  refine W.widen (k := 3) (n := 116) (Nat.le_of_ble_eq_true rfl) (Nat.le_of_ble_eq_true rfl) ?_
  exact z_vret C Z dX9_init_28
set_option maxRecDepth 100000 in
set_option maxHeartbeats 4000000 in
theorem w_X3_23 {p : Program} {l : Launch} {e : Env} {s : State} {m : MethodId} {args : Array Value} {below : List Frame} {meth : Method} {c : Code} {K : KG} {ad : Nat → Nat → Nat} {Q : State → Prop} (C : Cx p s m args meth c cX3_init 2 "GlassPalace$Laws" none) (hR : 2 ≤ (RM (2) 42 1236).frames ∧ 40 * 2 ≤ (RM (2) 42 1236).locals) (hO : AO5 s) {cf sf : Nat} (hcf : cf ≤ 42) (hsf : sf ≤ 1236) (kx : ∀ (H : Heap) (locs : List Loc) (ls : Array Slot), Zd K LK ad (q_Tx 10) s H locs → lv_has ls 2 [(0, .ref (ad 6 0)), (1, .int (nI 10))] → W p l e (RM (2) 42 1236) s m args below meth c H locs cf sf Q (F0 m 48 ls [])) : ∀ (d j : Nat) (H : Heap) (locs : List Loc) (ls : Array Slot) (cells slots : Nat), j + d = 10 → cells + 4 * d ≤ cf → slots + 122 * d ≤ sf → Zd K LK ad (q_Tx j) s H locs → lv_has ls 2 [(0, .ref (ad 6 0)), (1, .int (nI j))] → W p l e (RM (2) 42 1236) s m args below meth c H locs cells slots Q (F0 m 23 ls []) := by
  intro d
  induction d with
  | zero =>
    intro j H locs ls cells slots hj hc hs Z hl
    have ej : j = 10 := by omega
    subst ej
    refine lv_iload_n C.x C.b dX3_init_23 rfl (lv_at hl 1 rfl) ?_
    refine lv_bipush (v := 10) C.x C.b dX3_init_24 (by decide) ?_
    refine lv_icmp_ge (tgt := 48) C.x C.b dX3_init_26 (by decide) (fun _ => ?_) (fun h => absurd (show (10 : Int32) ≤ nI 10 by decide) h)
    exact W.widen (k := cf) (n := sf) (by omega) (by omega) (kx H locs ls Z hl)
  | succ d ih =>
    intro j H locs ls cells slots hjd hc hs Z hl
    have hj : j < 10 := by omega
    refine lv_iload_n C.x C.b dX3_init_23 rfl (lv_at hl 1 rfl) ?_
    refine lv_bipush (v := 10) C.x C.b dX3_init_24 (by decide) ?_
    refine lv_icmp_ge (tgt := 48) C.x C.b dX3_init_26 (by decide) (fun h => absurd h (nI_ge (b := 10) hj (by decide))) (fun _ => ?_)
    refine lv_aload_n C.x C.b dX3_init_29 rfl (lv_at hl 0 rfl) ?_
    refine z_get (v := .ref (ad 17 0)) C Z (lc0L (by decide) h_X3_23_9) rfl zc3 zin3 1 (by decide) k_192 rfl (by show rf (ad 17) (gR (q_Tx j) 6 0 1) = _; rw [g_X3_init_10]; rfl) dX3_init_30 ?_
    refine lv_iload_n C.x C.b dX3_init_33 rfl (lv_at hl 1 rfl) ?_
    refine z_new (M1 := q_X3_23_1 j) (r := 19) (b := j) C Z rfl zc9 zin9 tyX9_ok kk_162 kk_164 k_106 (by decide) (b_X3_23_1) (a_X3_23_1 hj) rfl (fun k hk => (show defaultValue (tyX9 k) = svd LC 19 k by rcases (show k = 0 ∨ k = 1 ∨ k = 2 ∨ k = 3 ∨ k = 4 ∨ k = 5 by omega) with rfl | rfl | rfl | rfl | rfl | rfl <;> rfl).trans (sv0_d (by decide) b_X3_23_1 rfl).symm) (lc0B (by decide) b_X3_23_1) (lc0N (by decide) b_X3_23_1 rfl) (lc0O (by decide) rfl) (lc0H (by decide)) (by show (_ : Nat) ≤ 42; omega) (by show (_ : Nat) ≤ 1236; omega) dX3_init_34 (fun H Z => ?_)
    refine lv_dup C.x C.b dX3_init_37 rfl ?_
    refine z_calI (As := []) (rest := [.ref (ad 19 j), .int (nI j), .ref (ad 17 0)]) C Z mw_X9_init mv_X9_init rfl kk_165 (by decide) (z_hR hR (by decide)) (c_X9_init (l := l) (K := K) (ad := ad) hj) rfl hl.1 rfl (Nat.le_of_ble_eq_true rfl) dX3_init_38 ⟨(by show (_ : Nat) ≤ 42; omega), (by show (_ : Nat) ≤ 1236; omega)⟩ (fun H locs Z => ?_)
    refine z_aast (M1 := q_X3_23_2 j) (x := j + 1) C Z (lc0L (by decide) h_X3_23_14) (by decide) rfl (t := 5) rfl (r2 := 19) rfl zc9 (jj (lc0L (by decide) h_X3_23_15)) (nI_in (by omega) (by decide)) (by rw [nI_clamp (by omega)]; rfl) (by rw [nI_clamp (by omega)]; rfl) dX3_init_41 (fun H locs Z => ?_)
    rw [Tx_s hj] at Z
    refine z_iinc (v := nI (j + 1)) (lv' := [(1, .int (nI (j + 1))), (0, .ref (ad 6 0))]) C dX3_init_42 hl (k := 1) rfl (nI_1 j) (by decide) rfl (onlast 0 rfl rfl rfl) (fun ls hl => ?_)
    refine lv_goto (tgt := 23) C.x C.b dX3_init_45 (by decide) ?_
    exact ih (j + 1) _ _ _ _ _ (by omega) (by omega) (by omega) Z (lv_sub hl [1, 0] rfl)
set_option maxRecDepth 100000 in
set_option maxHeartbeats 4000000 in
theorem c_X3_init {l : Launch} {K : KG} {ad : Nat → Nat → Nat} : Met l yX3_init (Cond.code yX3_init cX3_init 2 none :: ztb) (RM (2) 42 1236) (zPk K LK ad q_X11_init_11 [.ref (ad 6 0)]) (zQ K LK ad none (q_Tx 10)) 42 1236 (zA ad) := by
  refine z_enterK (by decide) (Nat.le_of_ble_eq_true rfl) ?_
  intro p e s m args below meth c ls C hin hargs hO Z hl
  replace C : Cx p s m args meth c cX3_init 2 "GlassPalace$Laws" none := C
  replace hl : lv_has ls 2 [(0, .ref (ad 6 0))] := hl
  have hR : 2 ≤ (RM (2) 42 1236).frames ∧ 40 * 2 ≤ (RM (2) 42 1236).locals := ⟨Nat.le_refl _, Nat.le_refl _⟩
  refine lv_aload_n C.x C.b dX3_init_0 rfl (lv_at hl 0 rfl) ?_
  refine z_obj C kk_161 k_129 k_130 hl.1 hR (by decide) (Nat.le_of_ble_eq_true rfl) dX3_init_1 ?_
  refine lv_aload_n C.x C.b dX3_init_4 rfl (lv_at hl 0 rfl) ?_
  refine lv_bipush (v := 10) C.x C.b dX3_init_5 (by decide) ?_
  refine z_anewK (Cn := RX9) (i := 5) (N := 10) (r := 17) (b := 0) (M1 := q_X3_init_1) C Z rfl rfl kk_162 hO.2.2.1 (by decide) (b_X3_init_1) (a_X3_init_1) rfl (fun k => sv0_new (by decide) b_X3_init_1 rfl) (lc0B (by decide) b_X3_init_1) (lc0N (by decide) b_X3_init_1 rfl) (lc0O (by decide) rfl) (lc0H (by decide)) (by decide) (by decide) (Nat.le_of_ble_eq_true rfl) (Nat.le_of_ble_eq_true rfl) (Nat.le_of_ble_eq_true rfl) dX3_init_7 (fun H Z => ?_)
  refine z_put (M1 := q_X3_init_2) C Z (lc0L (by decide) h_X3_init_7) (by decide) rfl zc3 zin3 tyX3_ok nmX3 1 (by decide) k_192 rfl (zUp_R (v := 0 + 1) (t := 17) rfl (by decide) rfl) (Or.inr ⟨hin rfl, rfl⟩) rfl rfl dX3_init_10 (fun H locs Z => ?_)
  refine lv_aload_n C.x C.b dX3_init_13 rfl (lv_at hl 0 rfl) ?_
  refine lv_bipush (v := 6) C.x C.b dX3_init_14 (by decide) ?_
  refine z_newa (atype := .int) (ty := .int) (i := 0) (N := 6) (r := 18) (b := 0) (M1 := q_X3_init_3) C Z rfl rfl rfl kk_155 (by decide) (b_X3_init_3) (a_X3_init_3) rfl (fun k => sv0_new (by decide) b_X3_init_3 rfl) (lc0B (by decide) b_X3_init_3) (lc0N (by decide) b_X3_init_3 rfl) (lc0O (by decide) rfl) (lc0H (by decide)) (by decide) (by decide) (Nat.le_of_ble_eq_true rfl) (Nat.le_of_ble_eq_true rfl) (Nat.le_of_ble_eq_true rfl) dX3_init_16 (fun H Z => ?_)
  refine z_put (M1 := q_X3_init_4) C Z (lc0L (by decide) h_X3_init_8) (by decide) rfl zc3 zin3 tyX3_ok nmX3 2 (by decide) k_193 rfl (zUp_R (v := 0 + 1) (t := 18) rfl (by decide) rfl) (Or.inr ⟨hin rfl, rfl⟩) rfl rfl dX3_init_18 (fun H locs Z => ?_)
  refine lv_iconst (v := 0) C.x C.b dX3_init_21 (by decide) ?_
  refine z_istore_n (lv' := [(1, .int 0), (0, .ref (ad 6 0))]) C dX3_init_22 rfl hl (by decide) rfl (onlast 0 rfl rfl rfl) (fun ls hl => ?_)
  rw [← Tx_0] at Z
  refine w_X3_23 C hR hO (cf := 42) (sf := 1236) (Nat.le_of_ble_eq_true rfl) (Nat.le_of_ble_eq_true rfl) (fun H locs ls Z hl => ?_) 10 0 _ _ _ _ _ rfl (Nat.le_of_ble_eq_true rfl) (Nat.le_of_ble_eq_true rfl) Z (lv_sub hl [1, 0] rfl)
  replace hl : lv_has ls 2 [(0, .ref (ad 6 0)), (1, .int (nI 10))] := hl
  exact z_vret C Z dX3_init_48
set_option maxRecDepth 100000 in
set_option maxHeartbeats 4000000 in
theorem c_X10_init {l : Launch} {K : KG} {ad : Nat → Nat → Nat} : Met l yX10_init (Cond.code yX10_init cX10_init 1 none :: ztb) (RM (1) 5 144) (zPc K LK ad q_X11_init_13 [.ref (ad 7 0)]) (zQ K LK ad none q_X10_init_10) 5 144 (zA ad) := by
  refine z_enter (by decide) (Nat.le_of_ble_eq_true rfl) ?_
  intro p e s m args below meth c ls C hin hargs Z hl
  replace C : Cx p s m args meth c cX10_init 1 "GlassPalace$Water" none := C
  replace hl : lv_has ls 1 [(0, .ref (ad 7 0))] := hl
  have hR : 1 ≤ (RM (1) 5 144).frames ∧ 40 * 1 ≤ (RM (1) 5 144).locals := ⟨Nat.le_refl _, Nat.le_refl _⟩
  refine lv_aload_n C.x C.b dX10_init_0 rfl (lv_at hl 0 rfl) ?_
  refine z_obj C kk_206 k_129 k_130 hl.1 hR (by decide) (Nat.le_of_ble_eq_true rfl) dX10_init_1 ?_
  refine lv_aload_n C.x C.b dX10_init_4 rfl (lv_at hl 0 rfl) ?_
  refine lv_bipush (v := 24) C.x C.b dX10_init_5 (by decide) ?_
  refine z_newa (atype := .int) (ty := .int) (i := 0) (N := 24) (r := 25) (b := 0) (M1 := q_X10_init_1) C Z rfl rfl rfl kk_155 (by decide) (b_X10_init_1) (a_X10_init_1) rfl (fun k => sv0_new (by decide) b_X10_init_1 rfl) (lc0B (by decide) b_X10_init_1) (lc0N (by decide) b_X10_init_1 rfl) (lc0O (by decide) rfl) (lc0H (by decide)) (by decide) (by decide) (Nat.le_of_ble_eq_true rfl) (Nat.le_of_ble_eq_true rfl) (Nat.le_of_ble_eq_true rfl) dX10_init_7 (fun H Z => ?_)
  refine z_put (M1 := q_X10_init_2) C Z (lc0L (by decide) h_X10_init_17) (by decide) rfl zc10 zin10 tyX10_ok nmX10 0 (by decide) k_207 rfl (zUp_R (v := 0 + 1) (t := 25) rfl (by decide) rfl) (Or.inr ⟨hin rfl, rfl⟩) rfl rfl dX10_init_9 (fun H locs Z => ?_)
  refine lv_aload_n C.x C.b dX10_init_12 rfl (lv_at hl 0 rfl) ?_
  refine lv_bipush (v := 30) C.x C.b dX10_init_13 (by decide) ?_
  refine z_newa (atype := .int) (ty := .int) (i := 0) (N := 30) (r := 26) (b := 0) (M1 := q_X10_init_3) C Z rfl rfl rfl kk_155 (by decide) (b_X10_init_3) (a_X10_init_3) rfl (fun k => sv0_new (by decide) b_X10_init_3 rfl) (lc0B (by decide) b_X10_init_3) (lc0N (by decide) b_X10_init_3 rfl) (lc0O (by decide) rfl) (lc0H (by decide)) (by decide) (by decide) (Nat.le_of_ble_eq_true rfl) (Nat.le_of_ble_eq_true rfl) (Nat.le_of_ble_eq_true rfl) dX10_init_15 (fun H Z => ?_)
  refine z_put (M1 := q_X10_init_4) C Z (lc0L (by decide) h_X10_init_18) (by decide) rfl zc10 zin10 tyX10_ok nmX10 1 (by decide) k_209 rfl (zUp_R (v := 0 + 1) (t := 26) rfl (by decide) rfl) (Or.inr ⟨hin rfl, rfl⟩) rfl rfl dX10_init_17 (fun H locs Z => ?_)
  refine lv_aload_n C.x C.b dX10_init_20 rfl (lv_at hl 0 rfl) ?_
  refine lv_bipush (v := 30) C.x C.b dX10_init_21 (by decide) ?_
  refine z_newa (atype := .int) (ty := .int) (i := 0) (N := 30) (r := 27) (b := 0) (M1 := q_X10_init_5) C Z rfl rfl rfl kk_155 (by decide) (b_X10_init_5) (a_X10_init_5) rfl (fun k => sv0_new (by decide) b_X10_init_5 rfl) (lc0B (by decide) b_X10_init_5) (lc0N (by decide) b_X10_init_5 rfl) (lc0O (by decide) rfl) (lc0H (by decide)) (by decide) (by decide) (Nat.le_of_ble_eq_true rfl) (Nat.le_of_ble_eq_true rfl) (Nat.le_of_ble_eq_true rfl) dX10_init_23 (fun H Z => ?_)
  refine z_put (M1 := q_X10_init_6) C Z (lc0L (by decide) h_X10_init_19) (by decide) rfl zc10 zin10 tyX10_ok nmX10 2 (by decide) k_211 rfl (zUp_R (v := 0 + 1) (t := 27) rfl (by decide) rfl) (Or.inr ⟨hin rfl, rfl⟩) rfl rfl dX10_init_25 (fun H locs Z => ?_)
  refine lv_aload_n C.x C.b dX10_init_28 rfl (lv_at hl 0 rfl) ?_
  refine lv_bipush (v := 30) C.x C.b dX10_init_29 (by decide) ?_
  refine z_newa (atype := .int) (ty := .int) (i := 0) (N := 30) (r := 28) (b := 0) (M1 := q_X10_init_7) C Z rfl rfl rfl kk_155 (by decide) (b_X10_init_7) (a_X10_init_7) rfl (fun k => sv0_new (by decide) b_X10_init_7 rfl) (lc0B (by decide) b_X10_init_7) (lc0N (by decide) b_X10_init_7 rfl) (lc0O (by decide) rfl) (lc0H (by decide)) (by decide) (by decide) (Nat.le_of_ble_eq_true rfl) (Nat.le_of_ble_eq_true rfl) (Nat.le_of_ble_eq_true rfl) dX10_init_31 (fun H Z => ?_)
  refine z_put (M1 := q_X10_init_8) C Z (lc0L (by decide) h_X10_init_20) (by decide) rfl zc10 zin10 tyX10_ok nmX10 3 (by decide) k_213 rfl (zUp_R (v := 0 + 1) (t := 28) rfl (by decide) rfl) (Or.inr ⟨hin rfl, rfl⟩) rfl rfl dX10_init_33 (fun H locs Z => ?_)
  refine lv_aload_n C.x C.b dX10_init_36 rfl (lv_at hl 0 rfl) ?_
  refine lv_bipush (v := 30) C.x C.b dX10_init_37 (by decide) ?_
  refine z_newa (atype := .int) (ty := .int) (i := 0) (N := 30) (r := 29) (b := 0) (M1 := q_X10_init_9) C Z rfl rfl rfl kk_155 (by decide) (b_X10_init_9) (a_X10_init_9) rfl (fun k => sv0_new (by decide) b_X10_init_9 rfl) (lc0B (by decide) b_X10_init_9) (lc0N (by decide) b_X10_init_9 rfl) (lc0O (by decide) rfl) (lc0H (by decide)) (by decide) (by decide) (Nat.le_of_ble_eq_true rfl) (Nat.le_of_ble_eq_true rfl) (Nat.le_of_ble_eq_true rfl) dX10_init_39 (fun H Z => ?_)
  refine z_put (M1 := q_X10_init_10) C Z (lc0L (by decide) h_X10_init_21) (by decide) rfl zc10 zin10 tyX10_ok nmX10 4 (by decide) k_214 rfl (zUp_R (v := 0 + 1) (t := 29) rfl (by decide) rfl) (Or.inr ⟨hin rfl, rfl⟩) rfl rfl dX10_init_41 (fun H locs Z => ?_)
  refine W.widen (k := 5) (n := 144) (Nat.le_of_ble_eq_true rfl) (Nat.le_of_ble_eq_true rfl) ?_
  exact z_vret C Z dX10_init_44
set_option maxRecDepth 100000 in
set_option maxHeartbeats 4000000 in
theorem c_X6_init {l : Launch} {K : KG} {ad : Nat → Nat → Nat} : Met l yX6_init (Cond.code yX6_init cX6_init 1 none :: ztb) (RM (1) 8 112) (zPc K LK ad q_X11_init_17 [.ref (ad 9 0)]) (zQ K LK ad none q_X6_init_16) 8 112 (zA ad) := by
  refine z_enter (by decide) (Nat.le_of_ble_eq_true rfl) ?_
  intro p e s m args below meth c ls C hin hargs Z hl
  replace C : Cx p s m args meth c cX6_init 1 "GlassPalace$Plan" none := C
  replace hl : lv_has ls 1 [(0, .ref (ad 9 0))] := hl
  have hR : 1 ≤ (RM (1) 8 112).frames ∧ 40 * 1 ≤ (RM (1) 8 112).locals := ⟨Nat.le_refl _, Nat.le_refl _⟩
  refine lv_aload_n C.x C.b dX6_init_0 rfl (lv_at hl 0 rfl) ?_
  refine z_obj C kk_233 k_129 k_130 hl.1 hR (by decide) (Nat.le_of_ble_eq_true rfl) dX6_init_1 ?_
  refine lv_aload_n C.x C.b dX6_init_4 rfl (lv_at hl 0 rfl) ?_
  refine lv_bipush (v := 20) C.x C.b dX6_init_5 (by decide) ?_
  refine z_newa (atype := .int) (ty := .int) (i := 0) (N := 20) (r := 30) (b := 0) (M1 := q_X6_init_1) C Z rfl rfl rfl kk_155 (by decide) (b_X6_init_1) (a_X6_init_1) rfl (fun k => sv0_new (by decide) b_X6_init_1 rfl) (lc0B (by decide) b_X6_init_1) (lc0N (by decide) b_X6_init_1 rfl) (lc0O (by decide) rfl) (lc0H (by decide)) (by decide) (by decide) (Nat.le_of_ble_eq_true rfl) (Nat.le_of_ble_eq_true rfl) (Nat.le_of_ble_eq_true rfl) dX6_init_7 (fun H Z => ?_)
  refine z_put (M1 := q_X6_init_2) C Z (lc0L (by decide) h_X6_init_24) (by decide) rfl zc6 zin6 tyX6_ok nmX6 2 (by decide) k_238 rfl (zUp_R (v := 0 + 1) (t := 30) rfl (by decide) rfl) (Or.inr ⟨hin rfl, rfl⟩) rfl rfl dX6_init_9 (fun H locs Z => ?_)
  refine lv_aload_n C.x C.b dX6_init_12 rfl (lv_at hl 0 rfl) ?_
  refine lv_bipush (v := 20) C.x C.b dX6_init_13 (by decide) ?_
  refine z_newa (atype := .int) (ty := .int) (i := 0) (N := 20) (r := 31) (b := 0) (M1 := q_X6_init_3) C Z rfl rfl rfl kk_155 (by decide) (b_X6_init_3) (a_X6_init_3) rfl (fun k => sv0_new (by decide) b_X6_init_3 rfl) (lc0B (by decide) b_X6_init_3) (lc0N (by decide) b_X6_init_3 rfl) (lc0O (by decide) rfl) (lc0H (by decide)) (by decide) (by decide) (Nat.le_of_ble_eq_true rfl) (Nat.le_of_ble_eq_true rfl) (Nat.le_of_ble_eq_true rfl) dX6_init_15 (fun H Z => ?_)
  refine z_put (M1 := q_X6_init_4) C Z (lc0L (by decide) h_X6_init_25) (by decide) rfl zc6 zin6 tyX6_ok nmX6 3 (by decide) k_240 rfl (zUp_R (v := 0 + 1) (t := 31) rfl (by decide) rfl) (Or.inr ⟨hin rfl, rfl⟩) rfl rfl dX6_init_17 (fun H locs Z => ?_)
  refine lv_aload_n C.x C.b dX6_init_20 rfl (lv_at hl 0 rfl) ?_
  refine lv_bipush (v := 20) C.x C.b dX6_init_21 (by decide) ?_
  refine z_newa (atype := .int) (ty := .int) (i := 0) (N := 20) (r := 32) (b := 0) (M1 := q_X6_init_5) C Z rfl rfl rfl kk_155 (by decide) (b_X6_init_5) (a_X6_init_5) rfl (fun k => sv0_new (by decide) b_X6_init_5 rfl) (lc0B (by decide) b_X6_init_5) (lc0N (by decide) b_X6_init_5 rfl) (lc0O (by decide) rfl) (lc0H (by decide)) (by decide) (by decide) (Nat.le_of_ble_eq_true rfl) (Nat.le_of_ble_eq_true rfl) (Nat.le_of_ble_eq_true rfl) dX6_init_23 (fun H Z => ?_)
  refine z_put (M1 := q_X6_init_6) C Z (lc0L (by decide) h_X6_init_26) (by decide) rfl zc6 zin6 tyX6_ok nmX6 4 (by decide) k_242 rfl (zUp_R (v := 0 + 1) (t := 32) rfl (by decide) rfl) (Or.inr ⟨hin rfl, rfl⟩) rfl rfl dX6_init_25 (fun H locs Z => ?_)
  refine lv_aload_n C.x C.b dX6_init_28 rfl (lv_at hl 0 rfl) ?_
  refine lv_bipush (v := 20) C.x C.b dX6_init_29 (by decide) ?_
  refine z_newa (atype := .int) (ty := .int) (i := 0) (N := 20) (r := 33) (b := 0) (M1 := q_X6_init_7) C Z rfl rfl rfl kk_155 (by decide) (b_X6_init_7) (a_X6_init_7) rfl (fun k => sv0_new (by decide) b_X6_init_7 rfl) (lc0B (by decide) b_X6_init_7) (lc0N (by decide) b_X6_init_7 rfl) (lc0O (by decide) rfl) (lc0H (by decide)) (by decide) (by decide) (Nat.le_of_ble_eq_true rfl) (Nat.le_of_ble_eq_true rfl) (Nat.le_of_ble_eq_true rfl) dX6_init_31 (fun H Z => ?_)
  refine z_put (M1 := q_X6_init_8) C Z (lc0L (by decide) h_X6_init_27) (by decide) rfl zc6 zin6 tyX6_ok nmX6 5 (by decide) k_244 rfl (zUp_R (v := 0 + 1) (t := 33) rfl (by decide) rfl) (Or.inr ⟨hin rfl, rfl⟩) rfl rfl dX6_init_33 (fun H locs Z => ?_)
  refine lv_aload_n C.x C.b dX6_init_36 rfl (lv_at hl 0 rfl) ?_
  refine lv_bipush (v := 8) C.x C.b dX6_init_37 (by decide) ?_
  refine z_newa (atype := .int) (ty := .int) (i := 0) (N := 8) (r := 34) (b := 0) (M1 := q_X6_init_9) C Z rfl rfl rfl kk_155 (by decide) (b_X6_init_9) (a_X6_init_9) rfl (fun k => sv0_new (by decide) b_X6_init_9 rfl) (lc0B (by decide) b_X6_init_9) (lc0N (by decide) b_X6_init_9 rfl) (lc0O (by decide) rfl) (lc0H (by decide)) (by decide) (by decide) (Nat.le_of_ble_eq_true rfl) (Nat.le_of_ble_eq_true rfl) (Nat.le_of_ble_eq_true rfl) dX6_init_39 (fun H Z => ?_)
  refine z_put (M1 := q_X6_init_10) C Z (lc0L (by decide) h_X6_init_28) (by decide) rfl zc6 zin6 tyX6_ok nmX6 6 (by decide) k_245 rfl (zUp_R (v := 0 + 1) (t := 34) rfl (by decide) rfl) (Or.inr ⟨hin rfl, rfl⟩) rfl rfl dX6_init_41 (fun H locs Z => ?_)
  refine lv_aload_n C.x C.b dX6_init_44 rfl (lv_at hl 0 rfl) ?_
  refine lv_bipush (v := 8) C.x C.b dX6_init_45 (by decide) ?_
  refine z_newa (atype := .int) (ty := .int) (i := 0) (N := 8) (r := 35) (b := 0) (M1 := q_X6_init_11) C Z rfl rfl rfl kk_155 (by decide) (b_X6_init_11) (a_X6_init_11) rfl (fun k => sv0_new (by decide) b_X6_init_11 rfl) (lc0B (by decide) b_X6_init_11) (lc0N (by decide) b_X6_init_11 rfl) (lc0O (by decide) rfl) (lc0H (by decide)) (by decide) (by decide) (Nat.le_of_ble_eq_true rfl) (Nat.le_of_ble_eq_true rfl) (Nat.le_of_ble_eq_true rfl) dX6_init_47 (fun H Z => ?_)
  refine z_put (M1 := q_X6_init_12) C Z (lc0L (by decide) h_X6_init_29) (by decide) rfl zc6 zin6 tyX6_ok nmX6 7 (by decide) k_246 rfl (zUp_R (v := 0 + 1) (t := 35) rfl (by decide) rfl) (Or.inr ⟨hin rfl, rfl⟩) rfl rfl dX6_init_49 (fun H locs Z => ?_)
  refine lv_aload_n C.x C.b dX6_init_52 rfl (lv_at hl 0 rfl) ?_
  refine lv_bipush (v := 8) C.x C.b dX6_init_53 (by decide) ?_
  refine z_newa (atype := .int) (ty := .int) (i := 0) (N := 8) (r := 36) (b := 0) (M1 := q_X6_init_13) C Z rfl rfl rfl kk_155 (by decide) (b_X6_init_13) (a_X6_init_13) rfl (fun k => sv0_new (by decide) b_X6_init_13 rfl) (lc0B (by decide) b_X6_init_13) (lc0N (by decide) b_X6_init_13 rfl) (lc0O (by decide) rfl) (lc0H (by decide)) (by decide) (by decide) (Nat.le_of_ble_eq_true rfl) (Nat.le_of_ble_eq_true rfl) (Nat.le_of_ble_eq_true rfl) dX6_init_55 (fun H Z => ?_)
  refine z_put (M1 := q_X6_init_14) C Z (lc0L (by decide) h_X6_init_30) (by decide) rfl zc6 zin6 tyX6_ok nmX6 8 (by decide) k_247 rfl (zUp_R (v := 0 + 1) (t := 36) rfl (by decide) rfl) (Or.inr ⟨hin rfl, rfl⟩) rfl rfl dX6_init_57 (fun H locs Z => ?_)
  refine lv_aload_n C.x C.b dX6_init_60 rfl (lv_at hl 0 rfl) ?_
  refine lv_bipush (v := 8) C.x C.b dX6_init_61 (by decide) ?_
  refine z_newa (atype := .int) (ty := .int) (i := 0) (N := 8) (r := 37) (b := 0) (M1 := q_X6_init_15) C Z rfl rfl rfl kk_155 (by decide) (b_X6_init_15) (a_X6_init_15) rfl (fun k => sv0_new (by decide) b_X6_init_15 rfl) (lc0B (by decide) b_X6_init_15) (lc0N (by decide) b_X6_init_15 rfl) (lc0O (by decide) rfl) (lc0H (by decide)) (by decide) (by decide) (Nat.le_of_ble_eq_true rfl) (Nat.le_of_ble_eq_true rfl) (Nat.le_of_ble_eq_true rfl) dX6_init_63 (fun H Z => ?_)
  refine z_put (M1 := q_X6_init_16) C Z (lc0L (by decide) h_X6_init_31) (by decide) rfl zc6 zin6 tyX6_ok nmX6 9 (by decide) k_248 rfl (zUp_R (v := 0 + 1) (t := 37) rfl (by decide) rfl) (Or.inr ⟨hin rfl, rfl⟩) rfl rfl dX6_init_65 (fun H locs Z => ?_)
  refine W.widen (k := 8) (n := 112) (Nat.le_of_ble_eq_true rfl) (Nat.le_of_ble_eq_true rfl) ?_
  exact z_vret C Z dX6_init_68
set_option maxRecDepth 100000 in
set_option maxHeartbeats 4000000 in
theorem c_X5_init {l : Launch} {K : KG} {ad : Nat → Nat → Nat} : Met l yX5_init (Cond.code yX5_init cX5_init 1 none :: ztb) (RM (1) 3 24) (zPc K LK ad q_X11_init_19 [.ref (ad 10 0)]) (zQ K LK ad none q_X5_init_6) 3 24 (zA ad) := by
  refine z_enter (by decide) (Nat.le_of_ble_eq_true rfl) ?_
  intro p e s m args below meth c ls C hin hargs Z hl
  replace C : Cx p s m args meth c cX5_init 1 "GlassPalace$Nations" none := C
  replace hl : lv_has ls 1 [(0, .ref (ad 10 0))] := hl
  have hR : 1 ≤ (RM (1) 3 24).frames ∧ 40 * 1 ≤ (RM (1) 3 24).locals := ⟨Nat.le_refl _, Nat.le_refl _⟩
  refine lv_aload_n C.x C.b dX5_init_0 rfl (lv_at hl 0 rfl) ?_
  refine z_obj C kk_275 k_129 k_130 hl.1 hR (by decide) (Nat.le_of_ble_eq_true rfl) dX5_init_1 ?_
  refine lv_aload_n C.x C.b dX5_init_4 rfl (lv_at hl 0 rfl) ?_
  refine lv_bipush (v := 8) C.x C.b dX5_init_5 (by decide) ?_
  refine z_newa (atype := .int) (ty := .int) (i := 0) (N := 8) (r := 38) (b := 0) (M1 := q_X5_init_1) C Z rfl rfl rfl kk_155 (by decide) (b_X5_init_1) (a_X5_init_1) rfl (fun k => sv0_new (by decide) b_X5_init_1 rfl) (lc0B (by decide) b_X5_init_1) (lc0N (by decide) b_X5_init_1 rfl) (lc0O (by decide) rfl) (lc0H (by decide)) (by decide) (by decide) (Nat.le_of_ble_eq_true rfl) (Nat.le_of_ble_eq_true rfl) (Nat.le_of_ble_eq_true rfl) dX5_init_7 (fun H Z => ?_)
  refine z_put (M1 := q_X5_init_2) C Z (lc0L (by decide) h_X5_init_33) (by decide) rfl zc5 zin5 tyX5_ok nmX5 0 (by decide) k_276 rfl (zUp_R (v := 0 + 1) (t := 38) rfl (by decide) rfl) (Or.inr ⟨hin rfl, rfl⟩) rfl rfl dX5_init_9 (fun H locs Z => ?_)
  refine lv_aload_n C.x C.b dX5_init_12 rfl (lv_at hl 0 rfl) ?_
  refine lv_bipush (v := 8) C.x C.b dX5_init_13 (by decide) ?_
  refine z_newa (atype := .int) (ty := .int) (i := 0) (N := 8) (r := 39) (b := 0) (M1 := q_X5_init_3) C Z rfl rfl rfl kk_155 (by decide) (b_X5_init_3) (a_X5_init_3) rfl (fun k => sv0_new (by decide) b_X5_init_3 rfl) (lc0B (by decide) b_X5_init_3) (lc0N (by decide) b_X5_init_3 rfl) (lc0O (by decide) rfl) (lc0H (by decide)) (by decide) (by decide) (Nat.le_of_ble_eq_true rfl) (Nat.le_of_ble_eq_true rfl) (Nat.le_of_ble_eq_true rfl) dX5_init_15 (fun H Z => ?_)
  refine z_put (M1 := q_X5_init_4) C Z (lc0L (by decide) h_X5_init_34) (by decide) rfl zc5 zin5 tyX5_ok nmX5 1 (by decide) k_278 rfl (zUp_R (v := 0 + 1) (t := 39) rfl (by decide) rfl) (Or.inr ⟨hin rfl, rfl⟩) rfl rfl dX5_init_17 (fun H locs Z => ?_)
  refine lv_aload_n C.x C.b dX5_init_20 rfl (lv_at hl 0 rfl) ?_
  refine lv_bipush (v := 8) C.x C.b dX5_init_21 (by decide) ?_
  refine z_newa (atype := .int) (ty := .int) (i := 0) (N := 8) (r := 40) (b := 0) (M1 := q_X5_init_5) C Z rfl rfl rfl kk_155 (by decide) (b_X5_init_5) (a_X5_init_5) rfl (fun k => sv0_new (by decide) b_X5_init_5 rfl) (lc0B (by decide) b_X5_init_5) (lc0N (by decide) b_X5_init_5 rfl) (lc0O (by decide) rfl) (lc0H (by decide)) (by decide) (by decide) (Nat.le_of_ble_eq_true rfl) (Nat.le_of_ble_eq_true rfl) (Nat.le_of_ble_eq_true rfl) dX5_init_23 (fun H Z => ?_)
  refine z_put (M1 := q_X5_init_6) C Z (lc0L (by decide) h_X5_init_35) (by decide) rfl zc5 zin5 tyX5_ok nmX5 2 (by decide) k_280 rfl (zUp_R (v := 0 + 1) (t := 40) rfl (by decide) rfl) (Or.inr ⟨hin rfl, rfl⟩) rfl rfl dX5_init_25 (fun H locs Z => ?_)
  refine W.widen (k := 3) (n := 24) (Nat.le_of_ble_eq_true rfl) (Nat.le_of_ble_eq_true rfl) ?_
  exact z_vret C Z dX5_init_28
set_option maxRecDepth 100000 in
set_option maxHeartbeats 4000000 in
theorem c_X0_init {l : Launch} {K : KG} {ad : Nat → Nat → Nat} : Met l yX0_init (Cond.code yX0_init cX0_init 1 none :: ztb) (RM (1) 1 20) (zPc K LK ad q_X11_init_21 [.ref (ad 11 0)]) (zQ K LK ad none q_X0_init_2) 1 20 (zA ad) := by
  refine z_enter (by decide) (Nat.le_of_ble_eq_true rfl) ?_
  intro p e s m args below meth c ls C hin hargs Z hl
  replace C : Cx p s m args meth c cX0_init 1 "GlassPalace$Acts" none := C
  replace hl : lv_has ls 1 [(0, .ref (ad 11 0))] := hl
  have hR : 1 ≤ (RM (1) 1 20).frames ∧ 40 * 1 ≤ (RM (1) 1 20).locals := ⟨Nat.le_refl _, Nat.le_refl _⟩
  refine lv_aload_n C.x C.b dX0_init_0 rfl (lv_at hl 0 rfl) ?_
  refine z_obj C kk_294 k_129 k_130 hl.1 hR (by decide) (Nat.le_of_ble_eq_true rfl) dX0_init_1 ?_
  refine lv_aload_n C.x C.b dX0_init_4 rfl (lv_at hl 0 rfl) ?_
  refine lv_bipush (v := 20) C.x C.b dX0_init_5 (by decide) ?_
  refine z_newa (atype := .int) (ty := .int) (i := 0) (N := 20) (r := 41) (b := 0) (M1 := q_X0_init_1) C Z rfl rfl rfl kk_155 (by decide) (b_X0_init_1) (a_X0_init_1) rfl (fun k => sv0_new (by decide) b_X0_init_1 rfl) (lc0B (by decide) b_X0_init_1) (lc0N (by decide) b_X0_init_1 rfl) (lc0O (by decide) rfl) (lc0H (by decide)) (by decide) (by decide) (Nat.le_of_ble_eq_true rfl) (Nat.le_of_ble_eq_true rfl) (Nat.le_of_ble_eq_true rfl) dX0_init_7 (fun H Z => ?_)
  refine z_put (M1 := q_X0_init_2) C Z (lc0L (by decide) h_X0_init_37) (by decide) rfl zc0 zin0 tyX0_ok nmX0 1 (by decide) k_297 rfl (zUp_R (v := 0 + 1) (t := 41) rfl (by decide) rfl) (Or.inr ⟨hin rfl, rfl⟩) rfl rfl dX0_init_9 (fun H locs Z => ?_)
  refine W.widen (k := 1) (n := 20) (Nat.le_of_ble_eq_true rfl) (Nat.le_of_ble_eq_true rfl) ?_
  exact z_vret C Z dX0_init_12
set_option maxRecDepth 100000 in
set_option maxHeartbeats 4000000 in
theorem w_X11_124 {p : Program} {l : Launch} {e : Env} {s : State} {m : MethodId} {args : Array Value} {below : List Frame} {meth : Method} {c : Code} {K : KG} {ad : Nat → Nat → Nat} {Q : State → Prop} (C : Cx p s m args meth c cX11_init 2 "GlassPalace" none) (hR : 3 ≤ (RM (3) 174 3303).frames ∧ 40 * 3 ≤ (RM (3) 174 3303).locals) (hO : AO5 s) {cf sf : Nat} (hcf : cf ≤ 174) (hsf : sf ≤ 3303) (kx : ∀ (H : Heap) (locs : List Loc) (ls : Array Slot), Zd K LK ad (q_Fl 8) s H locs → lv_has ls 2 [(0, .ref (ad 0 0)), (1, .int (nI 8))] → W p l e (RM (3) 174 3303) s m args below meth c H locs cf sf Q (F0 m 152 ls [])) : ∀ (d j : Nat) (H : Heap) (locs : List Loc) (ls : Array Slot) (cells slots : Nat), j + d = 8 → cells + 0 * d ≤ cf → slots + 0 * d ≤ sf → Zd K LK ad (q_Fl j) s H locs → lv_has ls 2 [(0, .ref (ad 0 0)), (1, .int (nI j))] → W p l e (RM (3) 174 3303) s m args below meth c H locs cells slots Q (F0 m 124 ls []) := by
  intro d
  induction d with
  | zero =>
    intro j H locs ls cells slots hj hc hs Z hl
    have ej : j = 8 := by omega
    subst ej
    refine lv_iload_n C.x C.b dX11_init_124 rfl (lv_at hl 1 rfl) ?_
    refine lv_bipush (v := 8) C.x C.b dX11_init_125 (by decide) ?_
    refine lv_icmp_ge (tgt := 152) C.x C.b dX11_init_127 (by decide) (fun _ => ?_) (fun h => absurd (show (8 : Int32) ≤ nI 8 by decide) h)
    exact W.widen (k := cf) (n := sf) (by omega) (by omega) (kx H locs ls Z hl)
  | succ d ih =>
    intro j H locs ls cells slots hjd hc hs Z hl
    have hj : j < 8 := by omega
    refine lv_iload_n C.x C.b dX11_init_124 rfl (lv_at hl 1 rfl) ?_
    refine lv_bipush (v := 8) C.x C.b dX11_init_125 (by decide) ?_
    refine lv_icmp_ge (tgt := 152) C.x C.b dX11_init_127 (by decide) (fun h => absurd h (nI_ge (b := 8) hj (by decide))) (fun _ => ?_)
    refine lv_aload_n C.x C.b dX11_init_130 rfl (lv_at hl 0 rfl) ?_
    refine z_get (v := .ref (ad 1 0)) C Z (lc0L (by decide) h_X11_124_40) rfl zc11 zin11 1 (by decide) k_363 rfl (by show rf (ad 1) (gR (q_Fl j) 0 0 1) = _; rw [g_X11_init_41]; rfl) dX11_init_131 ?_
    refine lv_iload_n C.x C.b dX11_init_134 rfl (lv_at hl 1 rfl) ?_
    refine lv_bipush (v := 7) C.x C.b dX11_init_135 (by decide) ?_
    refine z_iast (M1 := q_X11_124_1 j) C Z (lc0L (by decide) h_X11_124_42) (by decide) rfl (nI_in (by omega) (by decide)) (by rw [nI_clamp (by omega)]; rfl) rfl dX11_init_137 (fun H locs Z => ?_)
    refine lv_aload_n C.x C.b dX11_init_138 rfl (lv_at hl 0 rfl) ?_
    refine z_get (v := .ref (ad 2 0)) C Z (lc0L (by decide) h_X11_124_43) rfl zc11 zin11 2 (by decide) k_364 rfl (by show rf (ad 2) (gR (q_X11_124_1 j) 0 0 2) = _; rw [g_X11_init_44]; rfl) dX11_init_139 ?_
    refine lv_iload_n C.x C.b dX11_init_142 rfl (lv_at hl 1 rfl) ?_
    refine lv_bipush (v := 14) C.x C.b dX11_init_143 (by decide) ?_
    refine z_iast (M1 := q_X11_124_2 j) C Z (lc0L (by decide) h_X11_124_45) (by decide) rfl (nI_in (by omega) (by decide)) (by rw [nI_clamp (by omega)]; rfl) rfl dX11_init_145 (fun H locs Z => ?_)
    rw [Fl_s hj] at Z
    refine z_iinc (v := nI (j + 1)) (lv' := [(1, .int (nI (j + 1))), (0, .ref (ad 0 0))]) C dX11_init_146 hl (k := 1) rfl (nI_1 j) (by decide) rfl (onlast 0 rfl rfl rfl) (fun ls hl => ?_)
    refine lv_goto (tgt := 124) C.x C.b dX11_init_149 (by decide) ?_
    exact ih (j + 1) _ _ _ _ _ (by omega) (by omega) (by omega) Z (lv_sub hl [1, 0] rfl)
set_option maxRecDepth 100000 in
set_option maxHeartbeats 4000000 in
theorem c_X1_init {l : Launch} {K : KG} {ad : Nat → Nat → Nat} {j : Nat} (hj : j < 30) : Met l yX1_init (Cond.code yX1_init cX1_init 2 none :: ztb) (RM (1) 2 30) (zPk K LK ad (q_X11_154_1 j) [.ref (ad 13 j), .int (nI j)]) (zQ K LK ad none (q_X1_init_6 j)) 2 30 (zA ad) := by
  refine z_enterK (by decide) (Nat.le_of_ble_eq_true rfl) ?_
  intro p e s m args below meth c ls C hin hargs hO Z hl
  replace C : Cx p s m args meth c cX1_init 2 "GlassPalace$Bay" none := C
  replace hl : lv_has ls 2 [(0, .ref (ad 13 j)), (1, .int (nI j))] := hl
  have hR : 1 ≤ (RM (1) 2 30).frames ∧ 40 * 1 ≤ (RM (1) 2 30).locals := ⟨Nat.le_refl _, Nat.le_refl _⟩
  refine lv_aload_n C.x C.b dX1_init_0 rfl (lv_at hl 0 rfl) ?_
  refine z_obj C kk_309 k_129 k_130 hl.1 hR (by decide) (Nat.le_of_ble_eq_true rfl) dX1_init_1 ?_
  refine lv_aload_n C.x C.b dX1_init_4 rfl (lv_at hl 0 rfl) ?_
  refine lv_iconst (v := (-1)) C.x C.b dX1_init_5 (by decide) ?_
  refine z_put (M1 := q_X1_init_1 j) C Z (lc0L (by decide) h_X1_init_48) (by decide) rfl zc1 zin1 tyX1_ok nmX1 5 (by decide) k_322 rfl (zUp_I rfl rfl) (Or.inl rfl) rfl rfl dX1_init_6 (fun H locs Z => ?_)
  refine lv_aload_n C.x C.b dX1_init_9 rfl (lv_at hl 0 rfl) ?_
  refine lv_bipush (v := 6) C.x C.b dX1_init_10 (by decide) ?_
  refine z_anewK (Cn := RX4) (i := 3) (N := 6) (r := 14) (b := j) (M1 := q_X1_init_2 j) C Z rfl rfl kk_310 hO.1 (by decide) (b_X1_init_2) (a_X1_init_2 hj) rfl (fun k => sv0_new (by decide) b_X1_init_2 rfl) (lc0B (by decide) b_X1_init_2) (lc0N (by decide) b_X1_init_2 rfl) (lc0O (by decide) rfl) (lc0H (by decide)) (by decide) (by decide) (Nat.le_of_ble_eq_true rfl) (Nat.le_of_ble_eq_true rfl) (Nat.le_of_ble_eq_true rfl) dX1_init_12 (fun H Z => ?_)
  refine z_put (M1 := q_X1_init_3 j) C Z (lc0L (by decide) h_X1_init_49) (by decide) rfl zc1 zin1 tyX1_ok nmX1 6 (by decide) k_325 rfl (zUp_R (v := j + 1) (t := 14) rfl (by decide) rfl) (Or.inr ⟨hin rfl, rfl⟩) rfl rfl dX1_init_15 (fun H locs Z => ?_)
  refine lv_aload_n C.x C.b dX1_init_18 rfl (lv_at hl 0 rfl) ?_
  refine lv_bipush (v := 24) C.x C.b dX1_init_19 (by decide) ?_
  refine z_anewK (Cn := RX4) (i := 3) (N := 24) (r := 15) (b := j) (M1 := q_X1_init_4 j) C Z rfl rfl kk_310 hO.1 (by decide) (b_X1_init_4) (a_X1_init_4 hj) rfl (fun k => sv0_new (by decide) b_X1_init_4 rfl) (lc0B (by decide) b_X1_init_4) (lc0N (by decide) b_X1_init_4 rfl) (lc0O (by decide) rfl) (lc0H (by decide)) (by decide) (by decide) (Nat.le_of_ble_eq_true rfl) (Nat.le_of_ble_eq_true rfl) (Nat.le_of_ble_eq_true rfl) dX1_init_21 (fun H Z => ?_)
  refine z_put (M1 := q_X1_init_5 j) C Z (lc0L (by decide) h_X1_init_50) (by decide) rfl zc1 zin1 tyX1_ok nmX1 7 (by decide) k_326 rfl (zUp_R (v := j + 1) (t := 15) rfl (by decide) rfl) (Or.inr ⟨hin rfl, rfl⟩) rfl rfl dX1_init_24 (fun H locs Z => ?_)
  refine lv_aload_n C.x C.b dX1_init_27 rfl (lv_at hl 0 rfl) ?_
  refine lv_iload_n C.x C.b dX1_init_28 rfl (lv_at hl 1 rfl) ?_
  refine z_put (M1 := q_X1_init_6 j) C Z (lc0L (by decide) h_X1_init_51) (by decide) rfl zc1 zin1 tyX1_ok nmX1 0 (by decide) k_311 rfl (zUp_I rfl rfl) (Or.inr ⟨hin rfl, rfl⟩) rfl rfl dX1_init_29 (fun H locs Z => ?_)
  refine W.widen (k := 2) (n := 30) (Nat.le_of_ble_eq_true rfl) (Nat.le_of_ble_eq_true rfl) ?_
  exact z_vret C Z dX1_init_32
set_option maxRecDepth 100000 in
set_option maxHeartbeats 4000000 in
theorem w_X11_154 {p : Program} {l : Launch} {e : Env} {s : State} {m : MethodId} {args : Array Value} {below : List Frame} {meth : Method} {c : Code} {K : KG} {ad : Nat → Nat → Nat} {Q : State → Prop} (C : Cx p s m args meth c cX11_init 2 "GlassPalace" none) (hR : 3 ≤ (RM (3) 174 3303).frames ∧ 40 * 3 ≤ (RM (3) 174 3303).locals) (hO : AO5 s) {cf sf : Nat} (hcf : cf ≤ 174) (hsf : sf ≤ 3303) (kx : ∀ (H : Heap) (locs : List Loc) (ls : Array Slot), Zd K LK ad (q_By 30) s H locs → lv_has ls 2 [(0, .ref (ad 0 0)), (1, .int (nI 30))] → W p l e (RM (3) 174 3303) s m args below meth c H locs cf sf Q (F0 m 180 ls [])) : ∀ (d j : Nat) (H : Heap) (locs : List Loc) (ls : Array Slot) (cells slots : Nat), j + d = 30 → cells + 3 * d ≤ cf → slots + 38 * d ≤ sf → Zd K LK ad (q_By j) s H locs → lv_has ls 2 [(0, .ref (ad 0 0)), (1, .int (nI j))] → W p l e (RM (3) 174 3303) s m args below meth c H locs cells slots Q (F0 m 154 ls []) := by
  intro d
  induction d with
  | zero =>
    intro j H locs ls cells slots hj hc hs Z hl
    have ej : j = 30 := by omega
    subst ej
    refine lv_iload_n C.x C.b dX11_init_154 rfl (lv_at hl 1 rfl) ?_
    refine lv_bipush (v := 30) C.x C.b dX11_init_155 (by decide) ?_
    refine lv_icmp_ge (tgt := 180) C.x C.b dX11_init_157 (by decide) (fun _ => ?_) (fun h => absurd (show (30 : Int32) ≤ nI 30 by decide) h)
    exact W.widen (k := cf) (n := sf) (by omega) (by omega) (kx H locs ls Z hl)
  | succ d ih =>
    intro j H locs ls cells slots hjd hc hs Z hl
    have hj : j < 30 := by omega
    refine lv_iload_n C.x C.b dX11_init_154 rfl (lv_at hl 1 rfl) ?_
    refine lv_bipush (v := 30) C.x C.b dX11_init_155 (by decide) ?_
    refine lv_icmp_ge (tgt := 180) C.x C.b dX11_init_157 (by decide) (fun h => absurd h (nI_ge (b := 30) hj (by decide))) (fun _ => ?_)
    refine lv_aload_n C.x C.b dX11_init_160 rfl (lv_at hl 0 rfl) ?_
    refine z_get (v := .ref (ad 4 0)) C Z (lc0L (by decide) h_X11_154_46) rfl zc11 zin11 5 (by decide) k_367 rfl (by show rf (ad 4) (gR (q_By j) 0 0 5) = _; rw [g_X11_init_47]; rfl) dX11_init_161 ?_
    refine lv_iload_n C.x C.b dX11_init_164 rfl (lv_at hl 1 rfl) ?_
    refine z_new (M1 := q_X11_154_1 j) (r := 13) (b := j) C Z rfl zc1 zin1 tyX1_ok kk_133 kk_305 k_111 (by decide) (b_X11_154_1) (a_X11_154_1 hj) rfl (fun k hk => (show defaultValue (tyX1 k) = svd LC 13 k by rcases (show k = 0 ∨ k = 1 ∨ k = 2 ∨ k = 3 ∨ k = 4 ∨ k = 5 ∨ k = 6 ∨ k = 7 by omega) with rfl | rfl | rfl | rfl | rfl | rfl | rfl | rfl <;> rfl).trans (sv0_d (by decide) b_X11_154_1 rfl).symm) (lc0B (by decide) b_X11_154_1) (lc0N (by decide) b_X11_154_1 rfl) (lc0O (by decide) rfl) (lc0H (by decide)) (by show (_ : Nat) ≤ 174; omega) (by show (_ : Nat) ≤ 3303; omega) dX11_init_165 (fun H Z => ?_)
    refine lv_dup C.x C.b dX11_init_168 rfl ?_
    refine lv_iload_n C.x C.b dX11_init_169 rfl (lv_at hl 1 rfl) ?_
    refine z_calIK hO (As := [.int (nI j)]) (rest := [.ref (ad 13 j), .int (nI j), .ref (ad 4 0)]) C Z mw_X1_init mv_X1_init rfl kk_306 (by decide) (z_hR hR (by decide)) (c_X1_init (l := l) (K := K) (ad := ad) hj) rfl hl.1 rfl (Nat.le_of_ble_eq_true rfl) dX11_init_170 ⟨(by show (_ : Nat) ≤ 174; omega), (by show (_ : Nat) ≤ 3303; omega)⟩ (fun H locs Z => ?_)
    refine z_aast (M1 := q_X11_154_2 j) (x := j + 1) C Z (lc0L (by decide) h_X11_154_52) (by decide) rfl (t := 4) rfl (r2 := 13) rfl zc1 (jj (lc0L (by decide) h_X11_154_53)) (nI_in (by omega) (by decide)) (by rw [nI_clamp (by omega)]; rfl) (by rw [nI_clamp (by omega)]; rfl) dX11_init_173 (fun H locs Z => ?_)
    rw [By_s hj] at Z
    refine z_iinc (v := nI (j + 1)) (lv' := [(1, .int (nI (j + 1))), (0, .ref (ad 0 0))]) C dX11_init_174 hl (k := 1) rfl (nI_1 j) (by decide) rfl (onlast 0 rfl rfl rfl) (fun ls hl => ?_)
    refine lv_goto (tgt := 154) C.x C.b dX11_init_177 (by decide) ?_
    exact ih (j + 1) _ _ _ _ _ (by omega) (by omega) (by omega) Z (lv_sub hl [1, 0] rfl)
set_option maxRecDepth 100000 in
set_option maxHeartbeats 4000000 in
theorem c_X8_init {l : Launch} {K : KG} {ad : Nat → Nat → Nat} {j : Nat} (hj : j < 6) : Met l yX8_init (Cond.code yX8_init cX8_init 1 none :: ztb) (RM (1) 1 60) (zPc K LK ad (q_X11_182_1 j) [.ref (ad 42 j)]) (zQ K LK ad none (q_X8_init_3 j)) 1 60 (zA ad) := by
  refine z_enter (by decide) (Nat.le_of_ble_eq_true rfl) ?_
  intro p e s m args below meth c ls C hin hargs Z hl
  replace C : Cx p s m args meth c cX8_init 1 "GlassPalace$Tape" none := C
  replace hl : lv_has ls 1 [(0, .ref (ad 42 j))] := hl
  have hR : 1 ≤ (RM (1) 1 60).frames ∧ 40 * 1 ≤ (RM (1) 1 60).locals := ⟨Nat.le_refl _, Nat.le_refl _⟩
  refine lv_aload_n C.x C.b dX8_init_0 rfl (lv_at hl 0 rfl) ?_
  refine z_obj C kk_348 k_129 k_130 hl.1 hR (by decide) (Nat.le_of_ble_eq_true rfl) dX8_init_1 ?_
  refine lv_aload_n C.x C.b dX8_init_4 rfl (lv_at hl 0 rfl) ?_
  refine lv_iconst (v := (-1)) C.x C.b dX8_init_5 (by decide) ?_
  refine z_put (M1 := q_X8_init_1 j) C Z (lc0L (by decide) h_X8_init_56) (by decide) rfl zc8 zin8 tyX8_ok nmX8 0 (by decide) k_349 rfl (zUp_I rfl rfl) (Or.inl rfl) rfl rfl dX8_init_6 (fun H locs Z => ?_)
  refine lv_aload_n C.x C.b dX8_init_9 rfl (lv_at hl 0 rfl) ?_
  refine lv_bipush (v := 60) C.x C.b dX8_init_10 (by decide) ?_
  refine z_newa (atype := .long) (ty := .long) (i := 1) (N := 60) (r := 43) (b := j) (M1 := q_X8_init_2 j) C Z rfl rfl rfl kk_361 (by decide) (b_X8_init_2) (a_X8_init_2 hj) rfl (fun k => sv0_new (by decide) b_X8_init_2 rfl) (lc0B (by decide) b_X8_init_2) (lc0N (by decide) b_X8_init_2 rfl) (lc0O (by decide) rfl) (lc0H (by decide)) (by decide) (by decide) (Nat.le_of_ble_eq_true rfl) (Nat.le_of_ble_eq_true rfl) (Nat.le_of_ble_eq_true rfl) dX8_init_12 (fun H Z => ?_)
  refine z_put (M1 := q_X8_init_3 j) C Z (lc0L (by decide) h_X8_init_57) (by decide) rfl zc8 zin8 tyX8_ok nmX8 1 (by decide) k_351 rfl (zUp_R (v := j + 1) (t := 43) rfl (by decide) rfl) (Or.inr ⟨hin rfl, rfl⟩) rfl rfl dX8_init_14 (fun H locs Z => ?_)
  refine W.widen (k := 1) (n := 60) (Nat.le_of_ble_eq_true rfl) (Nat.le_of_ble_eq_true rfl) ?_
  exact z_vret C Z dX8_init_17
set_option maxRecDepth 100000 in
set_option maxHeartbeats 4000000 in
theorem w_X11_182 {p : Program} {l : Launch} {e : Env} {s : State} {m : MethodId} {args : Array Value} {below : List Frame} {meth : Method} {c : Code} {K : KG} {ad : Nat → Nat → Nat} {Q : State → Prop} (C : Cx p s m args meth c cX11_init 2 "GlassPalace" none) (hR : 3 ≤ (RM (3) 174 3303).frames ∧ 40 * 3 ≤ (RM (3) 174 3303).locals) (hO : AO5 s) {cf sf : Nat} (hcf : cf ≤ 174) (hsf : sf ≤ 3303) (kx : ∀ (H : Heap) (locs : List Loc) (ls : Array Slot), Zd K LK ad (q_Tp 6) s H locs → lv_has ls 2 [(0, .ref (ad 0 0)), (1, .int (nI 6))] → W p l e (RM (3) 174 3303) s m args below meth c H locs cf sf Q (F0 m 207 ls [])) : ∀ (d j : Nat) (H : Heap) (locs : List Loc) (ls : Array Slot) (cells slots : Nat), j + d = 6 → cells + 2 * d ≤ cf → slots + 63 * d ≤ sf → Zd K LK ad (q_Tp j) s H locs → lv_has ls 2 [(0, .ref (ad 0 0)), (1, .int (nI j))] → W p l e (RM (3) 174 3303) s m args below meth c H locs cells slots Q (F0 m 182 ls []) := by
  intro d
  induction d with
  | zero =>
    intro j H locs ls cells slots hj hc hs Z hl
    have ej : j = 6 := by omega
    subst ej
    refine lv_iload_n C.x C.b dX11_init_182 rfl (lv_at hl 1 rfl) ?_
    refine lv_bipush (v := 6) C.x C.b dX11_init_183 (by decide) ?_
    refine lv_icmp_ge (tgt := 207) C.x C.b dX11_init_185 (by decide) (fun _ => ?_) (fun h => absurd (show (6 : Int32) ≤ nI 6 by decide) h)
    exact W.widen (k := cf) (n := sf) (by omega) (by omega) (kx H locs ls Z hl)
  | succ d ih =>
    intro j H locs ls cells slots hjd hc hs Z hl
    have hj : j < 6 := by omega
    refine lv_iload_n C.x C.b dX11_init_182 rfl (lv_at hl 1 rfl) ?_
    refine lv_bipush (v := 6) C.x C.b dX11_init_183 (by decide) ?_
    refine lv_icmp_ge (tgt := 207) C.x C.b dX11_init_185 (by decide) (fun h => absurd h (nI_ge (b := 6) hj (by decide))) (fun _ => ?_)
    refine lv_aload_n C.x C.b dX11_init_188 rfl (lv_at hl 0 rfl) ?_
    refine z_get (v := .ref (ad 12 0)) C Z (lc0L (by decide) h_X11_182_54) rfl zc11 zin11 14 (by decide) k_376 rfl (by show rf (ad 12) (gR (q_Tp j) 0 0 14) = _; rw [g_X11_init_55]; rfl) dX11_init_189 ?_
    refine lv_iload_n C.x C.b dX11_init_192 rfl (lv_at hl 1 rfl) ?_
    refine z_new (M1 := q_X11_182_1 j) (r := 42) (b := j) C Z rfl zc8 zin8 tyX8_ok kk_303 kk_344 k_112 (by decide) (b_X11_182_1) (a_X11_182_1 hj) rfl (fun k hk => (show defaultValue (tyX8 k) = svd LC 42 k by rcases (show k = 0 ∨ k = 1 ∨ k = 2 by omega) with rfl | rfl | rfl <;> rfl).trans (sv0_d (by decide) b_X11_182_1 rfl).symm) (lc0B (by decide) b_X11_182_1) (lc0N (by decide) b_X11_182_1 rfl) (lc0O (by decide) rfl) (lc0H (by decide)) (by show (_ : Nat) ≤ 174; omega) (by show (_ : Nat) ≤ 3303; omega) dX11_init_193 (fun H Z => ?_)
    refine lv_dup C.x C.b dX11_init_196 rfl ?_
    refine z_calI (As := []) (rest := [.ref (ad 42 j), .int (nI j), .ref (ad 12 0)]) C Z mw_X8_init mv_X8_init rfl kk_345 (by decide) (z_hR hR (by decide)) (c_X8_init (l := l) (K := K) (ad := ad) hj) rfl hl.1 rfl (Nat.le_of_ble_eq_true rfl) dX11_init_197 ⟨(by show (_ : Nat) ≤ 174; omega), (by show (_ : Nat) ≤ 3303; omega)⟩ (fun H locs Z => ?_)
    refine z_aast (M1 := q_X11_182_2 j) (x := j + 1) C Z (lc0L (by decide) h_X11_182_58) (by decide) rfl (t := 7) rfl (r2 := 42) rfl zc8 (jj (lc0L (by decide) h_X11_182_59)) (nI_in (by omega) (by decide)) (by rw [nI_clamp (by omega)]; rfl) (by rw [nI_clamp (by omega)]; rfl) dX11_init_200 (fun H locs Z => ?_)
    rw [Tp_s hj] at Z
    refine z_iinc (v := nI (j + 1)) (lv' := [(1, .int (nI (j + 1))), (0, .ref (ad 0 0))]) C dX11_init_201 hl (k := 1) rfl (nI_1 j) (by decide) rfl (onlast 0 rfl rfl rfl) (fun ls hl => ?_)
    refine lv_goto (tgt := 182) C.x C.b dX11_init_204 (by decide) ?_
    exact ih (j + 1) _ _ _ _ _ (by omega) (by omega) (by omega) Z (lv_sub hl [1, 0] rfl)
set_option maxRecDepth 100000 in
set_option maxHeartbeats 4000000 in
theorem c_X11_init {l : Launch} {K : KG} {ad : Nat → Nat → Nat} : Met l yX11_init (Cond.code yX11_init cX11_init 2 none :: ztb) (RM (3) 174 3303) (zPk K LK ad q_EC_1 [.ref (ad 0 0)]) (zQ K LK ad none (q_Tp 6)) 174 3303 (zA ad) := by
  refine z_enterK (by decide) (Nat.le_of_ble_eq_true rfl) ?_
  intro p e s m args below meth c ls C hin hargs hO Z hl
  replace C : Cx p s m args meth c cX11_init 2 "GlassPalace" none := C
  replace hl : lv_has ls 2 [(0, .ref (ad 0 0))] := hl
  have hR : 3 ≤ (RM (3) 174 3303).frames ∧ 40 * 3 ≤ (RM (3) 174 3303).locals := ⟨Nat.le_refl _, Nat.le_refl _⟩
  refine lv_aload_n C.x C.b dX11_init_0 rfl (lv_at hl 0 rfl) ?_
  refine z_obj C kk_128 k_129 k_130 hl.1 hR (by decide) (Nat.le_of_ble_eq_true rfl) dX11_init_1 ?_
  refine lv_aload_n C.x C.b dX11_init_4 rfl (lv_at hl 0 rfl) ?_
  refine lv_bipush (v := 8) C.x C.b dX11_init_5 (by decide) ?_
  refine z_newa (atype := .int) (ty := .int) (i := 0) (N := 8) (r := 1) (b := 0) (M1 := q_X11_init_1) C Z rfl rfl rfl kk_155 (by decide) (b_X11_init_1) (a_X11_init_1) rfl (fun k => sv0_new (by decide) b_X11_init_1 rfl) (lc0B (by decide) b_X11_init_1) (lc0N (by decide) b_X11_init_1 rfl) (lc0O (by decide) rfl) (lc0H (by decide)) (by decide) (by decide) (Nat.le_of_ble_eq_true rfl) (Nat.le_of_ble_eq_true rfl) (Nat.le_of_ble_eq_true rfl) dX11_init_7 (fun H Z => ?_)
  refine z_put (M1 := q_X11_init_2) C Z (lc0L (by decide) h_X11_init_1) (by decide) rfl zc11 zin11 tyX11_ok nmX11 1 (by decide) k_363 rfl (zUp_R (v := 0 + 1) (t := 1) rfl (by decide) rfl) (Or.inr ⟨hin rfl, rfl⟩) rfl rfl dX11_init_9 (fun H locs Z => ?_)
  refine lv_aload_n C.x C.b dX11_init_12 rfl (lv_at hl 0 rfl) ?_
  refine lv_bipush (v := 8) C.x C.b dX11_init_13 (by decide) ?_
  refine z_newa (atype := .int) (ty := .int) (i := 0) (N := 8) (r := 2) (b := 0) (M1 := q_X11_init_3) C Z rfl rfl rfl kk_155 (by decide) (b_X11_init_3) (a_X11_init_3) rfl (fun k => sv0_new (by decide) b_X11_init_3 rfl) (lc0B (by decide) b_X11_init_3) (lc0N (by decide) b_X11_init_3 rfl) (lc0O (by decide) rfl) (lc0H (by decide)) (by decide) (by decide) (Nat.le_of_ble_eq_true rfl) (Nat.le_of_ble_eq_true rfl) (Nat.le_of_ble_eq_true rfl) dX11_init_15 (fun H Z => ?_)
  refine z_put (M1 := q_X11_init_4) C Z (lc0L (by decide) h_X11_init_2) (by decide) rfl zc11 zin11 tyX11_ok nmX11 2 (by decide) k_364 rfl (zUp_R (v := 0 + 1) (t := 2) rfl (by decide) rfl) (Or.inr ⟨hin rfl, rfl⟩) rfl rfl dX11_init_17 (fun H locs Z => ?_)
  refine lv_aload_n C.x C.b dX11_init_20 rfl (lv_at hl 0 rfl) ?_
  refine lv_bipush (v := 60) C.x C.b dX11_init_21 (by decide) ?_
  refine z_anewK (Cn := RX4) (i := 3) (N := 60) (r := 3) (b := 0) (M1 := q_X11_init_5) C Z rfl rfl k_131 hO.1 (by decide) (b_X11_init_5) (a_X11_init_5) rfl (fun k => sv0_new (by decide) b_X11_init_5 rfl) (lc0B (by decide) b_X11_init_5) (lc0N (by decide) b_X11_init_5 rfl) (lc0O (by decide) rfl) (lc0H (by decide)) (by decide) (by decide) (Nat.le_of_ble_eq_true rfl) (Nat.le_of_ble_eq_true rfl) (Nat.le_of_ble_eq_true rfl) dX11_init_23 (fun H Z => ?_)
  refine z_put (M1 := q_X11_init_6) C Z (lc0L (by decide) h_X11_init_3) (by decide) rfl zc11 zin11 tyX11_ok nmX11 3 (by decide) k_365 rfl (zUp_R (v := 0 + 1) (t := 3) rfl (by decide) rfl) (Or.inr ⟨hin rfl, rfl⟩) rfl rfl dX11_init_26 (fun H locs Z => ?_)
  refine lv_aload_n C.x C.b dX11_init_29 rfl (lv_at hl 0 rfl) ?_
  refine lv_bipush (v := 30) C.x C.b dX11_init_30 (by decide) ?_
  refine z_anewK (Cn := RX1) (i := 4) (N := 30) (r := 4) (b := 0) (M1 := q_X11_init_7) C Z rfl rfl kk_133 hO.2.1 (by decide) (b_X11_init_7) (a_X11_init_7) rfl (fun k => sv0_new (by decide) b_X11_init_7 rfl) (lc0B (by decide) b_X11_init_7) (lc0N (by decide) b_X11_init_7 rfl) (lc0O (by decide) rfl) (lc0H (by decide)) (by decide) (by decide) (Nat.le_of_ble_eq_true rfl) (Nat.le_of_ble_eq_true rfl) (Nat.le_of_ble_eq_true rfl) dX11_init_32 (fun H Z => ?_)
  refine z_put (M1 := q_X11_init_8) C Z (lc0L (by decide) h_X11_init_4) (by decide) rfl zc11 zin11 tyX11_ok nmX11 5 (by decide) k_367 rfl (zUp_R (v := 0 + 1) (t := 4) rfl (by decide) rfl) (Or.inr ⟨hin rfl, rfl⟩) rfl rfl dX11_init_35 (fun H locs Z => ?_)
  refine lv_aload_n C.x C.b dX11_init_38 rfl (lv_at hl 0 rfl) ?_
  refine z_new (M1 := q_X11_init_9) (r := 5) (b := 0) C Z rfl zc7 zin7 tyX7_ok kk_135 kk_136 k_104 (by decide) (b_X11_init_9) (a_X11_init_9) rfl (fun k hk => (show defaultValue (tyX7 k) = svd LC 5 k by rcases (show k = 0 ∨ k = 1 ∨ k = 2 ∨ k = 3 by omega) with rfl | rfl | rfl | rfl <;> rfl).trans (sv0_d (by decide) b_X11_init_9 rfl).symm) (lc0B (by decide) b_X11_init_9) (lc0N (by decide) b_X11_init_9 rfl) (lc0O (by decide) rfl) (lc0H (by decide)) (Nat.le_of_ble_eq_true rfl) (Nat.le_of_ble_eq_true rfl) dX11_init_39 (fun H Z => ?_)
  refine lv_dup C.x C.b dX11_init_42 rfl ?_
  refine z_calI (As := []) (rest := [.ref (ad 5 0), .ref (ad 0 0)]) C Z mw_X7_init mv_X7_init rfl kk_137 (by decide) (z_hR hR (by decide)) (c_X7_init (l := l) (K := K) (ad := ad)) rfl hl.1 rfl (Nat.le_of_ble_eq_true rfl) dX11_init_43 ⟨(Nat.le_of_ble_eq_true rfl), (Nat.le_of_ble_eq_true rfl)⟩ (fun H locs Z => ?_)
  refine z_put (M1 := q_X11_init_10) C Z (lc0L (by decide) h_X11_init_6) (by decide) rfl zc11 zin11 tyX11_ok nmX11 6 (by decide) k_368 rfl (zUp_R (v := 0 + 1) (t := 5) rfl (by decide) rfl) (Or.inr ⟨hin rfl, rfl⟩) rfl rfl dX11_init_46 (fun H locs Z => ?_)
  refine lv_aload_n C.x C.b dX11_init_49 rfl (lv_at hl 0 rfl) ?_
  refine z_new (M1 := q_X11_init_11) (r := 6) (b := 0) C Z rfl zc3 zin3 tyX3_ok kk_156 kk_157 k_105 (by decide) (b_X11_init_11) (a_X11_init_11) rfl (fun k hk => (show defaultValue (tyX3 k) = svd LC 6 k by rcases (show k = 0 ∨ k = 1 ∨ k = 2 by omega) with rfl | rfl | rfl <;> rfl).trans (sv0_d (by decide) b_X11_init_11 rfl).symm) (lc0B (by decide) b_X11_init_11) (lc0N (by decide) b_X11_init_11 rfl) (lc0O (by decide) rfl) (lc0H (by decide)) (Nat.le_of_ble_eq_true rfl) (Nat.le_of_ble_eq_true rfl) dX11_init_50 (fun H Z => ?_)
  refine lv_dup C.x C.b dX11_init_53 rfl ?_
  refine z_calIK hO (As := []) (rest := [.ref (ad 6 0), .ref (ad 0 0)]) C Z mw_X3_init mv_X3_init rfl kk_158 (by decide) (z_hR hR (by decide)) (c_X3_init (l := l) (K := K) (ad := ad)) rfl hl.1 rfl (Nat.le_of_ble_eq_true rfl) dX11_init_54 ⟨(Nat.le_of_ble_eq_true rfl), (Nat.le_of_ble_eq_true rfl)⟩ (fun H locs Z => ?_)
  refine z_put (M1 := q_X11_init_12) C Z (lc0L (by decide) h_X11_init_16) (by decide) rfl zc11 zin11 tyX11_ok nmX11 7 (by decide) k_369 rfl (zUp_R (v := 0 + 1) (t := 6) rfl (by decide) rfl) (Or.inr ⟨hin rfl, rfl⟩) rfl rfl dX11_init_57 (fun H locs Z => ?_)
  refine lv_aload_n C.x C.b dX11_init_60 rfl (lv_at hl 0 rfl) ?_
  refine z_new (M1 := q_X11_init_13) (r := 7) (b := 0) C Z rfl zc10 zin10 tyX10_ok kk_201 kk_202 k_107 (by decide) (b_X11_init_13) (a_X11_init_13) rfl (fun k hk => (show defaultValue (tyX10 k) = svd LC 7 k by rcases (show k = 0 ∨ k = 1 ∨ k = 2 ∨ k = 3 ∨ k = 4 by omega) with rfl | rfl | rfl | rfl | rfl <;> rfl).trans (sv0_d (by decide) b_X11_init_13 rfl).symm) (lc0B (by decide) b_X11_init_13) (lc0N (by decide) b_X11_init_13 rfl) (lc0O (by decide) rfl) (lc0H (by decide)) (Nat.le_of_ble_eq_true rfl) (Nat.le_of_ble_eq_true rfl) dX11_init_61 (fun H Z => ?_)
  refine lv_dup C.x C.b dX11_init_64 rfl ?_
  refine z_calI (As := []) (rest := [.ref (ad 7 0), .ref (ad 0 0)]) C Z mw_X10_init mv_X10_init rfl kk_203 (by decide) (z_hR hR (by decide)) (c_X10_init (l := l) (K := K) (ad := ad)) rfl hl.1 rfl (Nat.le_of_ble_eq_true rfl) dX11_init_65 ⟨(Nat.le_of_ble_eq_true rfl), (Nat.le_of_ble_eq_true rfl)⟩ (fun H locs Z => ?_)
  refine z_put (M1 := q_X11_init_14) C Z (lc0L (by decide) h_X11_init_22) (by decide) rfl zc11 zin11 tyX11_ok nmX11 8 (by decide) k_370 rfl (zUp_R (v := 0 + 1) (t := 7) rfl (by decide) rfl) (Or.inr ⟨hin rfl, rfl⟩) rfl rfl dX11_init_68 (fun H locs Z => ?_)
  refine lv_aload_n C.x C.b dX11_init_71 rfl (lv_at hl 0 rfl) ?_
  refine lv_bipush (v := 10) C.x C.b dX11_init_72 (by decide) ?_
  refine z_anewK (Cn := RX2) (i := 6) (N := 10) (r := 8) (b := 0) (M1 := q_X11_init_15) C Z rfl rfl k_226 hO.2.2.2.1 (by decide) (b_X11_init_15) (a_X11_init_15) rfl (fun k => sv0_new (by decide) b_X11_init_15 rfl) (lc0B (by decide) b_X11_init_15) (lc0N (by decide) b_X11_init_15 rfl) (lc0O (by decide) rfl) (lc0H (by decide)) (by decide) (by decide) (Nat.le_of_ble_eq_true rfl) (Nat.le_of_ble_eq_true rfl) (Nat.le_of_ble_eq_true rfl) dX11_init_74 (fun H Z => ?_)
  refine z_put (M1 := q_X11_init_16) C Z (lc0L (by decide) h_X11_init_23) (by decide) rfl zc11 zin11 tyX11_ok nmX11 9 (by decide) k_371 rfl (zUp_R (v := 0 + 1) (t := 8) rfl (by decide) rfl) (Or.inr ⟨hin rfl, rfl⟩) rfl rfl dX11_init_77 (fun H locs Z => ?_)
  refine lv_aload_n C.x C.b dX11_init_80 rfl (lv_at hl 0 rfl) ?_
  refine z_new (M1 := q_X11_init_17) (r := 9) (b := 0) C Z rfl zc6 zin6 tyX6_ok kk_228 kk_229 k_108 (by decide) (b_X11_init_17) (a_X11_init_17) rfl (fun k hk => (show defaultValue (tyX6 k) = svd LC 9 k by rcases (show k = 0 ∨ k = 1 ∨ k = 2 ∨ k = 3 ∨ k = 4 ∨ k = 5 ∨ k = 6 ∨ k = 7 ∨ k = 8 ∨ k = 9 by omega) with rfl | rfl | rfl | rfl | rfl | rfl | rfl | rfl | rfl | rfl <;> rfl).trans (sv0_d (by decide) b_X11_init_17 rfl).symm) (lc0B (by decide) b_X11_init_17) (lc0N (by decide) b_X11_init_17 rfl) (lc0O (by decide) rfl) (lc0H (by decide)) (Nat.le_of_ble_eq_true rfl) (Nat.le_of_ble_eq_true rfl) dX11_init_81 (fun H Z => ?_)
  refine lv_dup C.x C.b dX11_init_84 rfl ?_
  refine z_calI (As := []) (rest := [.ref (ad 9 0), .ref (ad 0 0)]) C Z mw_X6_init mv_X6_init rfl kk_230 (by decide) (z_hR hR (by decide)) (c_X6_init (l := l) (K := K) (ad := ad)) rfl hl.1 rfl (Nat.le_of_ble_eq_true rfl) dX11_init_85 ⟨(Nat.le_of_ble_eq_true rfl), (Nat.le_of_ble_eq_true rfl)⟩ (fun H locs Z => ?_)
  refine z_put (M1 := q_X11_init_18) C Z (lc0L (by decide) h_X11_init_32) (by decide) rfl zc11 zin11 tyX11_ok nmX11 11 (by decide) k_373 rfl (zUp_R (v := 0 + 1) (t := 9) rfl (by decide) rfl) (Or.inr ⟨hin rfl, rfl⟩) rfl rfl dX11_init_88 (fun H locs Z => ?_)
  refine lv_aload_n C.x C.b dX11_init_91 rfl (lv_at hl 0 rfl) ?_
  refine z_new (M1 := q_X11_init_19) (r := 10) (b := 0) C Z rfl zc5 zin5 tyX5_ok kk_270 kk_271 k_109 (by decide) (b_X11_init_19) (a_X11_init_19) rfl (fun k hk => (show defaultValue (tyX5 k) = svd LC 10 k by rcases (show k = 0 ∨ k = 1 ∨ k = 2 by omega) with rfl | rfl | rfl <;> rfl).trans (sv0_d (by decide) b_X11_init_19 rfl).symm) (lc0B (by decide) b_X11_init_19) (lc0N (by decide) b_X11_init_19 rfl) (lc0O (by decide) rfl) (lc0H (by decide)) (Nat.le_of_ble_eq_true rfl) (Nat.le_of_ble_eq_true rfl) dX11_init_92 (fun H Z => ?_)
  refine lv_dup C.x C.b dX11_init_95 rfl ?_
  refine z_calI (As := []) (rest := [.ref (ad 10 0), .ref (ad 0 0)]) C Z mw_X5_init mv_X5_init rfl kk_272 (by decide) (z_hR hR (by decide)) (c_X5_init (l := l) (K := K) (ad := ad)) rfl hl.1 rfl (Nat.le_of_ble_eq_true rfl) dX11_init_96 ⟨(Nat.le_of_ble_eq_true rfl), (Nat.le_of_ble_eq_true rfl)⟩ (fun H locs Z => ?_)
  refine z_put (M1 := q_X11_init_20) C Z (lc0L (by decide) h_X11_init_36) (by decide) rfl zc11 zin11 tyX11_ok nmX11 12 (by decide) k_374 rfl (zUp_R (v := 0 + 1) (t := 10) rfl (by decide) rfl) (Or.inr ⟨hin rfl, rfl⟩) rfl rfl dX11_init_99 (fun H locs Z => ?_)
  refine lv_aload_n C.x C.b dX11_init_102 rfl (lv_at hl 0 rfl) ?_
  refine z_new (M1 := q_X11_init_21) (r := 11) (b := 0) C Z rfl zc0 zin0 tyX0_ok kk_289 kk_290 k_110 (by decide) (b_X11_init_21) (a_X11_init_21) rfl (fun k hk => (show defaultValue (tyX0 k) = svd LC 11 k by rcases (show k = 0 ∨ k = 1 by omega) with rfl | rfl <;> rfl).trans (sv0_d (by decide) b_X11_init_21 rfl).symm) (lc0B (by decide) b_X11_init_21) (lc0N (by decide) b_X11_init_21 rfl) (lc0O (by decide) rfl) (lc0H (by decide)) (Nat.le_of_ble_eq_true rfl) (Nat.le_of_ble_eq_true rfl) dX11_init_103 (fun H Z => ?_)
  refine lv_dup C.x C.b dX11_init_106 rfl ?_
  refine z_calI (As := []) (rest := [.ref (ad 11 0), .ref (ad 0 0)]) C Z mw_X0_init mv_X0_init rfl kk_291 (by decide) (z_hR hR (by decide)) (c_X0_init (l := l) (K := K) (ad := ad)) rfl hl.1 rfl (Nat.le_of_ble_eq_true rfl) dX11_init_107 ⟨(Nat.le_of_ble_eq_true rfl), (Nat.le_of_ble_eq_true rfl)⟩ (fun H locs Z => ?_)
  refine z_put (M1 := q_X11_init_22) C Z (lc0L (by decide) h_X11_init_38) (by decide) rfl zc11 zin11 tyX11_ok nmX11 13 (by decide) k_375 rfl (zUp_R (v := 0 + 1) (t := 11) rfl (by decide) rfl) (Or.inr ⟨hin rfl, rfl⟩) rfl rfl dX11_init_110 (fun H locs Z => ?_)
  refine lv_aload_n C.x C.b dX11_init_113 rfl (lv_at hl 0 rfl) ?_
  refine lv_bipush (v := 6) C.x C.b dX11_init_114 (by decide) ?_
  refine z_anewK (Cn := RX8) (i := 7) (N := 6) (r := 12) (b := 0) (M1 := q_X11_init_23) C Z rfl rfl kk_303 hO.2.2.2.2 (by decide) (b_X11_init_23) (a_X11_init_23) rfl (fun k => sv0_new (by decide) b_X11_init_23 rfl) (lc0B (by decide) b_X11_init_23) (lc0N (by decide) b_X11_init_23 rfl) (lc0O (by decide) rfl) (lc0H (by decide)) (by decide) (by decide) (Nat.le_of_ble_eq_true rfl) (Nat.le_of_ble_eq_true rfl) (Nat.le_of_ble_eq_true rfl) dX11_init_116 (fun H Z => ?_)
  refine z_put (M1 := q_X11_init_24) C Z (lc0L (by decide) h_X11_init_39) (by decide) rfl zc11 zin11 tyX11_ok nmX11 14 (by decide) k_376 rfl (zUp_R (v := 0 + 1) (t := 12) rfl (by decide) rfl) (Or.inr ⟨hin rfl, rfl⟩) rfl rfl dX11_init_119 (fun H locs Z => ?_)
  refine lv_iconst (v := 0) C.x C.b dX11_init_122 (by decide) ?_
  refine z_istore_n (lv' := [(1, .int 0), (0, .ref (ad 0 0))]) C dX11_init_123 rfl hl (by decide) rfl (onlast 0 rfl rfl rfl) (fun ls hl => ?_)
  rw [← Fl_0] at Z
  refine w_X11_124 C hR hO (cf := 72) (sf := 1785) (Nat.le_of_ble_eq_true rfl) (Nat.le_of_ble_eq_true rfl) (fun H locs ls Z hl => ?_) 8 0 _ _ _ _ _ rfl (Nat.le_of_ble_eq_true rfl) (Nat.le_of_ble_eq_true rfl) Z (lv_sub hl [1, 0] rfl)
  replace hl : lv_has ls 2 [(0, .ref (ad 0 0)), (1, .int (nI 8))] := hl
  refine lv_iconst (v := 0) C.x C.b dX11_init_152 (by decide) ?_
  refine z_istore_n (lv' := [(1, .int 0), (0, .ref (ad 0 0))]) C dX11_init_153 rfl hl (by decide) rfl (onlast 0 rfl rfl rfl) (fun ls hl => ?_)
  rw [← By_0] at Z
  refine w_X11_154 C hR hO (cf := 162) (sf := 2925) (Nat.le_of_ble_eq_true rfl) (Nat.le_of_ble_eq_true rfl) (fun H locs ls Z hl => ?_) 30 0 _ _ _ _ _ rfl (Nat.le_of_ble_eq_true rfl) (Nat.le_of_ble_eq_true rfl) Z (lv_sub hl [1, 0] rfl)
  replace hl : lv_has ls 2 [(0, .ref (ad 0 0)), (1, .int (nI 30))] := hl
  refine lv_iconst (v := 0) C.x C.b dX11_init_180 (by decide) ?_
  refine z_istore_n (lv' := [(1, .int 0), (0, .ref (ad 0 0))]) C dX11_init_181 rfl hl (by decide) rfl (onlast 0 rfl rfl rfl) (fun ls hl => ?_)
  rw [← Tp_0] at Z
  refine w_X11_182 C hR hO (cf := 174) (sf := 3303) (Nat.le_of_ble_eq_true rfl) (Nat.le_of_ble_eq_true rfl) (fun H locs ls Z hl => ?_) 6 0 _ _ _ _ _ rfl (Nat.le_of_ble_eq_true rfl) (Nat.le_of_ble_eq_true rfl) Z (lv_sub hl [1, 0] rfl)
  replace hl : lv_has ls 2 [(0, .ref (ad 0 0)), (1, .int (nI 6))] := hl
  exact z_vret C Z dX11_init_207
