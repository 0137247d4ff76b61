theorem dX5_isDepth_7 : decode cX5_isDepth 7 = .ok (.if_icmp .gt 7, 3) := by decide +kernel
theorem dX5_isDepth_10 : decode cX5_isDepth 10 = .ok (.iconst 1, 1) := by decide +kernel
theorem dX5_isDepth_11 : decode cX5_isDepth 11 = .ok (.goto 4, 3) := by decide +kernel
theorem dX5_isDepth_14 : decode cX5_isDepth 14 = .ok (.iconst 0, 1) := by decide +kernel
theorem dX5_isDepth_15 : decode cX5_isDepth 15 = .ok (.ireturn, 1) := by decide +kernel
theorem dX5_isWithin_0 : decode cX5_isWithin 0 = .ok (.iload_n 0, 1) := by decide +kernel
theorem dX5_isWithin_1 : decode cX5_isWithin 1 = .ok (.iload_n 1, 1) := by decide +kernel
theorem dX5_isWithin_2 : decode cX5_isWithin 2 = .ok (.ineg, 1) := by decide +kernel
theorem dX5_isWithin_3 : decode cX5_isWithin 3 = .ok (.if_icmp .lt 12, 3) := by decide +kernel
theorem dX5_isWithin_6 : decode cX5_isWithin 6 = .ok (.iload_n 0, 1) := by decide +kernel
theorem dX5_isWithin_7 : decode cX5_isWithin 7 = .ok (.iload_n 1, 1) := by decide +kernel
theorem dX5_isWithin_8 : decode cX5_isWithin 8 = .ok (.if_icmp .gt 7, 3) := by decide +kernel
theorem dX5_isWithin_11 : decode cX5_isWithin 11 = .ok (.iconst 1, 1) := by decide +kernel
theorem dX5_isWithin_12 : decode cX5_isWithin 12 = .ok (.goto 4, 3) := by decide +kernel
theorem dX5_isWithin_15 : decode cX5_isWithin 15 = .ok (.iconst 0, 1) := by decide +kernel
theorem dX5_isWithin_16 : decode cX5_isWithin 16 = .ok (.ireturn, 1) := by decide +kernel
theorem dX5_isEnd_0 : decode cX5_isEnd 0 = .ok (.iload_n 0, 1) := by decide +kernel
theorem dX5_isEnd_1 : decode cX5_isEnd 1 = .ok (.ifCond .eq 8, 3) := by decide +kernel
theorem dX5_isEnd_4 : decode cX5_isEnd 4 = .ok (.iload_n 0, 1) := by decide +kernel
theorem dX5_isEnd_5 : decode cX5_isEnd 5 = .ok (.iconst 1, 1) := by decide +kernel
theorem dX5_isEnd_6 : decode cX5_isEnd 6 = .ok (.if_icmp .ne 7, 3) := by decide +kernel
theorem dX5_isEnd_9 : decode cX5_isEnd 9 = .ok (.iconst 1, 1) := by decide +kernel
theorem dX5_isEnd_10 : decode cX5_isEnd 10 = .ok (.goto 4, 3) := by decide +kernel
theorem dX5_isEnd_13 : decode cX5_isEnd 13 = .ok (.iconst 0, 1) := by decide +kernel
theorem dX5_isEnd_14 : decode cX5_isEnd 14 = .ok (.ireturn, 1) := by decide +kernel
theorem dX5_isPlaceCode_0 : decode cX5_isPlaceCode 0 = .ok (.iload_n 1, 1) := by decide +kernel
theorem dX5_isPlaceCode_1 : decode cX5_isPlaceCode 1 = .ok (.ifCond .lt 25, 3) := by decide +kernel
theorem dX5_isPlaceCode_4 : decode cX5_isPlaceCode 4 = .ok (.aload_n 0, 1) := by decide +kernel
theorem dX5_isPlaceCode_5 : decode cX5_isPlaceCode 5 = .ok (.getfield 21, 3) := by decide +kernel
theorem dX5_isPlaceCode_8 : decode cX5_isPlaceCode 8 = .ok (.iload_n 1, 1) := by decide +kernel
theorem dX5_isPlaceCode_9 : decode cX5_isPlaceCode 9 = .ok (.bipush 10, 2) := by decide +kernel
theorem dX5_isPlaceCode_11 : decode cX5_isPlaceCode 11 = .ok (.idiv, 1) := by decide +kernel
theorem dX5_isPlaceCode_12 : decode cX5_isPlaceCode 12 = .ok (.iload_n 1, 1) := by decide +kernel
theorem dX5_isPlaceCode_13 : decode cX5_isPlaceCode 13 = .ok (.bipush 10, 2) := by decide +kernel
theorem dX5_isPlaceCode_15 : decode cX5_isPlaceCode 15 = .ok (.irem, 1) := by decide +kernel
theorem dX5_isPlaceCode_16 : decode cX5_isPlaceCode 16 = .ok (.invokevirtual 81, 3) := by decide +kernel
theorem dX5_isPlaceCode_19 : decode cX5_isPlaceCode 19 = .ok (.ifCond .eq 7, 3) := by decide +kernel
theorem dX5_isPlaceCode_22 : decode cX5_isPlaceCode 22 = .ok (.iconst 1, 1) := by decide +kernel
theorem dX5_isPlaceCode_23 : decode cX5_isPlaceCode 23 = .ok (.goto 4, 3) := by decide +kernel
theorem dX5_isPlaceCode_26 : decode cX5_isPlaceCode 26 = .ok (.iconst 0, 1) := by decide +kernel
theorem dX5_isPlaceCode_27 : decode cX5_isPlaceCode 27 = .ok (.ireturn, 1) := by decide +kernel
theorem dX5_end_0 : decode cX5_end 0 = .ok (.aload_n 0, 1) := by decide +kernel
theorem dX5_end_1 : decode cX5_end 1 = .ok (.getfield 39, 3) := by decide +kernel
theorem dX5_end_4 : decode cX5_end 4 = .ok (.invokevirtual 116, 3) := by decide +kernel
theorem dX5_end_7 : decode cX5_end 7 = .ok (.astore_n 3, 1) := by decide +kernel
theorem dX5_end_8 : decode cX5_end 8 = .ok (.iload_n 2, 1) := by decide +kernel
theorem dX5_end_9 : decode cX5_end 9 = .ok (.ifCond .ne 11, 3) := by decide +kernel
theorem dX5_end_12 : decode cX5_end 12 = .ok (.aload_n 3, 1) := by decide +kernel
theorem dX5_end_13 : decode cX5_end 13 = .ok (.iload_n 1, 1) := by decide +kernel
theorem dX5_end_14 : decode cX5_end 14 = .ok (.invokevirtual 175, 3) := by decide +kernel
theorem dX5_end_17 : decode cX5_end 17 = .ok (.goto 8, 3) := by decide +kernel
theorem dX5_end_20 : decode cX5_end 20 = .ok (.aload_n 3, 1) := by decide +kernel
theorem dX5_end_21 : decode cX5_end 21 = .ok (.iload_n 1, 1) := by decide +kernel
theorem dX5_end_22 : decode cX5_end 22 = .ok (.invokevirtual 178, 3) := by decide +kernel
theorem dX5_end_25 : decode cX5_end 25 = .ok (.ireturn, 1) := by decide +kernel
theorem dX5_gain_0 : decode cX5_gain 0 = .ok (.aload_n 0, 1) := by decide +kernel
theorem dX5_gain_1 : decode cX5_gain 1 = .ok (.getfield 39, 3) := by decide +kernel
theorem dX5_gain_4 : decode cX5_gain 4 = .ok (.invokevirtual 116, 3) := by decide +kernel
theorem dX5_gain_7 : decode cX5_gain 7 = .ok (.astore_n 2, 1) := by decide +kernel
theorem dX5_gain_8 : decode cX5_gain 8 = .ok (.aload_n 2, 1) := by decide +kernel
theorem dX5_gain_9 : decode cX5_gain 9 = .ok (.iload_n 1, 1) := by decide +kernel
theorem dX5_gain_10 : decode cX5_gain 10 = .ok (.invokevirtual 178, 3) := by decide +kernel
theorem dX5_gain_13 : decode cX5_gain 13 = .ok (.istore_n 3, 1) := by decide +kernel
theorem dX5_gain_14 : decode cX5_gain 14 = .ok (.iconst 0, 1) := by decide +kernel
theorem dX5_gain_15 : decode cX5_gain 15 = .ok (.istore 4, 2) := by decide +kernel
theorem dX5_gain_17 : decode cX5_gain 17 = .ok (.aload_n 2, 1) := by decide +kernel
theorem dX5_gain_18 : decode cX5_gain 18 = .ok (.iload_n 1, 1) := by decide +kernel
theorem dX5_gain_19 : decode cX5_gain 19 = .ok (.invokevirtual 175, 3) := by decide +kernel
theorem dX5_gain_22 : decode cX5_gain 22 = .ok (.istore 5, 2) := by decide +kernel
theorem dX5_gain_24 : decode cX5_gain 24 = .ok (.iload 5, 2) := by decide +kernel
theorem dX5_gain_26 : decode cX5_gain 26 = .ok (.iload_n 3, 1) := by decide +kernel
theorem dX5_gain_27 : decode cX5_gain 27 = .ok (.if_icmp .gt 23, 3) := by decide +kernel
theorem dX5_gain_30 : decode cX5_gain 30 = .ok (.iload 4, 2) := by decide +kernel
theorem dX5_gain_32 : decode cX5_gain 32 = .ok (.aload_n 2, 1) := by decide +kernel
theorem dX5_gain_33 : decode cX5_gain 33 = .ok (.iload_n 1, 1) := by decide +kernel
theorem dX5_gain_34 : decode cX5_gain 34 = .ok (.iload 5, 2) := by decide +kernel
theorem dX5_gain_36 : decode cX5_gain 36 = .ok (.invokevirtual 181, 3) := by decide +kernel
theorem dX5_gain_39 : decode cX5_gain 39 = .ok (.invokestatic 13, 3) := by decide +kernel
theorem dX5_gain_42 : decode cX5_gain 42 = .ok (.istore 4, 2) := by decide +kernel
theorem dX5_gain_44 : decode cX5_gain 44 = .ok (.iinc 5 1, 3) := by decide +kernel
theorem dX5_gain_47 : decode cX5_gain 47 = .ok (.goto (-23), 3) := by decide +kernel
theorem dX5_gain_50 : decode cX5_gain 50 = .ok (.aload_n 2, 1) := by decide +kernel
theorem dX5_gain_51 : decode cX5_gain 51 = .ok (.invokevirtual 120, 3) := by decide +kernel
theorem dX5_gain_54 : decode cX5_gain 54 = .ok (.iload 4, 2) := by decide +kernel
theorem dX5_gain_56 : decode cX5_gain 56 = .ok (.isub, 1) := by decide +kernel
theorem dX5_gain_57 : decode cX5_gain 57 = .ok (.ireturn, 1) := by decide +kernel
theorem dX6_init_0 : decode cX6_init 0 = .ok (.aload_n 0, 1) := by decide +kernel
theorem dX6_init_1 : decode cX6_init 1 = .ok (.invokespecial 3, 3) := by decide +kernel
theorem dX6_init_4 : decode cX6_init 4 = .ok (.aload_n 0, 1) := by decide +kernel
theorem dX6_init_5 : decode cX6_init 5 = .ok (.iconst 4, 1) := by decide +kernel
theorem dX6_init_6 : decode cX6_init 6 = .ok (.newarray .int, 2) := by decide +kernel
theorem dX6_init_8 : decode cX6_init 8 = .ok (.putfield 9, 3) := by decide +kernel
theorem dX6_init_11 : decode cX6_init 11 = .ok (.aload_n 0, 1) := by decide +kernel
theorem dX6_init_12 : decode cX6_init 12 = .ok (.iconst 4, 1) := by decide +kernel
theorem dX6_init_13 : decode cX6_init 13 = .ok (.newarray .int, 2) := by decide +kernel
theorem dX6_init_15 : decode cX6_init 15 = .ok (.putfield 13, 3) := by decide +kernel
theorem dX6_init_18 : decode cX6_init 18 = .ok (.aload_n 0, 1) := by decide +kernel
theorem dX6_init_19 : decode cX6_init 19 = .ok (.iconst 4, 1) := by decide +kernel
theorem dX6_init_20 : decode cX6_init 20 = .ok (.newarray .int, 2) := by decide +kernel
theorem dX6_init_22 : decode cX6_init 22 = .ok (.putfield 16, 3) := by decide +kernel
theorem dX6_init_25 : decode cX6_init 25 = .ok (.aload_n 0, 1) := by decide +kernel
theorem dX6_init_26 : decode cX6_init 26 = .ok (.bipush 8, 2) := by decide +kernel
theorem dX6_init_28 : decode cX6_init 28 = .ok (.newarray .boolean, 2) := by decide +kernel
theorem dX6_init_30 : decode cX6_init 30 = .ok (.putfield 19, 3) := by decide +kernel
theorem dX6_init_33 : decode cX6_init 33 = .ok (.aload_n 0, 1) := by decide +kernel
theorem dX6_init_34 : decode cX6_init 34 = .ok (.bipush 8, 2) := by decide +kernel
theorem dX6_init_36 : decode cX6_init 36 = .ok (.newarray .int, 2) := by decide +kernel
theorem dX6_init_38 : decode cX6_init 38 = .ok (.putfield 23, 3) := by decide +kernel
theorem dX6_init_41 : decode cX6_init 41 = .ok (.aload_n 0, 1) := by decide +kernel
theorem dX6_init_42 : decode cX6_init 42 = .ok (.bipush 8, 2) := by decide +kernel
theorem dX6_init_44 : decode cX6_init 44 = .ok (.newarray .int, 2) := by decide +kernel
theorem dX6_init_46 : decode cX6_init 46 = .ok (.putfield 26, 3) := by decide +kernel
theorem dX6_init_49 : decode cX6_init 49 = .ok (.aload_n 0, 1) := by decide +kernel
theorem dX6_init_50 : decode cX6_init 50 = .ok (.bipush 10, 2) := by decide +kernel
theorem dX6_init_52 : decode cX6_init 52 = .ok (.newarray .int, 2) := by decide +kernel
theorem dX6_init_54 : decode cX6_init 54 = .ok (.putfield 29, 3) := by decide +kernel
theorem dX6_init_57 : decode cX6_init 57 = .ok (.aload_n 0, 1) := by decide +kernel
theorem dX6_init_58 : decode cX6_init 58 = .ok (.bipush 10, 2) := by decide +kernel
theorem dX6_init_60 : decode cX6_init 60 = .ok (.newarray .int, 2) := by decide +kernel
theorem dX6_init_62 : decode cX6_init 62 = .ok (.putfield 32, 3) := by decide +kernel
theorem dX6_init_65 : decode cX6_init 65 = .ok (.aload_n 0, 1) := by decide +kernel
theorem dX6_init_66 : decode cX6_init 66 = .ok (.bipush 10, 2) := by decide +kernel
theorem dX6_init_68 : decode cX6_init 68 = .ok (.newarray .int, 2) := by decide +kernel
theorem dX6_init_70 : decode cX6_init 70 = .ok (.putfield 35, 3) := by decide +kernel
theorem dX6_init_73 : decode cX6_init 73 = .ok (.aload_n 0, 1) := by decide +kernel
theorem dX6_init_74 : decode cX6_init 74 = .ok (.bipush 10, 2) := by decide +kernel
theorem dX6_init_76 : decode cX6_init 76 = .ok (.newarray .boolean, 2) := by decide +kernel
theorem dX6_init_78 : decode cX6_init 78 = .ok (.putfield 38, 3) := by decide +kernel
theorem dX6_init_81 : decode cX6_init 81 = .ok (.aload_n 0, 1) := by decide +kernel
theorem dX6_init_82 : decode cX6_init 82 = .ok (.sipush 1089, 3) := by decide +kernel
theorem dX6_init_85 : decode cX6_init 85 = .ok (.newarray .int, 2) := by decide +kernel
theorem dX6_init_87 : decode cX6_init 87 = .ok (.putfield 41, 3) := by decide +kernel
theorem dX6_init_90 : decode cX6_init 90 = .ok (.aload_n 0, 1) := by decide +kernel
theorem dX6_init_91 : decode cX6_init 91 = .ok (.sipush 1089, 3) := by decide +kernel
theorem dX6_init_94 : decode cX6_init 94 = .ok (.newarray .int, 2) := by decide +kernel
theorem dX6_init_96 : decode cX6_init 96 = .ok (.putfield 44, 3) := by decide +kernel
theorem dX6_init_99 : decode cX6_init 99 = .ok (.aload_n 0, 1) := by decide +kernel
theorem dX6_init_100 : decode cX6_init 100 = .ok (.bipush 10, 2) := by decide +kernel
theorem dX6_init_102 : decode cX6_init 102 = .ok (.newarray .int, 2) := by decide +kernel
theorem dX6_init_104 : decode cX6_init 104 = .ok (.putfield 47, 3) := by decide +kernel
theorem dX6_init_107 : decode cX6_init 107 = .ok (.aload_n 0, 1) := by decide +kernel
theorem dX6_init_108 : decode cX6_init 108 = .ok (.iload_n 1, 1) := by decide +kernel
theorem dX6_init_109 : decode cX6_init 109 = .ok (.iconst 2, 1) := by decide +kernel
theorem dX6_init_110 : decode cX6_init 110 = .ok (.if_icmp .ge 7, 3) := by decide +kernel
theorem dX6_init_113 : decode cX6_init 113 = .ok (.iconst 2, 1) := by decide +kernel
theorem dX6_init_114 : decode cX6_init 114 = .ok (.goto 15, 3) := by decide +kernel
theorem dX6_init_117 : decode cX6_init 117 = .ok (.iload_n 1, 1) := by decide +kernel
theorem dX6_init_118 : decode cX6_init 118 = .ok (.bipush 8, 2) := by decide +kernel
theorem dX6_init_120 : decode cX6_init 120 = .ok (.if_icmp .le 8, 3) := by decide +kernel
theorem dX6_init_123 : decode cX6_init 123 = .ok (.bipush 8, 2) := by decide +kernel
theorem dX6_init_125 : decode cX6_init 125 = .ok (.goto 4, 3) := by decide +kernel
theorem dX6_init_128 : decode cX6_init 128 = .ok (.iload_n 1, 1) := by decide +kernel
theorem dX6_init_129 : decode cX6_init 129 = .ok (.putfield 50, 3) := by decide +kernel
theorem dX6_init_132 : decode cX6_init 132 = .ok (.aload_n 0, 1) := by decide +kernel
theorem dX6_init_133 : decode cX6_init 133 = .ok (.iload_n 2, 1) := by decide +kernel
theorem dX6_init_134 : decode cX6_init 134 = .ok (.iconst 1, 1) := by decide +kernel
theorem dX6_init_135 : decode cX6_init 135 = .ok (.if_icmp .ge 7, 3) := by decide +kernel
theorem dX6_init_138 : decode cX6_init 138 = .ok (.iconst 1, 1) := by decide +kernel
theorem dX6_init_139 : decode cX6_init 139 = .ok (.goto 13, 3) := by decide +kernel
theorem dX6_init_142 : decode cX6_init 142 = .ok (.iload_n 2, 1) := by decide +kernel
theorem dX6_init_143 : decode cX6_init 143 = .ok (.iconst 4, 1) := by decide +kernel
theorem dX6_init_144 : decode cX6_init 144 = .ok (.if_icmp .le 7, 3) := by decide +kernel
theorem dX6_init_147 : decode cX6_init 147 = .ok (.iconst 4, 1) := by decide +kernel
theorem dX6_init_148 : decode cX6_init 148 = .ok (.goto 4, 3) := by decide +kernel
theorem dX6_init_151 : decode cX6_init 151 = .ok (.iload_n 2, 1) := by decide +kernel
theorem dX6_init_152 : decode cX6_init 152 = .ok (.putfield 54, 3) := by decide +kernel
theorem dX6_init_155 : decode cX6_init 155 = .ok (.iconst 0, 1) := by decide +kernel
theorem dX6_init_156 : decode cX6_init 156 = .ok (.istore_n 3, 1) := by decide +kernel
theorem dX6_init_157 : decode cX6_init 157 = .ok (.iload_n 3, 1) := by decide +kernel
theorem dX6_init_158 : decode cX6_init 158 = .ok (.iconst 4, 1) := by decide +kernel
theorem dX6_init_159 : decode cX6_init 159 = .ok (.if_icmp .ge 31, 3) := by decide +kernel
theorem dX6_init_162 : decode cX6_init 162 = .ok (.aload_n 0, 1) := by decide +kernel
theorem dX6_init_163 : decode cX6_init 163 = .ok (.getfield 9, 3) := by decide +kernel
theorem dX6_init_166 : decode cX6_init 166 = .ok (.iload_n 3, 1) := by decide +kernel
theorem dX6_init_167 : decode cX6_init 167 = .ok (.iconst 1, 1) := by decide +kernel
theorem dX6_init_168 : decode cX6_init 168 = .ok (.iastore, 1) := by decide +kernel
theorem dX6_init_169 : decode cX6_init 169 = .ok (.aload_n 0, 1) := by decide +kernel
theorem dX6_init_170 : decode cX6_init 170 = .ok (.getfield 13, 3) := by decide +kernel
theorem dX6_init_173 : decode cX6_init 173 = .ok (.iload_n 3, 1) := by decide +kernel
theorem dX6_init_174 : decode cX6_init 174 = .ok (.bipush 60, 2) := by decide +kernel
theorem dX6_init_176 : decode cX6_init 176 = .ok (.iastore, 1) := by decide +kernel
theorem dX6_init_177 : decode cX6_init 177 = .ok (.aload_n 0, 1) := by decide +kernel
theorem dX6_init_178 : decode cX6_init 178 = .ok (.getfield 16, 3) := by decide +kernel
theorem dX6_init_181 : decode cX6_init 181 = .ok (.iload_n 3, 1) := by decide +kernel
theorem dX6_init_182 : decode cX6_init 182 = .ok (.iconst 5, 1) := by decide +kernel
theorem dX6_init_183 : decode cX6_init 183 = .ok (.iastore, 1) := by decide +kernel
theorem dX6_init_184 : decode cX6_init 184 = .ok (.iinc 3 1, 3) := by decide +kernel
theorem dX6_init_187 : decode cX6_init 187 = .ok (.goto (-30), 3) := by decide +kernel
theorem dX6_init_190 : decode cX6_init 190 = .ok (.return_, 1) := by decide +kernel
theorem dX6_in_0 : decode cX6_in 0 = .ok (.iload_n 0, 1) := by decide +kernel
theorem dX6_in_1 : decode cX6_in 1 = .ok (.iload_n 1, 1) := by decide +kernel
theorem dX6_in_2 : decode cX6_in 2 = .ok (.if_icmp .lt 12, 3) := by decide +kernel
theorem dX6_in_5 : decode cX6_in 5 = .ok (.iload_n 0, 1) := by decide +kernel
theorem dX6_in_6 : decode cX6_in 6 = .ok (.iload_n 2, 1) := by decide +kernel
theorem dX6_in_7 : decode cX6_in 7 = .ok (.if_icmp .gt 7, 3) := by decide +kernel
theorem dX6_in_10 : decode cX6_in 10 = .ok (.iconst 1, 1) := by decide +kernel
theorem dX6_in_11 : decode cX6_in 11 = .ok (.goto 4, 3) := by decide +kernel
theorem dX6_in_14 : decode cX6_in 14 = .ok (.iconst 0, 1) := by decide +kernel
theorem dX6_in_15 : decode cX6_in 15 = .ok (.ireturn, 1) := by decide +kernel
theorem dX6_isPlace_0 : decode cX6_isPlace 0 = .ok (.iload_n 1, 1) := by decide +kernel
theorem dX6_isPlace_1 : decode cX6_isPlace 1 = .ok (.iconst 0, 1) := by decide +kernel
theorem dX6_isPlace_2 : decode cX6_isPlace 2 = .ok (.aload_n 0, 1) := by decide +kernel
theorem dX6_isPlace_3 : decode cX6_isPlace 3 = .ok (.getfield 54, 3) := by decide +kernel
theorem dX6_isPlace_6 : decode cX6_isPlace 6 = .ok (.iconst 1, 1) := by decide +kernel
theorem dX6_isPlace_7 : decode cX6_isPlace 7 = .ok (.isub, 1) := by decide +kernel
theorem dX6_isPlace_8 : decode cX6_isPlace 8 = .ok (.invokestatic 57, 3) := by decide +kernel
theorem dX6_isPlace_11 : decode cX6_isPlace 11 = .ok (.ifCond .eq 21, 3) := by decide +kernel
theorem dX6_isPlace_14 : decode cX6_isPlace 14 = .ok (.iload_n 2, 1) := by decide +kernel
theorem dX6_isPlace_15 : decode cX6_isPlace 15 = .ok (.iconst 0, 1) := by decide +kernel
theorem dX6_isPlace_16 : decode cX6_isPlace 16 = .ok (.aload_n 0, 1) := by decide +kernel
theorem dX6_isPlace_17 : decode cX6_isPlace 17 = .ok (.getfield 50, 3) := by decide +kernel
theorem dX6_isPlace_20 : decode cX6_isPlace 20 = .ok (.iconst 1, 1) := by decide +kernel
theorem dX6_isPlace_21 : decode cX6_isPlace 21 = .ok (.isub, 1) := by decide +kernel
theorem dX6_isPlace_22 : decode cX6_isPlace 22 = .ok (.invokestatic 57, 3) := by decide +kernel
theorem dX6_isPlace_25 : decode cX6_isPlace 25 = .ok (.ifCond .eq 7, 3) := by decide +kernel
theorem dX6_isPlace_28 : decode cX6_isPlace 28 = .ok (.iconst 1, 1) := by decide +kernel
theorem dX6_isPlace_29 : decode cX6_isPlace 29 = .ok (.goto 4, 3) := by decide +kernel
theorem dX6_isPlace_32 : decode cX6_isPlace 32 = .ok (.iconst 0, 1) := by decide +kernel
theorem dX6_isPlace_33 : decode cX6_isPlace 33 = .ok (.ireturn, 1) := by decide +kernel
theorem dX6_thick_0 : decode cX6_thick 0 = .ok (.iload_n 1, 1) := by decide +kernel
theorem dX6_thick_1 : decode cX6_thick 1 = .ok (.iconst 0, 1) := by decide +kernel
theorem dX6_thick_2 : decode cX6_thick 2 = .ok (.aload_n 0, 1) := by decide +kernel
theorem dX6_thick_3 : decode cX6_thick 3 = .ok (.getfield 54, 3) := by decide +kernel
theorem dX6_thick_6 : decode cX6_thick 6 = .ok (.iconst 2, 1) := by decide +kernel
theorem dX6_thick_7 : decode cX6_thick 7 = .ok (.isub, 1) := by decide +kernel
theorem dX6_thick_8 : decode cX6_thick 8 = .ok (.invokestatic 57, 3) := by decide +kernel
theorem dX6_thick_11 : decode cX6_thick 11 = .ok (.ifCond .eq 23, 3) := by decide +kernel
theorem dX6_thick_14 : decode cX6_thick 14 = .ok (.iload_n 2, 1) := by decide +kernel
theorem dX6_thick_15 : decode cX6_thick 15 = .ok (.iconst 0, 1) := by decide +kernel
theorem dX6_thick_16 : decode cX6_thick 16 = .ok (.bipush 60, 2) := by decide +kernel
theorem dX6_thick_18 : decode cX6_thick 18 = .ok (.invokestatic 57, 3) := by decide +kernel
theorem dX6_thick_21 : decode cX6_thick 21 = .ok (.ifCond .eq 13, 3) := by decide +kernel
theorem dX6_thick_24 : decode cX6_thick 24 = .ok (.iload_n 3, 1) := by decide +kernel
theorem dX6_thick_25 : decode cX6_thick 25 = .ok (.iload_n 2, 1) := by decide +kernel
theorem dX6_thick_26 : decode cX6_thick 26 = .ok (.bipush 60, 2) := by decide +kernel
theorem dX6_thick_28 : decode cX6_thick 28 = .ok (.invokestatic 57, 3) := by decide +kernel
theorem dX6_thick_31 : decode cX6_thick 31 = .ok (.ifCond .ne 5, 3) := by decide +kernel
theorem dX6_thick_34 : decode cX6_thick 34 = .ok (.iconst 0, 1) := by decide +kernel
theorem dX6_thick_35 : decode cX6_thick 35 = .ok (.ireturn, 1) := by decide +kernel
theorem dX6_thick_36 : decode cX6_thick 36 = .ok (.aload_n 0, 1) := by decide +kernel
theorem dX6_thick_37 : decode cX6_thick 37 = .ok (.getfield 9, 3) := by decide +kernel
theorem dX6_thick_40 : decode cX6_thick 40 = .ok (.iload_n 1, 1) := by decide +kernel
theorem dX6_thick_41 : decode cX6_thick 41 = .ok (.iload_n 2, 1) := by decide +kernel
theorem dX6_thick_42 : decode cX6_thick 42 = .ok (.iastore, 1) := by decide +kernel
theorem dX6_thick_43 : decode cX6_thick 43 = .ok (.aload_n 0, 1) := by decide +kernel
theorem dX6_thick_44 : decode cX6_thick 44 = .ok (.getfield 13, 3) := by decide +kernel
theorem dX6_thick_47 : decode cX6_thick 47 = .ok (.iload_n 1, 1) := by decide +kernel
theorem dX6_thick_48 : decode cX6_thick 48 = .ok (.iload_n 3, 1) := by decide +kernel
theorem dX6_thick_49 : decode cX6_thick 49 = .ok (.iastore, 1) := by decide +kernel
theorem dX6_thick_50 : decode cX6_thick 50 = .ok (.aload_n 0, 1) := by decide +kernel
theorem dX6_thick_51 : decode cX6_thick 51 = .ok (.iconst 0, 1) := by decide +kernel
theorem dX6_thick_52 : decode cX6_thick 52 = .ok (.putfield 61, 3) := by decide +kernel
theorem dX6_thick_55 : decode cX6_thick 55 = .ok (.iconst 1, 1) := by decide +kernel
theorem dX6_thick_56 : decode cX6_thick 56 = .ok (.ireturn, 1) := by decide +kernel
theorem dX6_steep_0 : decode cX6_steep 0 = .ok (.iload_n 1, 1) := by decide +kernel
theorem dX6_steep_1 : decode cX6_steep 1 = .ok (.iconst 0, 1) := by decide +kernel
theorem dX6_steep_2 : decode cX6_steep 2 = .ok (.aload_n 0, 1) := by decide +kernel
theorem dX6_steep_3 : decode cX6_steep 3 = .ok (.getfield 54, 3) := by decide +kernel
theorem dX6_steep_6 : decode cX6_steep 6 = .ok (.iconst 1, 1) := by decide +kernel
theorem dX6_steep_7 : decode cX6_steep 7 = .ok (.isub, 1) := by decide +kernel
theorem dX6_steep_8 : decode cX6_steep 8 = .ok (.invokestatic 57, 3) := by decide +kernel
theorem dX6_steep_11 : decode cX6_steep 11 = .ok (.ifCond .eq 13, 3) := by decide +kernel
theorem dX6_steep_14 : decode cX6_steep 14 = .ok (.iload_n 2, 1) := by decide +kernel
theorem dX6_steep_15 : decode cX6_steep 15 = .ok (.iconst 0, 1) := by decide +kernel
theorem dX6_steep_16 : decode cX6_steep 16 = .ok (.bipush 60, 2) := by decide +kernel
theorem dX6_steep_18 : decode cX6_steep 18 = .ok (.invokestatic 57, 3) := by decide +kernel
theorem dX6_steep_21 : decode cX6_steep 21 = .ok (.ifCond .ne 5, 3) := by decide +kernel
theorem dX6_steep_24 : decode cX6_steep 24 = .ok (.iconst 0, 1) := by decide +kernel
theorem dX6_steep_25 : decode cX6_steep 25 = .ok (.ireturn, 1) := by decide +kernel
theorem dX6_steep_26 : decode cX6_steep 26 = .ok (.aload_n 0, 1) := by decide +kernel
theorem dX6_steep_27 : decode cX6_steep 27 = .ok (.getfield 16, 3) := by decide +kernel
theorem dX6_steep_30 : decode cX6_steep 30 = .ok (.iload_n 1, 1) := by decide +kernel
theorem dX6_steep_31 : decode cX6_steep 31 = .ok (.iload_n 2, 1) := by decide +kernel
theorem dX6_steep_32 : decode cX6_steep 32 = .ok (.iastore, 1) := by decide +kernel
theorem dX6_steep_33 : decode cX6_steep 33 = .ok (.aload_n 0, 1) := by decide +kernel
theorem dX6_steep_34 : decode cX6_steep 34 = .ok (.iconst 0, 1) := by decide +kernel
theorem dX6_steep_35 : decode cX6_steep 35 = .ok (.putfield 61, 3) := by decide +kernel
theorem dX6_steep_38 : decode cX6_steep 38 = .ok (.iconst 1, 1) := by decide +kernel
theorem dX6_steep_39 : decode cX6_steep 39 = .ok (.ireturn, 1) := by decide +kernel
theorem dX6_fault_0 : decode cX6_fault 0 = .ok (.iload_n 1, 1) := by decide +kernel
theorem dX6_fault_1 : decode cX6_fault 1 = .ok (.iconst 0, 1) := by decide +kernel
theorem dX6_fault_2 : decode cX6_fault 2 = .ok (.aload_n 0, 1) := by decide +kernel
theorem dX6_fault_3 : decode cX6_fault 3 = .ok (.getfield 50, 3) := by decide +kernel
theorem dX6_fault_6 : decode cX6_fault 6 = .ok (.iconst 2, 1) := by decide +kernel
theorem dX6_fault_7 : decode cX6_fault 7 = .ok (.isub, 1) := by decide +kernel
theorem dX6_fault_8 : decode cX6_fault 8 = .ok (.invokestatic 57, 3) := by decide +kernel
theorem dX6_fault_11 : decode cX6_fault 11 = .ok (.ifCond .eq 14, 3) := by decide +kernel
theorem dX6_fault_14 : decode cX6_fault 14 = .ok (.iload_n 2, 1) := by decide +kernel
theorem dX6_fault_15 : decode cX6_fault 15 = .ok (.bipush (-30), 2) := by decide +kernel
theorem dX6_fault_17 : decode cX6_fault 17 = .ok (.bipush 30, 2) := by decide +kernel
theorem dX6_fault_19 : decode cX6_fault 19 = .ok (.invokestatic 57, 3) := by decide +kernel
theorem dX6_fault_22 : decode cX6_fault 22 = .ok (.ifCond .ne 5, 3) := by decide +kernel
theorem dX6_fault_25 : decode cX6_fault 25 = .ok (.iconst 0, 1) := by decide +kernel
theorem dX6_fault_26 : decode cX6_fault 26 = .ok (.ireturn, 1) := by decide +kernel
theorem dX6_fault_27 : decode cX6_fault 27 = .ok (.aload_n 0, 1) := by decide +kernel
theorem dX6_fault_28 : decode cX6_fault 28 = .ok (.getfield 19, 3) := by decide +kernel
theorem dX6_fault_31 : decode cX6_fault 31 = .ok (.iload_n 1, 1) := by decide +kernel
theorem dX6_fault_32 : decode cX6_fault 32 = .ok (.iconst 1, 1) := by decide +kernel
theorem dX6_fault_33 : decode cX6_fault 33 = .ok (.bastore, 1) := by decide +kernel
theorem dX6_fault_34 : decode cX6_fault 34 = .ok (.aload_n 0, 1) := by decide +kernel
theorem dX6_fault_35 : decode cX6_fault 35 = .ok (.getfield 23, 3) := by decide +kernel
theorem dX6_fault_38 : decode cX6_fault 38 = .ok (.iload_n 1, 1) := by decide +kernel
theorem dX6_fault_39 : decode cX6_fault 39 = .ok (.iload_n 2, 1) := by decide +kernel
theorem dX6_fault_40 : decode cX6_fault 40 = .ok (.iastore, 1) := by decide +kernel
theorem dX6_fault_41 : decode cX6_fault 41 = .ok (.aload_n 0, 1) := by decide +kernel
theorem dX6_fault_42 : decode cX6_fault 42 = .ok (.iconst 0, 1) := by decide +kernel
theorem dX6_fault_43 : decode cX6_fault 43 = .ok (.putfield 61, 3) := by decide +kernel
theorem dX6_fault_46 : decode cX6_fault 46 = .ok (.iconst 1, 1) := by decide +kernel
theorem dX6_fault_47 : decode cX6_fault 47 = .ok (.ireturn, 1) := by decide +kernel
theorem dX6_heal_0 : decode cX6_heal 0 = .ok (.iload_n 1, 1) := by decide +kernel
theorem dX6_heal_1 : decode cX6_heal 1 = .ok (.iconst 0, 1) := by decide +kernel
theorem dX6_heal_2 : decode cX6_heal 2 = .ok (.aload_n 0, 1) := by decide +kernel
theorem dX6_heal_3 : decode cX6_heal 3 = .ok (.getfield 50, 3) := by decide +kernel
theorem dX6_heal_6 : decode cX6_heal 6 = .ok (.iconst 2, 1) := by decide +kernel
theorem dX6_heal_7 : decode cX6_heal 7 = .ok (.isub, 1) := by decide +kernel
theorem dX6_heal_8 : decode cX6_heal 8 = .ok (.invokestatic 57, 3) := by decide +kernel
theorem dX6_heal_11 : decode cX6_heal 11 = .ok (.ifCond .eq 12, 3) := by decide +kernel
theorem dX6_heal_14 : decode cX6_heal 14 = .ok (.aload_n 0, 1) := by decide +kernel
theorem dX6_heal_15 : decode cX6_heal 15 = .ok (.getfield 19, 3) := by decide +kernel
theorem dX6_heal_18 : decode cX6_heal 18 = .ok (.iload_n 1, 1) := by decide +kernel
theorem dX6_heal_19 : decode cX6_heal 19 = .ok (.baload, 1) := by decide +kernel
theorem dX6_heal_20 : decode cX6_heal 20 = .ok (.ifCond .ne 5, 3) := by decide +kernel
theorem dX6_heal_23 : decode cX6_heal 23 = .ok (.iconst 0, 1) := by decide +kernel
theorem dX6_heal_24 : decode cX6_heal 24 = .ok (.ireturn, 1) := by decide +kernel
theorem dX6_heal_25 : decode cX6_heal 25 = .ok (.aload_n 0, 1) := by decide +kernel
theorem dX6_heal_26 : decode cX6_heal 26 = .ok (.getfield 19, 3) := by decide +kernel
theorem dX6_heal_29 : decode cX6_heal 29 = .ok (.iload_n 1, 1) := by decide +kernel
theorem dX6_heal_30 : decode cX6_heal 30 = .ok (.iconst 0, 1) := by decide +kernel
theorem dX6_heal_31 : decode cX6_heal 31 = .ok (.bastore, 1) := by decide +kernel
theorem dX6_heal_32 : decode cX6_heal 32 = .ok (.aload_n 0, 1) := by decide +kernel
theorem dX6_heal_33 : decode cX6_heal 33 = .ok (.iconst 0, 1) := by decide +kernel
theorem dX6_heal_34 : decode cX6_heal 34 = .ok (.putfield 61, 3) := by decide +kernel
theorem dX6_heal_37 : decode cX6_heal 37 = .ok (.iconst 1, 1) := by decide +kernel
theorem dX6_heal_38 : decode cX6_heal 38 = .ok (.ireturn, 1) := by decide +kernel
theorem dX6_ground_0 : decode cX6_ground 0 = .ok (.iload_n 1, 1) := by decide +kernel
theorem dX6_ground_1 : decode cX6_ground 1 = .ok (.iconst 0, 1) := by decide +kernel
theorem dX6_ground_2 : decode cX6_ground 2 = .ok (.aload_n 0, 1) := by decide +kernel
theorem dX6_ground_3 : decode cX6_ground 3 = .ok (.getfield 50, 3) := by decide +kernel
theorem dX6_ground_6 : decode cX6_ground 6 = .ok (.iconst 1, 1) := by decide +kernel
theorem dX6_ground_7 : decode cX6_ground 7 = .ok (.isub, 1) := by decide +kernel
theorem dX6_ground_8 : decode cX6_ground 8 = .ok (.invokestatic 57, 3) := by decide +kernel
theorem dX6_ground_11 : decode cX6_ground 11 = .ok (.ifCond .eq 13, 3) := by decide +kernel
theorem dX6_ground_14 : decode cX6_ground 14 = .ok (.iload_n 2, 1) := by decide +kernel
theorem dX6_ground_15 : decode cX6_ground 15 = .ok (.iconst 0, 1) := by decide +kernel
theorem dX6_ground_16 : decode cX6_ground 16 = .ok (.bipush 60, 2) := by decide +kernel
theorem dX6_ground_18 : decode cX6_ground 18 = .ok (.invokestatic 57, 3) := by decide +kernel
theorem dX6_ground_21 : decode cX6_ground 21 = .ok (.ifCond .ne 5, 3) := by decide +kernel
theorem dX6_ground_24 : decode cX6_ground 24 = .ok (.iconst 0, 1) := by decide +kernel
theorem dX6_ground_25 : decode cX6_ground 25 = .ok (.ireturn, 1) := by decide +kernel
theorem dX6_ground_26 : decode cX6_ground 26 = .ok (.aload_n 0, 1) := by decide +kernel
theorem dX6_ground_27 : decode cX6_ground 27 = .ok (.getfield 26, 3) := by decide +kernel
theorem dX6_ground_30 : decode cX6_ground 30 = .ok (.iload_n 1, 1) := by decide +kernel
theorem dX6_ground_31 : decode cX6_ground 31 = .ok (.iload_n 2, 1) := by decide +kernel
theorem dX6_ground_32 : decode cX6_ground 32 = .ok (.iastore, 1) := by decide +kernel
theorem dX6_ground_33 : decode cX6_ground 33 = .ok (.iconst 1, 1) := by decide +kernel
theorem dX6_ground_34 : decode cX6_ground 34 = .ok (.ireturn, 1) := by decide +kernel
theorem dX6_sight_0 : decode cX6_sight 0 = .ok (.iload_n 1, 1) := by decide +kernel
theorem dX6_sight_1 : decode cX6_sight 1 = .ok (.ifCond .lt 53, 3) := by decide +kernel
theorem dX6_sight_4 : decode cX6_sight 4 = .ok (.aload_n 0, 1) := by decide +kernel
theorem dX6_sight_5 : decode cX6_sight 5 = .ok (.iload_n 1, 1) := by decide +kernel
theorem dX6_sight_6 : decode cX6_sight 6 = .ok (.bipush 100, 2) := by decide +kernel
theorem dX6_sight_8 : decode cX6_sight 8 = .ok (.idiv, 1) := by decide +kernel
theorem dX6_sight_9 : decode cX6_sight 9 = .ok (.iload_n 1, 1) := by decide +kernel
theorem dX6_sight_10 : decode cX6_sight 10 = .ok (.bipush 10, 2) := by decide +kernel
theorem dX6_sight_12 : decode cX6_sight 12 = .ok (.idiv, 1) := by decide +kernel
theorem dX6_sight_13 : decode cX6_sight 13 = .ok (.bipush 10, 2) := by decide +kernel
theorem dX6_sight_15 : decode cX6_sight 15 = .ok (.irem, 1) := by decide +kernel
theorem dX6_sight_16 : decode cX6_sight 16 = .ok (.invokevirtual 65, 3) := by decide +kernel
theorem dX6_sight_19 : decode cX6_sight 19 = .ok (.ifCond .eq 35, 3) := by decide +kernel
theorem dX6_sight_22 : decode cX6_sight 22 = .ok (.iload_n 1, 1) := by decide +kernel
theorem dX6_sight_23 : decode cX6_sight 23 = .ok (.bipush 10, 2) := by decide +kernel
theorem dX6_sight_25 : decode cX6_sight 25 = .ok (.irem, 1) := by decide +kernel
theorem dX6_sight_26 : decode cX6_sight 26 = .ok (.iconst 3, 1) := by decide +kernel
theorem dX6_sight_27 : decode cX6_sight 27 = .ok (.if_icmp .gt 27, 3) := by decide +kernel
theorem dX6_sight_30 : decode cX6_sight 30 = .ok (.iload_n 1, 1) := by decide +kernel
theorem dX6_sight_31 : decode cX6_sight 31 = .ok (.bipush 10, 2) := by decide +kernel
theorem dX6_sight_33 : decode cX6_sight 33 = .ok (.irem, 1) := by decide +kernel
theorem dX6_sight_34 : decode cX6_sight 34 = .ok (.iconst 3, 1) := by decide +kernel
theorem dX6_sight_35 : decode cX6_sight 35 = .ok (.if_icmp .ne 21, 3) := by decide +kernel
theorem dX6_sight_38 : decode cX6_sight 38 = .ok (.iload_n 1, 1) := by decide +kernel
theorem dX6_sight_39 : decode cX6_sight 39 = .ok (.bipush 10, 2) := by decide +kernel
theorem dX6_sight_41 : decode cX6_sight 41 = .ok (.idiv, 1) := by decide +kernel
theorem dX6_sight_42 : decode cX6_sight 42 = .ok (.bipush 10, 2) := by decide +kernel
theorem dX6_sight_44 : decode cX6_sight 44 = .ok (.irem, 1) := by decide +kernel
theorem dX6_sight_45 : decode cX6_sight 45 = .ok (.aload_n 0, 1) := by decide +kernel
theorem dX6_sight_46 : decode cX6_sight 46 = .ok (.getfield 50, 3) := by decide +kernel
theorem dX6_sight_49 : decode cX6_sight 49 = .ok (.iconst 1, 1) := by decide +kernel
theorem dX6_sight_50 : decode cX6_sight 50 = .ok (.isub, 1) := by decide +kernel
theorem dX6_sight_51 : decode cX6_sight 51 = .ok (.if_icmp .ne 5, 3) := by decide +kernel
theorem dX6_sight_54 : decode cX6_sight 54 = .ok (.iconst (-1), 1) := by decide +kernel
theorem dX6_sight_55 : decode cX6_sight 55 = .ok (.ireturn, 1) := by decide +kernel
theorem dX6_sight_56 : decode cX6_sight 56 = .ok (.iload_n 2, 1) := by decide +kernel
theorem dX6_sight_57 : decode cX6_sight 57 = .ok (.bipush (-60), 2) := by decide +kernel
theorem dX6_sight_59 : decode cX6_sight 59 = .ok (.bipush 60, 2) := by decide +kernel
theorem dX6_sight_61 : decode cX6_sight 61 = .ok (.invokestatic 57, 3) := by decide +kernel
theorem dX6_sight_64 : decode cX6_sight 64 = .ok (.ifCond .eq 22, 3) := by decide +kernel
theorem dX6_sight_67 : decode cX6_sight 67 = .ok (.iload_n 3, 1) := by decide +kernel
theorem dX6_sight_68 : decode cX6_sight 68 = .ok (.iconst 0, 1) := by decide +kernel
theorem dX6_sight_69 : decode cX6_sight 69 = .ok (.bipush 60, 2) := by decide +kernel
theorem dX6_sight_71 : decode cX6_sight 71 = .ok (.invokestatic 57, 3) := by decide +kernel
theorem dX6_sight_74 : decode cX6_sight 74 = .ok (.ifCond .eq 12, 3) := by decide +kernel
theorem dX6_sight_77 : decode cX6_sight 77 = .ok (.aload_n 0, 1) := by decide +kernel
theorem dX6_sight_78 : decode cX6_sight 78 = .ok (.getfield 69, 3) := by decide +kernel
theorem dX6_sight_81 : decode cX6_sight 81 = .ok (.bipush 10, 2) := by decide +kernel
theorem dX6_sight_83 : decode cX6_sight 83 = .ok (.if_icmp .ne 5, 3) := by decide +kernel
theorem dX6_sight_86 : decode cX6_sight 86 = .ok (.iconst (-1), 1) := by decide +kernel
theorem dX6_sight_87 : decode cX6_sight 87 = .ok (.ireturn, 1) := by decide +kernel
theorem dX6_sight_88 : decode cX6_sight 88 = .ok (.aload_n 0, 1) := by decide +kernel
theorem dX6_sight_89 : decode cX6_sight 89 = .ok (.getfield 29, 3) := by decide +kernel
theorem dX6_sight_92 : decode cX6_sight 92 = .ok (.aload_n 0, 1) := by decide +kernel
theorem dX6_sight_93 : decode cX6_sight 93 = .ok (.getfield 69, 3) := by decide +kernel
theorem dX6_sight_96 : decode cX6_sight 96 = .ok (.iload_n 1, 1) := by decide +kernel
theorem dX6_sight_97 : decode cX6_sight 97 = .ok (.iastore, 1) := by decide +kernel
theorem dX6_sight_98 : decode cX6_sight 98 = .ok (.aload_n 0, 1) := by decide +kernel
theorem dX6_sight_99 : decode cX6_sight 99 = .ok (.getfield 32, 3) := by decide +kernel
theorem dX6_sight_102 : decode cX6_sight 102 = .ok (.aload_n 0, 1) := by decide +kernel
theorem dX6_sight_103 : decode cX6_sight 103 = .ok (.getfield 69, 3) := by decide +kernel
theorem dX6_sight_106 : decode cX6_sight 106 = .ok (.iload_n 2, 1) := by decide +kernel
theorem dX6_sight_107 : decode cX6_sight 107 = .ok (.iastore, 1) := by decide +kernel
theorem dX6_sight_108 : decode cX6_sight 108 = .ok (.aload_n 0, 1) := by decide +kernel
theorem dX6_sight_109 : decode cX6_sight 109 = .ok (.getfield 35, 3) := by decide +kernel
theorem dX6_sight_112 : decode cX6_sight 112 = .ok (.aload_n 0, 1) := by decide +kernel
theorem dX6_sight_113 : decode cX6_sight 113 = .ok (.getfield 69, 3) := by decide +kernel
theorem dX6_sight_116 : decode cX6_sight 116 = .ok (.iload_n 3, 1) := by decide +kernel
theorem dX6_sight_117 : decode cX6_sight 117 = .ok (.iastore, 1) := by decide +kernel
theorem dX6_sight_118 : decode cX6_sight 118 = .ok (.aload_n 0, 1) := by decide +kernel
theorem dX6_sight_119 : decode cX6_sight 119 = .ok (.getfield 38, 3) := by decide +kernel
theorem dX6_sight_122 : decode cX6_sight 122 = .ok (.aload_n 0, 1) := by decide +kernel
theorem dX6_sight_123 : decode cX6_sight 123 = .ok (.getfield 69, 3) := by decide +kernel
theorem dX6_sight_126 : decode cX6_sight 126 = .ok (.iconst 1, 1) := by decide +kernel
theorem dX6_sight_127 : decode cX6_sight 127 = .ok (.bastore, 1) := by decide +kernel
theorem dX6_sight_128 : decode cX6_sight 128 = .ok (.aload_n 0, 1) := by decide +kernel
theorem dX6_sight_129 : decode cX6_sight 129 = .ok (.dup, 1) := by decide +kernel
theorem dX6_sight_130 : decode cX6_sight 130 = .ok (.getfield 69, 3) := by decide +kernel
theorem dX6_sight_133 : decode cX6_sight 133 = .ok (.iconst 1, 1) := by decide +kernel
theorem dX6_sight_134 : decode cX6_sight 134 = .ok (.iadd, 1) := by decide +kernel
theorem dX6_sight_135 : decode cX6_sight 135 = .ok (.putfield 69, 3) := by decide +kernel
theorem dX6_sight_138 : decode cX6_sight 138 = .ok (.aload_n 0, 1) := by decide +kernel
theorem dX6_sight_139 : decode cX6_sight 139 = .ok (.iconst 0, 1) := by decide +kernel
theorem dX6_sight_140 : decode cX6_sight 140 = .ok (.putfield 61, 3) := by decide +kernel
theorem dX6_sight_143 : decode cX6_sight 143 = .ok (.aload_n 0, 1) := by decide +kernel
theorem dX6_sight_144 : decode cX6_sight 144 = .ok (.getfield 69, 3) := by decide +kernel
theorem dX6_sight_147 : decode cX6_sight 147 = .ok (.iconst 1, 1) := by decide +kernel
theorem dX6_sight_148 : decode cX6_sight 148 = .ok (.isub, 1) := by decide +kernel
theorem dX6_sight_149 : decode cX6_sight 149 = .ok (.ireturn, 1) := by decide +kernel
theorem dX6_isSight_0 : decode cX6_isSight 0 = .ok (.iload_n 1, 1) := by decide +kernel
theorem dX6_isSight_1 : decode cX6_isSight 1 = .ok (.iconst 0, 1) := by decide +kernel
theorem dX6_isSight_2 : decode cX6_isSight 2 = .ok (.aload_n 0, 1) := by decide +kernel
theorem dX6_isSight_3 : decode cX6_isSight 3 = .ok (.getfield 69, 3) := by decide +kernel
theorem dX6_isSight_6 : decode cX6_isSight 6 = .ok (.iconst 1, 1) := by decide +kernel
theorem dX6_isSight_7 : decode cX6_isSight 7 = .ok (.isub, 1) := by decide +kernel
theorem dX6_isSight_8 : decode cX6_isSight 8 = .ok (.invokestatic 57, 3) := by decide +kernel
theorem dX6_isSight_11 : decode cX6_isSight 11 = .ok (.ifCond .eq 16, 3) := by decide +kernel
theorem dX6_isSight_14 : decode cX6_isSight 14 = .ok (.aload_n 0, 1) := by decide +kernel
theorem dX6_isSight_15 : decode cX6_isSight 15 = .ok (.getfield 38, 3) := by decide +kernel
theorem dX6_isSight_18 : decode cX6_isSight 18 = .ok (.iload_n 1, 1) := by decide +kernel
theorem dX6_isSight_19 : decode cX6_isSight 19 = .ok (.baload, 1) := by decide +kernel
theorem dX6_isSight_20 : decode cX6_isSight 20 = .ok (.ifCond .eq 7, 3) := by decide +kernel
theorem dX6_isSight_23 : decode cX6_isSight 23 = .ok (.iconst 1, 1) := by decide +kernel
theorem dX6_isSight_24 : decode cX6_isSight 24 = .ok (.goto 4, 3) := by decide +kernel
theorem dX6_isSight_27 : decode cX6_isSight 27 = .ok (.iconst 0, 1) := by decide +kernel
theorem dX6_isSight_28 : decode cX6_isSight 28 = .ok (.ireturn, 1) := by decide +kernel
theorem dX6_take_0 : decode cX6_take 0 = .ok (.aload_n 0, 1) := by decide +kernel
theorem dX6_take_1 : decode cX6_take 1 = .ok (.iload_n 1, 1) := by decide +kernel
theorem dX6_take_2 : decode cX6_take 2 = .ok (.invokevirtual 72, 3) := by decide +kernel
theorem dX6_take_5 : decode cX6_take 5 = .ok (.ifCond .ne 5, 3) := by decide +kernel
theorem dX6_take_8 : decode cX6_take 8 = .ok (.iconst 0, 1) := by decide +kernel
theorem dX6_take_9 : decode cX6_take 9 = .ok (.ireturn, 1) := by decide +kernel
theorem dX6_take_10 : decode cX6_take 10 = .ok (.aload_n 0, 1) := by decide +kernel
theorem dX6_take_11 : decode cX6_take 11 = .ok (.getfield 38, 3) := by decide +kernel
theorem dX6_take_14 : decode cX6_take 14 = .ok (.iload_n 1, 1) := by decide +kernel
theorem dX6_take_15 : decode cX6_take 15 = .ok (.iconst 0, 1) := by decide +kernel
theorem dX6_take_16 : decode cX6_take 16 = .ok (.bastore, 1) := by decide +kernel
theorem dX6_take_17 : decode cX6_take 17 = .ok (.aload_n 0, 1) := by decide +kernel
theorem dX6_take_18 : decode cX6_take 18 = .ok (.iconst 0, 1) := by decide +kernel
theorem dX6_take_19 : decode cX6_take 19 = .ok (.putfield 61, 3) := by decide +kernel
theorem dX6_take_22 : decode cX6_take 22 = .ok (.iconst 1, 1) := by decide +kernel
theorem dX6_take_23 : decode cX6_take 23 = .ok (.ireturn, 1) := by decide +kernel
theorem dX6_node_0 : decode cX6_node 0 = .ok (.bipush 8, 2) := by decide +kernel
theorem dX6_node_2 : decode cX6_node 2 = .ok (.iload_n 0, 1) := by decide +kernel
theorem dX6_node_3 : decode cX6_node 3 = .ok (.imul, 1) := by decide +kernel
theorem dX6_node_4 : decode cX6_node 4 = .ok (.iload_n 1, 1) := by decide +kernel
theorem dX6_node_5 : decode cX6_node 5 = .ok (.iadd, 1) := by decide +kernel
theorem dX6_node_6 : decode cX6_node 6 = .ok (.ireturn, 1) := by decide +kernel
theorem dX6_bounds_0 : decode cX6_bounds 0 = .ok (.iload_n 3, 1) := by decide +kernel
theorem dX6_bounds_1 : decode cX6_bounds 1 = .ok (.aload_n 0, 1) := by decide +kernel
theorem dX6_bounds_2 : decode cX6_bounds 2 = .ok (.getfield 41, 3) := by decide +kernel
theorem dX6_bounds_5 : decode cX6_bounds 5 = .ok (.bipush 33, 2) := by decide +kernel
theorem dX6_bounds_7 : decode cX6_bounds 7 = .ok (.iload_n 1, 1) := by decide +kernel
theorem dX6_bounds_8 : decode cX6_bounds 8 = .ok (.imul, 1) := by decide +kernel
theorem dX6_bounds_9 : decode cX6_bounds 9 = .ok (.iload_n 2, 1) := by decide +kernel
theorem dX6_bounds_10 : decode cX6_bounds 10 = .ok (.iadd, 1) := by decide +kernel
theorem dX6_bounds_11 : decode cX6_bounds 11 = .ok (.iaload, 1) := by decide +kernel
theorem dX6_bounds_12 : decode cX6_bounds 12 = .ok (.if_icmp .ge 15, 3) := by decide +kernel
theorem dX6_bounds_15 : decode cX6_bounds 15 = .ok (.aload_n 0, 1) := by decide +kernel
theorem dX6_bounds_16 : decode cX6_bounds 16 = .ok (.getfield 41, 3) := by decide +kernel
theorem dX6_bounds_19 : decode cX6_bounds 19 = .ok (.bipush 33, 2) := by decide +kernel
theorem dX6_bounds_21 : decode cX6_bounds 21 = .ok (.iload_n 1, 1) := by decide +kernel
theorem dX6_bounds_22 : decode cX6_bounds 22 = .ok (.imul, 1) := by decide +kernel
theorem dX6_bounds_23 : decode cX6_bounds 23 = .ok (.iload_n 2, 1) := by decide +kernel
theorem dX6_bounds_24 : decode cX6_bounds 24 = .ok (.iadd, 1) := by decide +kernel
theorem dX6_bounds_25 : decode cX6_bounds 25 = .ok (.iload_n 3, 1) := by decide +kernel
theorem dX6_bounds_26 : decode cX6_bounds 26 = .ok (.iastore, 1) := by decide +kernel
theorem dX6_bounds_27 : decode cX6_bounds 27 = .ok (.return_, 1) := by decide +kernel
theorem dX6_within_0 : decode cX6_within 0 = .ok (.aload_n 0, 1) := by decide +kernel
theorem dX6_within_1 : decode cX6_within 1 = .ok (.iload_n 1, 1) := by decide +kernel
theorem dX6_within_2 : decode cX6_within 2 = .ok (.iload_n 2, 1) := by decide +kernel
theorem dX6_within_3 : decode cX6_within 3 = .ok (.iload_n 3, 1) := by decide +kernel
theorem dX6_within_4 : decode cX6_within 4 = .ok (.iload 4, 2) := by decide +kernel
theorem dX6_within_6 : decode cX6_within 6 = .ok (.iadd, 1) := by decide +kernel
theorem dX6_within_7 : decode cX6_within 7 = .ok (.invokevirtual 76, 3) := by decide +kernel
theorem dX6_within_10 : decode cX6_within 10 = .ok (.aload_n 0, 1) := by decide +kernel
theorem dX6_within_11 : decode cX6_within 11 = .ok (.iload_n 2, 1) := by decide +kernel
theorem dX6_within_12 : decode cX6_within 12 = .ok (.iload_n 1, 1) := by decide +kernel
theorem dX6_within_13 : decode cX6_within 13 = .ok (.iload 4, 2) := by decide +kernel
theorem dX6_within_15 : decode cX6_within 15 = .ok (.iload_n 3, 1) := by decide +kernel
theorem dX6_within_16 : decode cX6_within 16 = .ok (.isub, 1) := by decide +kernel
theorem dX6_within_17 : decode cX6_within 17 = .ok (.invokevirtual 76, 3) := by decide +kernel
theorem dX6_within_20 : decode cX6_within 20 = .ok (.return_, 1) := by decide +kernel
theorem dX6_stands_0 : decode cX6_stands 0 = .ok (.bipush 32, 2) := by decide +kernel
theorem dX6_stands_2 : decode cX6_stands 2 = .ok (.istore_n 1, 1) := by decide +kernel
theorem dX6_stands_3 : decode cX6_stands 3 = .ok (.iconst 0, 1) := by decide +kernel
theorem dX6_stands_4 : decode cX6_stands 4 = .ok (.istore_n 2, 1) := by decide +kernel
theorem dX6_stands_5 : decode cX6_stands 5 = .ok (.iload_n 2, 1) := by decide +kernel
theorem dX6_stands_6 : decode cX6_stands 6 = .ok (.sipush 1089, 3) := by decide +kernel
theorem dX6_stands_9 : decode cX6_stands 9 = .ok (.if_icmp .ge 28, 3) := by decide +kernel
theorem dX6_stands_12 : decode cX6_stands 12 = .ok (.aload_n 0, 1) := by decide +kernel
theorem dX6_stands_13 : decode cX6_stands 13 = .ok (.getfield 41, 3) := by decide +kernel
theorem dX6_stands_16 : decode cX6_stands 16 = .ok (.iload_n 2, 1) := by decide +kernel
theorem dX6_stands_17 : decode cX6_stands 17 = .ok (.iload_n 2, 1) := by decide +kernel
theorem dX6_stands_18 : decode cX6_stands 18 = .ok (.bipush 34, 2) := by decide +kernel
theorem dX6_stands_20 : decode cX6_stands 20 = .ok (.irem, 1) := by decide +kernel
theorem dX6_stands_21 : decode cX6_stands 21 = .ok (.ifCond .ne 7, 3) := by decide +kernel
theorem dX6_stands_24 : decode cX6_stands 24 = .ok (.iconst 0, 1) := by decide +kernel
theorem dX6_stands_25 : decode cX6_stands 25 = .ok (.goto 5, 3) := by decide +kernel
theorem dX6_stands_28 : decode cX6_stands 28 = .ok (.ldc 80, 2) := by decide +kernel
theorem dX6_stands_30 : decode cX6_stands 30 = .ok (.iastore, 1) := by decide +kernel
theorem dX6_stands_31 : decode cX6_stands 31 = .ok (.iinc 2 1, 3) := by decide +kernel
theorem dX6_stands_34 : decode cX6_stands 34 = .ok (.goto (-29), 3) := by decide +kernel
theorem dX6_stands_37 : decode cX6_stands 37 = .ok (.iconst 0, 1) := by decide +kernel
theorem dX6_stands_38 : decode cX6_stands 38 = .ok (.istore_n 2, 1) := by decide +kernel
theorem dX6_stands_39 : decode cX6_stands 39 = .ok (.iload_n 2, 1) := by decide +kernel
theorem dX6_stands_40 : decode cX6_stands 40 = .ok (.aload_n 0, 1) := by decide +kernel
theorem dX6_stands_41 : decode cX6_stands 41 = .ok (.getfield 54, 3) := by decide +kernel
theorem dX6_stands_44 : decode cX6_stands 44 = .ok (.if_icmp .ge 146, 3) := by decide +kernel
theorem dX6_stands_47 : decode cX6_stands 47 = .ok (.iconst 0, 1) := by decide +kernel
theorem dX6_stands_48 : decode cX6_stands 48 = .ok (.istore_n 3, 1) := by decide +kernel
theorem dX6_stands_49 : decode cX6_stands 49 = .ok (.iload_n 3, 1) := by decide +kernel
theorem dX6_stands_50 : decode cX6_stands 50 = .ok (.aload_n 0, 1) := by decide +kernel
theorem dX6_stands_51 : decode cX6_stands 51 = .ok (.getfield 50, 3) := by decide +kernel
theorem dX6_stands_54 : decode cX6_stands 54 = .ok (.if_icmp .ge 130, 3) := by decide +kernel
theorem dX6_stands_57 : decode cX6_stands 57 = .ok (.iload_n 2, 1) := by decide +kernel
theorem dX6_stands_58 : decode cX6_stands 58 = .ok (.iload_n 3, 1) := by decide +kernel
theorem dX6_stands_59 : decode cX6_stands 59 = .ok (.invokestatic 81, 3) := by decide +kernel
theorem dX6_stands_62 : decode cX6_stands 62 = .ok (.istore 4, 2) := by decide +kernel
theorem dX6_stands_64 : decode cX6_stands 64 = .ok (.aload_n 0, 1) := by decide +kernel
theorem dX6_stands_65 : decode cX6_stands 65 = .ok (.iload_n 1, 1) := by decide +kernel
theorem dX6_stands_66 : decode cX6_stands 66 = .ok (.iload 4, 2) := by decide +kernel
theorem dX6_stands_68 : decode cX6_stands 68 = .ok (.bipush 60, 2) := by decide +kernel
theorem dX6_stands_70 : decode cX6_stands 70 = .ok (.invokevirtual 76, 3) := by decide +kernel
