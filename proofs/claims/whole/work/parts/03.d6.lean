theorem dX6_found_97 : decode cX6_found 97 = .ok (.iload_n 3, 1) := by decide +kernel
theorem dX6_found_98 : decode cX6_found 98 = .ok (.putfield 121, 3) := by decide +kernel
theorem dX6_found_101 : decode cX6_found 101 = .ok (.iconst 1, 1) := by decide +kernel
theorem dX6_found_102 : decode cX6_found 102 = .ok (.ireturn, 1) := by decide +kernel
theorem dX6_found_103 : decode cX6_found 103 = .ok (.iinc 3 1, 3) := by decide +kernel
theorem dX6_found_106 : decode cX6_found 106 = .ok (.goto (-45), 3) := by decide +kernel
theorem dX6_found_109 : decode cX6_found 109 = .ok (.iinc 2 1, 3) := by decide +kernel
theorem dX6_found_112 : decode cX6_found 112 = .ok (.goto (-59), 3) := by decide +kernel
theorem dX6_found_115 : decode cX6_found 115 = .ok (.iconst 0, 1) := by decide +kernel
theorem dX6_found_116 : decode cX6_found 116 = .ok (.ireturn, 1) := by decide +kernel
theorem dX6_quarrel_0 : decode cX6_quarrel 0 = .ok (.aload_n 0, 1) := by decide +kernel
theorem dX6_quarrel_1 : decode cX6_quarrel 1 = .ok (.invokevirtual 124, 3) := by decide +kernel
theorem dX6_quarrel_4 : decode cX6_quarrel 4 = .ok (.ifCond .eq 10, 3) := by decide +kernel
theorem dX6_quarrel_7 : decode cX6_quarrel 7 = .ok (.aload_n 0, 1) := by decide +kernel
theorem dX6_quarrel_8 : decode cX6_quarrel 8 = .ok (.getfield 121, 3) := by decide +kernel
theorem dX6_quarrel_11 : decode cX6_quarrel 11 = .ok (.goto 4, 3) := by decide +kernel
theorem dX6_quarrel_14 : decode cX6_quarrel 14 = .ok (.iconst (-1), 1) := by decide +kernel
theorem dX6_quarrel_15 : decode cX6_quarrel 15 = .ok (.ireturn, 1) := by decide +kernel
theorem dX6_high_0 : decode cX6_high 0 = .ok (.aload_n 0, 1) := by decide +kernel
theorem dX6_high_1 : decode cX6_high 1 = .ok (.getfield 41, 3) := by decide +kernel
theorem dX6_high_4 : decode cX6_high 4 = .ok (.sipush 1056, 3) := by decide +kernel
theorem dX6_high_7 : decode cX6_high 7 = .ok (.iload_n 1, 1) := by decide +kernel
theorem dX6_high_8 : decode cX6_high 8 = .ok (.iadd, 1) := by decide +kernel
theorem dX6_high_9 : decode cX6_high 9 = .ok (.iaload, 1) := by decide +kernel
theorem dX6_high_10 : decode cX6_high 10 = .ok (.ireturn, 1) := by decide +kernel
theorem dX6_low_0 : decode cX6_low 0 = .ok (.aload_n 0, 1) := by decide +kernel
theorem dX6_low_1 : decode cX6_low 1 = .ok (.getfield 41, 3) := by decide +kernel
theorem dX6_low_4 : decode cX6_low 4 = .ok (.bipush 33, 2) := by decide +kernel
theorem dX6_low_6 : decode cX6_low 6 = .ok (.iload_n 1, 1) := by decide +kernel
theorem dX6_low_7 : decode cX6_low 7 = .ok (.imul, 1) := by decide +kernel
theorem dX6_low_8 : decode cX6_low 8 = .ok (.bipush 33, 2) := by decide +kernel
theorem dX6_low_10 : decode cX6_low 10 = .ok (.iadd, 1) := by decide +kernel
theorem dX6_low_11 : decode cX6_low 11 = .ok (.iconst 1, 1) := by decide +kernel
theorem dX6_low_12 : decode cX6_low 12 = .ok (.isub, 1) := by decide +kernel
theorem dX6_low_13 : decode cX6_low 13 = .ok (.iaload, 1) := by decide +kernel
theorem dX6_low_14 : decode cX6_low 14 = .ok (.ineg, 1) := by decide +kernel
theorem dX6_low_15 : decode cX6_low 15 = .ok (.ireturn, 1) := by decide +kernel
theorem dX6_span_0 : decode cX6_span 0 = .ok (.aload_n 0, 1) := by decide +kernel
theorem dX6_span_1 : decode cX6_span 1 = .ok (.iload_n 1, 1) := by decide +kernel
theorem dX6_span_2 : decode cX6_span 2 = .ok (.iload_n 2, 1) := by decide +kernel
theorem dX6_span_3 : decode cX6_span 3 = .ok (.invokevirtual 65, 3) := by decide +kernel
theorem dX6_span_6 : decode cX6_span 6 = .ok (.ifCond .eq 19, 3) := by decide +kernel
theorem dX6_span_9 : decode cX6_span 9 = .ok (.iload_n 3, 1) := by decide +kernel
theorem dX6_span_10 : decode cX6_span 10 = .ok (.iconst 0, 1) := by decide +kernel
theorem dX6_span_11 : decode cX6_span 11 = .ok (.iconst 1, 1) := by decide +kernel
theorem dX6_span_12 : decode cX6_span 12 = .ok (.invokestatic 57, 3) := by decide +kernel
theorem dX6_span_15 : decode cX6_span 15 = .ok (.ifCond .eq 10, 3) := by decide +kernel
theorem dX6_span_18 : decode cX6_span 18 = .ok (.aload_n 0, 1) := by decide +kernel
theorem dX6_span_19 : decode cX6_span 19 = .ok (.invokevirtual 124, 3) := by decide +kernel
theorem dX6_span_22 : decode cX6_span 22 = .ok (.ifCond .ne 5, 3) := by decide +kernel
theorem dX6_span_25 : decode cX6_span 25 = .ok (.iconst (-1), 1) := by decide +kernel
theorem dX6_span_26 : decode cX6_span 26 = .ok (.ireturn, 1) := by decide +kernel
theorem dX6_span_27 : decode cX6_span 27 = .ok (.iload_n 3, 1) := by decide +kernel
theorem dX6_span_28 : decode cX6_span 28 = .ok (.ifCond .ne 15, 3) := by decide +kernel
theorem dX6_span_31 : decode cX6_span 31 = .ok (.aload_n 0, 1) := by decide +kernel
theorem dX6_span_32 : decode cX6_span 32 = .ok (.iload_n 1, 1) := by decide +kernel
theorem dX6_span_33 : decode cX6_span 33 = .ok (.iload_n 2, 1) := by decide +kernel
theorem dX6_span_34 : decode cX6_span 34 = .ok (.invokestatic 81, 3) := by decide +kernel
theorem dX6_span_37 : decode cX6_span 37 = .ok (.invokevirtual 127, 3) := by decide +kernel
theorem dX6_span_40 : decode cX6_span 40 = .ok (.goto 12, 3) := by decide +kernel
theorem dX6_span_43 : decode cX6_span 43 = .ok (.aload_n 0, 1) := by decide +kernel
theorem dX6_span_44 : decode cX6_span 44 = .ok (.iload_n 1, 1) := by decide +kernel
theorem dX6_span_45 : decode cX6_span 45 = .ok (.iload_n 2, 1) := by decide +kernel
theorem dX6_span_46 : decode cX6_span 46 = .ok (.invokestatic 81, 3) := by decide +kernel
theorem dX6_span_49 : decode cX6_span 49 = .ok (.invokevirtual 130, 3) := by decide +kernel
theorem dX6_span_52 : decode cX6_span 52 = .ok (.ireturn, 1) := by decide +kernel
theorem dX6_opens_0 : decode cX6_opens 0 = .ok (.iconst 0, 1) := by decide +kernel
theorem dX6_opens_1 : decode cX6_opens 1 = .ok (.istore_n 1, 1) := by decide +kernel
theorem dX6_opens_2 : decode cX6_opens 2 = .ok (.iconst 0, 1) := by decide +kernel
theorem dX6_opens_3 : decode cX6_opens 3 = .ok (.istore_n 2, 1) := by decide +kernel
theorem dX6_opens_4 : decode cX6_opens 4 = .ok (.iload_n 2, 1) := by decide +kernel
theorem dX6_opens_5 : decode cX6_opens 5 = .ok (.aload_n 0, 1) := by decide +kernel
theorem dX6_opens_6 : decode cX6_opens 6 = .ok (.getfield 54, 3) := by decide +kernel
theorem dX6_opens_9 : decode cX6_opens 9 = .ok (.if_icmp .ge 47, 3) := by decide +kernel
theorem dX6_opens_12 : decode cX6_opens 12 = .ok (.iconst 0, 1) := by decide +kernel
theorem dX6_opens_13 : decode cX6_opens 13 = .ok (.istore_n 3, 1) := by decide +kernel
theorem dX6_opens_14 : decode cX6_opens 14 = .ok (.iload_n 3, 1) := by decide +kernel
theorem dX6_opens_15 : decode cX6_opens 15 = .ok (.aload_n 0, 1) := by decide +kernel
theorem dX6_opens_16 : decode cX6_opens 16 = .ok (.getfield 50, 3) := by decide +kernel
theorem dX6_opens_19 : decode cX6_opens 19 = .ok (.if_icmp .ge 31, 3) := by decide +kernel
theorem dX6_opens_22 : decode cX6_opens 22 = .ok (.iload_n 1, 1) := by decide +kernel
theorem dX6_opens_23 : decode cX6_opens 23 = .ok (.aload_n 0, 1) := by decide +kernel
theorem dX6_opens_24 : decode cX6_opens 24 = .ok (.iload_n 2, 1) := by decide +kernel
theorem dX6_opens_25 : decode cX6_opens 25 = .ok (.iload_n 3, 1) := by decide +kernel
theorem dX6_opens_26 : decode cX6_opens 26 = .ok (.invokestatic 81, 3) := by decide +kernel
theorem dX6_opens_29 : decode cX6_opens 29 = .ok (.invokevirtual 130, 3) := by decide +kernel
theorem dX6_opens_32 : decode cX6_opens 32 = .ok (.aload_n 0, 1) := by decide +kernel
theorem dX6_opens_33 : decode cX6_opens 33 = .ok (.iload_n 2, 1) := by decide +kernel
theorem dX6_opens_34 : decode cX6_opens 34 = .ok (.iload_n 3, 1) := by decide +kernel
theorem dX6_opens_35 : decode cX6_opens 35 = .ok (.invokestatic 81, 3) := by decide +kernel
theorem dX6_opens_38 : decode cX6_opens 38 = .ok (.invokevirtual 127, 3) := by decide +kernel
theorem dX6_opens_41 : decode cX6_opens 41 = .ok (.isub, 1) := by decide +kernel
theorem dX6_opens_42 : decode cX6_opens 42 = .ok (.iadd, 1) := by decide +kernel
theorem dX6_opens_43 : decode cX6_opens 43 = .ok (.istore_n 1, 1) := by decide +kernel
theorem dX6_opens_44 : decode cX6_opens 44 = .ok (.iinc 3 1, 3) := by decide +kernel
theorem dX6_opens_47 : decode cX6_opens 47 = .ok (.goto (-33), 3) := by decide +kernel
theorem dX6_opens_50 : decode cX6_opens 50 = .ok (.iinc 2 1, 3) := by decide +kernel
theorem dX6_opens_53 : decode cX6_opens 53 = .ok (.goto (-49), 3) := by decide +kernel
theorem dX6_opens_56 : decode cX6_opens 56 = .ok (.iload_n 1, 1) := by decide +kernel
theorem dX6_opens_57 : decode cX6_opens 57 = .ok (.ireturn, 1) := by decide +kernel
theorem dX6_open_0 : decode cX6_open 0 = .ok (.aload_n 0, 1) := by decide +kernel
theorem dX6_open_1 : decode cX6_open 1 = .ok (.invokevirtual 124, 3) := by decide +kernel
theorem dX6_open_4 : decode cX6_open 4 = .ok (.ifCond .eq 10, 3) := by decide +kernel
theorem dX6_open_7 : decode cX6_open 7 = .ok (.aload_n 0, 1) := by decide +kernel
theorem dX6_open_8 : decode cX6_open 8 = .ok (.invokevirtual 133, 3) := by decide +kernel
theorem dX6_open_11 : decode cX6_open 11 = .ok (.goto 4, 3) := by decide +kernel
theorem dX6_open_14 : decode cX6_open 14 = .ok (.iconst (-1), 1) := by decide +kernel
theorem dX6_open_15 : decode cX6_open 15 = .ok (.ireturn, 1) := by decide +kernel
theorem dX6_layer_0 : decode cX6_layer 0 = .ok (.iload_n 1, 1) := by decide +kernel
theorem dX6_layer_1 : decode cX6_layer 1 = .ok (.iconst 0, 1) := by decide +kernel
theorem dX6_layer_2 : decode cX6_layer 2 = .ok (.aload_n 0, 1) := by decide +kernel
theorem dX6_layer_3 : decode cX6_layer 3 = .ok (.getfield 50, 3) := by decide +kernel
theorem dX6_layer_6 : decode cX6_layer 6 = .ok (.iconst 1, 1) := by decide +kernel
theorem dX6_layer_7 : decode cX6_layer 7 = .ok (.isub, 1) := by decide +kernel
theorem dX6_layer_8 : decode cX6_layer 8 = .ok (.invokestatic 57, 3) := by decide +kernel
theorem dX6_layer_11 : decode cX6_layer 11 = .ok (.ifCond .eq 20, 3) := by decide +kernel
theorem dX6_layer_14 : decode cX6_layer 14 = .ok (.iload_n 2, 1) := by decide +kernel
theorem dX6_layer_15 : decode cX6_layer 15 = .ok (.iconst 0, 1) := by decide +kernel
theorem dX6_layer_16 : decode cX6_layer 16 = .ok (.bipush 60, 2) := by decide +kernel
theorem dX6_layer_18 : decode cX6_layer 18 = .ok (.invokestatic 57, 3) := by decide +kernel
theorem dX6_layer_21 : decode cX6_layer 21 = .ok (.ifCond .eq 10, 3) := by decide +kernel
theorem dX6_layer_24 : decode cX6_layer 24 = .ok (.aload_n 0, 1) := by decide +kernel
theorem dX6_layer_25 : decode cX6_layer 25 = .ok (.invokevirtual 124, 3) := by decide +kernel
theorem dX6_layer_28 : decode cX6_layer 28 = .ok (.ifCond .ne 5, 3) := by decide +kernel
theorem dX6_layer_31 : decode cX6_layer 31 = .ok (.iconst (-1), 1) := by decide +kernel
theorem dX6_layer_32 : decode cX6_layer 32 = .ok (.ireturn, 1) := by decide +kernel
theorem dX6_layer_33 : decode cX6_layer 33 = .ok (.iconst 0, 1) := by decide +kernel
theorem dX6_layer_34 : decode cX6_layer 34 = .ok (.istore_n 3, 1) := by decide +kernel
theorem dX6_layer_35 : decode cX6_layer 35 = .ok (.iconst 0, 1) := by decide +kernel
theorem dX6_layer_36 : decode cX6_layer 36 = .ok (.istore 4, 2) := by decide +kernel
theorem dX6_layer_38 : decode cX6_layer 38 = .ok (.iconst 0, 1) := by decide +kernel
theorem dX6_layer_39 : decode cX6_layer 39 = .ok (.istore 5, 2) := by decide +kernel
theorem dX6_layer_41 : decode cX6_layer 41 = .ok (.iload 5, 2) := by decide +kernel
theorem dX6_layer_43 : decode cX6_layer 43 = .ok (.aload_n 0, 1) := by decide +kernel
theorem dX6_layer_44 : decode cX6_layer 44 = .ok (.getfield 54, 3) := by decide +kernel
theorem dX6_layer_47 : decode cX6_layer 47 = .ok (.if_icmp .ge 55, 3) := by decide +kernel
theorem dX6_layer_50 : decode cX6_layer 50 = .ok (.iload_n 3, 1) := by decide +kernel
theorem dX6_layer_51 : decode cX6_layer 51 = .ok (.aload_n 0, 1) := by decide +kernel
theorem dX6_layer_52 : decode cX6_layer 52 = .ok (.iload 5, 2) := by decide +kernel
theorem dX6_layer_54 : decode cX6_layer 54 = .ok (.iload_n 1, 1) := by decide +kernel
theorem dX6_layer_55 : decode cX6_layer 55 = .ok (.invokestatic 81, 3) := by decide +kernel
theorem dX6_layer_58 : decode cX6_layer 58 = .ok (.invokevirtual 130, 3) := by decide +kernel
theorem dX6_layer_61 : decode cX6_layer 61 = .ok (.iload_n 2, 1) := by decide +kernel
theorem dX6_layer_62 : decode cX6_layer 62 = .ok (.if_icmp .gt 7, 3) := by decide +kernel
theorem dX6_layer_65 : decode cX6_layer 65 = .ok (.iconst 1, 1) := by decide +kernel
theorem dX6_layer_66 : decode cX6_layer 66 = .ok (.goto 4, 3) := by decide +kernel
theorem dX6_layer_69 : decode cX6_layer 69 = .ok (.iconst 0, 1) := by decide +kernel
theorem dX6_layer_70 : decode cX6_layer 70 = .ok (.iadd, 1) := by decide +kernel
theorem dX6_layer_71 : decode cX6_layer 71 = .ok (.istore_n 3, 1) := by decide +kernel
theorem dX6_layer_72 : decode cX6_layer 72 = .ok (.iload 4, 2) := by decide +kernel
theorem dX6_layer_74 : decode cX6_layer 74 = .ok (.aload_n 0, 1) := by decide +kernel
theorem dX6_layer_75 : decode cX6_layer 75 = .ok (.iload 5, 2) := by decide +kernel
theorem dX6_layer_77 : decode cX6_layer 77 = .ok (.iload_n 1, 1) := by decide +kernel
theorem dX6_layer_78 : decode cX6_layer 78 = .ok (.invokestatic 81, 3) := by decide +kernel
theorem dX6_layer_81 : decode cX6_layer 81 = .ok (.invokevirtual 127, 3) := by decide +kernel
theorem dX6_layer_84 : decode cX6_layer 84 = .ok (.iload_n 2, 1) := by decide +kernel
theorem dX6_layer_85 : decode cX6_layer 85 = .ok (.if_icmp .gt 7, 3) := by decide +kernel
theorem dX6_layer_88 : decode cX6_layer 88 = .ok (.iconst 1, 1) := by decide +kernel
theorem dX6_layer_89 : decode cX6_layer 89 = .ok (.goto 4, 3) := by decide +kernel
theorem dX6_layer_92 : decode cX6_layer 92 = .ok (.iconst 0, 1) := by decide +kernel
theorem dX6_layer_93 : decode cX6_layer 93 = .ok (.iadd, 1) := by decide +kernel
theorem dX6_layer_94 : decode cX6_layer 94 = .ok (.istore 4, 2) := by decide +kernel
theorem dX6_layer_96 : decode cX6_layer 96 = .ok (.iinc 5 1, 3) := by decide +kernel
theorem dX6_layer_99 : decode cX6_layer 99 = .ok (.goto (-58), 3) := by decide +kernel
theorem dX6_layer_102 : decode cX6_layer 102 = .ok (.iload_n 3, 1) := by decide +kernel
theorem dX6_layer_103 : decode cX6_layer 103 = .ok (.iload 4, 2) := by decide +kernel
theorem dX6_layer_105 : decode cX6_layer 105 = .ok (.if_icmp .ne 7, 3) := by decide +kernel
theorem dX6_layer_108 : decode cX6_layer 108 = .ok (.iload_n 3, 1) := by decide +kernel
theorem dX6_layer_109 : decode cX6_layer 109 = .ok (.goto 4, 3) := by decide +kernel
theorem dX6_layer_112 : decode cX6_layer 112 = .ok (.iconst (-1), 1) := by decide +kernel
theorem dX6_layer_113 : decode cX6_layer 113 = .ok (.ireturn, 1) := by decide +kernel
theorem dX6_between_0 : decode cX6_between 0 = .ok (.iload_n 1, 1) := by decide +kernel
theorem dX6_between_1 : decode cX6_between 1 = .ok (.ifCond .lt 53, 3) := by decide +kernel
theorem dX6_between_4 : decode cX6_between 4 = .ok (.iload_n 2, 1) := by decide +kernel
theorem dX6_between_5 : decode cX6_between 5 = .ok (.ifCond .lt 49, 3) := by decide +kernel
theorem dX6_between_8 : decode cX6_between 8 = .ok (.aload_n 0, 1) := by decide +kernel
theorem dX6_between_9 : decode cX6_between 9 = .ok (.iload_n 1, 1) := by decide +kernel
theorem dX6_between_10 : decode cX6_between 10 = .ok (.bipush 10, 2) := by decide +kernel
theorem dX6_between_12 : decode cX6_between 12 = .ok (.idiv, 1) := by decide +kernel
theorem dX6_between_13 : decode cX6_between 13 = .ok (.iload_n 1, 1) := by decide +kernel
theorem dX6_between_14 : decode cX6_between 14 = .ok (.bipush 10, 2) := by decide +kernel
theorem dX6_between_16 : decode cX6_between 16 = .ok (.irem, 1) := by decide +kernel
theorem dX6_between_17 : decode cX6_between 17 = .ok (.invokevirtual 65, 3) := by decide +kernel
theorem dX6_between_20 : decode cX6_between 20 = .ok (.ifCond .eq 34, 3) := by decide +kernel
theorem dX6_between_23 : decode cX6_between 23 = .ok (.aload_n 0, 1) := by decide +kernel
theorem dX6_between_24 : decode cX6_between 24 = .ok (.iload_n 2, 1) := by decide +kernel
theorem dX6_between_25 : decode cX6_between 25 = .ok (.bipush 10, 2) := by decide +kernel
theorem dX6_between_27 : decode cX6_between 27 = .ok (.idiv, 1) := by decide +kernel
theorem dX6_between_28 : decode cX6_between 28 = .ok (.iload_n 2, 1) := by decide +kernel
theorem dX6_between_29 : decode cX6_between 29 = .ok (.bipush 10, 2) := by decide +kernel
theorem dX6_between_31 : decode cX6_between 31 = .ok (.irem, 1) := by decide +kernel
theorem dX6_between_32 : decode cX6_between 32 = .ok (.invokevirtual 65, 3) := by decide +kernel
theorem dX6_between_35 : decode cX6_between 35 = .ok (.ifCond .eq 19, 3) := by decide +kernel
theorem dX6_between_38 : decode cX6_between 38 = .ok (.iload_n 3, 1) := by decide +kernel
theorem dX6_between_39 : decode cX6_between 39 = .ok (.iconst 0, 1) := by decide +kernel
theorem dX6_between_40 : decode cX6_between 40 = .ok (.iconst 1, 1) := by decide +kernel
theorem dX6_between_41 : decode cX6_between 41 = .ok (.invokestatic 57, 3) := by decide +kernel
theorem dX6_between_44 : decode cX6_between 44 = .ok (.ifCond .eq 10, 3) := by decide +kernel
theorem dX6_between_47 : decode cX6_between 47 = .ok (.aload_n 0, 1) := by decide +kernel
theorem dX6_between_48 : decode cX6_between 48 = .ok (.invokevirtual 124, 3) := by decide +kernel
theorem dX6_between_51 : decode cX6_between 51 = .ok (.ifCond .ne 6, 3) := by decide +kernel
theorem dX6_between_54 : decode cX6_between 54 = .ok (.ldc 137, 2) := by decide +kernel
theorem dX6_between_56 : decode cX6_between 56 = .ok (.ireturn, 1) := by decide +kernel
theorem dX6_between_57 : decode cX6_between 57 = .ok (.iload_n 1, 1) := by decide +kernel
theorem dX6_between_58 : decode cX6_between 58 = .ok (.bipush 10, 2) := by decide +kernel
theorem dX6_between_60 : decode cX6_between 60 = .ok (.idiv, 1) := by decide +kernel
theorem dX6_between_61 : decode cX6_between 61 = .ok (.iload_n 1, 1) := by decide +kernel
theorem dX6_between_62 : decode cX6_between 62 = .ok (.bipush 10, 2) := by decide +kernel
theorem dX6_between_64 : decode cX6_between 64 = .ok (.irem, 1) := by decide +kernel
theorem dX6_between_65 : decode cX6_between 65 = .ok (.invokestatic 81, 3) := by decide +kernel
theorem dX6_between_68 : decode cX6_between 68 = .ok (.istore 4, 2) := by decide +kernel
theorem dX6_between_70 : decode cX6_between 70 = .ok (.iload_n 2, 1) := by decide +kernel
theorem dX6_between_71 : decode cX6_between 71 = .ok (.bipush 10, 2) := by decide +kernel
theorem dX6_between_73 : decode cX6_between 73 = .ok (.idiv, 1) := by decide +kernel
theorem dX6_between_74 : decode cX6_between 74 = .ok (.iload_n 2, 1) := by decide +kernel
theorem dX6_between_75 : decode cX6_between 75 = .ok (.bipush 10, 2) := by decide +kernel
theorem dX6_between_77 : decode cX6_between 77 = .ok (.irem, 1) := by decide +kernel
theorem dX6_between_78 : decode cX6_between 78 = .ok (.invokestatic 81, 3) := by decide +kernel
theorem dX6_between_81 : decode cX6_between 81 = .ok (.istore 5, 2) := by decide +kernel
theorem dX6_between_83 : decode cX6_between 83 = .ok (.iload_n 3, 1) := by decide +kernel
theorem dX6_between_84 : decode cX6_between 84 = .ok (.ifCond .ne 20, 3) := by decide +kernel
theorem dX6_between_87 : decode cX6_between 87 = .ok (.aload_n 0, 1) := by decide +kernel
theorem dX6_between_88 : decode cX6_between 88 = .ok (.getfield 41, 3) := by decide +kernel
theorem dX6_between_91 : decode cX6_between 91 = .ok (.bipush 33, 2) := by decide +kernel
theorem dX6_between_93 : decode cX6_between 93 = .ok (.iload 5, 2) := by decide +kernel
theorem dX6_between_95 : decode cX6_between 95 = .ok (.imul, 1) := by decide +kernel
theorem dX6_between_96 : decode cX6_between 96 = .ok (.iload 4, 2) := by decide +kernel
theorem dX6_between_98 : decode cX6_between 98 = .ok (.iadd, 1) := by decide +kernel
theorem dX6_between_99 : decode cX6_between 99 = .ok (.iaload, 1) := by decide +kernel
theorem dX6_between_100 : decode cX6_between 100 = .ok (.ineg, 1) := by decide +kernel
theorem dX6_between_101 : decode cX6_between 101 = .ok (.goto 16, 3) := by decide +kernel
theorem dX6_between_104 : decode cX6_between 104 = .ok (.aload_n 0, 1) := by decide +kernel
theorem dX6_between_105 : decode cX6_between 105 = .ok (.getfield 41, 3) := by decide +kernel
theorem dX6_between_108 : decode cX6_between 108 = .ok (.bipush 33, 2) := by decide +kernel
theorem dX6_between_110 : decode cX6_between 110 = .ok (.iload 4, 2) := by decide +kernel
theorem dX6_between_112 : decode cX6_between 112 = .ok (.imul, 1) := by decide +kernel
theorem dX6_between_113 : decode cX6_between 113 = .ok (.iload 5, 2) := by decide +kernel
theorem dX6_between_115 : decode cX6_between 115 = .ok (.iadd, 1) := by decide +kernel
theorem dX6_between_116 : decode cX6_between 116 = .ok (.iaload, 1) := by decide +kernel
theorem dX6_between_117 : decode cX6_between 117 = .ok (.ireturn, 1) := by decide +kernel
theorem dX6_worn_0 : decode cX6_worn 0 = .ok (.aload_n 0, 1) := by decide +kernel
theorem dX6_worn_1 : decode cX6_worn 1 = .ok (.iload_n 1, 1) := by decide +kernel
theorem dX6_worn_2 : decode cX6_worn 2 = .ok (.iload_n 2, 1) := by decide +kernel
theorem dX6_worn_3 : decode cX6_worn 3 = .ok (.invokevirtual 65, 3) := by decide +kernel
theorem dX6_worn_6 : decode cX6_worn 6 = .ok (.ifCond .eq 10, 3) := by decide +kernel
theorem dX6_worn_9 : decode cX6_worn 9 = .ok (.aload_n 0, 1) := by decide +kernel
theorem dX6_worn_10 : decode cX6_worn 10 = .ok (.invokevirtual 124, 3) := by decide +kernel
theorem dX6_worn_13 : decode cX6_worn 13 = .ok (.ifCond .ne 5, 3) := by decide +kernel
theorem dX6_worn_16 : decode cX6_worn 16 = .ok (.iconst (-1), 1) := by decide +kernel
theorem dX6_worn_17 : decode cX6_worn 17 = .ok (.ireturn, 1) := by decide +kernel
theorem dX6_worn_18 : decode cX6_worn 18 = .ok (.iload_n 1, 1) := by decide +kernel
theorem dX6_worn_19 : decode cX6_worn 19 = .ok (.iload_n 2, 1) := by decide +kernel
theorem dX6_worn_20 : decode cX6_worn 20 = .ok (.invokestatic 81, 3) := by decide +kernel
theorem dX6_worn_23 : decode cX6_worn 23 = .ok (.istore_n 3, 1) := by decide +kernel
theorem dX6_worn_24 : decode cX6_worn 24 = .ok (.aload_n 0, 1) := by decide +kernel
theorem dX6_worn_25 : decode cX6_worn 25 = .ok (.iload_n 3, 1) := by decide +kernel
theorem dX6_worn_26 : decode cX6_worn 26 = .ok (.invokevirtual 130, 3) := by decide +kernel
theorem dX6_worn_29 : decode cX6_worn 29 = .ok (.aload_n 0, 1) := by decide +kernel
theorem dX6_worn_30 : decode cX6_worn 30 = .ok (.getfield 26, 3) := by decide +kernel
theorem dX6_worn_33 : decode cX6_worn 33 = .ok (.iload_n 2, 1) := by decide +kernel
theorem dX6_worn_34 : decode cX6_worn 34 = .ok (.iaload, 1) := by decide +kernel
theorem dX6_worn_35 : decode cX6_worn 35 = .ok (.if_icmp .ge 7, 3) := by decide +kernel
theorem dX6_worn_38 : decode cX6_worn 38 = .ok (.iconst 2, 1) := by decide +kernel
theorem dX6_worn_39 : decode cX6_worn 39 = .ok (.goto 22, 3) := by decide +kernel
theorem dX6_worn_42 : decode cX6_worn 42 = .ok (.aload_n 0, 1) := by decide +kernel
theorem dX6_worn_43 : decode cX6_worn 43 = .ok (.iload_n 3, 1) := by decide +kernel
theorem dX6_worn_44 : decode cX6_worn 44 = .ok (.invokevirtual 127, 3) := by decide +kernel
theorem dX6_worn_47 : decode cX6_worn 47 = .ok (.aload_n 0, 1) := by decide +kernel
theorem dX6_worn_48 : decode cX6_worn 48 = .ok (.getfield 26, 3) := by decide +kernel
theorem dX6_worn_51 : decode cX6_worn 51 = .ok (.iload_n 2, 1) := by decide +kernel
theorem dX6_worn_52 : decode cX6_worn 52 = .ok (.iaload, 1) := by decide +kernel
theorem dX6_worn_53 : decode cX6_worn 53 = .ok (.if_icmp .ge 7, 3) := by decide +kernel
theorem dX6_worn_56 : decode cX6_worn 56 = .ok (.iconst 1, 1) := by decide +kernel
theorem dX6_worn_57 : decode cX6_worn 57 = .ok (.goto 4, 3) := by decide +kernel
theorem dX6_worn_60 : decode cX6_worn 60 = .ok (.iconst 0, 1) := by decide +kernel
theorem dX6_worn_61 : decode cX6_worn 61 = .ok (.ireturn, 1) := by decide +kernel
theorem dX6_opensBy_0 : decode cX6_opensBy 0 = .ok (.iconst 0, 1) := by decide +kernel
theorem dX6_opensBy_1 : decode cX6_opensBy 1 = .ok (.istore_n 3, 1) := by decide +kernel
theorem dX6_opensBy_2 : decode cX6_opensBy 2 = .ok (.iconst 0, 1) := by decide +kernel
theorem dX6_opensBy_3 : decode cX6_opensBy 3 = .ok (.istore 4, 2) := by decide +kernel
theorem dX6_opensBy_5 : decode cX6_opensBy 5 = .ok (.iload 4, 2) := by decide +kernel
theorem dX6_opensBy_7 : decode cX6_opensBy 7 = .ok (.aload_n 0, 1) := by decide +kernel
theorem dX6_opensBy_8 : decode cX6_opensBy 8 = .ok (.getfield 54, 3) := by decide +kernel
theorem dX6_opensBy_11 : decode cX6_opensBy 11 = .ok (.if_icmp .ge 124, 3) := by decide +kernel
theorem dX6_opensBy_14 : decode cX6_opensBy 14 = .ok (.iconst 0, 1) := by decide +kernel
theorem dX6_opensBy_15 : decode cX6_opensBy 15 = .ok (.istore 5, 2) := by decide +kernel
theorem dX6_opensBy_17 : decode cX6_opensBy 17 = .ok (.iload 5, 2) := by decide +kernel
theorem dX6_opensBy_19 : decode cX6_opensBy 19 = .ok (.aload_n 0, 1) := by decide +kernel
theorem dX6_opensBy_20 : decode cX6_opensBy 20 = .ok (.getfield 50, 3) := by decide +kernel
theorem dX6_opensBy_23 : decode cX6_opensBy 23 = .ok (.if_icmp .ge 106, 3) := by decide +kernel
theorem dX6_opensBy_26 : decode cX6_opensBy 26 = .ok (.iload 4, 2) := by decide +kernel
theorem dX6_opensBy_28 : decode cX6_opensBy 28 = .ok (.iload 5, 2) := by decide +kernel
theorem dX6_opensBy_30 : decode cX6_opensBy 30 = .ok (.invokestatic 81, 3) := by decide +kernel
theorem dX6_opensBy_33 : decode cX6_opensBy 33 = .ok (.istore 6, 2) := by decide +kernel
theorem dX6_opensBy_35 : decode cX6_opensBy 35 = .ok (.iload_n 2, 1) := by decide +kernel
theorem dX6_opensBy_36 : decode cX6_opensBy 36 = .ok (.aload_n 0, 1) := by decide +kernel
theorem dX6_opensBy_37 : decode cX6_opensBy 37 = .ok (.getfield 41, 3) := by decide +kernel
theorem dX6_opensBy_40 : decode cX6_opensBy 40 = .ok (.bipush 33, 2) := by decide +kernel
theorem dX6_opensBy_42 : decode cX6_opensBy 42 = .ok (.iload_n 1, 1) := by decide +kernel
theorem dX6_opensBy_43 : decode cX6_opensBy 43 = .ok (.imul, 1) := by decide +kernel
theorem dX6_opensBy_44 : decode cX6_opensBy 44 = .ok (.iload 6, 2) := by decide +kernel
theorem dX6_opensBy_46 : decode cX6_opensBy 46 = .ok (.iadd, 1) := by decide +kernel
theorem dX6_opensBy_47 : decode cX6_opensBy 47 = .ok (.iaload, 1) := by decide +kernel
theorem dX6_opensBy_48 : decode cX6_opensBy 48 = .ok (.iadd, 1) := by decide +kernel
theorem dX6_opensBy_49 : decode cX6_opensBy 49 = .ok (.istore 7, 2) := by decide +kernel
theorem dX6_opensBy_51 : decode cX6_opensBy 51 = .ok (.iload_n 2, 1) := by decide +kernel
theorem dX6_opensBy_52 : decode cX6_opensBy 52 = .ok (.aload_n 0, 1) := by decide +kernel
theorem dX6_opensBy_53 : decode cX6_opensBy 53 = .ok (.getfield 41, 3) := by decide +kernel
theorem dX6_opensBy_56 : decode cX6_opensBy 56 = .ok (.bipush 33, 2) := by decide +kernel
theorem dX6_opensBy_58 : decode cX6_opensBy 58 = .ok (.iload 6, 2) := by decide +kernel
theorem dX6_opensBy_60 : decode cX6_opensBy 60 = .ok (.imul, 1) := by decide +kernel
theorem dX6_opensBy_61 : decode cX6_opensBy 61 = .ok (.iload_n 1, 1) := by decide +kernel
theorem dX6_opensBy_62 : decode cX6_opensBy 62 = .ok (.iadd, 1) := by decide +kernel
theorem dX6_opensBy_63 : decode cX6_opensBy 63 = .ok (.iaload, 1) := by decide +kernel
theorem dX6_opensBy_64 : decode cX6_opensBy 64 = .ok (.isub, 1) := by decide +kernel
theorem dX6_opensBy_65 : decode cX6_opensBy 65 = .ok (.istore 8, 2) := by decide +kernel
theorem dX6_opensBy_67 : decode cX6_opensBy 67 = .ok (.iload 7, 2) := by decide +kernel
theorem dX6_opensBy_69 : decode cX6_opensBy 69 = .ok (.aload_n 0, 1) := by decide +kernel
theorem dX6_opensBy_70 : decode cX6_opensBy 70 = .ok (.iload 6, 2) := by decide +kernel
theorem dX6_opensBy_72 : decode cX6_opensBy 72 = .ok (.invokevirtual 130, 3) := by decide +kernel
theorem dX6_opensBy_75 : decode cX6_opensBy 75 = .ok (.if_icmp .ge 8, 3) := by decide +kernel
theorem dX6_opensBy_78 : decode cX6_opensBy 78 = .ok (.iload 7, 2) := by decide +kernel
theorem dX6_opensBy_80 : decode cX6_opensBy 80 = .ok (.goto 9, 3) := by decide +kernel
theorem dX6_opensBy_83 : decode cX6_opensBy 83 = .ok (.aload_n 0, 1) := by decide +kernel
theorem dX6_opensBy_84 : decode cX6_opensBy 84 = .ok (.iload 6, 2) := by decide +kernel
theorem dX6_opensBy_86 : decode cX6_opensBy 86 = .ok (.invokevirtual 130, 3) := by decide +kernel
theorem dX6_opensBy_89 : decode cX6_opensBy 89 = .ok (.istore 7, 2) := by decide +kernel
theorem dX6_opensBy_91 : decode cX6_opensBy 91 = .ok (.iload 8, 2) := by decide +kernel
theorem dX6_opensBy_93 : decode cX6_opensBy 93 = .ok (.aload_n 0, 1) := by decide +kernel
theorem dX6_opensBy_94 : decode cX6_opensBy 94 = .ok (.iload 6, 2) := by decide +kernel
theorem dX6_opensBy_96 : decode cX6_opensBy 96 = .ok (.invokevirtual 127, 3) := by decide +kernel
theorem dX6_opensBy_99 : decode cX6_opensBy 99 = .ok (.if_icmp .le 8, 3) := by decide +kernel
theorem dX6_opensBy_102 : decode cX6_opensBy 102 = .ok (.iload 8, 2) := by decide +kernel
theorem dX6_opensBy_104 : decode cX6_opensBy 104 = .ok (.goto 9, 3) := by decide +kernel
theorem dX6_opensBy_107 : decode cX6_opensBy 107 = .ok (.aload_n 0, 1) := by decide +kernel
theorem dX6_opensBy_108 : decode cX6_opensBy 108 = .ok (.iload 6, 2) := by decide +kernel
theorem dX6_opensBy_110 : decode cX6_opensBy 110 = .ok (.invokevirtual 127, 3) := by decide +kernel
theorem dX6_opensBy_113 : decode cX6_opensBy 113 = .ok (.istore 8, 2) := by decide +kernel
theorem dX6_opensBy_115 : decode cX6_opensBy 115 = .ok (.iload_n 3, 1) := by decide +kernel
theorem dX6_opensBy_116 : decode cX6_opensBy 116 = .ok (.iload 7, 2) := by decide +kernel
theorem dX6_opensBy_118 : decode cX6_opensBy 118 = .ok (.iload 8, 2) := by decide +kernel
theorem dX6_opensBy_120 : decode cX6_opensBy 120 = .ok (.isub, 1) := by decide +kernel
theorem dX6_opensBy_121 : decode cX6_opensBy 121 = .ok (.iadd, 1) := by decide +kernel
theorem dX6_opensBy_122 : decode cX6_opensBy 122 = .ok (.istore_n 3, 1) := by decide +kernel
theorem dX6_opensBy_123 : decode cX6_opensBy 123 = .ok (.iinc 5 1, 3) := by decide +kernel
theorem dX6_opensBy_126 : decode cX6_opensBy 126 = .ok (.goto (-109), 3) := by decide +kernel
theorem dX6_opensBy_129 : decode cX6_opensBy 129 = .ok (.iinc 4 1, 3) := by decide +kernel
theorem dX6_opensBy_132 : decode cX6_opensBy 132 = .ok (.goto (-127), 3) := by decide +kernel
theorem dX6_opensBy_135 : decode cX6_opensBy 135 = .ok (.iload_n 3, 1) := by decide +kernel
theorem dX6_opensBy_136 : decode cX6_opensBy 136 = .ok (.ireturn, 1) := by decide +kernel
theorem dX6_tellsAt_0 : decode cX6_tellsAt 0 = .ok (.iconst 0, 1) := by decide +kernel
theorem dX6_tellsAt_1 : decode cX6_tellsAt 1 = .ok (.istore_n 2, 1) := by decide +kernel
theorem dX6_tellsAt_2 : decode cX6_tellsAt 2 = .ok (.aload_n 0, 1) := by decide +kernel
theorem dX6_tellsAt_3 : decode cX6_tellsAt 3 = .ok (.iload_n 1, 1) := by decide +kernel
theorem dX6_tellsAt_4 : decode cX6_tellsAt 4 = .ok (.invokevirtual 127, 3) := by decide +kernel
theorem dX6_tellsAt_7 : decode cX6_tellsAt 7 = .ok (.istore_n 3, 1) := by decide +kernel
theorem dX6_tellsAt_8 : decode cX6_tellsAt 8 = .ok (.iload_n 3, 1) := by decide +kernel
theorem dX6_tellsAt_9 : decode cX6_tellsAt 9 = .ok (.aload_n 0, 1) := by decide +kernel
theorem dX6_tellsAt_10 : decode cX6_tellsAt 10 = .ok (.iload_n 1, 1) := by decide +kernel
theorem dX6_tellsAt_11 : decode cX6_tellsAt 11 = .ok (.invokevirtual 130, 3) := by decide +kernel
theorem dX6_tellsAt_14 : decode cX6_tellsAt 14 = .ok (.if_icmp .gt 26, 3) := by decide +kernel
theorem dX6_tellsAt_17 : decode cX6_tellsAt 17 = .ok (.aload_n 0, 1) := by decide +kernel
theorem dX6_tellsAt_18 : decode cX6_tellsAt 18 = .ok (.iload_n 1, 1) := by decide +kernel
theorem dX6_tellsAt_19 : decode cX6_tellsAt 19 = .ok (.iload_n 3, 1) := by decide +kernel
theorem dX6_tellsAt_20 : decode cX6_tellsAt 20 = .ok (.invokevirtual 138, 3) := by decide +kernel
theorem dX6_tellsAt_23 : decode cX6_tellsAt 23 = .ok (.iload_n 2, 1) := by decide +kernel
theorem dX6_tellsAt_24 : decode cX6_tellsAt 24 = .ok (.if_icmp .le 10, 3) := by decide +kernel
theorem dX6_tellsAt_27 : decode cX6_tellsAt 27 = .ok (.aload_n 0, 1) := by decide +kernel
theorem dX6_tellsAt_28 : decode cX6_tellsAt 28 = .ok (.iload_n 1, 1) := by decide +kernel
theorem dX6_tellsAt_29 : decode cX6_tellsAt 29 = .ok (.iload_n 3, 1) := by decide +kernel
theorem dX6_tellsAt_30 : decode cX6_tellsAt 30 = .ok (.invokevirtual 138, 3) := by decide +kernel
theorem dX6_tellsAt_33 : decode cX6_tellsAt 33 = .ok (.istore_n 2, 1) := by decide +kernel
theorem dX6_tellsAt_34 : decode cX6_tellsAt 34 = .ok (.iinc 3 1, 3) := by decide +kernel
theorem dX6_tellsAt_37 : decode cX6_tellsAt 37 = .ok (.goto (-29), 3) := by decide +kernel
theorem dX6_tellsAt_40 : decode cX6_tellsAt 40 = .ok (.aload_n 0, 1) := by decide +kernel
theorem dX6_tellsAt_41 : decode cX6_tellsAt 41 = .ok (.invokevirtual 133, 3) := by decide +kernel
theorem dX6_tellsAt_44 : decode cX6_tellsAt 44 = .ok (.iload_n 2, 1) := by decide +kernel
theorem dX6_tellsAt_45 : decode cX6_tellsAt 45 = .ok (.isub, 1) := by decide +kernel
theorem dX6_tellsAt_46 : decode cX6_tellsAt 46 = .ok (.ireturn, 1) := by decide +kernel
theorem dX6_tells_0 : decode cX6_tells 0 = .ok (.aload_n 0, 1) := by decide +kernel
theorem dX6_tells_1 : decode cX6_tells 1 = .ok (.iload_n 1, 1) := by decide +kernel
theorem dX6_tells_2 : decode cX6_tells 2 = .ok (.iload_n 2, 1) := by decide +kernel
theorem dX6_tells_3 : decode cX6_tells 3 = .ok (.invokevirtual 65, 3) := by decide +kernel
theorem dX6_tells_6 : decode cX6_tells 6 = .ok (.ifCond .eq 22, 3) := by decide +kernel
theorem dX6_tells_9 : decode cX6_tells 9 = .ok (.aload_n 0, 1) := by decide +kernel
theorem dX6_tells_10 : decode cX6_tells 10 = .ok (.invokevirtual 124, 3) := by decide +kernel
theorem dX6_tells_13 : decode cX6_tells 13 = .ok (.ifCond .eq 15, 3) := by decide +kernel
theorem dX6_tells_16 : decode cX6_tells 16 = .ok (.aload_n 0, 1) := by decide +kernel
theorem dX6_tells_17 : decode cX6_tells 17 = .ok (.iload_n 1, 1) := by decide +kernel
theorem dX6_tells_18 : decode cX6_tells 18 = .ok (.iload_n 2, 1) := by decide +kernel
theorem dX6_tells_19 : decode cX6_tells 19 = .ok (.invokestatic 81, 3) := by decide +kernel
theorem dX6_tells_22 : decode cX6_tells 22 = .ok (.invokevirtual 141, 3) := by decide +kernel
theorem dX6_tells_25 : decode cX6_tells 25 = .ok (.goto 4, 3) := by decide +kernel
theorem dX6_tells_28 : decode cX6_tells 28 = .ok (.iconst (-1), 1) := by decide +kernel
theorem dX6_tells_29 : decode cX6_tells 29 = .ok (.ireturn, 1) := by decide +kernel
theorem dX6_next_0 : decode cX6_next 0 = .ok (.aload_n 0, 1) := by decide +kernel
theorem dX6_next_1 : decode cX6_next 1 = .ok (.invokevirtual 124, 3) := by decide +kernel
theorem dX6_next_4 : decode cX6_next 4 = .ok (.ifCond .ne 5, 3) := by decide +kernel
theorem dX6_next_7 : decode cX6_next 7 = .ok (.iconst (-1), 1) := by decide +kernel
theorem dX6_next_8 : decode cX6_next 8 = .ok (.ireturn, 1) := by decide +kernel
theorem dX6_next_9 : decode cX6_next 9 = .ok (.iconst 0, 1) := by decide +kernel
theorem dX6_next_10 : decode cX6_next 10 = .ok (.istore_n 1, 1) := by decide +kernel
theorem dX6_next_11 : decode cX6_next 11 = .ok (.iconst (-1), 1) := by decide +kernel
theorem dX6_next_12 : decode cX6_next 12 = .ok (.istore_n 2, 1) := by decide +kernel
theorem dX6_next_13 : decode cX6_next 13 = .ok (.iconst 0, 1) := by decide +kernel
theorem dX6_next_14 : decode cX6_next 14 = .ok (.istore_n 3, 1) := by decide +kernel
theorem dX6_next_15 : decode cX6_next 15 = .ok (.iload_n 3, 1) := by decide +kernel
theorem dX6_next_16 : decode cX6_next 16 = .ok (.aload_n 0, 1) := by decide +kernel
theorem dX6_next_17 : decode cX6_next 17 = .ok (.getfield 54, 3) := by decide +kernel
theorem dX6_next_20 : decode cX6_next 20 = .ok (.if_icmp .ge 59, 3) := by decide +kernel
theorem dX6_next_23 : decode cX6_next 23 = .ok (.iconst 0, 1) := by decide +kernel
theorem dX6_next_24 : decode cX6_next 24 = .ok (.istore 4, 2) := by decide +kernel
theorem dX6_next_26 : decode cX6_next 26 = .ok (.iload 4, 2) := by decide +kernel
theorem dX6_next_28 : decode cX6_next 28 = .ok (.aload_n 0, 1) := by decide +kernel
theorem dX6_next_29 : decode cX6_next 29 = .ok (.getfield 50, 3) := by decide +kernel
theorem dX6_next_32 : decode cX6_next 32 = .ok (.if_icmp .ge 41, 3) := by decide +kernel
theorem dX6_next_35 : decode cX6_next 35 = .ok (.aload_n 0, 1) := by decide +kernel
theorem dX6_next_36 : decode cX6_next 36 = .ok (.iload_n 3, 1) := by decide +kernel
theorem dX6_next_37 : decode cX6_next 37 = .ok (.iload 4, 2) := by decide +kernel
theorem dX6_next_39 : decode cX6_next 39 = .ok (.invokestatic 81, 3) := by decide +kernel
theorem dX6_next_42 : decode cX6_next 42 = .ok (.invokevirtual 141, 3) := by decide +kernel
theorem dX6_next_45 : decode cX6_next 45 = .ok (.istore 5, 2) := by decide +kernel
theorem dX6_next_47 : decode cX6_next 47 = .ok (.iload 5, 2) := by decide +kernel
theorem dX6_next_49 : decode cX6_next 49 = .ok (.iload_n 2, 1) := by decide +kernel
theorem dX6_next_50 : decode cX6_next 50 = .ok (.if_icmp .gt 6, 3) := by decide +kernel
theorem dX6_next_53 : decode cX6_next 53 = .ok (.goto 14, 3) := by decide +kernel
theorem dX6_next_56 : decode cX6_next 56 = .ok (.iload 5, 2) := by decide +kernel
theorem dX6_next_58 : decode cX6_next 58 = .ok (.istore_n 2, 1) := by decide +kernel
theorem dX6_next_59 : decode cX6_next 59 = .ok (.bipush 10, 2) := by decide +kernel
theorem dX6_next_61 : decode cX6_next 61 = .ok (.iload_n 3, 1) := by decide +kernel
theorem dX6_next_62 : decode cX6_next 62 = .ok (.imul, 1) := by decide +kernel
theorem dX6_next_63 : decode cX6_next 63 = .ok (.iload 4, 2) := by decide +kernel
theorem dX6_next_65 : decode cX6_next 65 = .ok (.iadd, 1) := by decide +kernel
theorem dX6_next_66 : decode cX6_next 66 = .ok (.istore_n 1, 1) := by decide +kernel
theorem dX6_next_67 : decode cX6_next 67 = .ok (.iinc 4 1, 3) := by decide +kernel
theorem dX6_next_70 : decode cX6_next 70 = .ok (.goto (-44), 3) := by decide +kernel
theorem dX6_next_73 : decode cX6_next 73 = .ok (.iinc 3 1, 3) := by decide +kernel
theorem dX6_next_76 : decode cX6_next 76 = .ok (.goto (-61), 3) := by decide +kernel
theorem dX6_next_79 : decode cX6_next 79 = .ok (.iload_n 1, 1) := by decide +kernel
theorem dX6_next_80 : decode cX6_next 80 = .ok (.ireturn, 1) := by decide +kernel
theorem dX6_depth_0 : decode cX6_depth 0 = .ok (.iload_n 3, 1) := by decide +kernel
theorem dX6_depth_1 : decode cX6_depth 1 = .ok (.ifCond .ne 15, 3) := by decide +kernel
theorem dX6_depth_4 : decode cX6_depth 4 = .ok (.aload_n 0, 1) := by decide +kernel
theorem dX6_depth_5 : decode cX6_depth 5 = .ok (.iload_n 1, 1) := by decide +kernel
theorem dX6_depth_6 : decode cX6_depth 6 = .ok (.iload_n 2, 1) := by decide +kernel
theorem dX6_depth_7 : decode cX6_depth 7 = .ok (.invokestatic 81, 3) := by decide +kernel
theorem dX6_depth_10 : decode cX6_depth 10 = .ok (.invokevirtual 127, 3) := by decide +kernel
theorem dX6_depth_13 : decode cX6_depth 13 = .ok (.goto 12, 3) := by decide +kernel
theorem dX6_depth_16 : decode cX6_depth 16 = .ok (.aload_n 0, 1) := by decide +kernel
theorem dX6_depth_17 : decode cX6_depth 17 = .ok (.iload_n 1, 1) := by decide +kernel
theorem dX6_depth_18 : decode cX6_depth 18 = .ok (.iload_n 2, 1) := by decide +kernel
theorem dX6_depth_19 : decode cX6_depth 19 = .ok (.invokestatic 81, 3) := by decide +kernel
theorem dX6_depth_22 : decode cX6_depth 22 = .ok (.invokevirtual 130, 3) := by decide +kernel
theorem dX6_depth_25 : decode cX6_depth 25 = .ok (.ireturn, 1) := by decide +kernel
theorem dX6_bend_0 : decode cX6_bend 0 = .ok (.iload_n 1, 1) := by decide +kernel
theorem dX6_bend_1 : decode cX6_bend 1 = .ok (.iconst 0, 1) := by decide +kernel
theorem dX6_bend_2 : decode cX6_bend 2 = .ok (.iconst 1, 1) := by decide +kernel
theorem dX6_bend_3 : decode cX6_bend 3 = .ok (.invokestatic 57, 3) := by decide +kernel
theorem dX6_bend_6 : decode cX6_bend 6 = .ok (.ifCond .eq 10, 3) := by decide +kernel
theorem dX6_bend_9 : decode cX6_bend 9 = .ok (.aload_n 0, 1) := by decide +kernel
theorem dX6_bend_10 : decode cX6_bend 10 = .ok (.invokevirtual 124, 3) := by decide +kernel
theorem dX6_bend_13 : decode cX6_bend 13 = .ok (.ifCond .ne 5, 3) := by decide +kernel
theorem dX6_bend_16 : decode cX6_bend 16 = .ok (.iconst (-1), 1) := by decide +kernel
theorem dX6_bend_17 : decode cX6_bend 17 = .ok (.ireturn, 1) := by decide +kernel
theorem dX6_bend_18 : decode cX6_bend 18 = .ok (.iconst 0, 1) := by decide +kernel
theorem dX6_bend_19 : decode cX6_bend 19 = .ok (.istore_n 2, 1) := by decide +kernel
theorem dX6_bend_20 : decode cX6_bend 20 = .ok (.iconst 0, 1) := by decide +kernel
theorem dX6_bend_21 : decode cX6_bend 21 = .ok (.istore_n 3, 1) := by decide +kernel
theorem dX6_bend_22 : decode cX6_bend 22 = .ok (.iload_n 3, 1) := by decide +kernel
theorem dX6_bend_23 : decode cX6_bend 23 = .ok (.aload_n 0, 1) := by decide +kernel
theorem dX6_bend_24 : decode cX6_bend 24 = .ok (.getfield 54, 3) := by decide +kernel
theorem dX6_bend_27 : decode cX6_bend 27 = .ok (.if_icmp .ge 79, 3) := by decide +kernel
theorem dX6_bend_30 : decode cX6_bend 30 = .ok (.iconst 1, 1) := by decide +kernel
theorem dX6_bend_31 : decode cX6_bend 31 = .ok (.istore 4, 2) := by decide +kernel
theorem dX6_bend_33 : decode cX6_bend 33 = .ok (.iload 4, 2) := by decide +kernel
theorem dX6_bend_35 : decode cX6_bend 35 = .ok (.iconst 1, 1) := by decide +kernel
theorem dX6_bend_36 : decode cX6_bend 36 = .ok (.iadd, 1) := by decide +kernel
theorem dX6_bend_37 : decode cX6_bend 37 = .ok (.aload_n 0, 1) := by decide +kernel
theorem dX6_bend_38 : decode cX6_bend 38 = .ok (.getfield 50, 3) := by decide +kernel
theorem dX6_bend_41 : decode cX6_bend 41 = .ok (.if_icmp .ge 59, 3) := by decide +kernel
theorem dX6_bend_44 : decode cX6_bend 44 = .ok (.iconst 2, 1) := by decide +kernel
theorem dX6_bend_45 : decode cX6_bend 45 = .ok (.aload_n 0, 1) := by decide +kernel
theorem dX6_bend_46 : decode cX6_bend 46 = .ok (.iload_n 3, 1) := by decide +kernel
theorem dX6_bend_47 : decode cX6_bend 47 = .ok (.iload 4, 2) := by decide +kernel
theorem dX6_bend_49 : decode cX6_bend 49 = .ok (.iload_n 1, 1) := by decide +kernel
theorem dX6_bend_50 : decode cX6_bend 50 = .ok (.invokevirtual 144, 3) := by decide +kernel
theorem dX6_bend_53 : decode cX6_bend 53 = .ok (.imul, 1) := by decide +kernel
theorem dX6_bend_54 : decode cX6_bend 54 = .ok (.aload_n 0, 1) := by decide +kernel
theorem dX6_bend_55 : decode cX6_bend 55 = .ok (.iload_n 3, 1) := by decide +kernel
theorem dX6_bend_56 : decode cX6_bend 56 = .ok (.iload 4, 2) := by decide +kernel
theorem dX6_bend_58 : decode cX6_bend 58 = .ok (.iconst 1, 1) := by decide +kernel
theorem dX6_bend_59 : decode cX6_bend 59 = .ok (.isub, 1) := by decide +kernel
theorem dX6_bend_60 : decode cX6_bend 60 = .ok (.iload_n 1, 1) := by decide +kernel
theorem dX6_bend_61 : decode cX6_bend 61 = .ok (.invokevirtual 144, 3) := by decide +kernel
theorem dX6_bend_64 : decode cX6_bend 64 = .ok (.isub, 1) := by decide +kernel
theorem dX6_bend_65 : decode cX6_bend 65 = .ok (.aload_n 0, 1) := by decide +kernel
theorem dX6_bend_66 : decode cX6_bend 66 = .ok (.iload_n 3, 1) := by decide +kernel
theorem dX6_bend_67 : decode cX6_bend 67 = .ok (.iload 4, 2) := by decide +kernel
theorem dX6_bend_69 : decode cX6_bend 69 = .ok (.iconst 1, 1) := by decide +kernel
theorem dX6_bend_70 : decode cX6_bend 70 = .ok (.iadd, 1) := by decide +kernel
theorem dX6_bend_71 : decode cX6_bend 71 = .ok (.iload_n 1, 1) := by decide +kernel
theorem dX6_bend_72 : decode cX6_bend 72 = .ok (.invokevirtual 144, 3) := by decide +kernel
theorem dX6_bend_75 : decode cX6_bend 75 = .ok (.isub, 1) := by decide +kernel
theorem dX6_bend_76 : decode cX6_bend 76 = .ok (.istore 5, 2) := by decide +kernel
theorem dX6_bend_78 : decode cX6_bend 78 = .ok (.iload_n 2, 1) := by decide +kernel
theorem dX6_bend_79 : decode cX6_bend 79 = .ok (.iload 5, 2) := by decide +kernel
theorem dX6_bend_81 : decode cX6_bend 81 = .ok (.ifCond .ge 9, 3) := by decide +kernel
theorem dX6_bend_84 : decode cX6_bend 84 = .ok (.iload 5, 2) := by decide +kernel
theorem dX6_bend_86 : decode cX6_bend 86 = .ok (.ineg, 1) := by decide +kernel
theorem dX6_bend_87 : decode cX6_bend 87 = .ok (.goto 5, 3) := by decide +kernel
theorem dX6_bend_90 : decode cX6_bend 90 = .ok (.iload 5, 2) := by decide +kernel
theorem dX6_bend_92 : decode cX6_bend 92 = .ok (.iadd, 1) := by decide +kernel
theorem dX6_bend_93 : decode cX6_bend 93 = .ok (.istore_n 2, 1) := by decide +kernel
theorem dX6_bend_94 : decode cX6_bend 94 = .ok (.iinc 4 1, 3) := by decide +kernel
theorem dX6_bend_97 : decode cX6_bend 97 = .ok (.goto (-64), 3) := by decide +kernel
theorem dX6_bend_100 : decode cX6_bend 100 = .ok (.iinc 3 1, 3) := by decide +kernel
theorem dX6_bend_103 : decode cX6_bend 103 = .ok (.goto (-81), 3) := by decide +kernel
theorem dX6_bend_106 : decode cX6_bend 106 = .ok (.iload_n 2, 1) := by decide +kernel
theorem dX6_bend_107 : decode cX6_bend 107 = .ok (.ireturn, 1) := by decide +kernel
theorem dX6_told_0 : decode cX6_told 0 = .ok (.aload_n 0, 1) := by decide +kernel
theorem dX6_told_1 : decode cX6_told 1 = .ok (.iload_n 1, 1) := by decide +kernel
theorem dX6_told_2 : decode cX6_told 2 = .ok (.invokevirtual 72, 3) := by decide +kernel
theorem dX6_told_5 : decode cX6_told 5 = .ok (.ifCond .ne 6, 3) := by decide +kernel
theorem dX6_told_8 : decode cX6_told 8 = .ok (.ldc 137, 2) := by decide +kernel
theorem dX6_told_10 : decode cX6_told 10 = .ok (.ireturn, 1) := by decide +kernel
theorem dX6_told_11 : decode cX6_told 11 = .ok (.iload_n 2, 1) := by decide +kernel
theorem dX6_told_12 : decode cX6_told 12 = .ok (.tableswitch 108 0 5 #[40, 50, 63, 73, 80, 87], 40) := by decide +kernel
theorem dX6_told_52 : decode cX6_told 52 = .ok (.aload_n 0, 1) := by decide +kernel
theorem dX6_told_53 : decode cX6_told 53 = .ok (.getfield 29, 3) := by decide +kernel
theorem dX6_told_56 : decode cX6_told 56 = .ok (.iload_n 1, 1) := by decide +kernel
theorem dX6_told_57 : decode cX6_told 57 = .ok (.iaload, 1) := by decide +kernel
theorem dX6_told_58 : decode cX6_told 58 = .ok (.bipush 100, 2) := by decide +kernel
theorem dX6_told_60 : decode cX6_told 60 = .ok (.idiv, 1) := by decide +kernel
theorem dX6_told_61 : decode cX6_told 61 = .ok (.ireturn, 1) := by decide +kernel
theorem dX6_told_62 : decode cX6_told 62 = .ok (.aload_n 0, 1) := by decide +kernel
theorem dX6_told_63 : decode cX6_told 63 = .ok (.getfield 29, 3) := by decide +kernel
theorem dX6_told_66 : decode cX6_told 66 = .ok (.iload_n 1, 1) := by decide +kernel
theorem dX6_told_67 : decode cX6_told 67 = .ok (.iaload, 1) := by decide +kernel
theorem dX6_told_68 : decode cX6_told 68 = .ok (.bipush 10, 2) := by decide +kernel
theorem dX6_told_70 : decode cX6_told 70 = .ok (.idiv, 1) := by decide +kernel
theorem dX6_told_71 : decode cX6_told 71 = .ok (.bipush 10, 2) := by decide +kernel
theorem dX6_told_73 : decode cX6_told 73 = .ok (.irem, 1) := by decide +kernel
theorem dX6_told_74 : decode cX6_told 74 = .ok (.ireturn, 1) := by decide +kernel
theorem dX6_told_75 : decode cX6_told 75 = .ok (.aload_n 0, 1) := by decide +kernel
theorem dX6_told_76 : decode cX6_told 76 = .ok (.getfield 29, 3) := by decide +kernel
theorem dX6_told_79 : decode cX6_told 79 = .ok (.iload_n 1, 1) := by decide +kernel
theorem dX6_told_80 : decode cX6_told 80 = .ok (.iaload, 1) := by decide +kernel
theorem dX6_told_81 : decode cX6_told 81 = .ok (.bipush 10, 2) := by decide +kernel
theorem dX6_told_83 : decode cX6_told 83 = .ok (.irem, 1) := by decide +kernel
theorem dX6_told_84 : decode cX6_told 84 = .ok (.ireturn, 1) := by decide +kernel
theorem dX6_told_85 : decode cX6_told 85 = .ok (.aload_n 0, 1) := by decide +kernel
theorem dX6_told_86 : decode cX6_told 86 = .ok (.getfield 32, 3) := by decide +kernel
theorem dX6_told_89 : decode cX6_told 89 = .ok (.iload_n 1, 1) := by decide +kernel
theorem dX6_told_90 : decode cX6_told 90 = .ok (.iaload, 1) := by decide +kernel
theorem dX6_told_91 : decode cX6_told 91 = .ok (.ireturn, 1) := by decide +kernel
theorem dX6_told_92 : decode cX6_told 92 = .ok (.aload_n 0, 1) := by decide +kernel
theorem dX6_told_93 : decode cX6_told 93 = .ok (.getfield 35, 3) := by decide +kernel
theorem dX6_told_96 : decode cX6_told 96 = .ok (.iload_n 1, 1) := by decide +kernel
theorem dX6_told_97 : decode cX6_told 97 = .ok (.iaload, 1) := by decide +kernel
theorem dX6_told_98 : decode cX6_told 98 = .ok (.ireturn, 1) := by decide +kernel
